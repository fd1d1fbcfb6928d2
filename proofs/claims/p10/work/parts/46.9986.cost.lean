/-! PART 46.9986: cost on both sides. Made by wip/v6/gen_mind.py. -/
theorem zmk_or2 {a b : Int32} (ha : 0 ≤ a.toInt) (hb : 0 ≤ b.toInt) : 0 ≤ (a ||| b).toInt ∧ ∀ j, (a ||| b).toInt.toNat.testBit j = (a.toInt.toNat.testBit j || b.toInt.toNat.testBit j) := by
  obtain ⟨x, y⟩ := zmk_or ha hb
  refine ⟨x, fun j => ?_⟩
  rw [y, Nat.testBit_or]
/-- a board with a line instead of one: the class's, the model's -/
def zcB (L : Int32) (i k : Nat) : Int32 := (L ^^^ ((1 : Int32) <<< (Int32.ofNat i &&& 31))) ||| ((1 : Int32) <<< (Int32.ofNat k &&& 31))
def zmB (L : Int32) (i : Nat) : Int32 := L &&& (((1 : Int32) <<< (Int32.ofNat i &&& 31)) ^^^ (-1 : Int32))
theorem zcB_0 {L : Int32} (l0 : 0 ≤ L.toInt) {i k : Nat} (hi : i < 24) (hk : k < 24) : 0 ≤ (zcB L i k).toInt := (zmk_or2 (zx0 l0 hi) (zmk_1 (x := Int32.ofNat k) (k := k) (zN_toInt (by omega)) (by omega)).1).1
theorem zmB_0 {L : Int32} (l0 : 0 ≤ L.toInt) {i : Nat} (hi : i < 24) : 0 ≤ (zmB L i).toInt ∧ ∀ j, (zmB L i).toInt.toNat.testBit j = (L.toInt.toNat.testBit j && !decide (i = j)) := by
  obtain ⟨e0, e1⟩ := zmk_1 (x := Int32.ofNat i) (k := i) (zN_toInt (by omega)) (by omega)
  obtain ⟨x, y⟩ := zmk_andn l0 e0
  refine ⟨x, fun j => ?_⟩
  have := y j
  rw [e1] at this
  exact this
theorem zcB_e {L : Int32} (l0 : 0 ≤ L.toInt) {i k : Nat} (hi : i < 24) (hk : k < 24) (bi : zbt L (Int32.ofNat i) = true) (bk : zbt L (Int32.ofNat k) = false) : zcB L i k = zmB L i ^^^ ((1 : Int32) <<< (Int32.ofNat k &&& 31)) := by
  obtain ⟨m0, m1⟩ := zmB_0 l0 hi
  obtain ⟨e0, e1⟩ := zmk_1 (x := Int32.ofNat k) (k := k) (zN_toInt (by omega)) (by omega)
  obtain ⟨f0, f1⟩ := zmk_1 (x := Int32.ofNat i) (k := i) (zN_toInt (by omega)) (by omega)
  obtain ⟨a0, a1⟩ := zmk_xor l0 f0
  obtain ⟨c0, c1⟩ := zmk_or2 a0 e0
  obtain ⟨d0, d1⟩ := zmk_xor m0 e0
  rw [zmk_t l0 (zN_toInt (by omega)) (by omega)] at bi bk
  unfold zcB
  refine zmk_ext c0 d0 (fun j => ?_)
  rw [c1, d1, m1, a1, e1, f1]
  by_cases hj : i = j
  · subst hj
    have hki : ¬ k = i := fun q => by
      rw [q, bi] at bk
      cases bk
    rw [bi, decide_eq_true rfl, decide_eq_false hki]
    rfl
  · by_cases hj2 : k = j
    · subst hj2
      rw [bk, decide_eq_true rfl, decide_eq_false hj]
      rfl
    · rw [decide_eq_false hj, decide_eq_false hj2]
      cases L.toInt.toNat.testBit j <;> rfl
section ZR
variable {s u t : zy_S} {P : Nat}
def zcV (s : zy_S) (P k : Nat) (i : Nat) : Int32 := zIn s P (zAev s) 0 (zcB (s.1 1 3) i k) (s.1 1 3)
theorem zIn_c (hP : zPe s P) {w : Nat → Int32} (l0 : 0 ≤ (s.1 1 3).toInt) {i k : Nat} (hi : i < 24) (hk : k < 24) (bi : zbt (s.1 1 3) (Int32.ofNat i) = true) (bk : zbt (s.1 1 3) (Int32.ofNat k) = false) (hw : ∀ l, l < 24 → w l = s.1 2 l) : zcV s P k i = zAl s P (zmB (s.1 1 3) i ^^^ ((1 : Int32) <<< (Int32.ofNat k &&& 31))) (fun l => if l = k then (if zbt (zmB (s.1 1 3) i) (Int32.ofNat k) = true then w k else 0) else w l) := by
  obtain ⟨m0, m1⟩ := zmB_0 l0 hi
  have bk' := bk
  rw [zmk_t l0 (zN_toInt (by omega)) (by omega)] at bk'
  unfold zcV
  rw [← zcB_e l0 hi hk bi bk]
  refine zIn_all hP (zcB_0 l0 hi hk) l0 (fun l hl hb => ?_)
  by_cases e : l = k
  · subst e
    have hf : zbt (zmB (s.1 1 3) i) (Int32.ofNat l) = false := by
      rw [zmk_t m0 (zN_toInt (by omega)) (by omega), m1, bk']
      rfl
    rw [if_pos rfl, hf, bk]
    rfl
  · rw [zcB_e l0 hi hk bi bk, zbt_x m0 hk hl, decide_eq_false (fun q => e q.symm), zmk_t m0 (zN_toInt (by omega)) (by omega), m1] at hb
    have ht : zbt (s.1 1 3) (Int32.ofNat l) = true := by
      rw [zmk_t l0 (zN_toInt (by omega)) (by omega)]
      cases q : (s.1 1 3).toInt.toNat.testBit l with
      | true => rfl
      | false =>
        rw [q] at hb
        cases hb
    rw [if_neg e, if_pos ht, hw l hl]
/-- the best so far: which (-1: none), what it weighs -/
def zcs (m : Nat → Bool) (V : Nat → Int32) : Nat → Int × Int32
  | 0 => (-1, 0)
  | i + 1 => if m i = true ∧ ((zcs m V i).1 = -1 ∨ ¬ (zcs m V i).2 ≤ V i) then ((i : Int), V i) else zcs m V i
theorem zcs_s (m : Nat → Bool) (V : Nat → Int32) (i : Nat) : zcs m V (i + 1) = if m i = true ∧ ((zcs m V i).1 = -1 ∨ ¬ (zcs m V i).2 ≤ V i) then ((i : Int), V i) else zcs m V i := rfl
theorem zcs_in (m : Nat → Bool) (V : Nat → Int32) : ∀ i, (zcs m V i).1 = -1 ∨ ∃ j, j < i ∧ (zcs m V i).1 = (j : Int) ∧ (zcs m V i).2 = V j
  | 0 => Or.inl rfl
  | i + 1 => by
    rw [zcs_s]
    split
    · exact Or.inr ⟨i, by omega, rfl, rfl⟩
    · rcases zcs_in m V i with h | ⟨j, h1, h2⟩
      · exact Or.inl h
      · exact Or.inr ⟨j, by omega, h2⟩
theorem zl_85 (hP : zPe s P) (hL : zLw (s.1 5 3) (s.1 43 11) (s.1 6) (s.1 49)) (l0 : 0 ≤ (s.1 1 3).toInt) {k : Nat} (hk : k < 24) (bk : zbt (s.1 1 3) (Int32.ofNat k) = false) : ∀ (n i : Nat) (x2 x3 : Int32) (t : zy_S), i ≤ 24 → 24 - i < n → zTh s P (zAev s) 0 t → x2.toInt = (zcs (fun i => zbt (s.1 1 3) (Int32.ofNat i)) (zcV s P k) i).1 → ((zcs (fun i => zbt (s.1 1 3) (Int32.ofNat i)) (zcV s P k) i).1 = -1 ∨ x3 = (zcs (fun i => zbt (s.1 1 3) (Int32.ofNat i)) (zcV s P k) i).2) → ∃ r t', zyF85_11 n (Int32.ofNat k) x2 x3 (Int32.ofNat i) t = some (r, t') ∧ zTh s P (zAev s) 0 t' ∧ r.toInt = (zcs (fun i => zbt (s.1 1 3) (Int32.ofNat i)) (zcV s P k) 24).1
  | 0, i, x2, x3, t, hi, hn, h, h1, h2 => by omega
  | n + 1, i, x2, x3, t, hi, hn, h, h1, h2 => by
    have e13 : t.1 1 3 = s.1 1 3 := h.1.2 1 3 zto_14.1
    have ei : (Int32.ofNat i).toInt = (i : Int) := zN_toInt (by omega)
    have b0 : i ≠ 24 → i + 1 ≤ 24 ∧ 24 - (i + 1) < n := by omega
    have hin := zcs_in (fun i => zbt (s.1 1 3) (Int32.ofNat i)) (zcV s P k) i
    show ∃ r t', zyF85_11b (zyF85_11 n) (Int32.ofNat k) x2 x3 (Int32.ofNat i) t = _ ∧ _
    unfold zyF85_11b zyF85_81 zyF85_87
    by_cases h24 : i = 24
    · rw [if_pos (by rw [Int32.le_iff_toInt_le, ei, zq_l24]; omega)]
      refine ⟨x2, t, rfl, h, ?_⟩
      rw [h1, h24]
    rw [if_neg (by rw [Int32.le_iff_toInt_le, ei, zq_l24]; omega), zys86, zq_bind, e13, bk]
    dsimp only
    rw [if_neg (show ¬ zqb false ≠ 0 by decide), zys86, zq_bind, e13, zN_succ (by omega)]
    dsimp only
    cases hb : zbt (s.1 1 3) (Int32.ofNat i) with
    | false =>
      have e : zcs (fun i => zbt (s.1 1 3) (Int32.ofNat i)) (zcV s P k) (i + 1) = zcs (fun i => zbt (s.1 1 3) (Int32.ofNat i)) (zcV s P k) i := by
        rw [zcs_s, if_neg (fun w => by
          have := w.1
          rw [hb] at this
          cases this)]
      rw [if_pos (show zqb false = 0 from rfl)]
      exact zl_85 hP hL l0 hk bk n (i + 1) x2 x3 t (b0 h24).1 (b0 h24).2 h (by rw [e]; exact h1) (by rw [e]; exact h2)
    | true =>
      obtain ⟨t1, f1, g1⟩ := zys54 hP hL h (zcB_0 l0 (show i < 24 from (b0 h24).1) hk) ((zmk_and2 (zcB_0 l0 (show i < 24 from (b0 h24).1) hk) l0).1)
      have f1 : zyF54 ((s.1 1 3 ^^^ ((1 : Int32) <<< (Int32.ofNat i &&& 31))) ||| ((1 : Int32) <<< (Int32.ofNat k &&& 31))) (s.1 1 3) t = some (zcV s P k i, t1) := f1
      rw [if_neg (show ¬ zqb true = 0 by decide), f1, zq_bind]
      dsimp only
      by_cases hm1 : x2 = -1
      · have e : zcs (fun i => zbt (s.1 1 3) (Int32.ofNat i)) (zcV s P k) (i + 1) = ((i : Int), zcV s P k i) := by
          rw [zcs_s, if_pos ⟨hb, Or.inl (by rw [← h1, hm1]; rfl)⟩]
        rw [if_pos hm1]
        exact zl_85 hP hL l0 hk bk n (i + 1) _ _ t1 (b0 h24).1 (b0 h24).2 g1 (by rw [e]; exact ei) (Or.inr (by rw [e]))
      · have n1 : ¬ (zcs (fun i => zbt (s.1 1 3) (Int32.ofNat i)) (zcV s P k) i).1 = -1 := fun q => hm1 (zq_ext (by rw [h1, q]; rfl))
        have e3 := h2.resolve_left n1
        rw [if_neg hm1]
        by_cases q : x3 ≤ zcV s P k i
        · have e : zcs (fun i => zbt (s.1 1 3) (Int32.ofNat i)) (zcV s P k) (i + 1) = zcs (fun i => zbt (s.1 1 3) (Int32.ofNat i)) (zcV s P k) i := by
            rw [zcs_s, if_neg (fun w => w.2.elim n1 (fun v => v (by rw [← e3]; exact q)))]
          rw [if_pos q]
          exact zl_85 hP hL l0 hk bk n (i + 1) x2 x3 t1 (b0 h24).1 (b0 h24).2 g1 (by rw [e]; exact h1) (by rw [e]; exact h2)
        · have e : zcs (fun i => zbt (s.1 1 3) (Int32.ofNat i)) (zcV s P k) (i + 1) = ((i : Int), zcV s P k i) := by
            rw [zcs_s, if_pos ⟨hb, Or.inr (by rw [← e3]; exact q)⟩]
          rw [if_neg q]
          exact zl_85 hP hL l0 hk bk n (i + 1) _ _ t1 (b0 h24).1 (b0 h24).2 g1 (by rw [e]; exact ei) (Or.inr (by rw [e]))
theorem zl_217 (hP : zPe s P) (hL : zLw (s.1 5 3) (s.1 43 11) (s.1 6) (s.1 49)) (l0 : 0 ≤ (s.1 1 3).toInt) (e7 : s.1 43 7 = s.1 1 3) (x2 : Int32) {k : Nat} (hk : k < 24) (bk : zbt (s.1 1 3) (Int32.ofNat k) = false) : ∀ (n i : Nat) (x3 x4 : Int32) (t : zy_S), i ≤ 24 → 24 - i < n → zUn s t → zRg t → (∀ l, l < 24 → t.1 51 l = s.1 2 l) →
    (((zcs (fun i => zbt (s.1 1 3) (Int32.ofNat i)) (zcV s P k) i).1 = -1 ∧ x3 = -2 ∧ x4 = -2) ∨ ((zcs (fun i => zbt (s.1 1 3) (Int32.ofNat i)) (zcV s P k) i).1 ≠ -1 ∧ x3.toInt = (zcs (fun i => zbt (s.1 1 3) (Int32.ofNat i)) (zcV s P k) i).1 ∧ x4 = (zcs (fun i => zbt (s.1 1 3) (Int32.ofNat i)) (zcV s P k) i).2)) →
    ∃ r t', zyF217_48 n (Int32.ofNat k) x2 x3 x4 (Int32.ofNat i) t = some (r, t') ∧ zUn s t' ∧ zRg t' ∧ (((zcs (fun i => zbt (s.1 1 3) (Int32.ofNat i)) (zcV s P k) 24).1 = -1 ∧ r = -2) ∨ ((zcs (fun i => zbt (s.1 1 3) (Int32.ofNat i)) (zcV s P k) 24).1 ≠ -1 ∧ ((x2 = 0 ∧ r.toInt = (zcs (fun i => zbt (s.1 1 3) (Int32.ofNat i)) (zcV s P k) 24).1) ∨ (x2 ≠ 0 ∧ r = (zcs (fun i => zbt (s.1 1 3) (Int32.ofNat i)) (zcV s P k) 24).2))))
  | 0, i, x3, x4, t, hi, hn, h, hr, hw, h1 => by omega
  | n + 1, i, x3, x4, t, hi, hn, h, hr, hw, h1 => by
    have e437 : t.1 43 7 = s.1 1 3 := (h.2 43 7 zmt_6.2).trans e7
    have ei : (Int32.ofNat i).toInt = (i : Int) := zN_toInt (by omega)
    have b0 : i ≠ 24 → i + 1 ≤ 24 ∧ 24 - (i + 1) < n := by omega
    have hin := zcs_in (fun i => zbt (s.1 1 3) (Int32.ofNat i)) (zcV s P k) i
    show ∃ r t', zyF217_48b (zyF217_48 n) (Int32.ofNat k) x2 x3 x4 (Int32.ofNat i) t = _ ∧ _
    unfold zyF217_48b zyF217_96 zyF217_103
    rw [e437]
    by_cases h24 : i = 24
    · rw [if_pos (by rw [Int32.le_iff_toInt_le, ei, zq_l24]; omega)]
      rw [h24] at h1
      by_cases c : x2 = 0
      · rw [if_neg (not_not_intro c)]
        refine ⟨x3, t, rfl, h, hr, ?_⟩
        rcases h1 with ⟨a, b, d⟩ | ⟨a, b, d⟩
        · exact Or.inl ⟨a, b⟩
        · exact Or.inr ⟨a, Or.inl ⟨c, b⟩⟩
      · rw [if_pos c]
        refine ⟨x4, t, rfl, h, hr, ?_⟩
        rcases h1 with ⟨a, b, d⟩ | ⟨a, b, d⟩
        · exact Or.inl ⟨a, d⟩
        · exact Or.inr ⟨a, Or.inr ⟨c, d⟩⟩
    rw [if_neg (by rw [Int32.le_iff_toInt_le, ei, zq_l24]; omega), zys208, zq_bind, zN_succ (by omega)]
    dsimp only
    cases hb : zbt (s.1 1 3) (Int32.ofNat i) with
    | false =>
      have e : zcs (fun i => zbt (s.1 1 3) (Int32.ofNat i)) (zcV s P k) (i + 1) = zcs (fun i => zbt (s.1 1 3) (Int32.ofNat i)) (zcV s P k) i := by
        rw [zcs_s, if_neg (fun w => by
          have := w.1
          rw [hb] at this
          cases this)]
      rw [if_pos (show zqb false = 0 from rfl)]
      exact zl_217 hP hL l0 e7 x2 hk bk n (i + 1) x3 x4 t (b0 h24).1 (b0 h24).2 h hr hw (by rw [e]; exact h1)
    | true =>
      obtain ⟨t1, f1, u1, g1, w1⟩ := zys211 hP hL h hr hk (B := zmB (s.1 1 3) i) (zmB_0 l0 (show i < 24 from (b0 h24).1)).1
      have hw1 : ∀ l, l < 24 → t1.1 51 l = s.1 2 l := fun l hl => (w1 l).trans (hw l hl)
      rw [← zIn_c hP l0 (show i < 24 from (b0 h24).1) hk hb bk hw] at f1
      have f1 : zyF211 (Int32.ofNat k) (s.1 1 3 &&& (((1 : Int32) <<< (Int32.ofNat i &&& 31)) ^^^ (-1 : Int32))) t = some (zcV s P k i, t1) := f1
      rw [if_neg (show ¬ zqb true = 0 by decide), e437, f1, zq_bind]
      dsimp only
      by_cases hm1 : x3 < 0
      · have q1 : (zcs (fun i => zbt (s.1 1 3) (Int32.ofNat i)) (zcV s P k) i).1 = -1 := by
          rcases h1 with ⟨a, b, d⟩ | ⟨a, b, d⟩
          · exact a
          · rw [Int32.lt_iff_toInt_lt, zq_l0] at hm1
            rcases hin with w | ⟨j, w1, w2, w3⟩
            · exact w
            · omega
        have e : zcs (fun i => zbt (s.1 1 3) (Int32.ofNat i)) (zcV s P k) (i + 1) = ((i : Int), zcV s P k i) := by
          rw [zcs_s, if_pos ⟨hb, Or.inl q1⟩]
        rw [if_pos hm1]
        exact zl_217 hP hL l0 e7 x2 hk bk n (i + 1) _ _ t1 (b0 h24).1 (b0 h24).2 u1 g1 hw1 (Or.inr (by rw [e]; exact ⟨by show ¬ (i : Int) = -1; omega, ei, rfl⟩))
      · obtain ⟨a, b, d⟩ : (zcs (fun i => zbt (s.1 1 3) (Int32.ofNat i)) (zcV s P k) i).1 ≠ -1 ∧ x3.toInt = (zcs (fun i => zbt (s.1 1 3) (Int32.ofNat i)) (zcV s P k) i).1 ∧ x4 = (zcs (fun i => zbt (s.1 1 3) (Int32.ofNat i)) (zcV s P k) i).2 := by
          rcases h1 with ⟨a, b, d⟩ | w
          · exact absurd (show x3 < 0 by rw [b]; decide) hm1
          · exact w
        rw [if_neg hm1]
        by_cases q : x4 ≤ zcV s P k i
        · have e : zcs (fun i => zbt (s.1 1 3) (Int32.ofNat i)) (zcV s P k) (i + 1) = zcs (fun i => zbt (s.1 1 3) (Int32.ofNat i)) (zcV s P k) i := by
            rw [zcs_s, if_neg (fun w => w.2.elim a (fun v => v (by rw [← d]; exact q)))]
          rw [if_pos q]
          exact zl_217 hP hL l0 e7 x2 hk bk n (i + 1) x3 x4 t1 (b0 h24).1 (b0 h24).2 u1 g1 hw1 (by rw [e]; exact h1)
        · have e : zcs (fun i => zbt (s.1 1 3) (Int32.ofNat i)) (zcV s P k) (i + 1) = ((i : Int), zcV s P k i) := by
            rw [zcs_s, if_pos ⟨hb, Or.inr (by rw [← d]; exact q)⟩]
          rw [if_neg q]
          exact zl_217 hP hL l0 e7 x2 hk bk n (i + 1) _ _ t1 (b0 h24).1 (b0 h24).2 u1 g1 hw1 (Or.inr (by rw [e]; exact ⟨by show ¬ (i : Int) = -1; omega, ei, rfl⟩))
theorem zop_cost (x x2 : Int32) {s : zy_S} (h : zI s) : ∃ r s1 s2, zyF83 x x2 s = some (r, s1) ∧ zyF217 x x2 s1 = some (r, s2) ∧ zI s2 := by
  obtain ⟨hg, hP, hL, h4, e7, l0, l1, e40⟩ := zMI h
  obtain ⟨P, hPP⟩ : ∃ P, P = (s.1 1 5).toInt.toNat := ⟨_, rfl⟩
  rw [← hPP] at hP
  by_cases hx : 0 ≤ x.toInt ∧ x.toInt ≤ 23
  · obtain ⟨k, hk, ek⟩ : ∃ k, k < 24 ∧ x = Int32.ofNat k := ⟨x.toInt.toNat, by omega, zq_ext (by rw [zN_toInt (by omega)]; omega)⟩
    have f26 : ∀ t : zy_S, zyF26 x t = some (1, t) := fun t => by rw [zys26, zqb_t (decide_eq_true hx)]
    have f186 : ∀ t : zy_S, zyF186 x.toInt64 t = some (1, t) := fun t => by rw [zys186, zqb_t (decide_eq_true (by rw [Int32.toInt_toInt64]; exact hx))]
    by_cases hx2 : x2 = 0 ∨ x2 = 1
    · have f84 : ∀ t : zy_S, zyF84 x2 t = some (1, t) := fun t => by rw [zys84b, zqb_t (decide_eq_true hx2)]
      have f179 : ∀ t : zy_S, zyF179 x2.toInt64 0 1 t = some (1, t) := fun t => by rw [zys179, zqb_t (decide_eq_true (by rw [zq_j0, show (1 : Int64).toInt = 1 from rfl]; exact (zw01 x2).mpr hx2))]
      obtain ⟨t0, f0, g0⟩ := zys74 (P := P) (zUn_refl s) hg
      have e13 : t0.1 1 3 = s.1 1 3 := g0.1.2 1 3 zto_14.1
      cases bk : zbt (s.1 1 3) (Int32.ofNat k) with
      | true =>
        have f85 : zyF85 x s = some (-1, t0) := by
          unfold zyF85
          rw [f0, zq_bind]
          show zyF85_11b (zyF85_11 9999) x (-1) 0 0 t0 = _
          unfold zyF85_11b
          rw [if_neg (show ¬ (24 : Int32) ≤ 0 by decide), zys86, zq_bind, e13, ek, bk]
          dsimp only
          rw [if_pos (show zqb true ≠ 0 by decide)]
        refine ⟨-2, t0, t0, ?_, ?_, zI_end h g0.1 g0.2.1⟩
        · unfold zyF83 zyF83_34
          rw [f26, zq_bind]
          dsimp only
          rw [if_neg (show ¬ (1 : Int32) = 0 by decide), f84, zq_bind]
          dsimp only
          rw [if_pos (show (1 : Int32) ≠ 0 by decide), f85, zq_bind]
          dsimp only
          rw [zys87, if_pos (rfl : (-1 : Int32) = -1), zq_bind, if_neg (show ¬ (-1 : Int32) ≠ -1 by decide)]
          by_cases c : x2 = 0
          · rw [if_pos c]
          · rw [if_neg c]
        · unfold zyF217
          rw [f186, zq_bind]
          dsimp only
          rw [if_neg (show ¬ (1 : Int32) = 0 by decide), f179, zq_bind]
          dsimp only
          rw [if_pos (show (1 : Int32) ≠ 0 by decide), show t0.1 43 7 = s.1 1 3 from (g0.1.2 43 7 zmt_6.2).trans e7, zys208, zq_bind, ek, bk]
          dsimp only
          rw [if_neg (show ¬ zqb true = 0 by decide)]
      | false =>
        obtain ⟨r, t2, f2, g2, hr⟩ := zl_85 hP hL l0 hk bk zy_fu 0 (-1) 0 t0 (by decide) (by unfold zy_fu; omega) g0 rfl (Or.inl rfl)
        have f85 : zyF85 x s = some (r, t2) := by
          unfold zyF85
          rw [f0, zq_bind, ek]
          exact f2
        have hin := zcs_in (fun i => zbt (s.1 1 3) (Int32.ofNat i)) (zcV s P k) 24
        obtain ⟨R, t3, f3, u3, g3, hR⟩ : ∃ R t3, zyF83 x x2 s = some (R, t3) ∧ zUn s t3 ∧ zRg t3 ∧ (((zcs (fun i => zbt (s.1 1 3) (Int32.ofNat i)) (zcV s P k) 24).1 = -1 ∧ R = -2) ∨ ((zcs (fun i => zbt (s.1 1 3) (Int32.ofNat i)) (zcV s P k) 24).1 ≠ -1 ∧ ((x2 = 0 ∧ R.toInt = (zcs (fun i => zbt (s.1 1 3) (Int32.ofNat i)) (zcV s P k) 24).1) ∨ (x2 ≠ 0 ∧ R = (zcs (fun i => zbt (s.1 1 3) (Int32.ofNat i)) (zcV s P k) 24).2)))) := by
          unfold zyF83 zyF83_34
          rw [f26, zq_bind]
          dsimp only
          rw [if_neg (show ¬ (1 : Int32) = 0 by decide), f84, zq_bind]
          dsimp only
          rw [if_pos (show (1 : Int32) ≠ 0 by decide), f85, zq_bind]
          dsimp only
          by_cases hm1 : (zcs (fun i => zbt (s.1 1 3) (Int32.ofNat i)) (zcV s P k) 24).1 = -1
          · have er : r = -1 := zq_ext (by rw [hr, hm1]; rfl)
            have end_ : (zyF87 r t2).bind (fun p1 => some (p1.1, p1.2)) = some ((-2 : Int32), t2) := by
              rw [zys87, if_pos er, zq_bind]
            by_cases c : x2 = 0
            · rw [if_pos c, end_]
              exact ⟨_, t2, rfl, g2.1, g2.2.1, Or.inl ⟨hm1, rfl⟩⟩
            · rw [if_neg c, if_neg (not_not_intro er), end_]
              exact ⟨_, t2, rfl, g2.1, g2.2.1, Or.inl ⟨hm1, rfl⟩⟩
          · obtain ⟨j, j1, j2, j3⟩ := hin.resolve_left hm1
            have er : r ≠ -1 := fun q => hm1 (by rw [← hr, q]; rfl)
            by_cases c : x2 = 0
            · rw [if_pos c, zys87, if_neg er, zq_bind]
              exact ⟨_, t2, rfl, g2.1, g2.2.1, Or.inr ⟨hm1, Or.inl ⟨c, hr⟩⟩⟩
            · have erj : r = Int32.ofNat j := zq_ext (by rw [hr, j2, zN_toInt (by omega)])
              obtain ⟨t3, f3, g3⟩ := zys74 (P := P) g2.1 g2.2.1
              have e133 : t3.1 1 3 = s.1 1 3 := g3.1.2 1 3 zto_14.1
              obtain ⟨t4, f4, g4⟩ := zys54 hP hL g3 (zcB_0 l0 j1 hk) ((zmk_and2 (zcB_0 l0 j1 hk) l0).1)
              have f4 : zyF54 ((s.1 1 3 ^^^ ((1 : Int32) <<< (Int32.ofNat j &&& 31))) ||| ((1 : Int32) <<< (Int32.ofNat k &&& 31))) (s.1 1 3) t3 = some (zcV s P k j, t4) := f4
              have f88 : zyF88 x r t2 = some (zcV s P k j, t4) := by
                unfold zyF88
                rw [f3, zq_bind]
                dsimp only
                rw [e133, ek, erj, f4, zq_bind]
              rw [if_neg c, if_pos er, f88, zq_bind]
              exact ⟨_, t4, rfl, g4.1, g4.2.1, Or.inr ⟨hm1, Or.inr ⟨c, j3.symm⟩⟩⟩
        obtain ⟨t4, f4, u4, g4, w4, -⟩ := zys203 (s := s) hg u3 g3
        have hw : ∀ l, l < 24 → t4.1 51 l = s.1 2 l := fun l hl => (w4 l hl).trans (h4 l hl)
        obtain ⟨R', t6, f6, u6, g6, hR'⟩ := zl_217 hP hL l0 e7 x2 hk bk zy_fu 0 (-2) (-2) t4 (by decide) (by unfold zy_fu; omega) u4 g4 hw (Or.inl ⟨rfl, rfl, rfl⟩)
        have eR : R' = R := by
          rcases hR with ⟨a, b⟩ | ⟨a, b⟩
          · rcases hR' with ⟨c, d⟩ | ⟨c, d⟩
            · rw [b, d]
            · exact absurd a c
          · rcases hR' with ⟨c, d⟩ | ⟨c, d⟩
            · exact absurd c a
            · rcases b with ⟨b1, b2⟩ | ⟨b1, b2⟩
              · rcases d with ⟨d1, d2⟩ | ⟨d1, d2⟩
                · exact zq_ext (by rw [b2, d2])
                · exact absurd b1 d1
              · rcases d with ⟨d1, d2⟩ | ⟨d1, d2⟩
                · exact absurd d1 b1
                · rw [b2, d2]
        refine ⟨R, t3, t6, f3, ?_, zI_end h u6 g6⟩
        unfold zyF217
        rw [f186, zq_bind]
        dsimp only
        rw [if_neg (show ¬ (1 : Int32) = 0 by decide), f179, zq_bind]
        dsimp only
        rw [if_pos (show (1 : Int32) ≠ 0 by decide), show t3.1 43 7 = s.1 1 3 from (u3.2 43 7 zmt_6.2).trans e7, zys208, zq_bind, ek, bk]
        dsimp only
        rw [if_pos (show zqb false = 0 from rfl), f4, zq_bind]
        dsimp only
        rw [← eR]
        exact f6
    · refine ⟨-1, s, s, ?_, ?_, h⟩
      · unfold zyF83
        rw [f26, zq_bind]
        dsimp only
        rw [if_neg (show ¬ (1 : Int32) = 0 by decide), zys84b, zqb_f (decide_eq_false hx2), zq_bind]
        dsimp only
        rw [if_neg (show ¬ (0 : Int32) ≠ 0 by decide)]
      · unfold zyF217
        rw [f186, zq_bind]
        dsimp only
        rw [if_neg (show ¬ (1 : Int32) = 0 by decide), zys179, zqb_f (decide_eq_false (by rw [zq_j0, show (1 : Int64).toInt = 1 from rfl]; exact fun q => hx2 ((zw01 x2).mp q))), zq_bind]
        dsimp only
        rw [if_neg (show ¬ (0 : Int32) ≠ 0 by decide)]
  · refine ⟨-1, s, s, ?_, ?_, h⟩
    · unfold zyF83
      rw [zys26, zqb_f (decide_eq_false hx), zq_bind]
      dsimp only
      rw [if_pos rfl]
    · unfold zyF217
      rw [zys186, zqb_f (decide_eq_false (by rw [Int32.toInt_toInt64]; exact hx)), zq_bind]
      dsimp only
      rw [if_pos rfl]
end ZR
