/-! PART 46.9989: board on both sides: the model, both. Made by wip/v6/gen_board.py. -/
section ZBE
variable {s u t : zy_S} {P : Nat}
theorem zl_215_6 (l0 : 0 ≤ (s.1 1 3).toInt) (e7 : s.1 43 7 = s.1 1 3) (x1 : Int32) : ∀ (n l : Nat) (t : zy_S), l ≤ 24 → 24 - l < n → zUn s t → zRg t → (∀ k, k < l → t.1 51 k = if zbt (s.1 1 3) (Int32.ofNat k) = true then s.1 2 k else 0) → (∀ k, l ≤ k → k < 24 → t.1 51 k = s.1 2 k) → ∃ t', zyF215_6 n x1 (Int32.ofNat l) t = zyF215_47 zy_fu x1 0 t' ∧ zUn s t' ∧ zRg t' ∧ ∀ k, k < 24 → t'.1 51 k = if zbt (s.1 1 3) (Int32.ofNat k) = true then s.1 2 k else 0
  | 0, l, t, hl, hn, h, hr, h1, h2 => by omega
  | n + 1, l, t, hl, hn, h, hr, h1, h2 => by
    obtain ⟨-, -, -, r51⟩ := zmk_rg
    have el : (Int32.ofNat l).toInt = (l : Int) := zN_toInt (by omega)
    have e437 : t.1 43 7 = s.1 1 3 := (h.2 43 7 zmt_6.2).trans e7
    show ∃ t', zyF215_6b (zyF215_6 n) x1 (Int32.ofNat l) t = _ ∧ _
    unfold zyF215_6b zyF215_38
    by_cases h24 : l = 24
    · rw [if_pos (by rw [Int32.le_iff_toInt_le, el, zq_l24]; omega)]
      exact ⟨t, rfl, h, hr, fun k hk => h1 k (by omega)⟩
    · have hin : zy_in (Int32.ofNat l) 24 = true := zq_in.mpr (by rw [el]; omega)
      have go : ∀ y : Int32, y = (if zbt (s.1 1 3) (Int32.ofNat l) = true then s.1 2 l else 0) → ∃ t', zyF215_6 n x1 (Int32.ofNat (l + 1)) (zy_up t 51 l y) = zyF215_47 zy_fu x1 0 t' ∧ zUn s t' ∧ zRg t' ∧ ∀ k, k < 24 → t'.1 51 k = if zbt (s.1 1 3) (Int32.ofNat k) = true then s.1 2 k else 0 := fun y hy =>
        zl_215_6 l0 e7 x1 n (l + 1) (zy_up t 51 l y) (by omega) (by omega) (zUn_up h rfl) (zRg_up hr (fun _ => by rw [r51 l (by omega)]; exact zin_full y)) (fun k hk => by
          rw [zf_upr]
          by_cases e : k = l
          · rw [if_pos e, hy, e]
          · rw [if_neg e]
            exact h1 k (by omega)) (fun k hk hk2 => by
          rw [zf_upr, if_neg (by omega)]
          exact h2 k (by omega) hk2)
      rw [if_neg (by rw [Int32.le_iff_toInt_le, el, zq_l24]; omega), e437, zys208, zq_bind, zN_succ (by omega)]
      dsimp only
      cases hb : zbt (s.1 1 3) (Int32.ofNat l) with
      | false =>
        rw [if_pos (show zqb false = 0 from rfl), if_pos hin, zN_ix (by omega)]
        exact go 0 (by rw [hb]; rfl)
      | true =>
        rw [if_neg (show ¬ zqb true = 0 by decide), if_pos hin, if_pos hin, zN_ix (by omega)]
        exact go _ (by rw [hb, if_pos rfl]; exact h2 l (Nat.le_refl _) (by omega))
/-- what the model knows: the choices, the least sums up to a place -/
def zTm (s : zy_S) (P N : Nat) (t : zy_S) : Prop := zUn s t ∧ zRg t ∧ (∀ m x, m < 6 → x < 16 → t.1 53 (16 * m + x) = zkb s P m x) ∧ ∀ m c, m ≤ 6 → c ≤ 9 → 10 * m + c < N → (t.1 52 (10 * m + c)).toInt = zbdI s P m c
theorem zl_215_47 (hP : zPe s P) (hL : zLw (s.1 5 3) (s.1 43 11) (s.1 6) (s.1 49)) (l0 : 0 ≤ (s.1 1 3).toInt) (x1 : Int32) : ∀ (n i : Nat) (t : zy_S), i ≤ 96 → 96 - i < n → zUn s t → zRg t → (∀ k, k < 24 → t.1 51 k = if zbt (s.1 1 3) (Int32.ofNat k) = true then s.1 2 k else 0) → (∀ m x, m < 6 → x < 16 → 16 * m + x < i → t.1 53 (16 * m + x) = zkb s P m x) → ∃ t', zyF215_47 n x1 (Int32.ofNat i) t = zyF215_82 zy_fu x1 10 0 t' ∧ zTm s P 0 t'
  | 0, i, t, hi, hn, h, hr, hw, hk => by omega
  | n + 1, i, t, hi, hn, h, hr, hw, hk => by
    have ei : (Int32.ofNat i).toInt = (i : Int) := zN_toInt (by omega)
    show ∃ t', zyF215_47b (zyF215_47 n) x1 (Int32.ofNat i) t = _ ∧ _
    unfold zyF215_47b
    by_cases h96 : i = 96
    · rw [if_pos (by rw [Int32.le_iff_toInt_le, ei, show (96 : Int32).toInt = 96 from rfl]; omega)]
      exact ⟨t, rfl, h, hr, fun m x a b => hk m x a b (by omega), fun m c a b e => by omega⟩
    · have hlt : i < 96 := by omega
      have e16 : (Int32.ofNat i / (16 : Int32)).toInt = ((i / 16 : Nat) : Int) := by
        rw [Int32.toInt_div_of_ne_right _ _ (by decide), zq_l16, ei, Int.tdiv_eq_ediv_of_nonneg (by omega)]
        omega
      have em : (Int32.ofNat i / (16 : Int32) * (16 : Int32)).toInt = ((i / 16 * 16 : Nat) : Int) := by rw [zq_mul (by rw [zq_l16, e16]; omega) (by rw [zq_l16, e16]; omega), zq_l16, e16]; omega
      have er : (Int32.ofNat i - Int32.ofNat i / (16 : Int32) * (16 : Int32)).toInt = ((i % 16 : Nat) : Int) := by rw [zq_sub (by rw [em]; omega) (by rw [em]; omega), em, ei]; omega
      have g1 : Int32.ofNat i / (16 : Int32) = Int32.ofNat (i / 16) := zq_ext (by rw [e16, zN_toInt (by omega)])
      have g2 : Int32.ofNat i - Int32.ofNat i / (16 : Int32) * (16 : Int32) = Int32.ofNat (i % 16) := zq_ext (by rw [er, zN_toInt (by omega)])
      obtain ⟨t1, f1, k1⟩ := zys216 hP hL l0 h hr hw (m := i / 16) (x := i % 16) (by omega) (by omega)
      have kb := zkb_in hP (i / 16) (i % 16)
      rw [if_neg (by rw [Int32.le_iff_toInt_le, ei, show (96 : Int32).toInt = 96 from rfl]; omega), g2, g1, f1, zq_bind, zN_succ (by omega)]
      dsimp only
      rw [if_pos (zq_in.mpr (by rw [ei]; omega)), zN_ix (by omega)]
      refine zl_215_47 hP hL l0 x1 n (i + 1) _ (by omega) (by omega) (zUn_up k1.1 rfl) (zRg_up k1.2.1 (fun _ => by rw [zrg_53 i hlt]; exact kb)) (fun k hk2 => by rw [zf_up (by decide), k1.2.2 51 k (by decide) (by decide)]; exact hw k hk2) (fun m x a b e => ?_)
      rw [zf_upr]
      by_cases q : 16 * m + x = i
      · rw [if_pos q, show i / 16 = m by omega, show i % 16 = x by omega]
      · rw [if_neg q, k1.2.2 53 _ (by decide) (by decide)]
        exact hk m x a b (by omega)
theorem zTm_up {N m c : Nat} (h : zTm s P N t) (hN : N = 10 * m + c) (hm : m ≤ 6) (hc : c ≤ 9) {x : Int32} (hP : zPe s P) (hx : x.toInt = zbdI s P m c) : zTm s P (N + 1) (zy_up t 52 N x) := by
  obtain ⟨u1, u2, u3, u4⟩ := h
  have d := zbdI_in hP m c
  refine ⟨zUn_up u1 rfl, zRg_up u2 (fun _ => ?_), fun m x a b => ?_, fun m' c' a b e => ?_⟩
  · rw [zrg_52 N (by omega)]
    unfold zin
    omega
  · rw [zf_up (by decide)]
    exact u3 m x a b
  · rw [zf_upr]
    by_cases q : 10 * m' + c' = N
    · have e1 : m' = m := by omega
      have e2 : c' = c := by omega
      rw [if_pos q, e1, e2]
      exact hx
    · rw [if_neg q]
      exact u4 m' c' a b (by omega)
theorem zv_53 (hP : zPe s P) {N m x c : Nat} (h : zTm s P N t) (hm : m < 6) (hx : x < 16) (hc : c ≤ 9) (hk : znb x ≤ c) (hN : 10 * m + 9 < N) : ((16 : Int32) * (Int32.ofNat (m + 1) - (1 : Int32)) + Int32.ofNat x).toInt = ((16 * m + x : Nat) : Int) ∧ ((10 : Int32) * (Int32.ofNat (m + 1) - (1 : Int32)) + Int32.ofNat c - zpc (Int32.ofNat x)).toInt = ((10 * m + (c - znb x) : Nat) : Int) ∧ (t.1 53 (16 * m + x) + t.1 52 (10 * m + (c - znb x))).toInt = zdF s P m c x := by
  have l10 : (10 : Int32).toInt = 10 := rfl
  have e1 : Int32.ofNat (m + 1) - 1 = Int32.ofNat m := zN_sub' (a := m + 1) (b := 1) (by omega) (by omega)
  have em : (Int32.ofNat m).toInt = (m : Int) := zN_toInt (by omega)
  have ex : (Int32.ofNat x).toInt = (x : Int) := zN_toInt (by omega)
  have b4 := znb_le x hx
  have e16 : ((16 : Int32) * Int32.ofNat m).toInt = 16 * (m : Int) := by rw [zq_mul (by rw [zq_l16, em]; omega) (by rw [zq_l16, em]; omega), zq_l16, em]
  have e10 := zl2x (m := m) (c := c) (by omega) hc
  have en : (Int32.ofNat (znb x)).toInt = (znb x : Int) := zN_toInt (by omega)
  have k := zkb_in hP m x
  have d := zbdI_in hP m (c - znb x)
  have v52 := h.2.2.2 m (c - znb x) (by omega) (by omega) (by omega)
  have v53 := h.2.2.1 m x hm hx
  refine ⟨?_, ?_, ?_⟩
  · rw [e1, zq_add (by rw [e16, ex]; omega) (by rw [e16, ex]; omega), e16, ex]
    omega
  · rw [e1, znb_f x hx, zq_sub (by rw [e10, en]; omega) (by rw [e10, en]; omega), e10, en]
    omega
  · rw [v53, zq_add (by rw [v52]; omega) (by rw [v52]; omega), v52]
    rfl
theorem zm_113 (hP : zPe s P) {N m c : Nat} (h : zTm s P N t) (hm : m < 6) (hc : c ≤ 9) (hN : 10 * m + 9 < N) (x1 : Int32) (k82 : Int32 → Int32 → Int32 → zy_S → Option (Int32 × zy_S)) (k91 : Int32 → Int32 → Int32 → Int32 → zy_S → Option (Int32 × zy_S)) : ∀ (n q : Nat) (x5 : Int32), q ≤ 16 → 16 - q < n → ((q = 0 ∧ x5 = 1000000) ∨ (1 ≤ q ∧ x5.toInt = (zbMn (zbOk c) (zdF s P m c) (q - 1)).1)) → ∃ y, zyF215_113 k82 k91 n x1 10 (Int32.ofNat (m + 1)) (Int32.ofNat c) x5 (Int32.ofNat q) t = zyF215_198 k82 k91 x1 10 (Int32.ofNat (m + 1)) (Int32.ofNat c) y t ∧ y.toInt = zbdI s P (m + 1) c
  | 0, q, x5, hq, hn, h5 => by omega
  | n + 1, q, x5, hq, hn, h5 => by
    have eq : (Int32.ofNat q).toInt = (q : Int) := zN_toInt (by omega)
    have lM : (1000000 : Int32).toInt = 1000000 := rfl
    show ∃ y, zyF215_113b k82 k91 (zyF215_113 k82 k91 n) x1 10 (Int32.ofNat (m + 1)) (Int32.ofNat c) x5 (Int32.ofNat q) t = _ ∧ _
    unfold zyF215_113b zyF215_174 zyF215_190
    by_cases h16 : q = 16
    · rw [if_pos (by rw [Int32.le_iff_toInt_le, eq, zq_l16]; omega)]
      refine ⟨x5, rfl, ?_⟩
      rcases h5 with ⟨a, -⟩ | ⟨a, b⟩
      · omega
      · rw [b, h16, zbdI_s]
    obtain ⟨f209, eb⟩ := znb_x eq (by omega) t
    have b4 := znb_le q (by omega)
    rw [if_neg (by rw [Int32.le_iff_toInt_le, eq, zq_l16]; omega), if_neg (by rw [Int32.le_iff_toInt_le, zN_toInt (by omega), zq_l0]; omega), f209, zq_bind, zN_succ (show q < 2147483646 by omega)]
    dsimp only
    have ih := zm_113 hP h hm hc hN x1 k82 k91 n (q + 1)
    by_cases hf : znb q ≤ c
    · obtain ⟨i1, i2, iv⟩ := zv_53 hP h hm (show q < 16 by omega) hc hf hN
      have kq := zkb_in hP m q
      have dq := zbdI_in hP m (c - znb q)
      have eF : zdF s P m c q = (zkb s P m q).toInt + zbdI s P m (c - znb q) := rfl
      rw [if_pos (by rw [Int32.le_iff_toInt_le, eb, zN_toInt (by omega)]; omega), if_pos (zq_in.mpr (by rw [i1]; omega)), if_pos (zq_in.mpr (by rw [i2]; omega)), show ((16 : Int32) * (Int32.ofNat (m + 1) - (1 : Int32)) + Int32.ofNat q).toNatClampNeg = 16 * m + q by rw [zq_ix, i1, Int.toNat_natCast], show ((10 : Int32) * (Int32.ofNat (m + 1) - (1 : Int32)) + Int32.ofNat c - zpc (Int32.ofNat q)).toNatClampNeg = 10 * m + (c - znb q) by rw [zq_ix, i2, Int.toNat_natCast]]
      by_cases g : x5 ≤ t.1 53 (16 * m + q) + t.1 52 (10 * m + (c - znb q))
      · rw [if_pos g]
        rw [Int32.le_iff_toInt_le, iv] at g
        refine ih x5 (by omega) (by omega) (Or.inr ⟨by omega, ?_⟩)
        rcases h5 with ⟨a, b⟩ | ⟨a, b⟩
        · exfalso
          rw [b, lM] at g
          omega
        · obtain ⟨q', rfl⟩ : ∃ q', q = q' + 1 := ⟨q - 1, by omega⟩
          show x5.toInt = (zbMn (zbOk c) (zdF s P m c) (q' + 1)).1
          rw [show q' + 1 - 1 = q' by omega] at b
          rw [zbMn_s, if_neg (fun w => by have := w.2; omega), b]
      · rw [if_neg g]
        rw [Int32.le_iff_toInt_le, iv] at g
        refine ih _ (by omega) (by omega) (Or.inr ⟨by omega, ?_⟩)
        rw [iv]
        rcases h5 with ⟨a, b⟩ | ⟨a, b⟩
        · rw [a]
          rfl
        · obtain ⟨q', rfl⟩ : ∃ q', q = q' + 1 := ⟨q - 1, by omega⟩
          show _ = (zbMn (zbOk c) (zdF s P m c) (q' + 1)).1
          rw [show q' + 1 - 1 = q' by omega] at b
          rw [zbMn_s, if_pos ⟨decide_eq_true hf, by omega⟩]
    · have q1 : 1 ≤ q := by
        rcases Nat.eq_zero_or_pos q with w | w
        · rw [w, znb_0] at hf
          omega
        · exact w
      obtain ⟨a, b⟩ : 1 ≤ q ∧ x5.toInt = (zbMn (zbOk c) (zdF s P m c) (q - 1)).1 := by
        rcases h5 with ⟨a, -⟩ | w
        · omega
        · exact w
      obtain ⟨z1, z2, z3, z4⟩ := zbMn_in (zbOk c) (zdF s P m c) (zbOk_0 c) (q - 1)
      have kz := zkb_in hP m (zbMn (zbOk c) (zdF s P m c) (q - 1)).2
      have dz := zbdI_in hP m (c - znb (zbMn (zbOk c) (zdF s P m c) (q - 1)).2)
      have eF : zdF s P m c (zbMn (zbOk c) (zdF s P m c) (q - 1)).2 = (zkb s P m (zbMn (zbOk c) (zdF s P m c) (q - 1)).2).toInt + zbdI s P m (c - znb (zbMn (zbOk c) (zdF s P m c) (q - 1)).2) := rfl
      rw [if_neg (by rw [Int32.le_iff_toInt_le, eb, zN_toInt (by omega)]; omega), if_pos (show x5 ≤ (1000000 : Int32) by rw [Int32.le_iff_toInt_le, lM, b]; omega)]
      refine ih x5 (by omega) (by omega) (Or.inr ⟨by omega, ?_⟩)
      obtain ⟨q', rfl⟩ : ∃ q', q = q' + 1 := ⟨q - 1, by omega⟩
      show x5.toInt = (zbMn (zbOk c) (zdF s P m c) (q' + 1)).1
      rw [show q' + 1 - 1 = q' by omega] at b
      rw [zbMn_s, if_neg (fun w => hf (of_decide_eq_true w.1)), b]
theorem zm_91 (hP : zPe s P) {m : Nat} (hm : m ≤ 6) (x1 : Int32) (k82 : Int32 → Int32 → Int32 → zy_S → Option (Int32 × zy_S)) : ∀ (n c : Nat) (t : zy_S), c ≤ 10 → 10 - c < n → zTm s P (10 * m + c) t → ∃ t', zyF215_91 k82 n x1 10 (Int32.ofNat m) (Int32.ofNat c) t = k82 x1 10 (Int32.ofNat (m + 1)) t' ∧ zTm s P (10 * (m + 1)) t'
  | 0, c, t, hc, hn, h => by omega
  | n + 1, c, t, hc, hn, h => by
    have ec : (Int32.ofNat c).toInt = (c : Int) := zN_toInt (by omega)
    have em : (Int32.ofNat m).toInt = (m : Int) := zN_toInt (by omega)
    show ∃ t', zyF215_91b k82 (zyF215_91 k82 n) x1 10 (Int32.ofNat m) (Int32.ofNat c) t = _ ∧ _
    unfold zyF215_91b
    by_cases h10 : c = 10
    · rw [if_pos (by rw [Int32.lt_iff_toInt_lt, ec, zq_l9]; omega), zN_succ (by omega)]
      rw [h10] at h
      exact ⟨t, rfl, h⟩
    have i10 := zl2x (m := m) (c := c) hm (by omega)
    have fin : ∀ y : Int32, y.toInt = zbdI s P m c → ∃ t', zyF215_198 k82 (zyF215_91 k82 n) x1 10 (Int32.ofNat m) (Int32.ofNat c) y t = k82 x1 10 (Int32.ofNat (m + 1)) t' ∧ zTm s P (10 * (m + 1)) t' := fun y hy => by
      unfold zyF215_198
      rw [if_pos (zq_in.mpr (by rw [i10]; omega)), show ((10 : Int32) * Int32.ofNat m + Int32.ofNat c).toNatClampNeg = 10 * m + c by rw [zq_ix, i10, Int.toNat_natCast], zN_succ (by omega)]
      exact zm_91 hP hm x1 k82 n (c + 1) _ (by omega) (by omega) (zTm_up h rfl hm (by omega) hP hy)
    rw [if_neg (by rw [Int32.lt_iff_toInt_lt, ec, zq_l9]; omega)]
    cases m with
    | zero =>
      rw [if_neg (show ¬ Int32.ofNat 0 ≠ 0 from not_not_intro rfl)]
      unfold zyF215_108
      show ∃ t', zyF215_113b k82 (zyF215_91 k82 n) (zyF215_113 k82 (zyF215_91 k82 n) 9999) x1 10 (Int32.ofNat 0) (Int32.ofNat c) 0 0 t = _ ∧ _
      unfold zyF215_113b
      rw [if_neg (show ¬ (16 : Int32) ≤ 0 by decide), if_pos (show Int32.ofNat 0 ≤ 0 by decide)]
      exact fin 0 rfl
    | succ m =>
      rw [if_pos (show Int32.ofNat (m + 1) ≠ 0 from fun w => by
        have := congrArg Int32.toInt w
        rw [em, zq_l0] at this
        omega)]
      unfold zyF215_108
      obtain ⟨y, f, hy⟩ := zm_113 hP h (show m < 6 by omega) (show c ≤ 9 by omega) (by omega) x1 k82 (zyF215_91 k82 n) zy_fu 0 1000000 (by omega) (by unfold zy_fu; omega) (Or.inl ⟨rfl, rfl⟩)
      rw [show (0 : Int32) = Int32.ofNat 0 from rfl, f]
      exact fin y hy
theorem zm_262 (hP : zPe s P) (h : zTm s P 70 t) {m c : Nat} (hm : m < 6) (hc : c ≤ 9) (b : Int32) (k254 : Int32 → Int32 → Int32 → Int32 → zy_S → Option (Int32 × zy_S)) : ∀ (n q : Nat), q ≤ zdS s P m c → zdS s P m c - q < n → zyF215_262 k254 n 10 (Int32.ofNat c) b (Int32.ofNat (m + 1)) (Int32.ofNat q) t = k254 10 (Int32.ofNat (c - znb (zdS s P m c))) (b ||| zLm m (zdS s P m c)) (Int32.ofNat (m + 1) + (-1 : Int32)) t
  | 0, q, hq, hn => by omega
  | n + 1, q, hq, hn => by
    obtain ⟨s1, s2, s3, s4⟩ := zdS_in s P m c
    have eq : (Int32.ofNat q).toInt = (q : Int) := zN_toInt (by omega)
    have e1 : Int32.ofNat (m + 1) - 1 = Int32.ofNat m := zN_sub' (a := m + 1) (b := 1) (by omega) (by omega)
    obtain ⟨f209, eb⟩ := znb_x eq (by omega) t
    have b4 := znb_le q (by omega)
    have i10 := zl2x (m := m + 1) (c := c) (by omega) hc
    have v52 := h.2.2.2 (m + 1) c (by omega) hc (by omega)
    show zyF215_262b k254 (zyF215_262 k254 n) 10 (Int32.ofNat c) b (Int32.ofNat (m + 1)) (Int32.ofNat q) t = _
    unfold zyF215_262b zyF215_320
    rw [f209, zq_bind, zN_succ (show q < 2147483646 by omega)]
    dsimp only
    by_cases hf : znb q ≤ c
    · obtain ⟨i1, i2, iv⟩ := zv_53 hP h hm (show q < 16 by omega) hc hf (by omega)
      rw [if_neg (by rw [Int32.lt_iff_toInt_lt, eb, zN_toInt (by omega)]; omega), if_pos (zq_in.mpr (by rw [i1]; omega)), f209, zq_bind]
      dsimp only
      rw [if_pos (zq_in.mpr (by rw [i2]; omega)), if_pos (zq_in.mpr (by rw [i10]; omega)), show ((16 : Int32) * (Int32.ofNat (m + 1) - (1 : Int32)) + Int32.ofNat q).toNatClampNeg = 16 * m + q by rw [zq_ix, i1, Int.toNat_natCast], show ((10 : Int32) * (Int32.ofNat (m + 1) - (1 : Int32)) + Int32.ofNat c - zpc (Int32.ofNat q)).toNatClampNeg = 10 * m + (c - znb q) by rw [zq_ix, i2, Int.toNat_natCast], show ((10 : Int32) * Int32.ofNat (m + 1) + Int32.ofNat c).toNatClampNeg = 10 * (m + 1) + c by rw [zq_ix, i10, Int.toNat_natCast]]
      by_cases g : q = zdS s P m c
      · rw [if_pos (zq_ext (by rw [iv, v52, g]; exact s3)), f209, zq_bind]
        dsimp only
        rw [znb_f q (by omega), zN_sub' hf (by omega), e1, g]
        rfl
      · rw [if_neg (fun w => by
          have := congrArg Int32.toInt w
          rw [iv, v52] at this
          have := s4 q (by omega) hf
          omega)]
        exact zm_262 hP h hm hc b k254 n (q + 1) (by omega) (by omega)
    · rw [if_pos (by rw [Int32.lt_iff_toInt_lt, eb, zN_toInt (by omega)]; omega)]
      have : q ≠ zdS s P m c := fun w => hf (by rw [w]; exact s2)
      exact zm_262 hP h hm hc b k254 n (q + 1) (by omega) (by omega)
theorem zm_254 (hP : zPe s P) (h : zTm s P 70 t) : ∀ (n m c : Nat) (b : Int32), m ≤ 6 → m < n → c ≤ 9 → zyF215_254 n 10 (Int32.ofNat c) b (Int32.ofNat m) t = some (zdB s P m c b, t)
  | 0, m, c, b, hm, hn, hc => by omega
  | n + 1, m, c, b, hm, hn, hc => by
    show zyF215_254b (zyF215_254 n) 10 (Int32.ofNat c) b (Int32.ofNat m) t = _
    unfold zyF215_254b
    cases m with
    | zero =>
      rw [if_pos (by decide)]
      rfl
    | succ m =>
      have em : (Int32.ofNat (m + 1)).toInt = ((m + 1 : Nat) : Int) := zN_toInt (by omega)
      have e2 : Int32.ofNat (m + 1) + (-1 : Int32) = Int32.ofNat m := zq_ext (by rw [zq_add (by rw [em, zq_lm1]; omega) (by rw [em, zq_lm1]; omega), em, zq_lm1, zN_toInt (by omega)]; omega)
      have s1 := (zdS_in s P m c).1
      rw [if_neg (by rw [Int32.le_iff_toInt_le, em, zq_l0]; omega), show (0 : Int32) = Int32.ofNat 0 from rfl, zm_262 hP h (show m < 6 by omega) hc b (zyF215_254 n) zy_fu 0 (Nat.zero_le _) (by unfold zy_fu; omega), e2, zm_254 hP h n m _ _ (by omega) (by omega) (by omega), zdB_s]
theorem zm_82 (hP : zPe s P) {R : Nat} (hR : s.1 44 40 = Int32.ofNat R) (hR9 : R ≤ 9) (x1 : Int32) : ∀ (n m : Nat) (t : zy_S), m ≤ 7 → 7 - m < n → zTm s P (10 * m) t → ∃ v t', zyF215_82 n x1 10 (Int32.ofNat m) t = some (v, t') ∧ zUn s t' ∧ zRg t' ∧ (x1 = 0 → v.toInt = zbdI s P 6 R) ∧ (x1 ≠ 0 → v = zdB s P 6 R 0)
  | 0, m, t, hm, hn, h => by omega
  | n + 1, m, t, hm, hn, h => by
    have em : (Int32.ofNat m).toInt = (m : Int) := zN_toInt (by omega)
    have e40 : t.1 44 40 = Int32.ofNat R := (h.1.2 44 40 rfl).trans hR
    show ∃ v t', zyF215_82b (zyF215_82 n) x1 10 (Int32.ofNat m) t = _ ∧ _
    unfold zyF215_82b
    by_cases h7 : m = 7
    · rw [h7] at h
      rw [if_pos (by rw [Int32.lt_iff_toInt_lt, em, zq_l6]; omega), e40]
      by_cases c : x1 = 0
      · have i10 := zl2x (m := 6) (c := R) (by omega) hR9
        have v := h.2.2.2 6 R (by omega) hR9 (by omega)
        rw [if_neg (not_not_intro c), if_pos (zq_in.mpr (by show 0 ≤ ((10 : Int32) * Int32.ofNat 6 + Int32.ofNat R).toInt ∧ ((10 : Int32) * Int32.ofNat 6 + Int32.ofNat R).toInt < 70; rw [i10]; omega))]
        refine ⟨_, t, rfl, h.1, h.2.1, fun _ => ?_, fun w => absurd c w⟩
        show (t.1 52 ((10 : Int32) * Int32.ofNat 6 + Int32.ofNat R).toNatClampNeg).toInt = _
        rw [zq_ix, i10, Int.toNat_natCast]
        exact v
      · rw [if_pos c, show (6 : Int32) = Int32.ofNat 6 from rfl, zm_254 hP h zy_fu 6 R 0 (by omega) (by unfold zy_fu; omega) hR9]
        exact ⟨_, t, rfl, h.1, h.2.1, fun w => absurd w c, fun _ => rfl⟩
    · rw [if_neg (by rw [Int32.lt_iff_toInt_lt, em, zq_l6]; omega)]
      obtain ⟨t1, f1, g1⟩ := zm_91 hP (show m ≤ 6 by omega) x1 (zyF215_82 n) zy_fu 0 t (by omega) (by unfold zy_fu; omega) h
      rw [show (0 : Int32) = Int32.ofNat 0 from rfl, f1]
      exact zm_82 hP hR hR9 x1 n (m + 1) t1 (by omega) (by omega) g1
theorem zys215 (hg : zRg s) (hP : zPe s P) (hL : zLw (s.1 5 3) (s.1 43 11) (s.1 6) (s.1 49)) (h4 : ∀ l, l < 24 → s.1 44 (16 + l) = s.1 2 l) (e7 : s.1 43 7 = s.1 1 3) (l0 : 0 ≤ (s.1 1 3).toInt) {R : Nat} (hR : s.1 44 40 = Int32.ofNat R) (hR9 : R ≤ 9) (hs : zUn s t) (hr : zRg t) (x1 : Int32) : ∃ v t', zyF215 x1 t = some (v, t') ∧ zUn s t' ∧ zRg t' ∧ (x1 = 0 → v.toInt = zbdI s P 6 R) ∧ (x1 ≠ 0 → v = zdB s P 6 R 0) := by
  obtain ⟨t1, f1, u1, g1, w1, -⟩ := zys203 (s := s) hg hs hr
  obtain ⟨t2, f2, u2, g2, w2⟩ := zl_215_6 l0 e7 x1 zy_fu 0 t1 (by omega) (by unfold zy_fu; omega) u1 g1 (fun k hk => by omega) (fun k _ hk => (w1 k hk).trans (h4 k hk))
  obtain ⟨t3, f3, g3⟩ := zl_215_47 hP hL l0 x1 zy_fu 0 t2 (by omega) (by unfold zy_fu; omega) u2 g2 w2 (fun m x a b e => by omega)
  obtain ⟨v, t4, f4, g4⟩ := zm_82 hP hR hR9 x1 zy_fu 0 t3 (by omega) (by unfold zy_fu; omega) g3
  refine ⟨v, t4, ?_, g4⟩
  unfold zyF215
  rw [f1, zq_bind]
  dsimp only
  rw [show (0 : Int32) = Int32.ofNat 0 from rfl, f2]
  exact f3.trans f4
theorem zdB_in : ∀ (m c : Nat) (b : Int32), m ≤ 6 → (0 ≤ b.toInt ∧ b.toInt ≤ 16777215) → 0 ≤ (zdB s P m c b).toInt ∧ (zdB s P m c b).toInt ≤ 16777215
  | 0, c, b, hm, h => h
  | m + 1, c, b, hm, h => by
    obtain ⟨c0, c1, -⟩ := zLm_f m (by omega) (zdS s P m c) (zdS_in s P m c).1
    obtain ⟨o0, o1⟩ := zmk_or h.1 c0
    rw [zdB_s]
    refine zdB_in m _ _ (by omega) ⟨o0, ?_⟩
    have := Nat.or_lt_two_pow (n := 24) (show b.toInt.toNat < 2 ^ 24 by omega) (show (zLm m (zdS s P m c)).toInt.toNat < 2 ^ 24 by omega)
    omega
theorem zop_board (x : Int32) {s : zy_S} (h : zI s) : ∃ r s1 s2, zyF75 x s = some (r, s1) ∧ zyF214 x s1 = some (r, s2) ∧ zI s2 := by
  obtain ⟨hg, hP, hL, h4, e7, l0, l1, e40⟩ := zMI h
  obtain ⟨P, hPP⟩ : ∃ P, P = (s.1 1 5).toInt.toNat := ⟨_, rfl⟩
  rw [← hPP] at hP
  have h5 : zin (s.1 1 4) 1 9 := by
    obtain ⟨hw, hg, h1, h2, h3, h4, h5, h6, h7, h8, h9, h10, h11, h12, h13, h14, h15, h16, h17, h18, h19, h20, h21⟩ := id h
    exact h5.2
  obtain ⟨R, hR, hR9⟩ : ∃ R, s.1 1 4 = Int32.ofNat R ∧ R ≤ 9 := by
    obtain ⟨a, b⟩ := h5
    exact ⟨(s.1 1 4).toInt.toNat, zq_ext (by rw [zN_toInt (by omega)]; omega), by omega⟩
  have hR2 : s.1 44 40 = Int32.ofNat R := e40.trans hR
  have mdl : ∀ (t : zy_S) (y : Int32), zUn s t → zRg t → ∃ v t', zyF215 y t = some (v, t') ∧ zUn s t' ∧ zRg t' ∧ (y = 0 → v.toInt = zbdI s P 6 R) ∧ (y ≠ 0 → v = zdB s P 6 R 0) := fun t y a b => zys215 hg hP hL h4 e7 l0 hR2 hR9 a b y
  have w82 : ∃ t1, zyF82 s = some (zdB s P 6 R 0, t1) ∧ zUn s t1 ∧ zRg t1 := by
    obtain ⟨t1, f1, g1⟩ := zys77 hP hL l0 (zUn_refl s) hg
    refine ⟨t1, ?_, g1.1.1.1, g1.1.1.2.1⟩
    unfold zyF82
    rw [f1, zq_bind]
    dsimp only
    rw [show t1.1 1 4 = Int32.ofNat R from (g1.1.1.1.2 1 4 zto_14.2.1).trans hR, show (5 : Int32) = Int32.ofNat 6 - 1 from rfl]
    exact zl_82 l0 hP g1 zy_fu 6 R 0 (by omega) (by unfold zy_fu; omega) hR9
  obtain ⟨b0, b1⟩ := zdB_in (s := s) (P := P) 6 R 0 (by omega) ⟨by decide, by decide⟩
  unfold zyF75 zyF214
  by_cases c0 : x = 0
  · exact ⟨_, s, s, if_pos c0, (if_pos c0).trans (by rw [e7]), h⟩
  rw [if_neg c0]
  by_cases c1 : x = 1
  · obtain ⟨t1, f1, g1⟩ := zys77 hP hL l0 (zUn_refl s) hg
    obtain ⟨v, t2, f2, u2, g2, hv, -⟩ := mdl t1 0 g1.1.1.1 g1.1.1.2.1
    have i10 := zl2x (m := 6) (c := R) (by omega) hR9
    have vd := g1.2 6 R (by omega) hR9 (by omega)
    refine ⟨v, t1, t2, ?_, ?_, zI_end h u2 g2⟩
    · rw [if_pos c1]
      unfold zyF76 zyF81
      rw [f1, zq_bind]
      dsimp only
      rw [show t1.1 1 4 = Int32.ofNat R from (g1.1.1.1.2 1 4 zto_14.2.1).trans hR, if_neg (by rw [Int32.lt_iff_toInt_lt, zN_toInt (by omega), zq_l0]; omega), if_pos (by rw [Int32.le_iff_toInt_le, zN_toInt (by omega), zq_l9]; omega), show (6 : Int32) = Int32.ofNat 6 from rfl, if_pos (zq_in.mpr (by rw [i10]; omega)), zq_bind, zq_ix, i10, Int.toNat_natCast]
      have ev : t1.1 14 (10 * 6 + R) = v := zq_ext (by rw [vd, hv rfl])
      dsimp only
      rw [ev, zq_bind]
    · rw [if_neg c0, if_pos c1, f2, zq_bind]
  rw [if_neg c1]
  by_cases c2 : x = 2
  · obtain ⟨t1, f1, u1, g1⟩ := w82
    obtain ⟨v, t2, f2, u2, g2, -, hv⟩ := mdl t1 1 u1 g1
    refine ⟨zdB s P 6 R 0, t1, t2, ?_, ?_, zI_end h u2 g2⟩
    · rw [if_pos c2, f1, zq_bind]
    · rw [if_neg c0, if_neg c1, if_pos c2, f2, zq_bind, hv (by decide)]
  rw [if_neg c2]
  by_cases c3 : x = 3
  · obtain ⟨t1, f1, u1, g1⟩ := w82
    obtain ⟨v, t2, f2, u2, g2, -, hv⟩ := mdl t1 1 u1 g1
    have e13 : t1.1 1 3 = s.1 1 3 := u1.2 1 3 zto_14.1
    have e27 : t2.1 43 7 = s.1 1 3 := (u2.2 43 7 zmt_6.2).trans e7
    obtain ⟨x0, -⟩ := zmk_xor b0 l0
    have x1 : (zdB s P 6 R 0 ^^^ s.1 1 3).toInt ≤ 16777215 := by
      have e : (zdB s P 6 R 0 ^^^ s.1 1 3).toInt = zb_c 15 (zdB s P 6 R 0).toInt (s.1 1 3).toInt := zb_cEq 15 _ _ (by omega)
      have ea : (zdB s P 6 R 0).toInt = ((zdB s P 6 R 0).toInt.toNat : Int) := (Int.toNat_of_nonneg b0).symm
      have eb : (s.1 1 3).toInt = ((s.1 1 3).toInt.toNat : Int) := (Int.toNat_of_nonneg l0).symm
      rw [ea, eb, zN_xor (by omega) (by omega)] at e
      have := Nat.xor_lt_two_pow (n := 24) (show (zdB s P 6 R 0).toInt.toNat < 2 ^ 24 by omega) (show (s.1 1 3).toInt.toNat < 2 ^ 24 by omega)
      omega
    refine ⟨zpc (zdB s P 6 R 0 ^^^ s.1 1 3), t1, t2, ?_, ?_, zI_end h u2 g2⟩
    · rw [if_pos c3, f1, zq_bind]
      dsimp only
      rw [e13, zys63 t1 x0 x1, zq_bind]
    · rw [if_neg c0, if_neg c1, if_neg c2, if_pos c3, f2, zq_bind]
      dsimp only
      rw [e27, hv (by decide), zys209 t2 x0 x1, zq_bind]
  · rw [if_neg c3]
    exact ⟨-1, s, s, rfl, by rw [if_neg c0, if_neg c1, if_neg c2, if_neg c3], h⟩
end ZBE
