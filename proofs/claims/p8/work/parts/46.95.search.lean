/-! PART 46.95: the model's search for the nearest board. Made by wip/v4/gen_rest.py. -/
def znb (k : Nat) : Nat := zpopN 24 k
theorem znb_le : ∀ k, k < 16 → znb k ≤ 4 := by decide +kernel
theorem znb_0 : znb 0 = 0 := by decide +kernel
theorem znb_x {x : Int32} {k : Nat} (h : x.toInt = (k : Int)) (hk : k < 16) (s : zy_S) : zyF209 x s = some (zpc x, s) ∧ (zpc x).toInt = ((znb k : Nat) : Int) := by
  refine ⟨zys209 s (by omega) (by omega), ?_⟩
  have b : zpopN 24 k ≤ 24 := zpopN_le k 24
  unfold zpc zpo znb
  rw [h, Int.toNat_natCast]
  exact Int32.toInt_ofInt_of_le (by omega) (by omega)
theorem zq_lM : (1000000 : Int32).toInt = 1000000 := rfl
/-- x is what a choice of lines of the matter m gives, with room for c -/
def znA (s t : zy_S) (m c : Nat) (x : Int) (q : Nat) : Prop := ∃ k, k < q ∧ znb k ≤ c ∧ x = (s.1 53 (16 * (m - 1) + k)).toInt + (t.1 52 (10 * (m - 1) + (c - znb k))).toInt
theorem znA_up {s t : zy_S} {m c q q' : Nat} {x : Int} (h : q ≤ q') (g : znA s t m c x q) : znA s t m c x q' := by
  obtain ⟨k, h1, h2⟩ := g
  exact ⟨k, by omega, h2⟩
theorem znA_of {s t t' : zy_S} {m c q N : Nat} {x : Int} (h : ∀ j, j < N → t'.1 52 j = t.1 52 j) (hm : 1 ≤ m) (hN : 10 * m + c ≤ N) (g : znA s t m c x q) : znA s t' m c x q := by
  obtain ⟨k, h1, h2, h3⟩ := g
  exact ⟨k, h1, h2, by rw [h _ (by omega)]; exact h3⟩
/-- the table up to a place -/
def znT (s t : zy_S) (n : Nat) : Prop := ∀ m c : Nat, m ≤ 6 → c ≤ 9 → 10 * m + c < n → 0 ≤ (t.1 52 (10 * m + c)).toInt ∧ (t.1 52 (10 * m + c)).toInt ≤ 792 * (m : Int) ∧ (1 ≤ m → znA s t m c (t.1 52 (10 * m + c)).toInt 16)
def zX52 (s t : zy_S) : Prop := t.2 = s.2 ∧ ∀ a b, a ≠ 52 → t.1 a b = s.1 a b
theorem zrg_52 : ∀ k, k < 70 → zrg 52 k = (0, 1000000) := by decide +kernel
theorem zrg_53 : ∀ k, k < 96 → zrg 53 k = (0, 792) := by decide +kernel
theorem zrn_52 : zrn 52 = 70 ∧ zrn 53 = 96 ∧ zrn 44 = 41 ∧ zrg 44 40 = (1, 9) := by decide +kernel
section ZN
variable {s t : zy_S} {m c : Nat} {x1 x2 x3 x4 x5 : Int32}
theorem znl_113 (hs : ∀ k, k < 96 → 0 ≤ (s.1 53 k).toInt ∧ (s.1 53 k).toInt ≤ 792) (ht : ∀ k, t.1 53 k = s.1 53 k) (hm : m ≤ 6) (hc : c ≤ 9) (hT : znT s t (10 * m + c)) (e2 : x2.toInt = 10) (e3 : x3.toInt = (m : Int)) (e4 : x4.toInt = (c : Int)) (k82 : Int32 → Int32 → Int32 → zy_S → Option (Int32 × zy_S)) (k91 : Int32 → Int32 → Int32 → Int32 → zy_S → Option (Int32 × zy_S)) :
    ∀ (n q : Nat) (x5 x6 : Int32), q ≤ 16 → 16 - q < n → x6.toInt = (q : Int) → (m = 0 → x5.toInt = 0) → (1 ≤ m → (q = 0 ∧ x5.toInt = 1000000) ∨ (1 ≤ q ∧ znA s t m c x5.toInt q ∧ 0 ≤ x5.toInt ∧ x5.toInt ≤ 792 * (m : Int))) →
      ∃ y : Int32, zyF215_113 k82 k91 n x1 x2 x3 x4 x5 x6 t = zyF215_198 k82 k91 x1 x2 x3 x4 y t ∧ (m = 0 → y.toInt = 0) ∧ (1 ≤ m → znA s t m c y.toInt 16 ∧ 0 ≤ y.toInt ∧ y.toInt ≤ 792 * (m : Int))
  | 0, q, x5, x6, hq, hn, e6, h0, h1 => by omega
  | n + 1, q, x5, x6, hq, hn, e6, h0, h1 => by
    show ∃ y : Int32, zyF215_113b k82 k91 (zyF215_113 k82 k91 n) x1 x2 x3 x4 x5 x6 t = _ ∧ _
    unfold zyF215_113b
    by_cases g : 16 ≤ q
    · rw [if_pos (by rw [Int32.le_iff_toInt_le, zq_l16]; omega)]
      refine ⟨x5, rfl, h0, fun hm1 => ?_⟩
      rcases h1 hm1 with ⟨a, -⟩ | ⟨-, a, b⟩
      · omega
      · have eq : q = 16 := by omega
        rw [eq] at a
        exact ⟨a, b⟩
    rw [if_neg (by rw [Int32.le_iff_toInt_le, zq_l16]; omega)]
    by_cases hm0 : m = 0
    · rw [if_pos (by rw [Int32.le_iff_toInt_le, zq_l0]; omega)]
      exact ⟨x5, rfl, h0, fun w => by omega⟩
    rw [if_neg (by rw [Int32.le_iff_toInt_le, zq_l0]; omega)]
    obtain ⟨f, eb⟩ := znb_x e6 (by omega) t
    have b4 := znb_le q (by omega)
    rw [f, zq_bind]
    dsimp only
    have en : (x6 + 1).toInt = ((q + 1 : Nat) : Int) := by rw [zq_add (by rw [zq_l1]; omega) (by rw [zq_l1]; omega), zq_l1, e6]; omega
    by_cases hb : znb q ≤ c
    · have e1 : (x3 - (1 : Int32)).toInt = (m : Int) - 1 := by rw [zq_sub (by rw [zq_l1]; omega) (by rw [zq_l1]; omega), zq_l1, e3]
      have e16 : ((16 : Int32) * (x3 - (1 : Int32))).toInt = 16 * ((m : Int) - 1) := by rw [zq_mul (by rw [zq_l16, e1]; omega) (by rw [zq_l16, e1]; omega), zq_l16, e1]
      have ea : ((16 : Int32) * (x3 - (1 : Int32)) + x6).toInt = 16 * ((m : Int) - 1) + q := by rw [zq_add (by rw [e16]; omega) (by rw [e16]; omega), e16, e6]
      have ean : ((16 : Int32) * (x3 - (1 : Int32)) + x6).toNatClampNeg = 16 * (m - 1) + q := by rw [zq_ix, ea]; omega
      have e10 : (x2 * (x3 - (1 : Int32))).toInt = 10 * ((m : Int) - 1) := by rw [zq_mul (by rw [e2, e1]; omega) (by rw [e2, e1]; omega), e2, e1]
      have ec : (x2 * (x3 - (1 : Int32)) + x4).toInt = 10 * ((m : Int) - 1) + c := by rw [zq_add (by rw [e10]; omega) (by rw [e10]; omega), e10, e4]
      have ed : (x2 * (x3 - (1 : Int32)) + x4 - zpc x6).toInt = 10 * ((m : Int) - 1) + c - (znb q : Nat) := by rw [zq_sub (by rw [ec, eb]; omega) (by rw [ec, eb]; omega), ec, eb]
      have edn : (x2 * (x3 - (1 : Int32)) + x4 - zpc x6).toNatClampNeg = 10 * (m - 1) + (c - znb q) := by rw [zq_ix, ed]; omega
      rw [if_pos (by rw [Int32.le_iff_toInt_le, eb]; omega), if_pos (zq_in.mpr ⟨by omega, by omega⟩), if_pos (zq_in.mpr ⟨by omega, by omega⟩), ean, edn]
      have v1 := hs (16 * (m - 1) + q) (by omega)
      obtain ⟨v2, v3, -⟩ := hT (m - 1) (c - znb q) (by omega) (by omega) (by omega)
      rw [← ht] at v1
      obtain ⟨v, hv⟩ : ∃ v, v = t.1 53 (16 * (m - 1) + q) + t.1 52 (10 * (m - 1) + (c - znb q)) := ⟨_, rfl⟩
      have ev : v.toInt = (t.1 53 (16 * (m - 1) + q)).toInt + (t.1 52 (10 * (m - 1) + (c - znb q))).toInt := by rw [hv, zq_add (by omega) (by omega)]
      rw [← hv]
      unfold zyF215_174 zyF215_190
      by_cases hle : x5.toInt ≤ v.toInt
      · rw [if_pos (by rw [Int32.le_iff_toInt_le]; exact hle)]
        refine znl_113 hs ht hm hc hT e2 e3 e4 k82 k91 n (q + 1) x5 (x6 + 1) (by omega) (by omega) en h0 (fun hm1 => ?_)
        rcases h1 hm1 with ⟨a, b⟩ | ⟨a, b, b2⟩
        · omega
        · exact Or.inr ⟨by omega, znA_up (by omega) b, b2⟩
      · rw [if_neg (by rw [Int32.le_iff_toInt_le]; exact hle)]
        exact znl_113 hs ht hm hc hT e2 e3 e4 k82 k91 n (q + 1) v (x6 + 1) (by omega) (by omega) en (fun w => absurd w hm0) (fun hm1 => Or.inr ⟨by omega, ⟨q, by omega, hb, by rw [ev, ht]⟩, by omega, by omega⟩)
    · rw [if_neg (by rw [Int32.le_iff_toInt_le, eb]; omega)]
      unfold zyF215_174 zyF215_190
      have q1 : ¬ q = 0 := fun w => by
        rw [w, znb_0] at hb
        omega
      have h2 : 1 ≤ q ∧ znA s t m c x5.toInt q ∧ 0 ≤ x5.toInt ∧ x5.toInt ≤ 792 * (m : Int) := by
        rcases h1 (by omega) with ⟨a, b⟩ | a
        · exact absurd a q1
        · exact a
      obtain ⟨a1, a2, a3, a4⟩ := h2
      rw [if_pos (by rw [Int32.le_iff_toInt_le, zq_lM]; omega)]
      exact znl_113 hs ht hm hc hT e2 e3 e4 k82 k91 n (q + 1) x5 (x6 + 1) (by omega) (by omega) en h0 (fun hm1 => Or.inr ⟨by omega, znA_up (by omega) a2, a3, a4⟩)
theorem znl_91 (hs : ∀ k, k < 96 → 0 ≤ (s.1 53 k).toInt ∧ (s.1 53 k).toInt ≤ 792) (hm : m ≤ 6) (e2 : x2.toInt = 10) (e3 : x3.toInt = (m : Int)) (k82 : Int32 → Int32 → Int32 → zy_S → Option (Int32 × zy_S)) :
    ∀ (n c : Nat) (x4 : Int32) (t : zy_S), c ≤ 10 → 10 - c < n → x4.toInt = (c : Int) → zX52 s t → zRg t → znT s t (10 * m + c) → ∃ t', zyF215_91 k82 n x1 x2 x3 x4 t = k82 x1 x2 (x3 + 1) t' ∧ zX52 s t' ∧ zRg t' ∧ znT s t' (10 * (m + 1))
  | 0, c, x4, t, hc, hn, e4, hX, hR, hT => by omega
  | n + 1, c, x4, t, hc, hn, e4, hX, hR, hT => by
    show ∃ t', zyF215_91b k82 (zyF215_91 k82 n) x1 x2 x3 x4 t = _ ∧ _
    unfold zyF215_91b
    by_cases g : c = 10
    · rw [if_pos (by rw [Int32.lt_iff_toInt_lt, zq_l9]; omega)]
      refine ⟨t, rfl, hX, hR, ?_⟩
      have eT : 10 * (m + 1) = 10 * m + c := by omega
      rw [eT]
      exact hT
    rw [if_neg (by rw [Int32.lt_iff_toInt_lt, zq_l9]; omega)]
    have key : ∀ x5 : Int32, (m = 0 → x5.toInt = 0) → (1 ≤ m → x5.toInt = 1000000) → ∃ t', zyF215_108 k82 (zyF215_91 k82 n) x1 x2 x3 x4 x5 t = k82 x1 x2 (x3 + 1) t' ∧ zX52 s t' ∧ zRg t' ∧ znT s t' (10 * (m + 1)) := by
      intro x5 a0 a1
      unfold zyF215_108
      obtain ⟨y, ey, y0, y1⟩ := znl_113 (x1 := x1) hs (fun k => hX.2 53 k (by decide)) hm (show c ≤ 9 by omega) hT e2 e3 e4 k82 (zyF215_91 k82 n) zy_fu 0 x5 0 (by omega) (by unfold zy_fu; omega) rfl a0 (fun w => Or.inl ⟨rfl, a1 w⟩)
      rw [ey]
      unfold zyF215_198
      have em : (x2 * x3).toInt = 10 * (m : Int) := by rw [zq_mul (by rw [e2, e3]; omega) (by rw [e2, e3]; omega), e2, e3]
      have ea : (x2 * x3 + x4).toInt = 10 * (m : Int) + c := by rw [zq_add (by rw [em]; omega) (by rw [em]; omega), em, e4]
      have ean : (x2 * x3 + x4).toNatClampNeg = 10 * m + c := by rw [zq_ix, ea]; omega
      have yb : 0 ≤ y.toInt ∧ y.toInt ≤ 792 * (m : Int) := by
        by_cases w : m = 0
        · have := y0 w
          omega
        · exact (y1 (by omega)).2
      rw [if_pos (zq_in.mpr ⟨by omega, by omega⟩), ean]
      refine znl_91 hs hm e2 e3 k82 n (c + 1) (x4 + 1) _ (by omega) (by omega) ?_ ?_ ?_ ?_
      · rw [zq_add (by rw [zq_l1]; omega) (by rw [zq_l1]; omega), zq_l1, e4]; omega
      · exact ⟨hX.1, fun a b hab => by rw [zf_up hab]; exact hX.2 a b hab⟩
      · exact zRg_up hR (fun hk => by rw [zrg_52 _ (by omega)]; exact ⟨yb.1, by show y.toInt ≤ 1000000; omega⟩)
      · have low : ∀ j, j < 10 * m + c → (zy_up t 52 (10 * m + c) y).1 52 j = t.1 52 j := fun j hj => zf_upk (by omega)
        intro m' c' hm' hc' hlt
        by_cases e : 10 * m' + c' = 10 * m + c
        · have e1 : m' = m := by omega
          have e2 : c' = c := by omega
          subst e1 e2
          rw [zf_upe]
          exact ⟨yb.1, yb.2, fun w => znA_of low w (Nat.le_refl _) (y1 w).1⟩
        · obtain ⟨w1, w2, w3⟩ := hT m' c' hm' hc' (by omega)
          rw [low _ (by omega)]
          exact ⟨w1, w2, fun w => znA_of low w (by omega) (w3 w)⟩
    by_cases hm0 : m = 0
    · rw [if_neg (show ¬ (x3 ≠ 0) from fun w => w (zq_ext (by rw [zq_l0]; omega)))]
      exact key 0 (fun _ => rfl) (fun w => by omega)
    · rw [if_pos (show x3 ≠ 0 from fun w => hm0 (by rw [w, zq_l0] at e3; omega))]
      exact key 1000000 (fun w => absurd w hm0) (fun _ => rfl)
theorem znl_82 (hs : ∀ k, k < 96 → 0 ≤ (s.1 53 k).toInt ∧ (s.1 53 k).toInt ≤ 792) (x1 : Int32) (e2 : x2.toInt = 10) :
    ∀ (n m : Nat) (x3 : Int32) (t : zy_S), m ≤ 7 → 7 - m < n → x3.toInt = (m : Int) → zX52 s t → zRg t → znT s t (10 * m) → ∃ t', zX52 s t' ∧ zRg t' ∧ znT s t' 70 ∧ zyF215_82 n x1 x2 x3 t = (if x1 ≠ 0 then zyF215_254 zy_fu x2 (t'.1 44 40) (0 : Int32) (6 : Int32) t' else if zy_in ((x2 * (6 : Int32)) + (t'.1 44 40)) 70 then some ((t'.1 52 (((x2 * (6 : Int32)) + (t'.1 44 40))).toNatClampNeg), t') else none)
  | 0, m, x3, t, hm, hn, e3, hX, hR, hT => by omega
  | n + 1, m, x3, t, hm, hn, e3, hX, hR, hT => by
    show ∃ t', _ ∧ _ ∧ _ ∧ zyF215_82b (zyF215_82 n) x1 x2 x3 t = _
    unfold zyF215_82b
    by_cases g : m = 7
    · rw [if_pos (by rw [Int32.lt_iff_toInt_lt, zq_l6]; omega)]
      subst g
      exact ⟨t, hX, hR, hT, rfl⟩
    rw [if_neg (by rw [Int32.lt_iff_toInt_lt, zq_l6]; omega)]
    obtain ⟨t1, f, a, b, c⟩ := znl_91 (x1 := x1) hs (show m ≤ 6 by omega) e2 e3 (zyF215_82 n) zy_fu 0 0 t (by omega) (by unfold zy_fu; omega) rfl hX hR hT
    rw [f]
    exact znl_82 hs x1 e2 n (m + 1) (x3 + 1) t1 (by omega) (by omega) (by rw [zq_add (by rw [zq_l1]; omega) (by rw [zq_l1]; omega), zq_l1, e3]; omega) a b c
theorem znl_262 (hs : ∀ k, k < 96 → 0 ≤ (s.1 53 k).toInt ∧ (s.1 53 k).toInt ≤ 792) (ht : ∀ k, t.1 53 k = s.1 53 k) (hT : znT s t 70) (hm1 : 1 ≤ m) (hm : m ≤ 6) (hc : c ≤ 9) (e2 : x2.toInt = 10) (e3 : x3.toInt = (c : Int)) (e5 : x5.toInt = (m : Int)) (k254 : Int32 → Int32 → Int32 → Int32 → zy_S → Option (Int32 × zy_S)) :
    ∀ (n q : Nat) (x6 : Int32), x6.toInt = (q : Int) → 16 - q < n → (∃ k, q ≤ k ∧ k < 16 ∧ znb k ≤ c ∧ (t.1 52 (10 * m + c)).toInt = (s.1 53 (16 * (m - 1) + k)).toInt + (t.1 52 (10 * (m - 1) + (c - znb k))).toInt) → ∃ y3 y4 : Int32, zyF215_262 k254 n x2 x3 x4 x5 x6 t = k254 x2 y3 y4 (x5 + (-1 : Int32)) t ∧ 0 ≤ y3.toInt ∧ y3.toInt ≤ 9
  | 0, q, x6, e6, hn, hk => by
    obtain ⟨k, k1, k2, -⟩ := hk
    omega
  | n + 1, q, x6, e6, hn, hk => by
    show ∃ y3 y4 : Int32, zyF215_262b k254 (zyF215_262 k254 n) x2 x3 x4 x5 x6 t = _ ∧ _
    unfold zyF215_262b
    have hq : q < 16 := by
      obtain ⟨k, k1, k2, -⟩ := hk
      omega
    obtain ⟨f, eb⟩ := znb_x e6 hq t
    have b4 := znb_le q hq
    rw [f, zq_bind]
    dsimp only
    have en : (x6 + 1).toInt = ((q + 1 : Nat) : Int) := by rw [zq_add (by rw [zq_l1]; omega) (by rw [zq_l1]; omega), zq_l1, e6]; omega
    have on : (¬ (znb q ≤ c ∧ (t.1 52 (10 * m + c)).toInt = (s.1 53 (16 * (m - 1) + q)).toInt + (t.1 52 (10 * (m - 1) + (c - znb q))).toInt)) → ∃ y3 y4 : Int32, zyF215_320 k254 (zyF215_262 k254 n) x2 x3 x4 x5 x6 t = k254 x2 y3 y4 (x5 + (-1 : Int32)) t ∧ 0 ≤ y3.toInt ∧ y3.toInt ≤ 9 := by
      intro hno
      unfold zyF215_320
      refine znl_262 hs ht hT hm1 hm hc e2 e3 e5 k254 n (q + 1) (x6 + 1) en (by omega) ?_
      obtain ⟨k, k1, k2, k3, k4⟩ := hk
      refine ⟨k, ?_, k2, k3, k4⟩
      rcases Nat.lt_or_ge q k with w | w
      · exact w
      · exfalso
        have ek : k = q := by omega
        subst ek
        exact hno ⟨k3, k4⟩
    by_cases hb : znb q ≤ c
    · have e1 : (x5 - (1 : Int32)).toInt = (m : Int) - 1 := by rw [zq_sub (by rw [zq_l1]; omega) (by rw [zq_l1]; omega), zq_l1, e5]
      have e16 : ((16 : Int32) * (x5 - (1 : Int32))).toInt = 16 * ((m : Int) - 1) := by rw [zq_mul (by rw [zq_l16, e1]; omega) (by rw [zq_l16, e1]; omega), zq_l16, e1]
      have ea : ((16 : Int32) * (x5 - (1 : Int32)) + x6).toInt = 16 * ((m : Int) - 1) + q := by rw [zq_add (by rw [e16]; omega) (by rw [e16]; omega), e16, e6]
      have ean : ((16 : Int32) * (x5 - (1 : Int32)) + x6).toNatClampNeg = 16 * (m - 1) + q := by rw [zq_ix, ea]; omega
      have e10 : (x2 * (x5 - (1 : Int32))).toInt = 10 * ((m : Int) - 1) := by rw [zq_mul (by rw [e2, e1]; omega) (by rw [e2, e1]; omega), e2, e1]
      have ec : (x2 * (x5 - (1 : Int32)) + x3).toInt = 10 * ((m : Int) - 1) + c := by rw [zq_add (by rw [e10]; omega) (by rw [e10]; omega), e10, e3]
      have ed : (x2 * (x5 - (1 : Int32)) + x3 - zpc x6).toInt = 10 * ((m : Int) - 1) + c - (znb q : Nat) := by rw [zq_sub (by rw [ec, eb]; omega) (by rw [ec, eb]; omega), ec, eb]
      have edn : (x2 * (x5 - (1 : Int32)) + x3 - zpc x6).toNatClampNeg = 10 * (m - 1) + (c - znb q) := by rw [zq_ix, ed]; omega
      have em : (x2 * x5).toInt = 10 * (m : Int) := by rw [zq_mul (by rw [e2, e5]; omega) (by rw [e2, e5]; omega), e2, e5]
      have eM : (x2 * x5 + x3).toInt = 10 * (m : Int) + c := by rw [zq_add (by rw [em]; omega) (by rw [em]; omega), em, e3]
      have eMn : (x2 * x5 + x3).toNatClampNeg = 10 * m + c := by rw [zq_ix, eM]; omega
      rw [if_neg (by rw [Int32.lt_iff_toInt_lt, eb]; omega), if_pos (zq_in.mpr ⟨by omega, by omega⟩), f, zq_bind]
      dsimp only
      rw [if_pos (zq_in.mpr ⟨by omega, by omega⟩), if_pos (zq_in.mpr ⟨by omega, by omega⟩), ean, edn, eMn]
      have v1 := hs (16 * (m - 1) + q) (by omega)
      obtain ⟨v2, v3, -⟩ := hT (m - 1) (c - znb q) (by omega) (by omega) (by omega)
      have ev : (t.1 53 (16 * (m - 1) + q) + t.1 52 (10 * (m - 1) + (c - znb q))).toInt = (s.1 53 (16 * (m - 1) + q)).toInt + (t.1 52 (10 * (m - 1) + (c - znb q))).toInt := by rw [ht, zq_add (by omega) (by omega)]
      by_cases hv : t.1 53 (16 * (m - 1) + q) + t.1 52 (10 * (m - 1) + (c - znb q)) = t.1 52 (10 * m + c)
      · rw [if_pos hv, f, zq_bind]
        have ey : (x3 - zpc x6).toInt = (c : Int) - (znb q : Nat) := by rw [zq_sub (by rw [eb]; omega) (by rw [eb]; omega), eb, e3]
        exact ⟨_, _, rfl, by rw [ey]; omega, by rw [ey]; omega⟩
      · rw [if_neg hv]
        refine on (fun w => hv (zq_ext ?_))
        rw [ev]
        exact w.2.symm
    · rw [if_pos (by rw [Int32.lt_iff_toInt_lt, eb]; omega)]
      exact on (fun w => hb w.1)
theorem znl_254 (hs : ∀ k, k < 96 → 0 ≤ (s.1 53 k).toInt ∧ (s.1 53 k).toInt ≤ 792) (ht : ∀ k, t.1 53 k = s.1 53 k) (hT : znT s t 70) (e2 : x2.toInt = 10) :
    ∀ (n m : Nat) (x3 x4 x5 : Int32), x5.toInt = (m : Int) → m ≤ 6 → m < n → 0 ≤ x3.toInt → x3.toInt ≤ 9 → ∃ r, zyF215_254 n x2 x3 x4 x5 t = some (r, t)
  | 0, m, x3, x4, x5, e5, hm, hn, h0, h1 => by omega
  | n + 1, m, x3, x4, x5, e5, hm, hn, h0, h1 => by
    show ∃ r, zyF215_254b (zyF215_254 n) x2 x3 x4 x5 t = some (r, t)
    unfold zyF215_254b
    by_cases g : m = 0
    · rw [if_pos (by rw [Int32.le_iff_toInt_le, zq_l0]; omega)]
      exact ⟨_, rfl⟩
    rw [if_neg (by rw [Int32.le_iff_toInt_le, zq_l0]; omega)]
    obtain ⟨-, -, hA⟩ := hT m x3.toInt.toNat hm (by omega) (by omega)
    obtain ⟨k, k1, k2, k3⟩ := hA (by omega)
    obtain ⟨y3, y4, f, b0, b1⟩ := znl_262 (x4 := x4) hs ht hT (show 1 ≤ m by omega) hm (show x3.toInt.toNat ≤ 9 by omega) e2 (show x3.toInt = ((x3.toInt.toNat : Nat) : Int) by omega) e5 (zyF215_254 n) zy_fu 0 0 rfl (by unfold zy_fu; omega) ⟨k, by omega, k1, k2, k3⟩
    rw [f]
    exact znl_254 hs ht hT e2 n (m - 1) y3 y4 (x5 + (-1 : Int32)) (by rw [zq_add (by rw [zq_lm1]; omega) (by rw [zq_lm1]; omega), zq_lm1, e5]; omega) (by omega) (by omega) b0 b1
end ZN
theorem zn_215 (x1 : Int32) {s : zy_S} (hg : zRg s) : ∃ r t, zyF215_82 zy_fu x1 (10 : Int32) (0 : Int32) s = some (r, t) ∧ zX52 s t ∧ zRg t := by
  obtain ⟨n1, n2, n3, n4⟩ := zrn_52
  have hs : ∀ k, k < 96 → 0 ≤ (s.1 53 k).toInt ∧ (s.1 53 k).toInt ≤ 792 := fun k hk => by
    have := hg 53 k (by rw [n2]; exact hk)
    rw [zrg_53 k hk] at this
    exact this
  obtain ⟨t, a, b, c, f⟩ := znl_82 (x2 := 10) hs x1 rfl zy_fu 0 0 s (by omega) (by unfold zy_fu; omega) rfl ⟨rfl, fun _ _ _ => rfl⟩ hg (fun m c h1 h2 h3 => by omega)
  have hr := b 44 40 (by rw [n3]; omega)
  rw [n4] at hr
  obtain ⟨r0, r1⟩ : 1 ≤ (t.1 44 40).toInt ∧ (t.1 44 40).toInt ≤ 9 := hr
  rw [f]
  by_cases hx : x1 ≠ 0
  · rw [if_pos hx]
    obtain ⟨r, e⟩ := znl_254 (x2 := 10) hs (fun k => a.2 53 k (by decide)) c rfl zy_fu 6 (t.1 44 40) 0 6 rfl (by omega) (by unfold zy_fu; omega) (by omega) r1
    exact ⟨r, t, e, a, b⟩
  · rw [if_neg hx]
    have e6 : ((10 : Int32) * (6 : Int32)).toInt = 60 := by decide
    have ea : ((10 : Int32) * (6 : Int32) + t.1 44 40).toInt = 60 + (t.1 44 40).toInt := by rw [zq_add (by rw [e6]; omega) (by rw [e6]; omega), e6]
    rw [if_pos (zq_in.mpr ⟨by omega, by omega⟩)]
    exact ⟨_, t, rfl, a, b⟩
theorem zX52_Sm {s t : zy_S} (hw : zy_Wb s = true) (h : zX52 s t) (hg : zRg t) : zSm s t := by
  have k52 : ∀ j, zto 52 j = false := fun j => rfl
  refine ⟨?_, hg, fun c k hc => h.2 c k (fun e => ?_), fun d hd => by rw [h.1], by rw [h.1]⟩
  · unfold zy_Wb
    rw [h.1]
    exact hw
  · rw [e, k52 k] at hc
    cases hc
