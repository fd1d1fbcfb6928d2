/-! PART 46.9984: minds, ifLine, cost, helps on both sides. Made by wip/v6/gen_mind.py. -/
theorem zmk_xor {a b : Int32} (ha : 0 ≤ a.toInt) (hb : 0 ≤ b.toInt) : 0 ≤ (a ^^^ b).toInt ∧ ∀ j, (a ^^^ b).toInt.toNat.testBit j = (a.toInt.toNat.testBit j != b.toInt.toNat.testBit j) := by
  have e : (a ^^^ b).toInt = zb_c 15 a.toInt b.toInt := zb_cEq 15 _ _ (by omega)
  have ea : a.toInt = (a.toInt.toNat : Int) := (Int.toNat_of_nonneg ha).symm
  have eb : b.toInt = (b.toInt.toNat : Int) := (Int.toNat_of_nonneg hb).symm
  have ah := zq_hi a
  have bh := zq_hi b
  rw [ea, eb, zN_xor (by omega) (by omega)] at e
  have en : (a ^^^ b).toInt.toNat = a.toInt.toNat ^^^ b.toInt.toNat := by omega
  refine ⟨by omega, fun j => ?_⟩
  rw [en, Nat.testBit_xor]
theorem zmk_1 {x : Int32} {k : Nat} (h : x.toInt = (k : Int)) (hk : k ≤ 23) : 0 ≤ ((1 : Int32) <<< (x &&& 31)).toInt ∧ ∀ j, ((1 : Int32) <<< (x &&& 31)).toInt.toNat.testBit j = decide (k = j) := by
  obtain ⟨a, b⟩ := zmk_bit h hk
  refine ⟨a, fun j => ?_⟩
  rw [b, Nat.testBit_two_pow]
theorem zbt_N {L x : Int32} {k : Nat} (l0 : 0 ≤ L.toInt) (h : x.toInt = (k : Int)) (hk : k ≤ 31) : zbt L x = L.toInt.toNat.testBit k := zmk_t l0 h hk
theorem zmk_b01 {x p : Int32} {k : Nat} (hx : 0 ≤ x.toInt) (hp : p.toInt = (k : Int)) (hk : k ≤ 31) : ((x >>> (p &&& 31)) &&& (1 : Int32)) = 0 ∨ ((x >>> (p &&& 31)) &&& (1 : Int32)) = 1 := by
  have e : ((x >>> (p &&& 31)) &&& (1 : Int32)).toInt = zb_c 13 (zb_c 17 x.toInt p.toInt) 1 := by
    have e1 : ((x >>> (p &&& 31)) &&& (1 : Int32)).toInt = (zb 13 (zb 17 x p) 1).toInt := rfl
    rw [e1, zb_cEq 13 _ _ (by omega), zb_cEq 17 _ _ (by omega)]
    rfl
  have ex : x.toInt = (x.toInt.toNat : Int) := (Int.toNat_of_nonneg hx).symm
  have xh := zq_hi x
  have u : x.toInt.toNat / 2 ^ k ≤ x.toInt.toNat := Nat.div_le_self _ _
  have e1 : (1 : Int) = ((1 : Nat) : Int) := rfl
  rw [hp, ex, zN_shr (by omega) hk, e1, zN_and (by omega) (by omega), Nat.and_one_is_mod] at e
  rcases Nat.mod_two_eq_zero_or_one (x.toInt.toNat / 2 ^ k) with w | w
  · exact Or.inl (zq_ext (by rw [e, w]; rfl))
  · exact Or.inr (zq_ext (by rw [e, w]; rfl))
theorem zsg_one {one : Int32} {k : Nat} (h : one.toInt = (k : Int)) (hk : k < 8) {p : Nat} (hp : p < 8) : zsg ((1 : Int32) <<< (one &&& 31)) 0 p = if p = k then 1 else 0 := by
  obtain ⟨e0, et⟩ := zmk_1 h (by omega)
  have q := zmk_t (p := Int32.ofNat p) (k := p) e0 (zN_toInt (by omega)) (by omega)
  rw [et p] at q
  have z : ((0 : Int32) >>> (Int32.ofNat p &&& 31)) &&& (1 : Int32) = 0 := by
    rcases (by omega : p = 0 ∨ p = 1 ∨ p = 2 ∨ p = 3 ∨ p = 4 ∨ p = 5 ∨ p = 6 ∨ p = 7) with rfl | rfl | rfl | rfl | rfl | rfl | rfl | rfl <;> decide
  unfold zsg
  rw [z]
  unfold zbt at q
  by_cases e : p = k
  · rw [if_pos e]
    rw [decide_eq_true e.symm] at q
    rw [of_decide_eq_true q]
    rfl
  · rw [if_neg e]
    rw [decide_eq_false (show ¬ k = p from fun w => e w.symm)] at q
    have q := of_decide_eq_false q
    rcases zmk_b01 (p := Int32.ofNat p) (k := p) e0 (zN_toInt (by omega)) (by omega) with w | w
    · rw [w]
      rfl
    · exact absurd w q
/-- what is known of a state for the sums -/
theorem zMI {s : zy_S} (h : zI s) : zRg s ∧ zPe s (s.1 1 5).toInt.toNat ∧ zLw (s.1 5 3) (s.1 43 11) (s.1 6) (s.1 49) ∧ (∀ l, l < 24 → s.1 44 (16 + l) = s.1 2 l) ∧ s.1 43 7 = s.1 1 3 ∧ 0 ≤ (s.1 1 3).toInt ∧ (s.1 1 3).toInt ≤ 16777215 ∧ s.1 44 40 = s.1 1 4 := by
  have hP := zPe_of h
  obtain ⟨hw, hg, h1, h2, h3, h4, h5, h6, h7, h8, h9, h10, h11, h12, h13, h14, h15, h16, h17, h18, h19, h20, h21⟩ := h
  exact ⟨hg, hP, h19.2, fun l hl => (h4 l hl).1.symm, h6.1.symm, h6.2.1, h6.2.2, h5.1.symm⟩
theorem zI_end {s t : zy_S} (h : zI s) (u : zUn s t) (g : zRg t) : zI t := zI_un h u g
theorem zMk_refl {s t : zy_S} (u : zUn s t) (g : zRg t) : zMk s t t := ⟨u, g, fun _ _ _ _ => rfl⟩
section ZO
variable {s u t : zy_S} {P : Nat}
/-- one summand of the model's -/
def zmTt (s : zy_S) (x1 x2 : Int32) (w : Nat → Int32) (p k : Nat) : Int32 := if (x1 = 8 ∨ x1 = Int32.ofNat p) ∧ (x2 = 6 ∨ x2 = Int32.ofNat k) then zWx s p k (zvo (s.1 43 7) (Int32.ofNat k)) (fun j => w (4 * k + j)) else 0
theorem zl_202_50 (hP : zPe s P) (hL : zLw (s.1 5 3) (s.1 43 11) (s.1 6) (s.1 49)) (l0 : 0 ≤ (s.1 43 7).toInt) {x1 x2 A : Int32} {p : Nat} (hp : p < P) (k38 : Int32 → Int32 → Int32 → Int32 → zy_S → Option (Int32 × zy_S)) : ∀ (n k : Nat) (acc : Int32) (t : zy_S), k ≤ 6 → 6 - k < n → zMk s u t → acc = A + zsum k (zmTt s x1 x2 (u.1 51) p) → ∃ t', zyF202_50 k38 n x1 x2 acc (Int32.ofNat p) (Int32.ofNat k) t = k38 x1 x2 (A + zsum 6 (zmTt s x1 x2 (u.1 51) p)) (Int32.ofNat (p + 1)) t' ∧ zMk s u t'
  | 0, k, acc, t, hk, hn, h, ha => by omega
  | n + 1, k, acc, t, hk, hn, h, ha => by
    have p8 := hP.2.2.1
    have ek : (Int32.ofNat k).toInt = (k : Int) := zN_toInt (by omega)
    have e7 : t.1 43 7 = s.1 43 7 := h.1.2 43 7 zmt_6.2
    show ∃ t', zyF202_50b k38 (zyF202_50 k38 n) x1 x2 acc (Int32.ofNat p) (Int32.ofNat k) t = _ ∧ _
    unfold zyF202_50b zyF202_70 zyF202_82 zyF202_97 zyF202_98
    rw [e7]
    by_cases h6 : k = 6
    · rw [if_pos (by rw [Int32.le_iff_toInt_le, ek, zq_l6]; omega), ha, h6, zN_succ (by omega)]
      exact ⟨t, rfl, h⟩
    rw [if_neg (by rw [Int32.le_iff_toInt_le, ek, zq_l6]; omega), zN_succ (show k < 2147483646 by omega)]
    have ih := fun acc t h ha => zl_202_50 hP hL l0 (x1 := x1) (x2 := x2) (A := A) hp k38 n (k + 1) acc t (by omega) (by omega) h ha
    have yes : ((x1 = 8 ∨ x1 = Int32.ofNat p) ∧ (x2 = 6 ∨ x2 = Int32.ofNat k)) → ∃ t', ((zyF204 (Int32.ofNat p) (Int32.ofNat k) (s.1 43 7) t).bind fun p1 => zyF202_50 k38 n x1 x2 (acc + p1.1) (Int32.ofNat p) (Int32.ofNat (k + 1)) p1.2) = k38 x1 x2 (A + zsum 6 (zmTt s x1 x2 (u.1 51) p)) (Int32.ofNat (p + 1)) t' ∧ zMk s u t' := fun c => by
      obtain ⟨t1, f1, g1⟩ := zys204 hP hL h hp (m := k) (by omega) l0
      rw [f1, zq_bind]
      refine ih _ t1 g1 ?_
      rw [zsum_s, ← Int32.add_assoc, ← ha]
      congr 1
      unfold zmTt
      rw [if_pos c]
    have no : ¬ ((x1 = 8 ∨ x1 = Int32.ofNat p) ∧ (x2 = 6 ∨ x2 = Int32.ofNat k)) → ∃ t', zyF202_50 k38 n x1 x2 (acc + 0) (Int32.ofNat p) (Int32.ofNat (k + 1)) t = k38 x1 x2 (A + zsum 6 (zmTt s x1 x2 (u.1 51) p)) (Int32.ofNat (p + 1)) t' ∧ zMk s u t' := fun c => by
      refine ih _ t h ?_
      rw [zsum_s, ← Int32.add_assoc, ← ha]
      congr 1
      unfold zmTt
      rw [if_neg c]
    have in2 : (x1 = 8 ∨ x1 = Int32.ofNat p) → ∃ t', (if x2 = (6 : Int32) then ((zyF204 (Int32.ofNat p) (Int32.ofNat k) (s.1 43 7) t).bind fun p1 => zyF202_50 k38 n x1 x2 (acc + p1.1) (Int32.ofNat p) (Int32.ofNat (k + 1)) p1.2) else if x2 ≠ Int32.ofNat k then zyF202_50 k38 n x1 x2 (acc + (0 : Int32)) (Int32.ofNat p) (Int32.ofNat (k + 1)) t else ((zyF204 (Int32.ofNat p) (Int32.ofNat k) (s.1 43 7) t).bind fun p1 => zyF202_50 k38 n x1 x2 (acc + p1.1) (Int32.ofNat p) (Int32.ofNat (k + 1)) p1.2)) = k38 x1 x2 (A + zsum 6 (zmTt s x1 x2 (u.1 51) p)) (Int32.ofNat (p + 1)) t' ∧ zMk s u t' := fun c => by
      by_cases a : x2 = 6
      · rw [if_pos a]
        exact yes ⟨c, Or.inl a⟩
      rw [if_neg a]
      by_cases b : x2 = Int32.ofNat k
      · rw [if_neg (not_not_intro b)]
        exact yes ⟨c, Or.inr b⟩
      · rw [if_pos b]
        exact no (fun q => q.2.elim a b)
    by_cases a : x1 = 8
    · rw [if_pos a]
      exact in2 (Or.inl a)
    rw [if_neg a]
    by_cases b : x1 = Int32.ofNat p
    · rw [if_neg (not_not_intro b)]
      exact in2 (Or.inr b)
    · rw [if_pos b]
      exact no (fun q => q.1.elim a b)
theorem zl_202_38 (hP : zPe s P) (hL : zLw (s.1 5 3) (s.1 43 11) (s.1 6) (s.1 49)) (l0 : 0 ≤ (s.1 43 7).toInt) {x1 x2 : Int32} : ∀ (n p : Nat) (acc : Int32) (t : zy_S), p ≤ P → P - p < n → zMk s u t → acc = zsum p (fun p => zsum 6 (zmTt s x1 x2 (u.1 51) p)) → ∃ t', zyF202_38 n x1 x2 acc (Int32.ofNat p) t = some (zsum P (fun p => zsum 6 (zmTt s x1 x2 (u.1 51) p)), t') ∧ zMk s u t'
  | 0, p, acc, t, hp, hn, h, ha => by omega
  | n + 1, p, acc, t, hp, hn, h, ha => by
    have p8 := hP.2.2.1
    have e6 : t.1 43 6 = s.1 43 6 := h.1.2 43 6 zmt_6.1
    show ∃ t', zyF202_38b (zyF202_38 n) x1 x2 acc (Int32.ofNat p) t = _ ∧ _
    unfold zyF202_38b
    rw [e6]
    by_cases hpP : p = P
    · rw [if_pos (by rw [Int32.le_iff_toInt_le, hP.2.1, zN_toInt (by omega)]; omega), ha, hpP]
      exact ⟨t, rfl, h⟩
    · rw [if_neg (by rw [Int32.le_iff_toInt_le, hP.2.1, zN_toInt (by omega)]; omega)]
      obtain ⟨t1, f1, g1⟩ := zl_202_50 hP hL l0 (x1 := x1) (x2 := x2) (A := acc) (p := p) (by omega) (zyF202_38 n) zy_fu 0 acc t (by omega) (by unfold zy_fu; omega) h (by show acc = acc + 0; rw [Int32.add_zero])
      rw [show (0 : Int32) = Int32.ofNat 0 from rfl, f1]
      refine zl_202_38 hP hL l0 n (p + 1) _ t1 (by omega) (by omega) g1 ?_
      rw [zsum_s p, ← ha]
theorem zop_minds (x1 x2 : Int32) {s : zy_S} (h : zI s) : ∃ r s1 s2, zyF50 x1 x2 s = some (r, s1) ∧ zyF202 x1 x2 s1 = some (r, s2) ∧ zI s2 := by
  obtain ⟨hg, hP, hL, h4, e7, l0, l1, -⟩ := zMI h
  obtain ⟨P, hPP⟩ : ∃ P, P = (s.1 1 5).toInt.toNat := ⟨_, rfl⟩
  rw [← hPP] at hP
  have p8 := hP.2.2.1
  have l6 : (6 : Int32).toInt = 6 := rfl
  have l8 : (8 : Int32).toInt = 8 := rfl
  by_cases hok : (x1 = 8 ∨ (0 ≤ x1.toInt ∧ x1.toInt < (P : Int))) ∧ 0 ≤ x2.toInt ∧ x2.toInt ≤ 6
  · obtain ⟨ho, m0, m6⟩ := hok
    -- the class
    obtain ⟨a, ha⟩ : ∃ a, a = (if x1 = 8 then (((1 : Int32) <<< ((s.1 1 5) &&& 31)) - (1 : Int32)) else (1 : Int32) <<< (x1 &&& 31)) := ⟨_, rfl⟩
    have hsg : ∀ p, p < P → ∀ x : Int32, zsg a 0 p * x = if x1 = 8 ∨ x1 = Int32.ofNat p then x else 0 := fun p hp x => by
      by_cases c : x1 = 8
      · rw [ha, if_pos c, zsg_all hP hp, Int32.one_mul, if_pos (Or.inl c)]
      · rcases ho with q | ⟨q1, q2⟩
        · exact absurd q c
        · rw [ha, if_neg c, zsg_one (k := x1.toInt.toNat) (by omega) (by omega) (by omega)]
          by_cases e : p = x1.toInt.toNat
          · rw [if_pos e, Int32.one_mul, if_pos (Or.inr (zq_ext (by rw [zN_toInt (by omega)]; omega)))]
          · rw [if_neg e, Int32.zero_mul, if_neg (fun w => by
              rcases w with w | w
              · exact c w
              · have := congrArg Int32.toInt w
                rw [zN_toInt (by omega)] at this
                omega)]
    obtain ⟨w, hw⟩ : ∃ w : Nat → Int32, w = fun k => s.1 44 (16 + k) := ⟨_, rfl⟩
    have hK : ∀ m, m < 6 → zKv s P a 0 m (zvo (s.1 1 3) (Int32.ofNat m)) (zvo (s.1 1 3 &&& s.1 1 3) (Int32.ofNat m)) = zsum P (fun p => if x1 = 8 ∨ x1 = Int32.ofNat p then zWx s p m (zvo (s.1 43 7) (Int32.ofNat m)) (fun j => w (4 * m + j)) else 0) := fun m hm => by
      unfold zKv
      refine zsum_congr P (fun p hp => ?_)
      rw [hsg p hp, e7]
      have : zWx s p m (zvo (s.1 1 3) (Int32.ofNat m)) (zwC s m (zvo (s.1 1 3 &&& s.1 1 3) (Int32.ofNat m))) = zWx s p m (zvo (s.1 1 3) (Int32.ofNat m)) (fun j => w (4 * m + j)) := zWx_congr (fun j hj hb => by
        unfold zwC
        rw [Int32.and_self, if_pos hb, hw]
        exact (h4 (4 * m + j) (by omega)).symm)
      rw [this]
    have cls : ∃ t1, zyF50 x1 x2 s = some (if x2 = 6 then zsum 6 (fun m => zsum P (fun p => if x1 = 8 ∨ x1 = Int32.ofNat p then zWx s p m (zvo (s.1 43 7) (Int32.ofNat m)) (fun j => w (4 * m + j)) else 0)) else zsum P (fun p => if x1 = 8 ∨ x1 = Int32.ofNat p then zWx s p x2.toInt.toNat (zvo (s.1 43 7) (Int32.ofNat x2.toInt.toNat)) (fun j => w (4 * x2.toInt.toNat + j)) else 0), t1) ∧ zUn s t1 ∧ zRg t1 := by
      obtain ⟨t0, f0, g0⟩ := zys52 (P := P) (zUn_refl s) hg a 0
      have e13 : t0.1 1 3 = s.1 1 3 := g0.1.2 1 3 zto_14.1
      have last : ∃ t1, zyF50_61 x2 a s = some (if x2 = 6 then zsum 6 (fun m => zsum P (fun p => if x1 = 8 ∨ x1 = Int32.ofNat p then zWx s p m (zvo (s.1 43 7) (Int32.ofNat m)) (fun j => w (4 * m + j)) else 0)) else zsum P (fun p => if x1 = 8 ∨ x1 = Int32.ofNat p then zWx s p x2.toInt.toNat (zvo (s.1 43 7) (Int32.ofNat x2.toInt.toNat)) (fun j => w (4 * x2.toInt.toNat + j)) else 0), t1) ∧ zUn s t1 ∧ zRg t1 := by
        unfold zyF50_61
        rw [f0, zq_bind]
        dsimp only
        rw [e13]
        by_cases c : x2 = 6
        · obtain ⟨t1, f1, g1⟩ := zys54 hP hL g0 (L := s.1 1 3) (K := s.1 1 3) l0 (by rw [Int32.and_self]; exact l0)
          rw [if_neg (not_not_intro c), f1, zq_bind, if_pos c]
          refine ⟨t1, ?_, g1.1, g1.2.1⟩
          unfold zIn
          rw [zsum_congr 6 hK]
        · have n6 : ¬ x2.toInt = 6 := fun q => c (zq_ext q)
          have e2 : Int32.ofNat x2.toInt.toNat = x2 := zq_ext (by rw [zN_toInt (by omega)]; omega)
          obtain ⟨t1, f1, g1, -⟩ := zys55 hP hL g0 (m := x2.toInt.toNat) (by omega) (L := s.1 1 3) (K := s.1 1 3) l0 (by rw [Int32.and_self]; exact l0)
          have hk := hK x2.toInt.toNat (by omega)
          rw [hk, e2] at f1
          rw [if_pos c, f1, zq_bind, if_neg c, e2]
          exact ⟨t1, rfl, g1.1, g1.2.1⟩
      have go : ∀ y : Int32, (y = 0 ↔ ¬ x1 = 8) → ∃ t1, zyF50_28 x1 x2 y s = some (if x2 = 6 then zsum 6 (fun m => zsum P (fun p => if x1 = 8 ∨ x1 = Int32.ofNat p then zWx s p m (zvo (s.1 43 7) (Int32.ofNat m)) (fun j => w (4 * m + j)) else 0)) else zsum P (fun p => if x1 = 8 ∨ x1 = Int32.ofNat p then zWx s p x2.toInt.toNat (zvo (s.1 43 7) (Int32.ofNat x2.toInt.toNat)) (fun j => w (4 * x2.toInt.toNat + j)) else 0), t1) ∧ zUn s t1 ∧ zRg t1 := fun y hy => by
        unfold zyF50_28
        rw [if_neg (show ¬ x2 < 0 by rw [Int32.lt_iff_toInt_lt, zq_l0]; omega), if_pos (show x2 ≤ 6 by rw [Int32.le_iff_toInt_le, l6]; omega)]
        by_cases c : x1 = 8
        · rw [if_neg (fun q => (hy.mp q) c), show zyF51 s = some (((1 : Int32) <<< ((s.1 1 5) &&& 31)) - (1 : Int32), s) from rfl, zq_bind]
          rw [if_pos c] at ha
          rw [← ha]
          exact last
        · rw [if_pos (hy.mpr c)]
          rw [if_neg c] at ha
          rw [← ha]
          exact last
      unfold zyF50 zyF50_11
      by_cases c : x1 = 8
      · rw [if_neg (not_not_intro c), if_pos (show (1 : Int32) ≠ 0 by decide)]
        exact go 1 ⟨fun q => absurd q (by decide), fun q => absurd c q⟩
      · rcases ho with q | ⟨q1, q2⟩
        · exact absurd q c
        · rw [if_pos c, if_neg (show ¬ (0 : Int32) ≠ 0 by decide), zys25_0, zqb_t (decide_eq_true ⟨q1, by rw [hP.1]; exact q2⟩), zq_bind]
          dsimp only
          rw [if_neg (show ¬ (1 : Int32) = 0 by decide)]
          exact go 0 ⟨fun _ => c, fun _ => rfl⟩
    obtain ⟨t1, f1, u1, g1⟩ := cls
    -- the model
    obtain ⟨t2, f2, u2, g2, w2, -⟩ := zys203 (s := s) hg u1 g1
    have l07 : 0 ≤ (s.1 43 7).toInt := by rw [e7]; exact l0
    obtain ⟨t3, f3, g3⟩ := zl_202_38 (u := t2) hP hL l07 (x1 := x1) (x2 := x2) zy_fu 0 0 t2 (Nat.zero_le _) (by unfold zy_fu; omega) (zMk_refl u2 g2) rfl
    have e43 : t1.1 43 6 = s.1 43 6 := u1.2 43 6 zmt_6.1
    have mdl : zyF202 x1 x2 t1 = some (zsum P (fun p => zsum 6 (zmTt s x1 x2 (t2.1 51) p)), t3) := by
      have f3 : zyF202_38 zy_fu x1 x2 0 0 t2 = some (zsum P (fun p => zsum 6 (zmTt s x1 x2 (t2.1 51) p)), t3) := f3
      have w15 : zyF202_15 x1 x2 t1 = some (zsum P (fun p => zsum 6 (zmTt s x1 x2 (t2.1 51) p)), t3) := by
        unfold zyF202_15
        rw [zys179, zqb_t (decide_eq_true ⟨by rw [Int32.toInt_toInt64, zq_j0]; omega, by rw [Int32.toInt_toInt64, show (6 : Int64).toInt = 6 from rfl]; omega⟩), zq_bind]
        dsimp only
        rw [if_pos (show (1 : Int32) ≠ 0 by decide), f2, zq_bind]
        exact f3
      unfold zyF202
      by_cases c : x1 = 8
      · rw [if_pos c]
        exact w15
      · rcases ho with q | ⟨q1, q2⟩
        · exact absurd q c
        · have z6 : zin (t1.1 43 6) 0 8 := by
            rw [e43]
            exact ⟨by rw [hP.2.1]; omega, by rw [hP.2.1]; omega⟩
          rw [if_neg c, zys185 _ _ z6, e43, hP.2.1, zqb_t (decide_eq_true ⟨by rw [Int32.toInt_toInt64]; omega, by rw [Int32.toInt_toInt64]; omega⟩), zq_bind]
          dsimp only
          rw [if_neg (show ¬ (1 : Int32) = 0 by decide)]
          exact w15
    refine ⟨_, t1, t3, f1, ?_, zI_end h g3.1 g3.2.1⟩
    rw [mdl]
    congr 2
    have ew : ∀ p k, k < 6 → zmTt s x1 x2 (t2.1 51) p k = if (x1 = 8 ∨ x1 = Int32.ofNat p) ∧ (x2 = 6 ∨ x2 = Int32.ofNat k) then zWx s p k (zvo (s.1 43 7) (Int32.ofNat k)) (fun j => w (4 * k + j)) else 0 := fun p k hk => by
      unfold zmTt
      by_cases c : (x1 = 8 ∨ x1 = Int32.ofNat p) ∧ (x2 = 6 ∨ x2 = Int32.ofNat k)
      · rw [if_pos c, if_pos c]
        exact zWx_congr (fun j hj _ => by rw [hw]; exact w2 (4 * k + j) (by omega))
      · rw [if_neg c, if_neg c]
    by_cases c : x2 = 6
    · rw [if_pos c, zsum_swap]
      refine zsum_congr 6 (fun k hk => zsum_congr P (fun p hp => ?_))
      rw [ew p k hk]
      by_cases d : x1 = 8 ∨ x1 = Int32.ofNat p
      · rw [if_pos d, if_pos ⟨d, Or.inl c⟩]
      · rw [if_neg d, if_neg (fun q => d q.1)]
    · have n6 : ¬ x2.toInt = 6 := fun q => c (zq_ext q)
      rw [if_neg c]
      refine zsum_congr P (fun p hp => ?_)
      have : zsum 6 (zmTt s x1 x2 (t2.1 51) p) = zsum 6 (fun k => if k = x2.toInt.toNat then (if x1 = 8 ∨ x1 = Int32.ofNat p then zWx s p k (zvo (s.1 43 7) (Int32.ofNat k)) (fun j => w (4 * k + j)) else 0) else 0) := zsum_congr 6 (fun k hk => by
        rw [ew p k hk]
        by_cases e : k = x2.toInt.toNat
        · have e2 : x2 = Int32.ofNat k := zq_ext (by rw [zN_toInt (by omega)]; omega)
          rw [if_pos e]
          by_cases d : x1 = 8 ∨ x1 = Int32.ofNat p
          · rw [if_pos d, if_pos ⟨d, Or.inr e2⟩]
          · rw [if_neg d, if_neg (fun q => d q.1)]
        · rw [if_neg e, if_neg (fun q => by
            rcases q.2 with w | w
            · exact c w
            · have := congrArg Int32.toInt w
              rw [zN_toInt (by omega)] at this
              omega)])
      rw [this, zsum_one 6, if_pos (by omega)]
  · refine ⟨-1, s, s, ?_, ?_, h⟩
    · have bad : ∀ y : Int32, ¬ (0 ≤ x2.toInt ∧ x2.toInt ≤ 6) → zyF50_28 x1 x2 y s = some (-1, s) := fun y q => by
        unfold zyF50_28
        by_cases c : x2.toInt < 0
        · rw [if_pos (show x2 < 0 by rw [Int32.lt_iff_toInt_lt, zq_l0]; exact c)]
        · rw [if_neg (show ¬ x2 < 0 by rw [Int32.lt_iff_toInt_lt, zq_l0]; exact c), if_neg (show ¬ x2 ≤ 6 by rw [Int32.le_iff_toInt_le, l6]; omega)]
      unfold zyF50 zyF50_11
      by_cases c : x1 = 8
      · rw [if_neg (not_not_intro c), if_pos (show (1 : Int32) ≠ 0 by decide)]
        exact bad 1 (fun q => hok ⟨Or.inl c, q⟩)
      · rw [if_pos c, if_neg (show ¬ (0 : Int32) ≠ 0 by decide), zys25_0, zq_bind]
        dsimp only
        by_cases d : 0 ≤ x1.toInt ∧ x1.toInt < (s.1 1 5).toInt
        · rw [zqb_t (decide_eq_true d), if_neg (show ¬ (1 : Int32) = 0 by decide)]
          exact bad 0 (fun q => hok ⟨Or.inr ⟨d.1, by rw [← hP.1]; exact d.2⟩, q⟩)
        · rw [zqb_f (decide_eq_false d), if_pos rfl]
    · have bad : ¬ (0 ≤ x2.toInt ∧ x2.toInt ≤ 6) → zyF202_15 x1 x2 s = some (-1, s) := fun q => by
        unfold zyF202_15
        rw [zys179, zqb_f (decide_eq_false (fun w => q ⟨by have := w.1; rw [Int32.toInt_toInt64, zq_j0] at this; exact this, by have := w.2; rw [Int32.toInt_toInt64, show (6 : Int64).toInt = 6 from rfl] at this; exact this⟩)), zq_bind]
        dsimp only
        rw [if_neg (show ¬ (0 : Int32) ≠ 0 by decide)]
      unfold zyF202
      by_cases c : x1 = 8
      · rw [if_pos c]
        exact bad (fun q => hok ⟨Or.inl c, q⟩)
      · have z6 : zin (s.1 43 6) 0 8 := ⟨by rw [hP.2.1]; omega, by rw [hP.2.1]; omega⟩
        rw [if_neg c, zys185 _ _ z6, hP.2.1, zq_bind]
        dsimp only
        by_cases d : 0 ≤ x1.toInt ∧ x1.toInt < (P : Int)
        · rw [zqb_t (decide_eq_true ⟨by rw [Int32.toInt_toInt64]; exact d.1, by rw [Int32.toInt_toInt64]; exact d.2⟩), if_neg (show ¬ (1 : Int32) = 0 by decide)]
          exact bad (fun q => hok ⟨Or.inr d, q⟩)
        · rw [zqb_f (decide_eq_false (fun w => d ⟨by have := w.1; rw [Int32.toInt_toInt64] at this; exact this, by have := w.2; rw [Int32.toInt_toInt64] at this; exact this⟩)), if_pos rfl]
end ZO
