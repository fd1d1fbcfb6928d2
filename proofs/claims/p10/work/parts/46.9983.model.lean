/-! PART 46.9983: what one minds, in the model. Made by wip/v6/gen_mind.py. -/
theorem zwv_congr {nm nm' : Nat → Int32} (h : ∀ k, k < 6 → nm k = nm' k) : ∀ (cs : List Int32) (p : Bool) (st : List Int32), (∀ c ∈ cs, zpC c) → zwv nm cs p st = zwv nm' cs p st
  | [], p, st, hc => rfl
  | c :: cs, p, st, hc => by
    have ih := fun p st => zwv_congr h cs p st (fun c q => hc c (List.mem_cons_of_mem _ q))
    obtain ⟨c0, c1⟩ := hc c List.mem_cons_self
    have l10 : (10000 : Int32).toInt = 10000 := rfl
    rw [zwv_s, zwv_s]
    simp only [ih]
    by_cases hb : c.toInt < 10000
    · rw [if_pos hb, if_pos hb]
    · have es : (c - (10000 : Int32)).toInt = c.toInt - 10000 := by rw [zq_sub (by rw [l10]; omega) (by rw [l10]; omega), l10]
      rw [if_neg hb, if_neg hb, h _ (by rw [zq_ix]; omega)]
theorem zWv_congr {s : zy_S} {nm nm' : Nat → Int32} (hL : zLw (s.1 5 3) (s.1 43 11) (s.1 6) (s.1 49)) (h : ∀ k, k < 6 → nm k = nm' k) : zWv s nm = zWv s nm' := by
  unfold zWv
  rw [h 0 (by decide)]
  rcases zLw_n hL with ⟨h1, h2⟩ | ⟨h1, h2, h3, h4, h5, h6⟩
  · rw [if_pos h2, if_pos h2]
  · rw [zwv_congr h _ _ _ (zpT_ok h3).2.2]
/-- t is as s in what is told, as u but for the model's own reading and names -/
def zMk (s u t : zy_S) : Prop := zUn s t ∧ zRg t ∧ ∀ a k, a ≠ 43 → a ≠ 50 → t.1 a k = u.1 a k
theorem zMk_up {s u t : zy_S} {c k : Nat} {x : Int32} (h : zMk s u t) (hc : zto c k = false) (h5 : c = 43 ∨ c = 50) (hx : k < zrn c → zin x (zrg c k).1 (zrg c k).2) : zMk s u (zy_up t c k x) := by
  refine ⟨zUn_up h.1 hc, zRg_up h.2.1 hx, fun a b a5 a7 => ?_⟩
  rw [zf_up (show a ≠ c by omega)]
  exact h.2.2 a b a5 a7
theorem zmk_rg : zrn 50 = 6 ∧ zrn 51 = 24 ∧ (∀ k, k < 6 → zrg 50 k = (-2147483648, 2147483647)) ∧ ∀ k, k < 24 → zrg 51 k = (-2147483648, 2147483647) := by decide +kernel
theorem zmk_50 {s u t : zy_S} {k : Nat} {x : Int32} (h : zMk s u t) (hk : k < 6) : zMk s u (zy_up t 50 k x) := by
  obtain ⟨-, -, r50, -⟩ := zmk_rg
  exact zMk_up h rfl (Or.inr rfl) (fun _ => by rw [r50 k hk]; exact zin_full x)
theorem zvo_nat {L : Int32} {m : Nat} (l0 : 0 ≤ L.toInt) (hm : m ≤ 6) : (zvo L (Int32.ofNat m)).toInt.toNat = L.toInt.toNat / 2 ^ (4 * m) &&& 15 := by
  have em : (Int32.ofNat m).toInt = (m : Int) := zN_toInt (by omega)
  have e : (zvo L (Int32.ofNat m)).toInt = zb_c 13 (zb_c 17 L.toInt ((4 : Int32) * Int32.ofNat m).toInt) 15 := by
    have e1 : (zvo L (Int32.ofNat m)).toInt = (zb 13 (zb 17 L ((4 : Int32) * Int32.ofNat m)) 15).toInt := rfl
    rw [e1, zb_cEq 13 _ _ (by omega), zb_cEq 17 _ _ (by omega)]
    rfl
  have e4 : ((4 : Int32) * Int32.ofNat m).toInt = ((4 * m : Nat) : Int) := by rw [zq_mul (by rw [zq_l4, em]; omega) (by rw [zq_l4, em]; omega), zq_l4, em]; omega
  have el : L.toInt = (L.toInt.toNat : Int) := (Int.toNat_of_nonneg l0).symm
  have lh := zq_hi L
  have u : L.toInt.toNat / 2 ^ (4 * m) ≤ L.toInt.toNat := Nat.div_le_self _ _
  have e15 : (15 : Int) = ((15 : Nat) : Int) := rfl
  rw [e4, el, zN_shr (by omega) (by omega), e15, zN_and (by omega) (by omega)] at e
  rw [e, Int.toNat_natCast]
theorem zvo_bit {L p : Int32} {m j : Nat} (l0 : 0 ≤ L.toInt) (hm : m < 6) (hj : j < 4) (hp : p.toInt = ((4 * m + j : Nat) : Int)) : zbt (zvo L (Int32.ofNat m)) (Int32.ofNat j) = zbt L p := by
  obtain ⟨w0, w1⟩ := zvo_in (m := Int32.ofNat m) l0 (zN_toInt (by omega)) (show m ≤ 6 by omega)
  rw [zmk_t w0 (zN_toInt (show j < 2147483648 by omega)) (by omega), zmk_t l0 hp (by omega), zvo_nat l0 (by omega), Nat.testBit_and, Nat.testBit_div_two_pow]
  have e15 : Nat.testBit 15 j = true := by
    rcases (by omega : j = 0 ∨ j = 1 ∨ j = 2 ∨ j = 3) with rfl | rfl | rfl | rfl <;> rfl
  rw [e15, Bool.and_true, Nat.add_comm]
theorem zl4m {m j : Nat} (hm : m < 6) (hj : j ≤ 4) : ((4 : Int32) * Int32.ofNat m + Int32.ofNat j).toInt = ((4 * m + j : Nat) : Int) := by
  have em : (Int32.ofNat m).toInt = (m : Int) := zN_toInt (by omega)
  have ej : (Int32.ofNat j).toInt = (j : Int) := zN_toInt (by omega)
  have e4 : ((4 : Int32) * Int32.ofNat m).toInt = 4 * (m : Int) := by rw [zq_mul (by rw [zq_l4, em]; omega) (by rw [zq_l4, em]; omega), zq_l4, em]
  rw [zq_add (by rw [e4, ej]; omega) (by rw [e4, ej]; omega), e4, ej]
  omega
theorem zmt_6 : zto 43 6 = true ∧ zto 43 7 = true := by decide +kernel
theorem zmk_and2 {a b : Int32} (ha : 0 ≤ a.toInt) (hb : 0 ≤ b.toInt) : 0 ≤ (a &&& b).toInt ∧ ∀ j, (a &&& b).toInt.toNat.testBit j = (a.toInt.toNat.testBit j && b.toInt.toNat.testBit j) := by
  have e : (a &&& b).toInt = zb_c 13 a.toInt b.toInt := zb_cEq 13 _ _ (by omega)
  have ea : a.toInt = (a.toInt.toNat : Int) := (Int.toNat_of_nonneg ha).symm
  have eb : b.toInt = (b.toInt.toNat : Int) := (Int.toNat_of_nonneg hb).symm
  have ah := zq_hi a
  have bh := zq_hi b
  rw [ea, eb, zN_and (by omega) (by omega)] at e
  have en : (a &&& b).toInt.toNat = a.toInt.toNat &&& b.toInt.toNat := by omega
  refine ⟨by omega, fun j => ?_⟩
  rw [en, Nat.testBit_and]
section ZN2
variable {s u t : zy_S}
theorem zl_207 {v L : Int32} (h0 : 0 ≤ v.toInt) (h3 : v.toInt ≤ 3) (l0 : 0 ≤ L.toInt) {m : Nat} (hm : m < 6) (s : zy_S) : ∀ (n i : Nat) (x3 x4 : Int32), i ≤ 4 → 4 - i < n →
    ((zNr v.toInt (fun j => zbt (zvo L (Int32.ofNat m)) (Int32.ofNat j)) i = -1 ∧ x3 = -1 ∧ x4 = 4) ∨ (zNr v.toInt (fun j => zbt (zvo L (Int32.ofNat m)) (Int32.ofNat j)) i ≠ -1 ∧ x3.toInt = 4 * (m : Int) + zNr v.toInt (fun j => zbt (zvo L (Int32.ofNat m)) (Int32.ofNat j)) i ∧ x4.toInt = max (zNr v.toInt (fun j => zbt (zvo L (Int32.ofNat m)) (Int32.ofNat j)) i - v.toInt) (v.toInt - zNr v.toInt (fun j => zbt (zvo L (Int32.ofNat m)) (Int32.ofNat j)) i))) →
    ∃ r, zyF207_8 n L (Int32.ofNat m) v x3 x4 (Int32.ofNat i) s = some (r, s) ∧ ((zNr v.toInt (fun j => zbt (zvo L (Int32.ofNat m)) (Int32.ofNat j)) 4 = -1 ∧ r = -1) ∨ (zNr v.toInt (fun j => zbt (zvo L (Int32.ofNat m)) (Int32.ofNat j)) 4 ≠ -1 ∧ r.toInt = 4 * (m : Int) + zNr v.toInt (fun j => zbt (zvo L (Int32.ofNat m)) (Int32.ofNat j)) 4))
  | 0, i, x3, x4, hi, hn, hx => by omega
  | n + 1, i, x3, x4, hi, hn, hx => by
    obtain ⟨B, hB⟩ : ∃ B : Nat → Bool, B = fun j => zbt (zvo L (Int32.ofNat m)) (Int32.ofNat j) := ⟨_, rfl⟩
    have ih := fun x3 x4 => zl_207 (L := L) (m := m) h0 h3 l0 hm s n (i + 1) x3 x4
    rw [← hB] at hx ih ⊢
    show ∃ r, zyF207_8b (zyF207_8 n) L (Int32.ofNat m) v x3 x4 (Int32.ofNat i) s = _ ∧ _
    unfold zyF207_8b zyF207_31 zyF207_64
    have ei : (Int32.ofNat i).toInt = (i : Int) := zN_toInt (by omega)
    by_cases h4 : i = 4
    · rw [if_pos (by rw [Int32.le_iff_toInt_le, ei, zq_l4]; omega)]
      refine ⟨x3, rfl, ?_⟩
      rw [h4] at hx
      rcases hx with ⟨a, b, c⟩ | ⟨a, b, c⟩
      · exact Or.inl ⟨a, b⟩
      · exact Or.inr ⟨a, b⟩
    rw [if_neg (by rw [Int32.le_iff_toInt_le, ei, zq_l4]; omega)]
    have bi : zbt L ((4 : Int32) * Int32.ofNat m + Int32.ofNat i) = B i := by
      rw [hB]
      exact (zvo_bit l0 hm (by omega) (zl4m hm (by omega))).symm
    have e4m := zl4m (m := m) (j := i) hm (by omega)
    have b1 : i + 1 ≤ 4 := by omega
    have b2 : 4 - (i + 1) < n := by omega
    have hne := zNr_in v.toInt B i
    have key : ∀ y : Int32, y.toInt = max ((i : Int) - v.toInt) (v.toInt - i) → ∃ r, ((zyF208 L ((4 : Int32) * Int32.ofNat m + Int32.ofNat i) s).bind fun p1 => if p1.1 = 0 then zyF207_8 n L (Int32.ofNat m) v x3 x4 (Int32.ofNat i + 1) p1.2 else if x4 ≤ y then zyF207_8 n L (Int32.ofNat m) v x3 x4 (Int32.ofNat i + 1) p1.2 else zyF207_8 n L (Int32.ofNat m) v ((4 : Int32) * Int32.ofNat m + Int32.ofNat i) y (Int32.ofNat i + 1) p1.2) = some (r, s) ∧ ((zNr v.toInt B 4 = -1 ∧ r = -1) ∨ (zNr v.toInt B 4 ≠ -1 ∧ r.toInt = 4 * (m : Int) + zNr v.toInt B 4)) := fun y hy => by
      rw [zys208, zq_bind, bi, zN_succ (by omega)]
      dsimp only
      cases hb : B i with
      | false =>
        rw [if_pos (by decide)]
        refine ih x3 x4 b1 b2 ?_
        rw [zNr_s, if_neg (fun w => by rw [hb] at w; cases w.1)]
        exact hx
      | true =>
        rw [if_neg (by decide)]
        by_cases hle : x4 ≤ y
        · rw [if_pos hle]
          rw [Int32.le_iff_toInt_le] at hle
          refine ih x3 x4 b1 b2 ?_
          rcases hx with ⟨a, b, c⟩ | ⟨a, b, c⟩
          · exfalso
            rw [c, zq_l4] at hle
            omega
          · rw [zNr_s, if_neg (fun w => by
              rcases w.2 with q | q
              · exact a q
              · omega)]
            exact Or.inr ⟨a, b, c⟩
        · rw [if_neg hle]
          rw [Int32.le_iff_toInt_le] at hle
          refine ih _ y b1 b2 ?_
          have cc : zNr v.toInt B i = -1 ∨ max ((i : Int) - v.toInt) (v.toInt - i) < max (zNr v.toInt B i - v.toInt) (v.toInt - zNr v.toInt B i) := by
            rcases hx with ⟨a, b, c⟩ | ⟨a, b, c⟩
            · exact Or.inl a
            · rw [← c, ← hy]
              exact Or.inr (by clear hne; omega)
          have st : zNr v.toInt B (i + 1) = (i : Int) := by
            rw [zNr_s, if_pos ⟨hb, cc⟩]
          rw [st]
          exact Or.inr ⟨by omega, by rw [e4m]; omega, hy⟩
    by_cases hle : Int32.ofNat i ≤ v
    · rw [if_pos hle]
      rw [Int32.le_iff_toInt_le, ei] at hle
      exact key _ (by rw [zq_sub (by rw [ei]; omega) (by rw [ei]; omega), ei]; omega)
    · rw [if_neg hle]
      rw [Int32.le_iff_toInt_le, ei] at hle
      exact key _ (by rw [zq_sub (by rw [ei]; omega) (by rw [ei]; omega), ei]; omega)
theorem zys207 {v L : Int32} (h0 : 0 ≤ v.toInt) (h3 : v.toInt ≤ 3) (l0 : 0 ≤ L.toInt) {m : Nat} (hm : m < 6) (s : zy_S) : ∃ r, zyF207 L (Int32.ofNat m) v s = some (r, s) ∧ ((zNr v.toInt (fun j => zbt (zvo L (Int32.ofNat m)) (Int32.ofNat j)) 4 = -1 ∧ r = -1) ∨ (zNr v.toInt (fun j => zbt (zvo L (Int32.ofNat m)) (Int32.ofNat j)) 4 ≠ -1 ∧ r.toInt = 4 * (m : Int) + zNr v.toInt (fun j => zbt (zvo L (Int32.ofNat m)) (Int32.ofNat j)) 4)) := by
  unfold zyF207
  exact zl_207 h0 h3 l0 hm s zy_fu 0 (-1) 4 (by decide) (by unfold zy_fu; omega) (Or.inl ⟨rfl, rfl, rfl⟩)
theorem zys155 (v : Int32) (s : zy_S) : zyF204_155 v s = some (zclp v, s) := by
  have l99 : (99 : Int32).toInt = 99 := rfl
  unfold zyF204_155 zclp
  by_cases h : v.toInt < 0
  · rw [if_neg (by rw [Int32.le_iff_toInt_le, zq_l0]; omega), if_pos h]
  · rw [if_pos (by rw [Int32.le_iff_toInt_le, zq_l0]; omega), if_neg h]
    by_cases k : 99 < v.toInt
    · rw [if_neg (by rw [Int32.le_iff_toInt_le, l99]; omega), if_pos k]
    · rw [if_pos (by rw [Int32.le_iff_toInt_le, l99]; omega), if_neg k]
theorem zys204 {P : Nat} (hP : zPe s P) (hL : zLw (s.1 5 3) (s.1 43 11) (s.1 6) (s.1 49)) (h : zMk s u t) {p m : Nat} (hp : p < P) (hm : m < 6) {L : Int32} (l0 : 0 ≤ L.toInt) : ∃ t', zyF204 (Int32.ofNat p) (Int32.ofNat m) L t = some (zWx s p m (zvo L (Int32.ofNat m)) (fun j => u.1 51 (4 * m + j)), t') ∧ zMk s u t' := by
  obtain ⟨p1, p2, p8, pb, pst⟩ := id hP
  have em : (Int32.ofNat m).toInt = (m : Int) := zN_toInt (by omega)
  have ep : (Int32.ofNat p).toInt = (p : Int) := zN_toInt (by omega)
  have e44 : ∀ k, t.1 44 k = s.1 44 k := fun k => h.1.2 44 k rfl
  have e51 : ∀ k, t.1 51 k = u.1 51 k := fun k => h.2.2 51 k (by decide) (by decide)
  have t11 : t.1 43 11 = s.1 43 11 := h.1.2 43 11 zks_rg.2.2.2.2.2.1
  obtain ⟨b0, b1⟩ := (pb p (by omega)).2
  obtain ⟨v0, v3⟩ := zvf_in (B := s.1 3 p) (m := Int32.ofNat m) (k := m) b0 em (by omega)
  obtain ⟨x, hx⟩ : ∃ x, x = zvo L (Int32.ofNat m) := ⟨_, rfl⟩
  obtain ⟨x0, x1⟩ := zvo_in (m := Int32.ofNat m) l0 em (show m ≤ 6 by omega)
  obtain ⟨r, f207, hr⟩ := zys207 (L := L) (m := m) v0 v3 l0 hm t
  rw [← hx] at hr x0 x1 ⊢
  obtain ⟨V, hV⟩ : ∃ V, V = zvw2 s p m := ⟨_, rfl⟩
  have hV2 : (zvf (s.1 3 p) (Int32.ofNat m)).toInt = V := hV.symm
  rw [hV2] at v0 v3 hr
  obtain ⟨F, hF⟩ : ∃ F, F = zNr V (fun j => zbt x (Int32.ofNat j)) 4 := ⟨_, rfl⟩
  have hne := zNr_in V (fun j => zbt x (Int32.ofNat j)) 4
  rw [← hF] at hr hne
  have nm0 : ∀ w, zwm s p m x w 0 = zof V F := fun w => by rw [hF, hV]; rfl
  -- with the off and the line
  have last : ∀ o : Int32, o = zof V F → ∃ t', zyF204_54 (Int32.ofNat p) (Int32.ofNat m) L (zvf (s.1 3 p) (Int32.ofNat m)) r o t = some (zWx s p m x (fun j => u.1 51 (4 * m + j)), t') ∧ zMk s u t' := fun o ho => by
    unfold zyF204_54
    rw [t11]
    by_cases hn : (s.1 43 11).toInt < 0
    · rw [if_pos (by rw [Int32.lt_iff_toInt_lt, zq_l0]; exact hn), zys155]
      refine ⟨t, ?_, h⟩
      unfold zWx zWv
      rw [if_pos hn, nm0, ho]
    · have hin8 : zy_in ((8 : Int32) + Int32.ofNat p) 41 = true := zq_in.mpr (by rw [zq_add (by rw [zq_l8, ep]; omega) (by rw [zq_l8, ep]; omega), zq_l8, ep]; omega)
      have ix8 : ((8 : Int32) + Int32.ofNat p).toNatClampNeg = 8 + p := by rw [zq_ix, zq_add (by rw [zq_l8, ep]; omega) (by rw [zq_l8, ep]; omega), zq_l8, ep]; omega
      rw [if_neg (by rw [Int32.lt_iff_toInt_lt, zq_l0]; exact hn), if_pos hin8, ix8, e44, ← (pst p (by omega)).1]
      have tail : ∀ w : Int32, w = (if F = -1 then 0 else u.1 51 (4 * m + F.toNat)) → ∃ t', zyF204_118 (Int32.ofNat m) L (zvf (s.1 3 p) (Int32.ofNat m)) w 3 (zy_up (zy_up (zy_up t 50 0 o) 50 1 (s.1 4 p)) 50 2 (Int32.ofNat m)) = some (zWx s p m x (fun j => u.1 51 (4 * m + j)), t') ∧ zMk s u t' := fun w hw => by
        have hx' : (L >>> (((4 : Int32) * Int32.ofNat m) &&& 31)) &&& (15 : Int32) = x := hx.symm
        have i3 : (3 : Int32).toNatClampNeg = 3 := by decide
        unfold zyF204_118
        rw [if_pos (by decide), hx', i3, zys209 _ x0 (by omega), zq_bind]
        dsimp only
        obtain ⟨T, hT⟩ : ∃ T, T = zy_up (zy_up (zy_up (zy_up (zy_up (zy_up t 50 0 o) 50 1 (s.1 4 p)) 50 2 (Int32.ofNat m)) 50 3 w) 50 4 (zpc x)) 50 5 (zvf (s.1 3 p) (Int32.ofNat m)) := ⟨_, rfl⟩
        have kT : zMk s u T := by
          rw [hT]
          exact zmk_50 (zmk_50 (zmk_50 (zmk_50 (zmk_50 (zmk_50 h (by decide)) (by decide)) (by decide)) (by decide)) (by decide)) (by decide)
        have nT : ∀ k, k < 6 → T.1 50 k = zwm s p m x (fun j => u.1 51 (4 * m + j)) k := fun k hk => by
          rw [hT]
          rcases (by omega : k = 0 ∨ k = 1 ∨ k = 2 ∨ k = 3 ∨ k = 4 ∨ k = 5) with rfl | rfl | rfl | rfl | rfl | rfl
          · exact ho.trans (nm0 _).symm
          · rfl
          · rfl
          · show w = if zNr (zvw2 s p m) (fun j => zbt x (Int32.ofNat j)) 4 = -1 then 0 else u.1 51 (4 * m + (zNr (zvw2 s p m) (fun j => zbt x (Int32.ofNat j)) 4).toNat)
            rw [← hV, ← hF]
            exact hw
          · rfl
          · rfl
        rw [← hT, show (zy_up (zy_up (zy_up (zy_up t 50 0 o) 50 1 (s.1 4 p)) 50 2 (Int32.ofNat m)) 50 3 w).1 43 11 = s.1 43 11 from t11]
        rcases zLw_n hL with ⟨h1, h2⟩ | ⟨h1, h2, h3, h4, h5, h6⟩
        · exact absurd h2 hn
        have H : zmH (zy_up (zy_up T 43 12 0) 43 14 (s.1 43 11)) (s.1 43 11).toNatClampNeg (s.1 49) := ⟨h1, h2, Or.inr ⟨rfl, funext fun k => ((kT.1.2 49 k rfl).symm)⟩⟩
        obtain ⟨val, ov, e, ho2, hv⟩ := zys191 (nm := T.1 50) (u := T) (x1 := 0) (x2 := s.1 43 11) rfl H h3
        obtain ⟨r9, r11, r12, r13, r14, r15, r16, -⟩ := zlrm
        obtain ⟨-, -, -, -, -, t12, t13, t14, t15, t16, -⟩ := zto_9
        rw [e, zq_bind]
        dsimp only
        rw [zys155, hv h4]
        have ea : zwv (T.1 50) (zpT (zpN (s.1 49) (s.1 43 11).toNatClampNeg)).2.2 false [] = zWx s p m x (fun j => u.1 51 (4 * m + j)) := by
          unfold zWx zWv
          rw [if_neg hn, zwv_congr nT _ _ _ (zpT_ok h3).2.2]
        rw [ea]
        refine ⟨_, rfl, ?_⟩
        · have k1 := zpF_in (q := zpT (zpN (s.1 49) (s.1 43 11).toNatClampNeg)) (zpT_ok h3).1 h2
          refine zMk_up (zMk_up (zMk_up (zMk_up (zMk_up kT t12 (Or.inl rfl) (fun _ => ?_)) t14 (Or.inl rfl) (fun _ => ?_)) t13 (Or.inl rfl) (fun _ => ?_)) t15 (Or.inl rfl) (fun _ => ?_)) t16 (Or.inl rfl) (fun _ => ?_)
          · rw [r12]
            exact ⟨by decide, by decide⟩
          · rw [r14, h1]
            unfold zin
            rw [zN_toInt (by omega)]
            omega
          · rw [r13]
            have := (zpT_ok h3).1
            unfold zin
            rw [zN_toInt (by omega)]
            omega
          · rw [r15]
            exact k1
          · rw [r16]
            exact ho2
      rcases hr with ⟨q1, q2⟩ | ⟨q1, q2⟩
      · rw [if_neg (show ¬ (0 : Int32) ≤ r by rw [q2]; decide)]
        exact tail 0 (by rw [if_pos q1])
      · obtain ⟨j, j1, j2, j3⟩ : ∃ j : Nat, j < 4 ∧ F = (j : Int) ∧ zbt x (Int32.ofNat j) = true := by
          rcases hne with q | q
          · exact absurd q q1
          · exact q
        have ir : r.toNatClampNeg = 4 * m + F.toNat := by rw [zq_ix, q2]; omega
        rw [if_pos (show (0 : Int32) ≤ r by rw [Int32.le_iff_toInt_le, zq_l0]; omega), if_pos (zq_in.mpr (by omega)), e51, ir]
        exact tail _ (by rw [if_neg q1])
  have hin41 : zy_in (Int32.ofNat p) 41 = true := zq_in.mpr (by rw [ep]; omega)
  unfold zyF204
  rw [zys205 _ _ hin41, zN_ix (by omega), e44, ← (pb p (by omega)).1, zq_bind]
  dsimp only
  rw [f207, zq_bind]
  dsimp only
  rcases id hr with ⟨q1, q2⟩ | ⟨q1, q2⟩
  · rw [if_neg (show ¬ (0 : Int32) ≤ r by rw [q2]; decide)]
    exact last 4 (by rw [q1]; rfl)
  · obtain ⟨j, j1, j2, j3⟩ : ∃ j : Nat, j < 4 ∧ F = (j : Int) ∧ zbt x (Int32.ofNat j) = true := by
      rcases hne with q | q
      · exact absurd q q1
      · exact q
    have e4m : ((4 : Int32) * Int32.ofNat m).toInt = 4 * (m : Int) := by rw [zq_mul (by rw [zq_l4, em]; omega) (by rw [zq_l4, em]; omega), zq_l4, em]
    have eu : (r - (4 : Int32) * Int32.ofNat m).toInt = (j : Int) := by rw [zq_sub (by rw [e4m]; omega) (by rw [e4m]; omega), e4m]; omega
    rw [if_pos (show (0 : Int32) ≤ r by rw [Int32.le_iff_toInt_le, zq_l0]; omega)]
    by_cases hle : r - (4 : Int32) * Int32.ofNat m ≤ zvf (s.1 3 p) (Int32.ofNat m)
    · rw [if_pos hle]
      rw [Int32.le_iff_toInt_le, eu, hV2] at hle
      refine last _ (zq_ext ?_)
      unfold zof
      rw [if_neg q1, Int32.toInt_ofInt_of_le (by omega) (by omega), zq_sub (by rw [eu, hV2]; omega) (by rw [eu, hV2]; omega), eu, hV2]
      omega
    · rw [if_neg hle]
      rw [Int32.le_iff_toInt_le, eu, hV2] at hle
      refine last _ (zq_ext ?_)
      unfold zof
      rw [if_neg q1, Int32.toInt_ofInt_of_le (by omega) (by omega), zq_sub (by rw [eu, hV2]; omega) (by rw [eu, hV2]; omega), eu, hV2]
      omega
/-- what a board is minded in the model, with its row of WORN -/
def zAl (s : zy_S) (P : Nat) (L : Int32) (w : Nat → Int32) : Int32 := zsum P (fun p => zsum 6 (fun m => zWx s p m (zvo L (Int32.ofNat m)) (fun j => w (4 * m + j))))
theorem zl_213 {P : Nat} (hP : zPe s P) (hL : zLw (s.1 5 3) (s.1 43 11) (s.1 6) (s.1 49)) {p : Nat} (hp : p < P) {L : Int32} (l0 : 0 ≤ L.toInt) : ∀ (n m : Nat) (acc : Int32) (t : zy_S), m ≤ 6 → 6 - m < n → zMk s u t → acc = zsum m (fun m => zWx s p m (zvo L (Int32.ofNat m)) (fun j => u.1 51 (4 * m + j))) → ∃ t', zyF213_5 n (Int32.ofNat p) L acc (Int32.ofNat m) t = some (zsum 6 (fun m => zWx s p m (zvo L (Int32.ofNat m)) (fun j => u.1 51 (4 * m + j))), t') ∧ zMk s u t'
  | 0, m, acc, t, hm, hn, h, ha => by omega
  | n + 1, m, acc, t, hm, hn, h, ha => by
    show ∃ t', zyF213_5b (zyF213_5 n) (Int32.ofNat p) L acc (Int32.ofNat m) t = _ ∧ _
    unfold zyF213_5b
    by_cases h6 : m = 6
    · rw [if_pos (by rw [Int32.le_iff_toInt_le, zN_toInt (by omega), zq_l6]; omega), ha, h6]
      exact ⟨t, rfl, h⟩
    · rw [if_neg (by rw [Int32.le_iff_toInt_le, zN_toInt (by omega), zq_l6]; omega)]
      obtain ⟨t1, f1, g1⟩ := zys204 hP hL h hp (m := m) (by omega) l0
      rw [f1, zq_bind, zN_succ (by omega)]
      dsimp only
      refine zl_213 hP hL hp l0 n (m + 1) _ t1 (by omega) (by omega) g1 ?_
      rw [zsum_s, ← ha]
theorem zys213 {P : Nat} (hP : zPe s P) (hL : zLw (s.1 5 3) (s.1 43 11) (s.1 6) (s.1 49)) (h : zMk s u t) {p : Nat} (hp : p < P) {L : Int32} (l0 : 0 ≤ L.toInt) : ∃ t', zyF213 (Int32.ofNat p) L t = some (zsum 6 (fun m => zWx s p m (zvo L (Int32.ofNat m)) (fun j => u.1 51 (4 * m + j))), t') ∧ zMk s u t' := by
  unfold zyF213
  exact zl_213 hP hL hp l0 zy_fu 0 0 t (Nat.zero_le _) (by unfold zy_fu; omega) h rfl
theorem zl_212 {P : Nat} (hP : zPe s P) (hL : zLw (s.1 5 3) (s.1 43 11) (s.1 6) (s.1 49)) {L : Int32} (l0 : 0 ≤ L.toInt) : ∀ (n p : Nat) (acc : Int32) (t : zy_S), p ≤ P → P - p < n → zMk s u t → acc = zsum p (fun p => zsum 6 (fun m => zWx s p m (zvo L (Int32.ofNat m)) (fun j => u.1 51 (4 * m + j)))) → ∃ t', zyF212_4 n L acc (Int32.ofNat p) t = some (zAl s P L (u.1 51), t') ∧ zMk s u t'
  | 0, p, acc, t, hp, hn, h, ha => by omega
  | n + 1, p, acc, t, hp, hn, h, ha => by
    have p8 := hP.2.2.1
    have e6 : t.1 43 6 = s.1 43 6 := h.1.2 43 6 zmt_6.1
    show ∃ t', zyF212_4b (zyF212_4 n) L acc (Int32.ofNat p) t = _ ∧ _
    unfold zyF212_4b
    rw [e6]
    by_cases hpP : p = P
    · rw [if_pos (by rw [Int32.le_iff_toInt_le, hP.2.1, zN_toInt (by omega)]; omega), ha, hpP]
      exact ⟨t, rfl, h⟩
    · rw [if_neg (by rw [Int32.le_iff_toInt_le, hP.2.1, zN_toInt (by omega)]; omega)]
      obtain ⟨t1, f1, g1⟩ := zys213 hP hL h (p := p) (by omega) l0
      rw [f1, zq_bind, zN_succ (by omega)]
      dsimp only
      refine zl_212 hP hL l0 n (p + 1) _ t1 (by omega) (by omega) g1 ?_
      rw [zsum_s p, ← ha]
theorem zys212 {P : Nat} (hP : zPe s P) (hL : zLw (s.1 5 3) (s.1 43 11) (s.1 6) (s.1 49)) (h : zMk s u t) {L : Int32} (l0 : 0 ≤ L.toInt) : ∃ t', zyF212 L t = some (zAl s P L (u.1 51), t') ∧ zMk s u t' := by
  unfold zyF212
  have := hP.2.2.1
  exact zl_212 hP hL l0 zy_fu 0 0 t (Nat.zero_le _) (by unfold zy_fu; omega) h rfl
/-- the model begins: the row of WORN is as it is -/
theorem zl_203 (hr : zRg s) : ∀ (n l : Nat) (t : zy_S), l ≤ 24 → 24 - l < n → zUn s t → zRg t → (∀ k, k < l → t.1 51 k = s.1 44 (16 + k)) → (∀ a k, a ≠ 51 → t.1 a k = u.1 a k) → ∃ t', zyF203_2 n (Int32.ofNat l) t = some (0, t') ∧ zUn s t' ∧ zRg t' ∧ (∀ k, k < 24 → t'.1 51 k = s.1 44 (16 + k)) ∧ ∀ a k, a ≠ 51 → t'.1 a k = u.1 a k
  | 0, l, t, hl, hn, h1, h2, h3, h4 => by omega
  | n + 1, l, t, hl, hn, h1, h2, h3, h4 => by
    obtain ⟨-, -, -, r51⟩ := zmk_rg
    have el : (Int32.ofNat l).toInt = (l : Int) := zN_toInt (by omega)
    show ∃ t', zyF203_2b (zyF203_2 n) (Int32.ofNat l) t = _ ∧ _
    unfold zyF203_2b
    by_cases h24 : l = 24
    · rw [if_pos (by rw [Int32.le_iff_toInt_le, el, zq_l24]; omega)]
      exact ⟨t, rfl, h1, h2, fun k hk => h3 k (by omega), h4⟩
    · have e16 : ((16 : Int32) + Int32.ofNat l).toInt = 16 + (l : Int) := by rw [zq_add (by rw [zq_l16, el]; omega) (by rw [zq_l16, el]; omega), zq_l16, el]
      rw [if_neg (by rw [Int32.le_iff_toInt_le, el, zq_l24]; omega), if_pos (zq_in.mpr (by rw [e16]; omega)), if_pos (zq_in.mpr (by rw [el]; omega)), zN_ix (by omega), show ((16 : Int32) + Int32.ofNat l).toNatClampNeg = 16 + l by rw [zq_ix, e16]; omega, zN_succ (by omega), h1.2 44 (16 + l) rfl]
      refine zl_203 hr n (l + 1) _ (by omega) (by omega) (zUn_up h1 rfl) (zRg_up h2 (fun _ => by rw [r51 l (by omega)]; exact zin_full _)) (fun k hk => ?_) (fun a k ha => by rw [zf_up ha]; exact h4 a k ha)
      by_cases e : k = l
      · rw [e, zf_upe]
      · rw [zf_upk e]
        exact h3 k (by omega)
theorem zys203 (hr : zRg s) (h1 : zUn s t) (h2 : zRg t) : ∃ t', zyF203 t = some (0, t') ∧ zUn s t' ∧ zRg t' ∧ (∀ k, k < 24 → t'.1 51 k = s.1 44 (16 + k)) ∧ ∀ a k, a ≠ 51 → t'.1 a k = t.1 a k := by
  unfold zyF203
  exact zl_203 hr zy_fu 0 t (Nat.zero_le _) (by unfold zy_fu; omega) h1 h2 (fun k hk => by omega) (fun _ _ _ => rfl)
end ZN2
/-- the sums of both sides: all -/
theorem zIn_all {s : zy_S} {P : Nat} (hP : zPe s P) {L K : Int32} {w : Nat → Int32} (l0 : 0 ≤ L.toInt) (k0 : 0 ≤ K.toInt) (hw : ∀ l : Nat, l < 24 → zbt L (Int32.ofNat l) = true → w l = if zbt K (Int32.ofNat l) = true then s.1 2 l else 0) : zIn s P (((1 : Int32) <<< ((s.1 1 5) &&& 31)) - (1 : Int32)) 0 L K = zAl s P L w := by
  unfold zIn zAl
  rw [zsum_swap]
  refine zsum_congr 6 (fun m hm => ?_)
  unfold zKv
  refine zsum_congr P (fun p hp => ?_)
  rw [zsg_all hP hp, Int32.one_mul]
  refine zWx_congr (fun j hj hb => ?_)
  have hp4 : (Int32.ofNat (4 * m + j)).toInt = ((4 * m + j : Nat) : Int) := zN_toInt (by omega)
  rw [zvo_bit l0 hm hj hp4] at hb
  obtain ⟨a0, ab⟩ := zmk_and2 l0 k0
  unfold zwC
  rw [zvo_bit a0 hm hj hp4, hw _ (by omega) hb]
  have e : zbt (L &&& K) (Int32.ofNat (4 * m + j)) = zbt K (Int32.ofNat (4 * m + j)) := by
    rw [zmk_t a0 hp4 (by omega), ab, ← zmk_t l0 hp4 (by omega), hb, Bool.true_and, ← zmk_t k0 hp4 (by omega)]
  rw [e]
