/-! PART 46.9981: what steps are worth, in the class. Made by wip/v6/gen_mind.py. -/
/-- t is as s in what is told, and as u but for the LAW's own cells -/
def zAk (s u t : zy_S) : Prop := zUn s t ∧ zRg t ∧ ∀ a k, a ≠ 5 → a ≠ 7 → a ≠ 8 → t.1 a k = u.1 a k
theorem zAk_up {s u t : zy_S} {c k : Nat} {x : Int32} (h : zAk s u t) (hc : zto c k = false) (h5 : c = 5 ∨ c = 7 ∨ c = 8) (hx : k < zrn c → zin x (zrg c k).1 (zrg c k).2) : zAk s u (zy_up t c k x) := by
  refine ⟨zUn_up h.1 hc, zRg_up h.2.1 hx, fun a b a5 a7 a8 => ?_⟩
  rw [zf_up (show a ≠ c by omega)]
  exact h.2.2 a b a5 a7 a8
theorem zks_rg : zrg 5 4 = (0, 128) ∧ zrn 7 = 128 ∧ zrn 8 = 6 ∧ zto 5 4 = false ∧ zto 5 3 = true ∧ zto 43 11 = true ∧ (∀ k, k < 6 → zrg 8 k = (-2147483648, 2147483647)) ∧ ∀ k, k < 128 → zrg 7 k = (-2147483648, 2147483647) := by decide +kernel
/-- the LAW's stack holds st, its names nm -/
def zKs (s u : zy_S) (nm : Nat → Int32) (st : List Int32) (t : zy_S) : Prop := zAk s u t ∧ st.length ≤ 128 ∧ t.1 5 4 = Int32.ofNat st.length ∧ (∀ j v, st[j]? = some v → t.1 7 (st.length - 1 - j) = v) ∧ ∀ k, k < 6 → t.1 8 k = nm k
section ZK
variable {s u t : zy_S} {nm : Nat → Int32} {st : List Int32}
theorem zkp_push (h : zKs s u nm st t) (hl : st.length < 128) (v : Int32) : ∃ t', zyF66 v t = some (0, t') ∧ zKs s u nm (v :: st) t' := by
  obtain ⟨h1, h2, h3, h4, h5⟩ := h
  obtain ⟨r54, n7, n8, t54, -, -, r8, r7⟩ := zks_rg
  refine ⟨zy_up (zy_up t 7 st.length v) 5 4 (Int32.ofNat (st.length + 1)), ?_, ?_, ?_, ?_, ?_, ?_⟩
  · unfold zyF66
    rw [h3, if_neg (by rw [Int32.le_iff_toInt_le, zN_toInt (by omega), show (128 : Int32).toInt = 128 from rfl]; omega), if_pos (zq_in.mpr (by rw [zN_toInt (by omega)]; omega)), zN_ix (by omega), zN_succ (by omega)]
  · refine zAk_up (zAk_up h1 rfl (Or.inr (Or.inl rfl)) (fun _ => ?_)) t54 (Or.inl rfl) (fun _ => ?_)
    · rw [r7 _ hl]
      exact zin_full v
    · rw [r54]
      unfold zin
      rw [zN_toInt (by omega)]
      omega
  · show st.length + 1 ≤ 128
    omega
  · rfl
  · intro j w hj
    cases j with
    | zero =>
      have hj : v = w := by simpa using hj
      show (zy_up (zy_up t 7 st.length v) 5 4 (Int32.ofNat (st.length + 1))).1 7 (st.length + 1 - 1 - 0) = w
      rw [zf_up (by decide), show st.length + 1 - 1 - 0 = st.length by omega, zf_upe]
      exact hj
    | succ j =>
      have hj : st[j]? = some w := by simpa using hj
      have hlt : j < st.length := (List.getElem?_eq_some_iff.mp hj).1
      show (zy_up (zy_up t 7 st.length v) 5 4 (Int32.ofNat (st.length + 1))).1 7 (st.length + 1 - 1 - (j + 1)) = w
      rw [zf_up (by decide), zf_upk (show st.length + 1 - 1 - (j + 1) ≠ st.length by omega), show st.length + 1 - 1 - (j + 1) = st.length - 1 - j by omega]
      exact h4 j w hj
  · intro k hk
    rw [zf_up (by decide), zf_up (by decide)]
    exact h5 k hk
theorem zkp_pop (h : zKs s u nm st t) : ∃ t', zyF67 t = some (st.headD 0, t') ∧ zKs s u nm st.tail t' := by
  cases st with
  | nil =>
    refine ⟨t, ?_, h⟩
    have h3 : t.1 5 4 = 0 := h.2.2.1
    unfold zyF67
    rw [h3, if_neg (by decide)]
    rfl
  | cons v st =>
    obtain ⟨h1, h2, h3, h4, h5⟩ := h
    obtain ⟨r54, n7, n8, t54, -, -, r8, r7⟩ := zks_rg
    have h2 : st.length + 1 ≤ 128 := h2
    have h3 : t.1 5 4 = Int32.ofNat (st.length + 1) := h3
    have e : Int32.ofNat (st.length + 1) - 1 = Int32.ofNat st.length := zq_ext (by rw [zq_sub (by rw [zN_toInt (by omega), zq_l1]; omega) (by rw [zN_toInt (by omega), zq_l1]; omega), zN_toInt (by omega), zN_toInt (by omega), zq_l1]; omega)
    have e7 : t.1 7 st.length = v := h4 0 v rfl
    refine ⟨zy_up t 5 4 (Int32.ofNat st.length), ?_, ?_, ?_, rfl, ?_, ?_⟩
    · unfold zyF67
      rw [h3, if_pos (by rw [Int32.lt_iff_toInt_lt, zN_toInt (by omega), zq_l0]; omega), e, if_pos (zq_in.mpr (by rw [zN_toInt (by omega)]; omega)), zN_ix (by omega), e7]
      rfl
    · refine zAk_up h1 t54 (Or.inl rfl) (fun _ => ?_)
      rw [r54]
      unfold zin
      rw [zN_toInt (by omega)]
      omega
    · show st.length ≤ 128
      omega
    · intro j w hj
      have hj : st[j]? = some w := hj
      have hlt : j < st.length := (List.getElem?_eq_some_iff.mp hj).1
      have := h4 (j + 1) w hj
      rw [zf_up (by decide)]
      show t.1 7 (st.length - 1 - j) = w
      rw [← this]
      show t.1 7 (st.length - 1 - j) = t.1 7 (st.length + 1 - 1 - (j + 1))
      rw [show st.length + 1 - 1 - (j + 1) = st.length - 1 - j by omega]
    · intro k hk
      rw [zf_up (by decide)]
      exact h5 k hk
theorem zys71 (l c r : Int32) (s : zy_S) : zyF71 l c r s = some (zjw c l r, s) := by
  unfold zyF71
  by_cases h38 : c = 38
  · rw [if_pos h38, h38, zjw_38]
    by_cases a : l = 0
    · rw [if_pos a, if_pos (Or.inl a)]
    · rw [if_neg a]
      by_cases b : r = 0
      · rw [if_pos b, if_pos (Or.inr b)]
      · rw [if_neg b, if_neg (fun q => q.elim a b)]
  rw [if_neg h38]
  by_cases h42 : c = 42
  · rw [if_pos h42, h42, zjw_42]
  rw [if_neg h42]
  by_cases h43 : c = 43
  · rw [if_pos h43, h43, zjw_43]
  rw [if_neg h43]
  by_cases h45 : c = 45
  · rw [if_pos h45, h45, zjw_45]
  rw [if_neg h45]
  by_cases h47 : c = 47
  · rw [if_pos h47, h47, zjw_47]
    by_cases b : r = 0
    · rw [if_neg (not_not_intro b), if_pos b]
    · rw [if_pos b, if_pos b, if_neg b]
  rw [if_neg h47]
  by_cases h60 : c = 60
  · rw [if_pos h60, h60, zjw_60]
    by_cases b : r ≤ l
    · rw [if_pos b, if_neg (show ¬ l < r by rw [Int32.lt_iff_toInt_lt]; rw [Int32.le_iff_toInt_le] at b; omega)]
    · rw [if_neg b, if_pos (show l < r by rw [Int32.lt_iff_toInt_lt]; rw [Int32.le_iff_toInt_le] at b; omega)]
  rw [if_neg h60]
  by_cases h61 : c = 61
  · rw [if_pos h61, h61, zjw_61]
    by_cases b : l = r
    · rw [if_neg (not_not_intro b), if_pos b]
    · rw [if_pos b, if_neg b]
  rw [if_neg h61]
  by_cases h62 : c = 62
  · rw [if_pos h62, h62, zjw_62]
    by_cases b : l ≤ r
    · rw [if_pos b, if_neg (show ¬ r < l by rw [Int32.lt_iff_toInt_lt]; rw [Int32.le_iff_toInt_le] at b; omega)]
    · rw [if_neg b, if_pos (show r < l by rw [Int32.lt_iff_toInt_lt]; rw [Int32.le_iff_toInt_le] at b; omega)]
  rw [if_neg h62]
  by_cases h124 : c = 124
  · rw [if_pos h124, h124, zjw_124]
    by_cases a : l = 0
    · rw [if_neg (not_not_intro a)]
      by_cases b : r = 0
      · rw [if_pos b, if_pos ⟨a, b⟩]
      · rw [if_neg b, if_neg (fun q => b q.2)]
    · rw [if_pos a, if_neg (fun q => a q.1)]
  rw [if_neg h124]
  have e : zjw c l r = if r = 0 then 0 else l - l / r * r := by
    unfold zjw
    rw [if_neg h124, if_neg h38, if_neg h60, if_neg h61, if_neg h62, if_neg h43, if_neg h45, if_neg h42, if_neg h47]
  rw [e]
  by_cases b : r = 0
  · rw [if_neg (not_not_intro b), if_pos b]
  · rw [if_pos b, if_pos b, if_neg b]
theorem zys_clp (v : Int32) (s : zy_S) : ((zyF68 (99 : Int32) v s).bind fun p10 => (zyF69 (0 : Int32) p10.1 p10.2).bind fun p11 => some (p11.1, p11.2)) = some (zclp v, s) := by
  have l99 : (99 : Int32).toInt = 99 := rfl
  unfold zyF68 zyF69 zclp
  by_cases h : v < (99 : Int32)
  · have h' := h
    rw [Int32.lt_iff_toInt_lt, l99] at h'
    rw [if_pos h, zq_bind]
    dsimp only
    by_cases k : (0 : Int32) < v
    · have k' := k
      rw [Int32.lt_iff_toInt_lt, zq_l0] at k'
      rw [if_pos k, zq_bind, if_neg (by omega), if_neg (by omega)]
    · have k' := k
      rw [Int32.lt_iff_toInt_lt, zq_l0] at k'
      rw [if_neg k, zq_bind]
      by_cases z : v.toInt < 0
      · rw [if_pos z]
      · rw [if_neg z, if_neg (by omega)]
        have e : v = 0 := zq_ext (by rw [zq_l0]; omega)
        rw [e]
  · have h' := h
    rw [Int32.lt_iff_toInt_lt, l99] at h'
    rw [if_neg h, zq_bind]
    dsimp only
    rw [if_pos (by decide), zq_bind, if_neg (by omega)]
    by_cases z : 99 < v.toInt
    · rw [if_pos z]
    · rw [if_neg z]
      have e : v = 99 := zq_ext (by rw [l99]; omega)
      rw [e]
theorem zl_65 {CS : List Int32} (hlen : s.1 5 3 = Int32.ofNat CS.length) (h121 : CS.length ≤ 121) (hst : ∀ j c, CS[j]? = some c → s.1 6 j = c) (hC : ∀ c ∈ CS, zpC c) : ∀ (m i : Nat) (x1 : Int32) (p : Bool) (st : List Int32) (t : zy_S), zKs s u nm st t → i ≤ CS.length → CS.length - i < m → st.length ≤ i → x1 = zqb p → ∃ t', zyF65_23 m x1 (Int32.ofNat i) t = some (zwv nm (CS.drop i) p st, t') ∧ zAk s u t'
  | 0, i, x1, p, st, t, h, hi, hm, hs, hx => by omega
  | m + 1, i, x1, p, st, t, h, hi, hm, hs, hx => by
    obtain ⟨a1, a2, a3, a4, a5⟩ := id h
    obtain ⟨r54, n7, n8, t54, t53, -, r8, r7⟩ := zks_rg
    have e53 : t.1 5 3 = Int32.ofNat CS.length := (a1.1.2 5 3 t53).trans hlen
    have l59 : (-59 : Int32).toInt = -59 := rfl
    have l63 : (-63 : Int32).toInt = -63 := rfl
    have l10 : (10000 : Int32).toInt = 10000 := rfl
    show ∃ t', zyF65_23b (zyF65_23 m) x1 (Int32.ofNat i) t = _ ∧ _
    unfold zyF65_23b zyF65_127 zyF65_83 zyF65_53 zyF65_145
    rw [e53]
    by_cases hl : i = CS.length
    · rw [if_pos (by rw [Int32.le_iff_toInt_le, hl]; omega), hl, List.drop_length]
      exact ⟨t, rfl, a1⟩
    have hlt : i < CS.length := by omega
    obtain ⟨c, hc⟩ : ∃ c, CS[i]? = some c := ⟨CS[i], List.getElem?_eq_getElem hlt⟩
    have ed : CS.drop i = c :: CS.drop (i + 1) := by
      rw [List.drop_eq_getElem_cons hlt]
      rw [List.getElem?_eq_getElem hlt] at hc
      rw [Option.some.inj hc]
    have e6 : t.1 6 i = c := (a1.1.2 6 i rfl).trans (hst i c hc)
    obtain ⟨c0, c1⟩ := hC c (List.mem_of_getElem? hc)
    have ih : ∀ (x1 : Int32) (p : Bool) (st : List Int32) (t : zy_S), zKs s u nm st t → st.length ≤ i + 1 → x1 = zqb p → ∃ t', zyF65_23 m x1 (Int32.ofNat (i + 1)) t = some (zwv nm (CS.drop (i + 1)) p st, t') ∧ zAk s u t' := fun x1 p st t h hs hx => zl_65 hlen h121 hst hC m (i + 1) x1 p st t h (by omega) (by omega) hs hx
    rw [if_neg (by rw [Int32.le_iff_toInt_le, zN_toInt (by omega), zN_toInt (by omega)]; omega), if_pos (zq_in.mpr (by rw [zN_toInt (by omega)]; omega)), zN_ix (by omega), e6, ed, zwv_s, zN_succ (by omega)]
    cases p with
    | true =>
      rw [hx, if_neg (show ¬ zqb true = 0 by decide), if_pos (rfl : true = true)]
      by_cases h59 : c.toInt = -59
      · rw [if_pos (show c = -59 from zq_ext h59), decide_eq_false (not_not_intro h59)]
        exact ih 0 false st t h (by omega) rfl
      · rw [if_neg (show ¬ c = -59 from fun q => h59 (by rw [q]; rfl)), decide_eq_true h59]
        exact ih 1 true st t h (by omega) rfl
    | false =>
      rw [hx, if_pos (show zqb false = 0 from rfl), if_neg (show ¬ false = true by decide)]
      by_cases hneg : c.toInt < 0
      · rw [if_pos (show c < 0 by rw [Int32.lt_iff_toInt_lt, zq_l0]; exact hneg), if_neg (show ¬ 0 ≤ c.toInt by omega)]
        by_cases h59 : c.toInt = -59
        · rw [if_neg (show ¬ c ≠ -59 from not_not_intro (zq_ext h59)), if_pos h59]
          obtain ⟨t1, f1, g1⟩ := zkp_pop h
          rw [f1, zq_bind]
          dsimp only
          rw [zys_clp]
          exact ⟨t1, rfl, g1.1⟩
        rw [if_pos (show c ≠ -59 from fun q => h59 (by rw [q]; rfl)), if_neg h59]
        obtain ⟨t1, f1, g1⟩ := zkp_pop h
        have hlt1 : st.tail.length ≤ i := by rw [List.length_tail]; omega
        by_cases h63 : c.toInt = -63
        · rw [if_neg (show ¬ c ≠ -63 from not_not_intro (zq_ext h63)), if_pos h63, f1, zq_bind]
          dsimp only
          by_cases z : st.headD 0 = 0
          · rw [if_neg (not_not_intro z), decide_eq_true z]
            exact ih 1 true st.tail t1 g1 (by omega) rfl
          · rw [if_pos z, decide_eq_false z]
            exact ih 0 false st.tail t1 g1 (by omega) rfl
        rw [if_pos (show c ≠ -63 from fun q => h63 (by rw [q]; rfl)), if_neg h63, f1, zq_bind]
        dsimp only
        have en : (-c).toInt = -c.toInt := zq_neg (by omega)
        have fin : ∀ (w : Int32) (st' : List Int32) (t2 : zy_S), zKs s u nm st' t2 → st'.length ≤ i → ∃ t', ((zyF66 w t2).bind fun p5 => zyF65_23 m (zqb false) (Int32.ofNat (i + 1)) p5.2) = some (zwv nm (CS.drop (i + 1)) false (w :: st'), t') ∧ zAk s u t' := fun w st' t2 g hl2 => by
          obtain ⟨t3, f3, g3⟩ := zkp_push g (by omega) w
          rw [f3, zq_bind]
          exact ih _ false (w :: st') t3 g3 (by show st'.length + 1 ≤ i + 1; omega) rfl
        unfold zyF70
        by_cases h33 : c.toInt = -33
        · rw [if_pos (show -c = 33 from zq_ext (by rw [en, h33]; rfl)), if_pos h33]
          by_cases z : st.headD 0 = 0
          · rw [if_neg (not_not_intro z), zq_bind, if_pos z]
            exact fin 1 st.tail t1 g1 hlt1
          · rw [if_pos z, zq_bind, if_neg z]
            exact fin 0 st.tail t1 g1 hlt1
        rw [if_neg (show ¬ -c = 33 from fun q => h33 (by have := congrArg Int32.toInt q; rw [en, show (33 : Int32).toInt = 33 from rfl] at this; omega)), if_neg h33]
        by_cases h126 : c.toInt = -126
        · rw [if_pos (show -c = 126 from zq_ext (by rw [en, h126]; rfl)), if_pos h126, zq_bind]
          exact fin _ st.tail t1 g1 hlt1
        rw [if_neg (show ¬ -c = 126 from fun q => h126 (by have := congrArg Int32.toInt q; rw [en, show (126 : Int32).toInt = 126 from rfl] at this; omega)), if_neg h126]
        obtain ⟨t2, f2, g2⟩ := zkp_pop g1
        rw [f2, zq_bind]
        dsimp only
        rw [zys71, zq_bind, zq_bind]
        exact fin _ st.tail.tail t2 g2 (by rw [List.length_tail]; omega)
      · rw [if_neg (show ¬ c < 0 by rw [Int32.lt_iff_toInt_lt, zq_l0]; exact hneg), if_pos (show 0 ≤ c.toInt by omega)]
        have fin : ∀ w : Int32, ∃ t', ((zyF66 w t).bind fun p1 => zyF65_23 m (zqb false) (Int32.ofNat (i + 1)) p1.2) = some (zwv nm (CS.drop (i + 1)) false (w :: st), t') ∧ zAk s u t' := fun w => by
          obtain ⟨t3, f3, g3⟩ := zkp_push h (by omega) w
          rw [f3, zq_bind]
          exact ih _ false (w :: st) t3 g3 (by show st.length + 1 ≤ i + 1; omega) rfl
        by_cases hb : c.toInt < 10000
        · rw [if_neg (show ¬ (10000 : Int32) ≤ c by rw [Int32.le_iff_toInt_le, l10]; omega), if_pos hb]
          exact fin c
        · have es : (c - (10000 : Int32)).toInt = c.toInt - 10000 := by rw [zq_sub (by rw [l10]; omega) (by rw [l10]; omega), l10]
          rw [if_pos (show (10000 : Int32) ≤ c by rw [Int32.le_iff_toInt_le, l10]; omega), if_pos (zq_in.mpr ⟨by omega, by omega⟩), if_neg hb, a5 _ (by rw [zq_ix]; omega)]
          exact fin _
end ZK
/-- what the names make the LAW worth -/
def zWv (s : zy_S) (nm : Nat → Int32) : Int32 := if (s.1 43 11).toInt < 0 then zclp (nm 0) else zwv nm (zpT (zpN (s.1 49) (s.1 43 11).toNatClampNeg)).2.2 false []
theorem zLw_n {s : zy_S} (h : zLw (s.1 5 3) (s.1 43 11) (s.1 6) (s.1 49)) : (s.1 5 3 = 0 ∧ (s.1 43 11).toInt < 0) ∨ (s.1 43 11 = Int32.ofNat (s.1 43 11).toNatClampNeg ∧ (s.1 43 11).toNatClampNeg ≤ 120 ∧ zpG (s.1 43 11).toNatClampNeg (zpN (s.1 49) (s.1 43 11).toNatClampNeg) ∧ zpF (s.1 43 11).toNatClampNeg (zpT (zpN (s.1 49) (s.1 43 11).toNatClampNeg)) = -1 ∧ s.1 5 3 = Int32.ofNat (zpT (zpN (s.1 49) (s.1 43 11).toNatClampNeg)).2.2.length ∧ ∀ j c, (zpT (zpN (s.1 49) (s.1 43 11).toNatClampNeg)).2.2[j]? = some c → s.1 6 j = c) := by
  rcases h with ⟨h1, h2⟩ | ⟨n, h1, h2, h3, h4, h5, h6⟩
  · refine Or.inl ⟨h1, ?_⟩
    rw [h2, zq_lm1]
    omega
  · have e : (s.1 43 11).toNatClampNeg = n := by rw [h1, zN_ix (by omega)]
    rw [e]
    exact Or.inr ⟨h1, h2, h3, h4, h5, h6⟩
theorem zpT_pos (g : Nat → Int32) : 0 < (zpT g).2.2.length := by
  have h : 0 < (zpLine g 0).2.2.length := by
    unfold zpLine
    split
    · show 0 < (_ ++ _ : List Int32).length
      rw [List.length_append, List.length_append, List.length_singleton]
      omega
    · show 0 < (_ ++ _ : List Int32).length
      rw [List.length_append, List.length_singleton]
      omega
  unfold zpT
  show 0 < (_ ++ _ : List Int32).length
  rw [List.length_append]
  omega
theorem zys65 {s u t : zy_S} {nm : Nat → Int32} (hL : zLw (s.1 5 3) (s.1 43 11) (s.1 6) (s.1 49)) (h : zAk s u t) (hn : ∀ k, k < 6 → t.1 8 k = nm k) (h0 : 0 ≤ (nm 0).toInt ∧ (nm 0).toInt ≤ 99) : ∃ t', zyF65 t = some (zWv s nm, t') ∧ zAk s u t' := by
  obtain ⟨r54, n7, n8, t54, t53, t11, r8, r7⟩ := zks_rg
  have e53 : t.1 5 3 = s.1 5 3 := h.1.2 5 3 t53
  unfold zyF65 zWv
  rw [e53]
  rcases zLw_n hL with ⟨h1, h2⟩ | ⟨h1, h2, h3, h4, h5, h6⟩
  · have ec : zclp (nm 0) = nm 0 := by
      unfold zclp
      rw [if_neg (by omega), if_neg (by omega)]
    rw [h1, if_neg (by decide), if_pos h2, hn 0 (by decide), ec]
    exact ⟨t, rfl, h⟩
  · have hp := zpT_pos (zpN (s.1 49) (s.1 43 11).toNatClampNeg)
    obtain ⟨k1, k2, k3⟩ := zpT_ok h3
    have e11 : (s.1 43 11).toInt = ((s.1 43 11).toNatClampNeg : Int) := by
      have := congrArg Int32.toInt h1
      rw [zN_toInt (by omega)] at this
      exact this
    rw [if_pos (show s.1 5 3 ≠ 0 from fun q => by
      rw [h5] at q
      have := congrArg Int32.toInt q
      rw [zN_toInt (by omega), zq_l0] at this
      omega), if_neg (by omega)]
    have g : zKs s u nm [] (zy_up t 5 4 0) := ⟨zAk_up h t54 (Or.inl rfl) (fun _ => by rw [r54]; exact ⟨by decide, by decide⟩), by decide, rfl, fun j v hj => (by cases hj), fun k hk => hn k hk⟩
    obtain ⟨t', f, g'⟩ := zl_65 (nm := nm) h5 (by omega) h6 k3 zy_fu 0 0 false [] (zy_up t 5 4 0) g (Nat.zero_le _) (by unfold zy_fu; omega) (Nat.le_refl _) rfl
    exact ⟨t', f, g'⟩
