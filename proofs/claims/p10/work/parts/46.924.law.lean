/-! PART 46.924: law on both sides. Made by wip/v6/gen_lawop.py. -/
/-- t is as s in all that is told, and in all that is no int -/
def zUn (s t : zy_S) : Prop := t.2 = s.2 ∧ ∀ c k, zto c k = true → t.1 c k = s.1 c k
theorem zUn_refl (s : zy_S) : zUn s s := ⟨rfl, fun _ _ _ => rfl⟩
theorem zUn_up {s t : zy_S} {c k : Nat} {x : Int32} (h : zUn s t) (hc : zto c k = false) : zUn s (zy_up t c k x) := by
  refine ⟨h.1, fun a b hb => ?_⟩
  rw [zy_up_at, if_neg (fun q => by rw [q.1, q.2, hc] at hb; cases hb)]
  exact h.2 a b hb
theorem zUn_ua {s t : zy_S} {c : Nat} {f : Nat → Int32} (h : zUn s t) (hc : ∀ k, zto c k = false) : zUn s (zy_ua t c f) := by
  refine ⟨h.1, fun a b hb => ?_⟩
  rw [zy_ua_at, if_neg (fun q => by rw [q, hc b] at hb; cases hb)]
  exact h.2 a b hb
theorem zUn_both {s t : zy_S} {c k : Nat} {x : Int32} (h : zUn s t) : zUn (zy_up s c k x) (zy_up t c k x) := by
  refine ⟨h.1, fun a b hb => ?_⟩
  rw [zy_up_at, zy_up_at]
  split
  · rfl
  · exact h.2 a b hb
theorem zUn_bothA {s t : zy_S} {c : Nat} {f : Nat → Int32} (h : zUn s t) : zUn (zy_ua s c f) (zy_ua t c f) := by
  refine ⟨h.1, fun a b hb => ?_⟩
  rw [zy_ua_at, zy_ua_at]
  split
  · rfl
  · exact h.2 a b hb
theorem zself (s : zy_S) (c a b : Nat) : zy_up (zy_ua s c (s.1 c)) a b (s.1 a b) = s := by
  refine zxS (fun x y => ?_) rfl
  rw [zy_up_at, zy_ua_at]
  by_cases h : x = a ∧ y = b
  · rw [if_pos h, h.1, h.2]
  · rw [if_neg h]
    by_cases h2 : x = c
    · rw [if_pos h2, h2]
    · rw [if_neg h2]
theorem zI_un {s t : zy_S} (h : zI s) (u : zUn s t) (hg : zRg t) : zI t := by
  have hw : zy_Wb t = true := by
    have := h.1
    unfold zy_Wb at this ⊢
    rw [u.1]
    exact this
  exact zI_same h hw hg u.2 (fun d _ => by rw [u.1]) (by rw [u.1])
theorem zlrg : zrg 9 2 = (0, 120) ∧ zrg 9 3 = (0, 128) ∧ zrg 9 4 = (0, 120) ∧ zrg 9 5 = (0, 1) ∧ zrg 5 3 = (0, 128) ∧ zrn 11 = 128 ∧ zrn 6 = 128 ∧ (∀ k, k < 128 → zrg 11 k = (-255, 10005)) ∧ ∀ k, k < 128 → zrg 6 k = (-255, 10005) := by decide +kernel
theorem zlrm : zrg 43 9 = (0, 120) ∧ zrg 43 11 = (-1, 120) ∧ zrg 43 12 = (-1, 0) ∧ zrg 43 13 = (0, 120) ∧ zrg 43 14 = (0, 120) ∧ zrg 43 15 = (-1, 120) ∧ zrg 43 16 = (0, 6) ∧ zrn 49 = 120 ∧ zrn 48 = 120 ∧ (∀ k, k < 120 → zrg 49 k = (0, 255)) ∧ ∀ k, k < 120 → zrg 48 k = (0, 255) := by decide +kernel
theorem zto_9 : zto 9 3 = false ∧ zto 9 4 = false ∧ zto 9 5 = false ∧ zto 5 3 = true ∧ zto 43 11 = true ∧ zto 43 12 = false ∧ zto 43 13 = false ∧ zto 43 14 = false ∧ zto 43 15 = false ∧ zto 43 16 = false ∧ zto 43 9 = true := by decide +kernel
theorem zlzN {n : Nat} {m : Nat} (h : n ≤ m) (hm : m < 2147483647) : zin (Int32.ofNat n) 0 m := by
  unfold zin
  rw [zN_toInt (by omega)]
  omega
theorem zcW_un (s : zy_S) (a : Nat) (br : Bool) (C : List Int32) : zUn s (zcW s a br C) := by
  obtain ⟨t1, t2, t3, -⟩ := zto_9
  exact zUn_up (zUn_up (zUn_up (zUn_ua (zUn_refl s) (fun _ => rfl)) t1) t2) t3
theorem zcW_rg {s : zy_S} {a : Nat} {br : Bool} {C : List Int32} (h : zRg s) (ha : a ≤ 120) (hC : C.length ≤ 128) (hc : ∀ c ∈ C, zpC c) : zRg (zcW s a br C) := by
  obtain ⟨-, r3, r4, r5, -, n11, -, r11, -⟩ := zlrg
  unfold zcW
  refine zRg_upF (zRg_upF (zRg_upF (zRg_ua h (fun k hk => ?_)) r3 (zlzN hC (by decide))) r4 (zlzN ha (by decide))) r5 ?_
  · rw [n11] at hk
    rw [r11 k hk]
    cases e : C[k]? with
    | none =>
      have := h 11 k (by rw [n11]; exact hk)
      rw [r11 k hk] at this
      exact this
    | some c => exact hc c (List.mem_of_getElem? e)
  · cases br
    · exact ⟨by decide, by decide⟩
    · exact ⟨by decide, by decide⟩
theorem zmW_un {s t : zy_S} {a : Nat} {fl ov : Int32} (h : zUn s t) : zUn s (zmW t a fl ov) := by
  obtain ⟨-, -, -, -, -, -, t13, -, t15, t16, -⟩ := zto_9
  exact zUn_up (zUn_up (zUn_up h t13) t15) t16
theorem zmW_rg {t : zy_S} {a : Nat} {fl ov : Int32} (h : zRg t) (ha : a ≤ 120) (hf : zin fl (-1) 120) (ho : zin ov 0 6) : zRg (zmW t a fl ov) := by
  obtain ⟨-, -, -, r13, -, r15, r16, -⟩ := zlrm
  exact zRg_upF (zRg_upF (zRg_upF h r13 (zlzN ha (by decide))) r15 hf) r16 ho
theorem zpF_in {n : Nat} {q : Nat × Bool × List Int32} (h : q.1 ≤ n) (h120 : n ≤ 120) : zin (zpF n q) (-1) 120 := by
  unfold zpF zpf zin
  split
  · rw [zN_toInt (by omega)]
    omega
  · rw [zq_lm1]
    omega
/-- what law answers -/
def zlr (F : Int32) : Int32 := if F = -1 then 1 else (-100 : Int32) - F
/-- the letters of s's tape -/
def zlg (s : zy_S) : Nat → Int32 := zpN (s.1 10) (s.1 9 2).toNatClampNeg
theorem zlg_in {s : zy_S} (h18 : zin (s.1 9 2) 0 120) : s.1 9 2 = Int32.ofNat (s.1 9 2).toNatClampNeg ∧ (s.1 9 2).toNatClampNeg ≤ 120 := by
  obtain ⟨a, b⟩ := h18
  refine ⟨zq_ext ?_, by rw [zq_ix]; omega⟩
  rw [zN_toInt (by rw [zq_ix]; omega), zq_ix]
  omega
theorem zlg_G {s : zy_S} (h18 : zin (s.1 9 2) 0 120) (hb : ∀ p, p < 120 → zin (s.1 10 p) 0 255) : zpG (s.1 9 2).toNatClampNeg (zlg s) := by
  obtain ⟨-, h120⟩ := zlg_in h18
  refine ⟨fun j hj => if_neg (by omega), fun j hj => ?_⟩
  unfold zlg zpN
  rw [if_pos hj]
  exact hb j (by omega)
/-- the class's law: its answer, what it leaves; and the steps -/
theorem zlaw_c {s : zy_S} (hr : zRg s) (h18 : zin (s.1 9 2) 0 120) (hb : ∀ p, p < 120 → zin (s.1 10 p) 0 255) : ∃ t, zyF36 s = some (zlr (zpF (s.1 9 2).toNatClampNeg (zpT (zlg s))), t) ∧ zRg t ∧ zUn (zy_up (zy_up (zy_ua s 6 (t.1 6)) 5 3 (t.1 5 3)) 9 2 0) t ∧
    (zpF (s.1 9 2).toNatClampNeg (zpT (zlg s)) = -1 → t.1 5 3 = Int32.ofNat (zpT (zlg s)).2.2.length ∧ ∀ (j : Nat) (c : Int32), (zpT (zlg s)).2.2[j]? = some c → t.1 6 j = c) ∧
    (zpF (s.1 9 2).toNatClampNeg (zpT (zlg s)) ≠ -1 → t.1 5 3 = s.1 5 3 ∧ t.1 6 = s.1 6) := by
  obtain ⟨hn, h120⟩ := zlg_in h18
  have hg := zlg_G h18 hb
  obtain ⟨k1, k2, k3⟩ := zpT_ok hg
  have e := zys37 (s := s) hn h120 hg
  obtain ⟨r2, r3, r4, r5, r53, n11, n6, r11, r6⟩ := zlrg
  obtain ⟨t1, t2, t3, t53, -⟩ := zto_9
  change zyF37 s = some (zpF _ (zpT (zlg s)), zcW s (zpT (zlg s)).1 (zpT (zlg s)).2.1 (zpT (zlg s)).2.2) at e
  obtain ⟨q, hq⟩ : ∃ q, q = zpT (zlg s) := ⟨_, rfl⟩
  rw [← hq] at k1 k2 k3 e ⊢
  obtain ⟨n, hnn⟩ : ∃ n, n = (s.1 9 2).toNatClampNeg := ⟨_, rfl⟩
  rw [← hnn] at k1 h120 e ⊢
  have hW := zcW_rg (s := s) (a := q.1) (br := q.2.1) (C := q.2.2) hr (by omega) (by omega) k3
  have hU := zcW_un s q.1 q.2.1 q.2.2
  have z0 : zin (0 : Int32) 0 120 := ⟨by decide, by decide⟩
  unfold zyF36 zyF36_34 zyF49
  rw [e, zq_bind]
  dsimp only
  by_cases hF : zpF n q = -1
  · have hcp : zy_cpB 0 0 (Int32.ofNat q.2.2.length) 128 128 = true := decide_eq_true ⟨by decide, by decide, by rw [zN_toInt (by omega)]; omega, by rw [zN_toInt (by omega), zq_l0]; omega, by rw [zN_toInt (by omega), zq_l0]; omega⟩
    have hL : (zcW s q.1 q.2.1 q.2.2).1 9 3 = Int32.ofNat q.2.2.length := rfl
    refine ⟨zy_up (zy_up (zy_ua (zcW s q.1 q.2.1 q.2.2) 6 (va_cpy ((zcW s q.1 q.2.1 q.2.2).1 11) ((zcW s q.1 q.2.1 q.2.2).1 6) 0 0 q.2.2.length)) 5 3 (Int32.ofNat q.2.2.length)) 9 2 0, ?_, ?_, ?_, fun _ => ⟨rfl, fun j c hj => ?_⟩, fun w => absurd hF w⟩
    · unfold zyF48 zlr
      rw [if_neg (not_not_intro hF), hL, if_pos hcp, zq_bind, zN_ix (by omega), zq_bind, if_neg (not_not_intro hF), if_pos hF]
    · refine zRg_upF (zRg_upF (zRg_ua hW (fun k hk => ?_)) r53 (zlzN (m := 128) (by omega) (by decide))) r2 z0
      rw [n6] at hk
      rw [r6 k hk]
      unfold va_cpy
      by_cases c : 0 ≤ k ∧ k < 0 + q.2.2.length
      · rw [if_pos c]
        have := hW 11 (0 + (k - 0)) (by rw [n11]; omega)
        rw [r11 _ (by omega)] at this
        exact this
      · rw [if_neg c]
        have := hW 6 k (by rw [n6]; exact hk)
        rw [r6 k hk] at this
        exact this
    · exact zUn_both (zUn_both (zUn_bothA hU))
    · show va_cpy ((zcW s q.1 q.2.1 q.2.2).1 11) ((zcW s q.1 q.2.1 q.2.2).1 6) 0 0 q.2.2.length j = c
      have hj2 : j < q.2.2.length := (List.getElem?_eq_some_iff.mp hj).1
      unfold va_cpy
      rw [if_pos (by omega), show 0 + (j - 0) = j by omega]
      show (q.2.2[j]?).getD (s.1 11 j) = c
      rw [hj]
      try rfl
  · refine ⟨zy_up (zcW s q.1 q.2.1 q.2.2) 9 2 0, ?_, zRg_upF hW r2 z0, ?_, fun w => absurd w hF, fun _ => ⟨rfl, rfl⟩⟩
    · unfold zlr
      rw [if_pos hF, zq_bind, if_pos hF, if_neg hF]
    · show zUn (zy_up (zy_up (zy_ua s 6 (s.1 6)) 5 3 (s.1 5 3)) 9 2 0) _
      rw [zself]
      exact zUn_both hU
/-- the row 49 up to i as the row 48 -/
def zmX (u : zy_S) (i : Nat) : zy_S := zy_ua u 49 (fun j => if j < i then u.1 48 j else u.1 49 j)
theorem zmX_s {u : zy_S} {i : Nat} (hi : i < 120) : zy_up (zmX u i) 49 (Int32.ofNat i).toNatClampNeg ((zmX u i).1 48 (Int32.ofNat i).toNatClampNeg) = zmX u (i + 1) := by
  rw [zN_ix (by omega), show (zmX u i).1 48 i = u.1 48 i from rfl]
  unfold zmX
  refine zxS (fun x y => ?_) rfl
  rw [zy_up_at, zy_ua_at, zy_ua_at]
  by_cases h : x = 49 ∧ y = i
  · rw [if_pos h, if_pos h.1, if_pos (by omega), h.2]
  · rw [if_neg h]
    by_cases h9 : x = 49
    · rw [if_pos h9, if_pos h9]
      by_cases hy : y < i
      · rw [if_pos hy, if_pos (by omega)]
      · rw [if_neg hy, if_neg (by omega)]
    · rw [if_neg h9, if_neg h9]
theorem zl_190 {u : zy_S} {n : Nat} (hn : n ≤ 120) : ∀ (m i : Nat), i ≤ n → n - i < m → zyF190_37 m (Int32.ofNat n) (Int32.ofNat i) (zmX u i) = some (1, zy_up (zmX u n) 43 11 (Int32.ofNat n))
  | 0, i, hi, hm => by omega
  | m + 1, i, hi, hm => by
    show zyF190_37b (zyF190_37 m) (Int32.ofNat n) (Int32.ofNat i) (zmX u i) = _
    unfold zyF190_37b
    by_cases h : i = n
    · rw [if_pos (by rw [Int32.le_iff_toInt_le, zN_toInt (by omega), zN_toInt (by omega)]; omega), h]
    · have hin : zy_in (Int32.ofNat i) 120 = true := zq_in.mpr (by rw [zN_toInt (by omega)]; omega)
      rw [if_neg (by rw [Int32.le_iff_toInt_le, zN_toInt (by omega), zN_toInt (by omega)]; omega), if_pos hin, if_pos hin, zmX_s (by omega), zN_succ (by omega)]
      exact zl_190 hn m (i + 1) (by omega) (by omega)
/-- the model's law: its answer, what it leaves; and the text -/
theorem zlaw_m {u : zy_S} (hr : zRg u) {n : Nat} (h120 : n ≤ 120) (hn : u.1 43 9 = Int32.ofNat n) {g : Nat → Int32} (eg : g = zpN (u.1 48) n) (hg : zpG n g) : ∃ t, zyF190 u = some (zlr (zpF n (zpT g)), t) ∧ zRg t ∧ zUn (zy_up (zy_ua (zy_up u 43 9 0) 49 (t.1 49)) 43 11 (t.1 43 11)) t ∧
    (zpF n (zpT g) = -1 → t.1 43 11 = Int32.ofNat n ∧ ∀ j, j < n → t.1 49 j = u.1 48 j) ∧ (zpF n (zpT g) ≠ -1 → t.1 43 11 = u.1 43 11 ∧ t.1 49 = u.1 49) := by
  subst eg
  obtain ⟨r9, r11, r12, r13, r14, r15, r16, n49, n48, r49, r48⟩ := zlrm
  obtain ⟨-, -, -, -, t11, t12, t13, t14, t15, t16, -⟩ := zto_9
  obtain ⟨k1, k2, k3⟩ := zpT_ok hg
  have H : zmH (zy_up (zy_up u 43 12 (-1)) 43 14 (u.1 43 9)) n (u.1 48) := ⟨hn, h120, Or.inl ⟨by show (-1 : Int32).toInt < 0; decide, rfl⟩⟩
  obtain ⟨v, ov, e, ho, -⟩ := zys191 (nm := u.1 50) (u := u) (x1 := -1) (x2 := u.1 43 9) rfl H hg
  obtain ⟨q, hq⟩ : ∃ q, q = zpT (zpN (u.1 48) n) := ⟨_, rfl⟩
  rw [← hq] at k1 k2 k3 e ⊢
  obtain ⟨V, hV⟩ : ∃ V, V = zmW (zy_up (zy_up u 43 12 (-1)) 43 14 (u.1 43 9)) q.1 (zpF n q) ov := ⟨_, rfl⟩
  rw [← hV] at e
  have z0 : zin (0 : Int32) 0 120 := ⟨by decide, by decide⟩
  have e15 : V.1 43 15 = zpF n q := by rw [hV]; rfl
  have e9 : V.1 43 9 = Int32.ofNat n := by rw [hV]; exact hn
  have e11 : V.1 43 11 = u.1 43 11 := by rw [hV]; rfl
  have e48 : V.1 48 = u.1 48 := by rw [hV]; rfl
  have e49 : V.1 49 = u.1 49 := by rw [hV]; rfl
  have fin := zpF_in (n := n) (q := q) k1 h120
  have gV : zRg V := by
    rw [hV]
    refine zmW_rg (zRg_upF (zRg_upF hr r12 ⟨by decide, by decide⟩) r14 ?_) (by omega) fin ho
    rw [hn]
    exact zlzN h120 (by decide)
  have uV : zUn u V := by
    rw [hV]
    exact zmW_un (zUn_up (zUn_up (zUn_refl u) t12) t14)
  have gV0 : zRg (zy_up V 43 9 0) := zRg_upF gV r9 z0
  unfold zyF190
  rw [e, zq_bind]
  dsimp only
  rw [e15]
  by_cases hF : zpF n q = -1
  · rw [hF, if_pos (by decide), e9]
    have e0 : zy_up V 43 9 0 = zmX (zy_up V 43 9 0) 0 := by
      unfold zmX
      refine zxS (fun x y => ?_) rfl
      rw [zy_ua_at]
      by_cases h : x = 49
      · rw [if_pos h, if_neg (by omega), h]
      · rw [if_neg h]
    have l := zl_190 (u := zy_up V 43 9 0) h120 zy_fu 0 (Nat.zero_le _) (by unfold zy_fu; omega)
    rw [← e0] at l
    refine ⟨zy_up (zmX (zy_up V 43 9 0) n) 43 11 (Int32.ofNat n), ?_, ?_, ?_, fun _ => ⟨rfl, fun j hj => ?_⟩, fun w => absurd rfl w⟩
    · exact l
    · refine zRg_upF (zRg_ua gV0 (fun k hk => ?_)) r11 ?_
      · rw [n49] at hk
        rw [r49 k hk]
        by_cases c : k < n
        · rw [if_pos c]
          have := gV 48 k (by rw [n48]; exact hk)
          rw [r48 k hk] at this
          exact this
        · rw [if_neg c]
          have := gV 49 k (by rw [n49]; exact hk)
          rw [r49 k hk] at this
          exact this
      · have := zlzN h120 (by decide)
        exact ⟨by have := this.1; omega, this.2⟩
    · exact zUn_both (zUn_bothA (zUn_both uV))
    · show (if j < n then V.1 48 j else V.1 49 j) = u.1 48 j
      rw [if_pos hj, e48]
  · have hpos : ¬ zpF n q < 0 := by
      rw [Int32.lt_iff_toInt_lt, zq_l0]
      have : ¬ (zpF n q).toInt = -1 := fun w => hF (zq_ext w)
      have := fin.1
      omega
    rw [if_neg hpos]
    refine ⟨zy_up V 43 9 0, ?_, gV0, ?_, fun w => absurd w hF, fun _ => ⟨e11, e49⟩⟩
    · unfold zlr
      rw [if_neg hF]
    · have a49 : (zy_up V 43 9 0).1 49 = (zy_up u 43 9 0).1 49 := e49
      have a11 : (zy_up V 43 9 0).1 43 11 = (zy_up u 43 9 0).1 43 11 := e11
      rw [a49, a11, zself]
      exact zUn_both uV
theorem zop_law {s : zy_S} (h : zI s) : ∃ r s1 s2, zyF36 s = some (r, s1) ∧ zyF190 s1 = some (r, s2) ∧ zI s2 := by
  obtain ⟨hw, hg, h1, h2, h3, h4, h5, h6, h7, h8, h9, h10, h11, h12, h13, h14, h15, h16, h17, h18, h19, h20, h21⟩ := id h
  obtain ⟨e18, l0, l1⟩ := id h18
  have hb : ∀ p, p < 120 → zin (s.1 10 p) 0 255 := fun p hp => (h19.1 p hp).2
  obtain ⟨t, f1, g1, u1, p1, q1⟩ := zlaw_c hg ⟨l0, l1⟩ hb
  obtain ⟨hn, h120⟩ := zlg_in (s := s) ⟨l0, l1⟩
  have t9 : t.1 43 9 = s.1 43 9 := u1.2 43 9 rfl
  have t48 : ∀ k, t.1 48 k = s.1 48 k := fun k => u1.2 48 k rfl
  have e9 : t.1 43 9 = Int32.ofNat (s.1 9 2).toNatClampNeg := by
    rw [t9, ← hn]
    exact e18.symm
  have e48 : zlg s = zpN (t.1 48) (s.1 9 2).toNatClampNeg := by
    unfold zlg
    funext a
    unfold zpN
    by_cases c : a < (s.1 9 2).toNatClampNeg
    · rw [if_pos c, if_pos c, (h19.1 a (by omega)).1, t48]
    · rw [if_neg c, if_neg c]
  obtain ⟨w, f2, g2, u2, p2, q2⟩ := zlaw_m g1 h120 e9 e48 (zlg_G ⟨l0, l1⟩ hb)
  have z0 : zin (0 : Int32) 0 120 := ⟨by decide, by decide⟩
  obtain ⟨r2, -⟩ := zlrg
  obtain ⟨r9, -⟩ := zlrm
  have law : zLw (t.1 5 3) (w.1 43 11) (t.1 6) (w.1 49) := by
    by_cases hF : zpF (s.1 9 2).toNatClampNeg (zpT (zlg s)) = -1
    · obtain ⟨a1, a2⟩ := p1 hF
      obtain ⟨b1, b2⟩ := p2 hF
      have eg : zpN (w.1 49) (s.1 9 2).toNatClampNeg = zlg s := by
        rw [e48]
        funext a
        unfold zpN
        by_cases c : a < (s.1 9 2).toNatClampNeg
        · rw [if_pos c, if_pos c, b2 a c]
        · rw [if_neg c, if_neg c]
      refine Or.inr ⟨(s.1 9 2).toNatClampNeg, b1, h120, ?_⟩
      rw [eg]
      exact ⟨zlg_G ⟨l0, l1⟩ hb, hF, a1, a2⟩
    · obtain ⟨a1, a2⟩ := q1 hF
      obtain ⟨b1, b2⟩ := q2 hF
      have c1 : t.1 43 11 = s.1 43 11 := u1.2 43 11 rfl
      have c2 : t.1 49 = s.1 49 := funext fun k => u1.2 49 k rfl
      rw [a1, a2, b1, b2, c1, c2]
      exact h19.2
  have sh : ∀ d, d < 6 → ∀ j, (zy_up (zy_ua (zy_up (zy_up (zy_up (zy_ua s 6 (t.1 6)) 5 3 (t.1 5 3)) 9 2 0) 43 9 0) 49 (w.1 49)) 43 11 (w.1 43 11)).1 (zy_sh d) j = s.1 (zy_sh d) j := fun d hd j => by rw [zf_sh (by decide) hd, zf_sha (by decide) hd, zf_sh (by decide) hd, zf_sh (by decide) hd, zf_sh (by decide) hd, zf_sha (by decide) hd]
  refine ⟨_, t, w, f1, f2, zI_un (s := zy_up (zy_ua (zy_up (zy_up (zy_up (zy_ua s 6 (t.1 6)) 5 3 (t.1 5 3)) 9 2 0) 43 9 0) 49 (w.1 49)) 43 11 (w.1 43 11)) ?_ ?_ g2⟩
  · refine ⟨hw, zRg_up (zRg_ua (zRg_upF (zRg_upF (zRg_up (zRg_ua hg (fun k hk => g1 6 k hk)) (fun hk => g1 5 3 hk)) r2 z0) r9 z0) (fun k hk => g2 49 k hk)) (fun hk => g2 43 11 hk), h1, h2, h3, h4, h5, h6, h7, h8, h9, h10, h11, h12, h13, h14, h15, h16, h17, ⟨rfl, z0⟩, ⟨h19.1, law⟩, zR20_of h20 rfl sh (fun d hd => rfl) (fun d hd => rfl), zR21_of h21 sh rfl⟩
  · have b1 := zUn_both (c := 43) (k := 11) (x := w.1 43 11) (zUn_bothA (c := 49) (f := w.1 49) (zUn_both (c := 43) (k := 9) (x := 0) u1))
    exact ⟨u2.1.trans b1.1, fun c k hc => (u2.2 c k hc).trans (b1.2 c k hc)⟩
