/-! PART 46.9: won. Made by wip/v4/gen_won.py. -/
/-- whether a view is held; what it makes of what is believed -/
def zvw (b x : Int32) : Bool := decide (((b >>> (((2 : Int32) * (x / (4 : Int32))) &&& 31)) &&& (3 : Int32)) = x - x / (4 : Int32) * (4 : Int32))
def zvn (b x : Int32) : Int32 := (b &&& (((3 : Int32) <<< (((2 : Int32) * (x / (4 : Int32))) &&& 31)) ^^^ (-1 : Int32))) ||| ((x - x / (4 : Int32) * (4 : Int32)) <<< (((2 : Int32) * (x / (4 : Int32))) &&& 31))
theorem zvn_c : ∀ n : Nat, n < 24 → 0 ≤ ((3 : Int32) <<< (((2 : Int32) * (Int32.ofNat n / (4 : Int32))) &&& 31)).toInt ∧ 0 ≤ ((Int32.ofNat n - Int32.ofNat n / (4 : Int32) * (4 : Int32)) <<< (((2 : Int32) * (Int32.ofNat n / (4 : Int32))) &&& 31)).toInt ∧ ((Int32.ofNat n - Int32.ofNat n / (4 : Int32) * (4 : Int32)) <<< (((2 : Int32) * (Int32.ofNat n / (4 : Int32))) &&& 31)).toInt ≤ 4095 := by decide +kernel
theorem zvn_b {b x : Int32} (b0 : 0 ≤ b.toInt) (b1 : b.toInt ≤ 4095) (x0 : 0 ≤ x.toInt) (x1 : x.toInt ≤ 23) : zin (zvn b x) 0 4095 := by
  have ex : x = Int32.ofNat x.toInt.toNat := by
    apply zq_ext
    rw [zN_toInt (by omega)]
    omega
  obtain ⟨c1, c2, c3⟩ := zvn_c x.toInt.toNat (by omega)
  rw [← ex] at c1 c2 c3
  have h := zbs_an (L := b) (c := (3 : Int32) <<< (((2 : Int32) * (x / (4 : Int32))) &&& 31)) (n := 12) b0 (by omega) (by decide) c1
  unfold zvn
  generalize (b &&& (((3 : Int32) <<< (((2 : Int32) * (x / (4 : Int32))) &&& 31)) ^^^ (-1 : Int32))) = p at h ⊢
  generalize ((x - x / (4 : Int32) * (4 : Int32)) <<< (((2 : Int32) * (x / (4 : Int32))) &&& 31)) = q at c2 c3 ⊢
  have e : (p ||| q).toInt = zb_c 14 p.toInt q.toInt := zb_cEq 14 _ _ (by omega)
  have ep : p.toInt = (p.toInt.toNat : Int) := (Int.toNat_of_nonneg h.1).symm
  have eq : q.toInt = (q.toInt.toNat : Int) := (Int.toNat_of_nonneg c2).symm
  have h2 := h.2
  rw [ep, eq, zN_or (by omega) (by omega)] at e
  have v : p.toInt.toNat ||| q.toInt.toNat < 2 ^ 12 := Nat.or_lt_two_pow (by omega) (by omega)
  unfold zin
  omega
theorem zys96 {p : Int32} (x : Int32) (s : zy_S) (hp : zy_in p 8 = true) : zyF96 p x s = some (zqb (zvw (s.1 3 p.toNatClampNeg) x), s) := by
  unfold zyF96 zyF60 zvw
  rw [if_pos hp, zq_bind]
  refine zqb_d (x := 0) (fun h => ?_) (fun h => ?_)
  · rw [if_neg (fun g => g h)]
  · rw [if_pos h]
theorem zys222 {p : Int32} (x : Int32) (s : zy_S) (hp : zy_in p 41 = true) : zyF222 p x s = some (zqb (zvw (s.1 44 p.toNatClampNeg) x), s) := by
  unfold zyF222 zyF205 zyF206 zvw
  rw [if_pos hp, zq_bind, zq_bind]
  refine zqb_d (x := 0) (fun h => ?_) (fun h => ?_)
  · rw [if_neg (fun g => g h)]
  · rw [if_pos h]
theorem zop_won (p x : Int32) {s : zy_S} (h : zI s) : ∃ r s1 s2, zyF137 p x s = some (r, s1) ∧ zyF243 p x s1 = some (r, s2) ∧ zI s2 := by
  obtain ⟨hw, hg, h1, h2, h3, h4, h5, h6, h7, h8, h9, h10, h11, h12, h13, h14, h15, h16, h17, h18, h19, h20, h21⟩ := id h
  obtain ⟨e6, l0, l1⟩ := id h6
  obtain ⟨eP, p0, p1⟩ := id h1
  have hpz : zin (s.1 43 6) 0 8 := by rw [← eP]; exact ⟨p0, p1⟩
  by_cases hp : 0 ≤ p.toInt ∧ p.toInt < (s.1 1 5).toInt
  · by_cases hx : 0 ≤ x.toInt ∧ x.toInt ≤ 23
    · have hin : zy_in p 8 = true := zq_in.mpr ⟨hp.1, by omega⟩
      have hin41 : zy_in p 41 = true := zq_in.mpr ⟨hp.1, by omega⟩
      obtain ⟨k, hk⟩ : ∃ k, k = p.toNatClampNeg := ⟨_, rfl⟩
      have ek : (k : Int) = p.toInt := by rw [hk, zq_ix]; omega
      obtain ⟨w44, w0, w1⟩ := h2 k (by omega)
      by_cases hb : zvw (s.1 3 k) x = true
      · refine ⟨-5, s, s, ?_, ?_, h⟩
        · unfold zyF137
          simp only [zys25_0, zys26, zys96 x s hin, ← hk, zq_bind, zqb_n0, zqb_e0, decide_eq_true_eq, decide_eq_false_iff_not]
          rw [if_neg (not_not_intro hp), if_pos hx, if_neg (by rw [hb]; decide)]
        · unfold zyF243
          simp only [zys185 _ s hpz, zys186, zys222 x s hin41, ← hk, ← w44, ← eP, zq_bind, zqb_n0, zqb_e0, decide_eq_true_eq, decide_eq_false_iff_not, Int32.toInt_toInt64]
          rw [if_neg (not_not_intro hp), if_pos hx, if_neg (by rw [hb]; decide)]
      · have hb : zvw (s.1 3 k) x = false := by simpa using hb
        obtain ⟨W, hW⟩ : ∃ W, W = zvn (s.1 3 k) x := ⟨_, rfl⟩
        have hWb : zin W 0 4095 := by rw [hW]; exact zvn_b w0 w1 hx.1 hx.2
        obtain ⟨s1, hs1⟩ : ∃ s1, s1 = zy_up (zy_up s 3 k W) 18 3 (s.1 18 3 + 1) := ⟨_, rfl⟩
        obtain ⟨s2, hs2⟩ : ∃ s2, s2 = zy_up (zy_up s1 44 k W) 54 3 (s.1 54 3 + 1) := ⟨_, rfl⟩
        have at2 : ∀ a b, s2.1 a b = if a = 54 ∧ b = 3 then s.1 54 3 + 1 else if a = 44 ∧ b = k then W else if a = 18 ∧ b = 3 then s.1 18 3 + 1 else if a = 3 ∧ b = k then W else s.1 a b := by
          intro a b
          rw [hs2, zy_up_at, zy_up_at, hs1, zy_up_at, zy_up_at]
        have o1 : ∀ a b, a ≠ 3 → a ≠ 18 → s1.1 a b = s.1 a b := fun a b a1 a3 => by rw [hs1, zf_up a3, zf_up a1]
        have e : ∀ a b, zch a → s2.1 a b = s.1 a b := by
          intro a b ha
          unfold zch at ha
          rw [at2]
          repeat' split
          all_goals first | rfl | (exfalso; omega)
        have e1 : ∀ b, b ≠ 3 → s2.1 1 b = s.1 1 b := by
          intro b hb3
          rw [at2]
          repeat' split
          all_goals first | rfl | (exfalso; omega)
        have e43 : ∀ b, b ≠ 7 → s2.1 43 b = s.1 43 b := by
          intro b hb7
          rw [at2]
          repeat' split
          all_goals first | rfl | (exfalso; omega)
        have hz : zI s2 := by
          refine zI_ck h (L := s.1 1 3) ⟨l0, l1⟩ (fun p => if p = 3 then s.1 18 3 + 1 else s.1 18 p) (c := 3) (k := k) (Q := k) (v := W) (Or.inl ⟨rfl, by omega, rfl⟩) (Or.inr rfl) ⟨fun _ => hWb, fun g => absurd g (by decide), fun g => absurd g (by decide), fun g => absurd g (by decide)⟩ (by rw [hs2, hs1]; rfl) e e1 e43 ?_ ?_ ?_ ?_ ?_ ?_ ?_
          · rw [at2]
            repeat' split
            all_goals first | rfl | (exfalso; omega)
          · rw [e6, at2]
            repeat' split
            all_goals first | rfl | (exfalso; omega)
          · intro p hp
            rw [at2]
            repeat' split
            all_goals first | rfl | (exfalso; omega)
          · intro p hp
            have g := h7 p hp
            have g1 := h7 3 (by decide)
            rw [at2, g, g1]
            repeat' split
            all_goals first | rfl | (exfalso; omega)
          · intro p
            rw [at2]
            repeat' split
            all_goals first | rfl | (exfalso; omega)
          · intro p
            rw [at2]
            repeat' split
            all_goals first | rfl | (exfalso; omega)
          · intro p
            rw [at2]
            repeat' split
            all_goals first | rfl | (exfalso; omega)
        refine ⟨W, s1, s2, ?_, ?_, hz⟩
        · have f : zyF138 p x s = some (W, s1) := by
            unfold zyF138
            rw [if_pos hin, if_pos hin, if_pos hin, ← hk, zf_upe]
            show some (zvn (s.1 3 k) x, zy_up (zy_up s 3 k (zvn (s.1 3 k) x)) 18 3 (s.1 18 3 + 1)) = _
            rw [← hW, ← hs1]
          unfold zyF137
          simp only [zys25_0, zys26, zys96 x s hin, ← hk, f, zq_bind, zqb_n0, zqb_e0, decide_eq_true_eq, decide_eq_false_iff_not]
          rw [if_neg (not_not_intro hp), if_pos hx, if_pos hb]
        · have m6 : s1.1 43 6 = s.1 1 5 := by rw [o1 43 6 (by decide) (by decide), eP]
          have g44 : s1.1 44 k = s.1 3 k := by rw [o1 44 k (by decide) (by decide), w44]
          have g54 : s1.1 54 3 = s.1 54 3 := o1 54 3 (by decide) (by decide)
          unfold zyF243
          simp only [zys185 _ s1 (by rw [m6, eP]; exact hpz), zys186, zys222 x s1 hin41, ← hk, g44, m6, zq_bind, zqb_n0, zqb_e0, decide_eq_true_eq, decide_eq_false_iff_not, Int32.toInt_toInt64]
          rw [if_neg (not_not_intro hp), if_pos hx, if_pos hb, if_pos hin41, if_pos hin41, if_pos hin41, zf_upe]
          show some (zvn (s.1 3 k) x, zy_up (zy_up s1 44 k (zvn (s.1 3 k) x)) 54 3 (s1.1 54 3 + 1)) = _
          rw [← hW, g54, ← hs2]
    · refine ⟨-1, s, s, ?_, ?_, h⟩
      · unfold zyF137
        simp only [zys25_0, zys26, zq_bind, zqb_n0, zqb_e0, decide_eq_true_eq, decide_eq_false_iff_not]
        rw [if_neg (not_not_intro hp), if_neg hx]
      · unfold zyF243
        simp only [zys185 _ s hpz, zys186, ← eP, zq_bind, zqb_n0, zqb_e0, decide_eq_true_eq, decide_eq_false_iff_not, Int32.toInt_toInt64]
        rw [if_neg (not_not_intro hp), if_neg hx]
  · refine ⟨-1, s, s, ?_, ?_, h⟩
    · unfold zyF137
      simp only [zys25_0, zq_bind, zqb_e0, decide_eq_false_iff_not]
      rw [if_pos hp]
    · unfold zyF243
      simp only [zys185 _ s hpz, ← eP, zq_bind, zqb_e0, decide_eq_false_iff_not, Int32.toInt_toInt64]
      rw [if_pos hp]
