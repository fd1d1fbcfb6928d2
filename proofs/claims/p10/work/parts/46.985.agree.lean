/-! PART 46.985: agree, like, matters. Made by wip/v4/gen_votes.py. -/
/-- the VIEW of a MATTER -/
def zvf (B m : Int32) : Int32 := (B >>> (((2 : Int32) * m) &&& 31)) &&& (3 : Int32)
theorem zys60 (B m : Int32) (s : zy_S) : zyF60 B m s = some (zvf B m, s) := rfl
theorem zys206 (B m : Int32) (s : zy_S) : zyF206 B m s = some (zvf B m, s) := rfl
theorem zys205 {p : Int32} (m : Int32) (s : zy_S) (hp : zy_in p 41 = true) : zyF205 p m s = some (zvf (s.1 44 p.toNatClampNeg) m, s) := by
  unfold zyF205
  rw [if_pos hp, zys206, zq_bind]
/-- how far -/
def zdf (A B m : Int32) : Int32 := if 0 ≤ zvf A m - zvf B m then zvf A m - zvf B m else -(zvf A m - zvf B m)
theorem zdf_0 (A B m : Int32) : zdf A B m = 0 ↔ zvf A m = zvf B m := by
  unfold zdf
  constructor
  · intro h
    have h0 : zvf A m - zvf B m = 0 := by
      split at h
      · exact h
      · rw [← Int32.neg_inj, h, Int32.neg_zero]
    rw [Int32.sub_eq_iff_eq_add] at h0
    rw [h0, Int32.zero_add]
  · intro h
    rw [h, Int32.sub_self]
    exact if_pos (by decide)
theorem zys121 {a b : Int32} (m : Int32) (s : zy_S) (ha : zy_in a 8 = true) (hb : zy_in b 8 = true) : zyF121 m a b s = some (zdf (s.1 3 a.toNatClampNeg) (s.1 3 b.toNatClampNeg) m, s) := by
  unfold zyF121
  rw [if_pos ha, zys60, zq_bind]
  dsimp only
  rw [if_pos hb, zys60, zq_bind]
  dsimp only
  unfold zyF62 zdf
  split <;> rfl
def zffs (A B : Int32) : Nat → Int32 → Int32 → Int32
  | 0, acc, _ => acc
  | n + 1, acc, i => zffs A B n (acc + zdf A B i) (i + (1 : Int32))
theorem zl_122 {a b : Int32} (s : zy_S) (ha : zy_in a 8 = true) (hb : zy_in b 8 = true) : ∀ (n k : Nat) (acc i : Int32), i.toInt = (k : Int) → k ≤ 6 → 6 - k < n → zyF122_5 n a b acc i s = some (zffs (s.1 3 a.toNatClampNeg) (s.1 3 b.toNatClampNeg) (6 - k) acc i, s)
  | 0, k, acc, i, hi, hk, hn => by omega
  | n + 1, k, acc, i, hi, hk, hn => by
    show zyF122_5b (zyF122_5 n) a b acc i s = _
    unfold zyF122_5b
    by_cases g : k = 6
    · subst g
      rw [if_pos (by rw [Int32.le_iff_toInt_le, zq_l6]; omega)]
      rfl
    · rw [if_neg (by rw [Int32.le_iff_toInt_le, zq_l6]; omega), zys121 i s ha hb, zq_bind]
      have e : 6 - k = (6 - (k + 1)) + 1 := by omega
      rw [e]
      exact zl_122 s ha hb n (k + 1) _ (i + (1 : Int32)) (by rw [zq_add (by rw [zq_l1]; omega) (by rw [zq_l1]; omega), zq_l1, hi]; omega) (by omega) (by omega)
theorem zl_235 {a b : Int32} (s : zy_S) (ha : zy_in a 41 = true) (hb : zy_in b 41 = true) : ∀ (n k : Nat) (acc i : Int32), i.toInt = (k : Int) → k ≤ 6 → 6 - k < n → zyF235_5 n a b acc i s = some (zffs (s.1 44 a.toNatClampNeg) (s.1 44 b.toNatClampNeg) (6 - k) acc i, s)
  | 0, k, acc, i, hi, hk, hn => by omega
  | n + 1, k, acc, i, hi, hk, hn => by
    show zyF235_5b (zyF235_5 n) a b acc i s = _
    unfold zyF235_5b zyF235_43
    by_cases g : k = 6
    · subst g
      rw [if_pos (by rw [Int32.le_iff_toInt_le, zq_l6]; omega)]
      rfl
    · rw [if_neg (by rw [Int32.le_iff_toInt_le, zq_l6]; omega), zys205 i s ha, zq_bind]
      dsimp only
      rw [zys205 i s hb, zq_bind]
      dsimp only
      have e : 6 - k = (6 - (k + 1)) + 1 := by omega
      rw [e]
      show _ = some (zffs (s.1 44 a.toNatClampNeg) (s.1 44 b.toNatClampNeg) (6 - (k + 1)) (acc + zdf (s.1 44 a.toNatClampNeg) (s.1 44 b.toNatClampNeg) i) (i + (1 : Int32)), s)
      have ih := fun w => zl_235 s ha hb n (k + 1) w (i + (1 : Int32)) (by rw [zq_add (by rw [zq_l1]; omega) (by rw [zq_l1]; omega), zq_l1, hi]; omega) (by omega) (by omega)
      unfold zdf
      split
      · exact ih _
      · exact ih _
theorem zys122 {a b : Int32} (s : zy_S) (ha : zy_in a 8 = true) (hb : zy_in b 8 = true) : zyF122 a b s = some (zffs (s.1 3 a.toNatClampNeg) (s.1 3 b.toNatClampNeg) 6 0 0, s) := zl_122 s ha hb zy_fu 0 0 0 rfl (by omega) (by unfold zy_fu; omega)
theorem zys235 {a b : Int32} (s : zy_S) (ha : zy_in a 41 = true) (hb : zy_in b 41 = true) : zyF235 a b s = some (zffs (s.1 44 a.toNatClampNeg) (s.1 44 b.toNatClampNeg) 6 0 0, s) := zl_235 s ha hb zy_fu 0 0 0 rfl (by omega) (by unfold zy_fu; omega)
theorem zys84 (x : Int32) (s : zy_S) : zyF84 x s = some (zqb (decide (0 ≤ x.toInt ∧ x.toInt ≤ 1)), s) := by
  unfold zyF84
  simp only [ne_eq, zq_eq, zq_l0, zq_l1]
  refine zqb_d (x := 0) (fun h => ?_) (fun h => ?_)
  all_goals
    repeat' split
  all_goals first | rfl | (exfalso; omega)
/-- how many alike: both -/
theorem zl_120 {a b : Int32} {s : zy_S} {A B : Int32} (ha : zy_in a 8 = true) (hb : zy_in b 8 = true) (eA : s.1 3 a.toNatClampNeg = A) (eB : s.1 3 b.toNatClampNeg = B) (eA' : s.1 44 a.toNatClampNeg = A) (eB' : s.1 44 b.toNatClampNeg = B) {x y : Int32} (hx : x / (10 : Int32) = a) (hx2 : x - a * (10 : Int32) = b) : ∀ (n m k : Nat) (acc i : Int32), i.toInt = (k : Int) → k ≤ 6 → 6 - k < n → 6 - k < m →
    ∃ r, zyF120_5 n a b acc i s = some (r, s) ∧ zyF234_45 m x y acc i s = if y ≠ 0 then some (zffs A B 6 0 0, s) else some (r, s)
  | 0, m, k, acc, i, hi, hk, hn, hm => by omega
  | n + 1, 0, k, acc, i, hi, hk, hn, hm => by omega
  | n + 1, m + 1, k, acc, i, hi, hk, hn, hm => by
    have ha4 : zy_in a 41 = true := by have := zq_in.mp ha; exact zq_in.mpr ⟨this.1, by omega⟩
    have hb4 : zy_in b 41 = true := by have := zq_in.mp hb; exact zq_in.mpr ⟨this.1, by omega⟩
    show ∃ r, zyF120_5b (zyF120_5 n) a b acc i s = _ ∧ zyF234_45b (zyF234_45 m) x y acc i s = _
    unfold zyF120_5b zyF234_45b zyF120_29 zyF234_81
    rw [hx, hx2]
    by_cases g : k = 6
    · rw [if_pos (by rw [Int32.le_iff_toInt_le, zq_l6]; omega), if_pos (by rw [Int32.le_iff_toInt_le, zq_l6]; omega), zys235 s ha4 hb4, eA', eB']
      exact ⟨acc, rfl, rfl⟩
    · rw [if_neg (by rw [Int32.le_iff_toInt_le, zq_l6]; omega), if_neg (by rw [Int32.le_iff_toInt_le, zq_l6]; omega), zys121 i s ha hb, zq_bind, zys205 i s ha4, zq_bind]
      dsimp only
      rw [zys205 i s hb4, zq_bind, eA, eB, eA', eB']
      dsimp only
      have ih := fun w => zl_120 ha hb eA eB eA' eB' (y := y) hx hx2 n m (k + 1) w (i + (1 : Int32)) (by rw [zq_add (by rw [zq_l1]; omega) (by rw [zq_l1]; omega), zq_l1, hi]; omega) (by omega) (by omega) (by omega)
      by_cases e : zvf A i = zvf B i
      · rw [if_neg (not_not_intro ((zdf_0 A B i).mpr e)), if_neg (not_not_intro e)]
        exact ih _
      · rw [if_pos (fun w => e ((zdf_0 A B i).mp w)), if_pos e]
        exact ih _
theorem zop_agree (x y : Int32) {s : zy_S} (h : zI s) : ∃ r s1 s2, zyF119 x y s = some (r, s1) ∧ zyF234 x y s1 = some (r, s2) ∧ zI s2 := by
  obtain ⟨hw, hg, h1, h2, h3, h4, h5, h6, h7, h8, h9, h10, h11, h12, h13, h14, h15, h16, h17, h18, h19, h20, h21⟩ := id h
  obtain ⟨e1, p0, p1⟩ := id h1
  have hp : zin (s.1 43 6) 0 8 := by rw [← e1]; exact ⟨p0, p1⟩
  by_cases x0 : x.toInt < 0
  · refine ⟨-1, s, s, ?_, ?_, h⟩
    · unfold zyF119
      rw [if_pos (by rw [Int32.lt_iff_toInt_lt, zq_l0]; exact x0)]
    · unfold zyF234
      rw [if_pos (by rw [Int32.lt_iff_toInt_lt, zq_l0]; exact x0)]
  obtain ⟨a, ha⟩ : ∃ a, a = x / (10 : Int32) := ⟨_, rfl⟩
  obtain ⟨b, hb⟩ : ∃ b, b = x - a * (10 : Int32) := ⟨_, rfl⟩
  have all : (0 ≤ a.toInt ∧ a.toInt < (s.1 1 5).toInt) → (0 ≤ b.toInt ∧ b.toInt < (s.1 1 5).toInt) → (0 ≤ y.toInt ∧ y.toInt ≤ 1) → ∃ r s1 s2, zyF119 x y s = some (r, s1) ∧ zyF234 x y s1 = some (r, s2) ∧ zI s2 := by
    intro ga gb gy
    have ain : zy_in a 8 = true := zq_in.mpr ⟨ga.1, by omega⟩
    have bin : zy_in b 8 = true := zq_in.mpr ⟨gb.1, by omega⟩
    have ea := (h2 a.toNatClampNeg (by rw [zq_ix]; omega)).1
    have eb := (h2 b.toNatClampNeg (by rw [zq_ix]; omega)).1
    obtain ⟨r, f1, f2⟩ := zl_120 (s := s) ain bin rfl rfl ea.symm eb.symm (x := x) (y := y) ha.symm hb.symm zy_fu zy_fu 0 0 0 rfl (by omega) (by unfold zy_fu; omega) (by unfold zy_fu; omega)
    refine ⟨if y ≠ 0 then zffs (s.1 3 a.toNatClampNeg) (s.1 3 b.toNatClampNeg) 6 0 0 else r, s, s, ?_, ?_, h⟩
    · unfold zyF119
      rw [if_neg (by rw [Int32.lt_iff_toInt_lt, zq_l0]; exact x0), ← ha, ← hb]
      simp only [zys84, zys25_0, zys122 s ain bin, zq_bind, zqb_e0, zqb_n0, decide_eq_true_eq, decide_eq_false_iff_not]
      rw [if_neg (not_not_intro gy), if_neg (not_not_intro ga), if_pos gb]
      have f1 : zyF120 a b s = some (r, s) := f1
      rw [f1, zq_bind]
      split <;> rfl
    · unfold zyF234
      rw [if_neg (by rw [Int32.lt_iff_toInt_lt, zq_l0]; exact x0), ← ha, ← hb]
      simp only [zys185 _ s hp, zys179, ← e1, zq_bind, zqb_e0, zqb_n0, decide_eq_true_eq, decide_eq_false_iff_not, Int32.toInt_toInt64, zq_j0, zq_j1]
      rw [if_neg (not_not_intro ga), if_neg (not_not_intro gb), if_pos gy, f2]
      split <;> rfl
  have none_ : ¬ ((0 ≤ a.toInt ∧ a.toInt < (s.1 1 5).toInt) ∧ (0 ≤ b.toInt ∧ b.toInt < (s.1 1 5).toInt) ∧ (0 ≤ y.toInt ∧ y.toInt ≤ 1)) → ∃ r s1 s2, zyF119 x y s = some (r, s1) ∧ zyF234 x y s1 = some (r, s2) ∧ zI s2 := by
    intro gg
    refine ⟨-1, s, s, ?_, ?_, h⟩
    · unfold zyF119
      rw [if_neg (by rw [Int32.lt_iff_toInt_lt, zq_l0]; exact x0), ← ha, ← hb]
      simp only [zys84, zys25_0, zq_bind, zqb_e0, zqb_n0, decide_eq_true_eq, decide_eq_false_iff_not]
      by_cases gy : 0 ≤ y.toInt ∧ y.toInt ≤ 1
      · rw [if_neg (not_not_intro gy)]
        by_cases ga : 0 ≤ a.toInt ∧ a.toInt < (s.1 1 5).toInt
        · rw [if_neg (not_not_intro ga), if_neg (fun gb => gg ⟨ga, gb, gy⟩)]
        · rw [if_pos ga]
      · rw [if_pos gy]
    · unfold zyF234
      rw [if_neg (by rw [Int32.lt_iff_toInt_lt, zq_l0]; exact x0), ← ha, ← hb]
      simp only [zys185 _ s hp, zys179, ← e1, zq_bind, zqb_e0, zqb_n0, decide_eq_true_eq, decide_eq_false_iff_not, Int32.toInt_toInt64, zq_j0, zq_j1]
      by_cases ga : 0 ≤ a.toInt ∧ a.toInt < (s.1 1 5).toInt
      · rw [if_neg (not_not_intro ga)]
        by_cases gb : 0 ≤ b.toInt ∧ b.toInt < (s.1 1 5).toInt
        · rw [if_neg (not_not_intro gb), if_neg (fun gy => gg ⟨ga, gb, gy⟩)]
        · rw [if_pos gb]
      · rw [if_pos ga]
  by_cases gg : (0 ≤ a.toInt ∧ a.toInt < (s.1 1 5).toInt) ∧ (0 ≤ b.toInt ∧ b.toInt < (s.1 1 5).toInt) ∧ (0 ≤ y.toInt ∧ y.toInt ≤ 1)
  · exact all gg.1 gg.2.1 gg.2.2
  · exact none_ gg
/-- who is least far: both -/
theorem zl_124 {x : Int32} {s : zy_S} (h2 : zR2 s) (e1 : s.1 1 5 = s.1 43 6) {P : Nat} (hP : (s.1 1 5).toInt = (P : Int)) (hP8 : P ≤ 8) (hx : 0 ≤ x.toInt ∧ x.toInt < (P : Int)) : ∀ (n m k : Nat) (f i : Int32), i.toInt = (k : Int) → k ≤ P → P - k < n → P - k < m → (f = -2 ∨ 0 ≤ f.toInt ∧ f.toInt < (P : Int)) →
    ∃ r, zyF124_5 n x f i s = some (r, s) ∧ zyF236_16 m x f i s = some (r, s)
  | 0, m, k, f, i, hi, hk, hn, hm, hf => by omega
  | n + 1, 0, k, f, i, hi, hk, hn, hm, hf => by omega
  | n + 1, m + 1, k, f, i, hi, hk, hn, hm, hf => by
    show ∃ r, zyF124_5b (zyF124_5 n) x f i s = _ ∧ zyF236_16b (zyF236_16 m) x f i s = _
    unfold zyF124_5b zyF236_16b zyF124_42 zyF236_48 zyF124_44 zyF236_50
    rw [← e1]
    by_cases g : k = P
    · rw [if_pos (by rw [Int32.le_iff_toInt_le]; omega), if_pos (by rw [Int32.le_iff_toInt_le]; omega)]
      exact ⟨f, rfl, rfl⟩
    · have ih := fun w hw => zl_124 h2 e1 hP hP8 hx n m (k + 1) w (i + (1 : Int32)) (by rw [zq_add (by rw [zq_l1]; omega) (by rw [zq_l1]; omega), zq_l1, hi]; omega) (by omega) (by omega) (by omega) hw
      have hlt : ¬ (s.1 1 5 ≤ i) := by rw [Int32.le_iff_toInt_le]; omega
      rw [if_neg hlt, if_neg hlt]
      by_cases ex : i = x
      · rw [if_pos ex, if_pos ex]
        exact ih f hf
      · rw [if_neg ex, if_neg ex]
        by_cases ef : f = -2
        · rw [if_pos ef, if_pos (by rw [ef]; decide)]
          exact ih i (Or.inr ⟨by omega, by omega⟩)
        · obtain ⟨f0, f1⟩ : 0 ≤ f.toInt ∧ f.toInt < (P : Int) := by
            rcases hf with e | e
            · exact absurd e ef
            · exact e
          have xin : zy_in x 8 = true := zq_in.mpr ⟨hx.1, by omega⟩
          have iin : zy_in i 8 = true := zq_in.mpr ⟨by omega, by omega⟩
          have fin : zy_in f 8 = true := zq_in.mpr ⟨f0, by omega⟩
          have xin4 : zy_in x 41 = true := zq_in.mpr ⟨hx.1, by omega⟩
          have iin4 : zy_in i 41 = true := zq_in.mpr ⟨by omega, by omega⟩
          have fin4 : zy_in f 41 = true := zq_in.mpr ⟨f0, by omega⟩
          have bx := (h2 x.toNatClampNeg (by rw [zq_ix]; omega)).1
          have bi := (h2 i.toNatClampNeg (by rw [zq_ix]; omega)).1
          have bf := (h2 f.toNatClampNeg (by rw [zq_ix]; omega)).1
          rw [if_neg ef, if_neg (by rw [Int32.lt_iff_toInt_lt, zq_l0]; omega), zys122 s xin iin, zys235 s xin4 iin4, zq_bind, zq_bind]
          dsimp only
          rw [zys122 s xin fin, zys235 s xin4 fin4, zq_bind, zq_bind, bx, bi, bf]
          dsimp only
          split
          · exact ih f hf
          · exact ih i (Or.inr ⟨by omega, by omega⟩)
theorem zop_like (x : Int32) {s : zy_S} (h : zI s) : ∃ r s1 s2, zyF123 x s = some (r, s1) ∧ zyF236 x s1 = some (r, s2) ∧ zI s2 := by
  obtain ⟨hw, hg, h1, h2, h3, h4, h5, h6, h7, h8, h9, h10, h11, h12, h13, h14, h15, h16, h17, h18, h19, h20, h21⟩ := id h
  obtain ⟨e1, p0, p1⟩ := id h1
  have hp : zin (s.1 43 6) 0 8 := by rw [← e1]; exact ⟨p0, p1⟩
  by_cases hx : 0 ≤ x.toInt ∧ x.toInt < (s.1 1 5).toInt
  · obtain ⟨r, f1, f2⟩ := zl_124 (x := x) h2 e1 (P := (s.1 1 5).toInt.toNat) (by omega) (by omega) (by omega) zy_fu zy_fu 0 (-2) 0 rfl (by omega) (by unfold zy_fu; omega) (by unfold zy_fu; omega) (Or.inl rfl)
    have f1 : zyF124 x s = some (r, s) := f1
    refine ⟨r, s, s, ?_, ?_, h⟩
    · unfold zyF123
      simp only [zys25_0, zq_bind, zqb_e0, decide_eq_false_iff_not]
      rw [if_neg (not_not_intro hx), f1]
      rfl
    · unfold zyF236
      simp only [zys185 _ s hp, ← e1, zq_bind, zqb_n0, decide_eq_true_eq, Int32.toInt_toInt64]
      rw [if_pos hx, f2]
  · refine ⟨-1, s, s, ?_, ?_, h⟩
    · unfold zyF123
      simp only [zys25_0, zq_bind, zqb_e0, decide_eq_false_iff_not]
      rw [if_pos hx]
    · unfold zyF236
      simp only [zys185 _ s hp, ← e1, zq_bind, zqb_n0, decide_eq_true_eq, Int32.toInt_toInt64]
      rw [if_neg hx]
/-- the LINEs of a MATTER that stand -/
def zvo (L m : Int32) : Int32 := (L >>> (((4 : Int32) * m) &&& 31)) &&& (15 : Int32)
theorem zvo_in {L m : Int32} {k : Nat} (l0 : 0 ≤ L.toInt) (hm : m.toInt = (k : Int)) (hk : k ≤ 6) : 0 ≤ (zvo L m).toInt ∧ (zvo L m).toInt ≤ 15 := by
  have e : (zvo L m).toInt = zb_c 13 (zb_c 17 L.toInt ((4 : Int32) * m).toInt) 15 := by
    have e1 : (zvo L m).toInt = (zb 13 (zb 17 L ((4 : Int32) * m)) 15).toInt := rfl
    rw [e1, zb_cEq 13 _ _ (by omega), zb_cEq 17 _ _ (by omega)]
    rfl
  have e4 : ((4 : Int32) * m).toInt = ((4 * k : Nat) : Int) := by rw [zq_mul (by rw [zq_l4]; omega) (by rw [zq_l4]; omega), zq_l4, hm]; omega
  have el : L.toInt = (L.toInt.toNat : Int) := (Int.toNat_of_nonneg l0).symm
  have lh := zq_hi L
  have u : L.toInt.toNat / 2 ^ (4 * k) ≤ L.toInt.toNat := Nat.div_le_self _ _
  have e15 : (15 : Int) = ((15 : Nat) : Int) := rfl
  rw [e4, el, zN_shr (by omega) (by omega), e15, zN_and (by omega) (by omega)] at e
  have v : L.toInt.toNat / 2 ^ (4 * k) &&& 15 ≤ 15 := Nat.and_le_right
  omega
theorem zvo_9 : ∀ k : Nat, k < 16 → ((Int32.ofInt (k : Int)) &&& (9 : Int32) = 9 ↔ ((Int32.ofInt (k : Int) >>> ((0 : Int32) &&& 31)) &&& (1 : Int32) = 1 ∧ (Int32.ofInt (k : Int) >>> ((3 : Int32) &&& 31)) &&& (1 : Int32) = 1)) := by decide +kernel
theorem zl_102 {x : Int32} {s : zy_S} (l0 : 0 ≤ (s.1 1 3).toInt) (e6 : s.1 1 3 = s.1 43 7) (hx : 0 ≤ x.toInt ∧ x.toInt ≤ 2) : ∀ (n m k : Nat) (acc i : Int32), i.toInt = (k : Int) → k ≤ 6 → 6 - k < n → 6 - k < m →
    ∃ r, zyF102_15 n x acc i s = some (r, s) ∧ zyF225_18 m x acc i s = some (r, s)
  | 0, m, k, acc, i, hi, hk, hn, hm => by omega
  | n + 1, 0, k, acc, i, hi, hk, hn, hm => by omega
  | n + 1, m + 1, k, acc, i, hi, hk, hn, hm => by
    show ∃ r, zyF102_15b (zyF102_15 n) x acc i s = _ ∧ zyF225_18b (zyF225_18 m) x acc i s = _
    unfold zyF102_15b zyF225_18b
    rw [← e6]
    by_cases g : k = 6
    · rw [if_pos (by rw [Int32.le_iff_toInt_le, zq_l6]; omega), if_pos (by rw [Int32.le_iff_toInt_le, zq_l6]; omega)]
      exact ⟨acc, rfl, rfl⟩
    · have ih := fun w => zl_102 (x := x) l0 e6 hx n m (k + 1) w (i + (1 : Int32)) (by rw [zq_add (by rw [zq_l1]; omega) (by rw [zq_l1]; omega), zq_l1, hi]; omega) (by omega) (by omega) (by omega)
      have yes : ∃ r, zyF102_82 (zyF102_15 n) x acc i s = some (r, s) ∧ zyF225_91 (zyF225_18 m) x acc i 1 s = some (r, s) := by
        unfold zyF102_82 zyF102_87 zyF102_102 zyF225_91 zyF225_106
        rw [if_neg (by decide), if_neg (by decide)]
        exact ih _
      have no : ∃ r, zyF102_86 (zyF102_15 n) x acc i s = some (r, s) ∧ zyF225_91 (zyF225_18 m) x acc i 0 s = some (r, s) := by
        unfold zyF102_86 zyF102_87 zyF102_102 zyF225_91 zyF225_106
        rw [if_pos rfl, if_pos rfl]
        exact ih _
      have f57 : zyF57 (s.1 1 3) i s = some (zvo (s.1 1 3) i, s) := rfl
      obtain ⟨w0, w1⟩ := zvo_in l0 hi (show k ≤ 6 by omega)
      obtain ⟨w, hw⟩ : ∃ w, w = zvo (s.1 1 3) i := ⟨_, rfl⟩
      have ew : ((s.1 1 3) >>> (((4 : Int32) * i) &&& 31)) &&& (15 : Int32) = w := hw.symm
      rw [← hw] at w0 w1
      rw [if_neg (by rw [Int32.le_iff_toInt_le, zq_l6]; omega), if_neg (by rw [Int32.le_iff_toInt_le, zq_l6]; omega), f57, zq_bind, ← hw, ew]
      dsimp only
      by_cases x0 : x = 0
      · rw [if_neg (not_not_intro x0), if_neg (not_not_intro x0)]
        by_cases e0 : w = 0
        · rw [if_pos e0, if_neg (not_not_intro e0)]
          exact yes
        · rw [if_neg e0, if_pos e0]
          unfold zyF102_43 zyF102_68
          rw [if_pos (by rw [x0]; decide), if_pos (by rw [x0]; decide)]
          exact no
      · rw [if_pos x0, if_pos x0]
        unfold zyF102_43
        by_cases x1 : x = 1
        · have f32 : ∀ y, zyF32 w y s = some ((w >>> (y &&& 31)) &&& (1 : Int32), s) := fun _ => rfl
          have e68 : zyF102_68 (zyF102_15 n) x acc i w s = zyF102_86 (zyF102_15 n) x acc i s := by
            unfold zyF102_68
            rw [if_pos (by rw [x1]; decide)]
          rw [if_neg (not_not_intro x1), if_neg (not_not_intro x1), f32, zq_bind]
          dsimp only
          rw [f32, zq_bind, e68]
          dsimp only
          have e9 := zvo_9 w.toInt.toNat (by omega)
          have ewn : Int32.ofInt ((w.toInt.toNat : Nat) : Int) = w := by rw [Int.toNat_of_nonneg w0, Int32.ofInt_toInt]
          rw [ewn] at e9
          by_cases b9 : w &&& (9 : Int32) = 9
          · obtain ⟨c1, c2⟩ := e9.mp b9
            rw [if_neg (not_not_intro c1), if_pos c2, if_neg (not_not_intro b9)]
            exact yes
          · rw [if_pos b9]
            by_cases c1 : (w >>> ((0 : Int32) &&& 31)) &&& (1 : Int32) = 1
            · rw [if_neg (not_not_intro c1), if_neg (fun c2 => b9 (e9.mpr ⟨c1, c2⟩))]
              exact no
            · rw [if_pos c1]
              exact no
        · have x2 : x = 2 := by
            have t0 : x.toInt ≠ 0 := fun e => x0 (zq_ext e)
            have t1 : x.toInt ≠ 1 := fun e => x1 (zq_ext e)
            exact zq_ext (by rw [zq_l2]; omega)
          rw [if_pos x1, if_pos x1]
          unfold zyF102_68
          rw [if_neg (not_not_intro x2), zys63 s w0 (by omega), zys209 s w0 (by omega), zq_bind, zq_bind]
          dsimp only
          by_cases c : zpc w = 1
          · rw [if_neg (not_not_intro c), if_neg (not_not_intro c)]
            exact yes
          · rw [if_pos c, if_pos c]
            exact no
theorem zop_matters (x : Int32) {s : zy_S} (h : zI s) : ∃ r s1 s2, zyF102 x s = some (r, s1) ∧ zyF225 x s1 = some (r, s2) ∧ zI s2 := by
  obtain ⟨hw, hg, h1, h2, h3, h4, h5, h6, h7, h8, h9, h10, h11, h12, h13, h14, h15, h16, h17, h18, h19, h20, h21⟩ := id h
  obtain ⟨e6, l0, l1⟩ := id h6
  by_cases hx : 0 ≤ x.toInt ∧ x.toInt ≤ 2
  · obtain ⟨r, f1, f2⟩ := zl_102 l0 e6 hx zy_fu zy_fu 0 0 0 rfl (by omega) (by unfold zy_fu; omega) (by unfold zy_fu; omega)
    refine ⟨r, s, s, ?_, ?_, h⟩
    · unfold zyF102
      rw [if_neg (by rw [Int32.lt_iff_toInt_lt, zq_l0]; omega), if_pos (by rw [Int32.le_iff_toInt_le, zq_l2]; omega), f1]
    · unfold zyF225
      simp only [zys179, zq_bind, zqb_n0, decide_eq_true_eq, Int32.toInt_toInt64, zq_j0, show (2 : Int64).toInt = 2 from rfl]
      rw [if_pos hx, f2]
  · refine ⟨-1, s, s, ?_, ?_, h⟩
    · unfold zyF102
      by_cases g : x.toInt < 0
      · rw [if_pos (by rw [Int32.lt_iff_toInt_lt, zq_l0]; exact g)]
      · rw [if_neg (by rw [Int32.lt_iff_toInt_lt, zq_l0]; exact g), if_neg (by rw [Int32.le_iff_toInt_le, zq_l2]; omega)]
    · unfold zyF225
      simp only [zys179, zq_bind, zqb_n0, decide_eq_true_eq, Int32.toInt_toInt64, zq_j0, show (2 : Int64).toInt = 2 from rfl]
      rw [if_neg hx]
