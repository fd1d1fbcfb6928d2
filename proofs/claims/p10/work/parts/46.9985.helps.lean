/-! PART 46.9985: ifLine, helps, cost on both sides. Made by wip/v6/gen_mind.py. -/
theorem zbt_x {B : Int32} {k l : Nat} (b0 : 0 ≤ B.toInt) (hk : k < 24) (hl : l < 24) : zbt (B ^^^ ((1 : Int32) <<< (Int32.ofNat k &&& 31))) (Int32.ofNat l) = (zbt B (Int32.ofNat l) != decide (k = l)) := by
  obtain ⟨e0, e1⟩ := zmk_1 (x := Int32.ofNat k) (k := k) (zN_toInt (by omega)) (by omega)
  obtain ⟨x0, x1⟩ := zmk_xor b0 e0
  rw [zmk_t x0 (zN_toInt (show l < 2147483648 by omega)) (by omega), zmk_t b0 (zN_toInt (show l < 2147483648 by omega)) (by omega), x1, e1]
theorem zx0 {B : Int32} {k : Nat} (b0 : 0 ≤ B.toInt) (hk : k < 24) : 0 ≤ (B ^^^ ((1 : Int32) <<< (Int32.ofNat k &&& 31))).toInt := (zmk_xor b0 (zmk_1 (x := Int32.ofNat k) (k := k) (zN_toInt (by omega)) (by omega)).1).1
section ZQ
variable {s u t : zy_S} {P : Nat}
theorem zys211 (hP : zPe s P) (hL : zLw (s.1 5 3) (s.1 43 11) (s.1 6) (s.1 49)) (hu : zUn s u) (hr : zRg u) {k : Nat} (hk : k < 24) {B : Int32} (b0 : 0 ≤ B.toInt) : ∃ t', zyF211 (Int32.ofNat k) B u = some (zAl s P (B ^^^ ((1 : Int32) <<< (Int32.ofNat k &&& 31))) (fun l => if l = k then (if zbt B (Int32.ofNat k) = true then u.1 51 k else 0) else u.1 51 l), t') ∧ zUn s t' ∧ zRg t' ∧ ∀ l, t'.1 51 l = u.1 51 l := by
  obtain ⟨-, -, -, r51⟩ := zmk_rg
  have hin : zy_in (Int32.ofNat k) 24 = true := zq_in.mpr (by rw [zN_toInt (by omega)]; omega)
  have fu : ∀ x : Int32, zin x (zrg 51 k).1 (zrg 51 k).2 := fun x => by
    rw [r51 k hk]
    exact zin_full x
  have go : ∀ y : Int32, ∃ t', zyF211_25 (Int32.ofNat k) B (u.1 51 k) y (Int32.ofNat k) u = some (zAl s P (B ^^^ ((1 : Int32) <<< (Int32.ofNat k &&& 31))) (fun l => if l = k then y else u.1 51 l), t') ∧ zUn s t' ∧ zRg t' ∧ ∀ l, t'.1 51 l = u.1 51 l := fun y => by
    obtain ⟨t2, f2, g2⟩ := zys212 hP hL (zMk_refl (t := zy_up u 51 k y) (zUn_up hu rfl) (zRg_up hr (fun _ => fu y))) (zx0 b0 hk)
    have ew : (zy_up u 51 k y).1 51 = fun l => if l = k then y else u.1 51 l := funext fun l => zf_upr
    rw [ew] at f2
    unfold zyF211_25
    rw [if_pos hin, zN_ix (by omega), f2, zq_bind]
    dsimp only
    rw [if_pos hin]
    refine ⟨_, rfl, zUn_up g2.1 rfl, zRg_up g2.2.1 (fun _ => fu _), fun l => ?_⟩
    rw [zf_upr]
    by_cases e : l = k
    · rw [if_pos e, e]
    · rw [if_neg e, g2.2.2 51 l (by decide) (by decide), zf_upk e]
  unfold zyF211
  rw [if_pos hin, zys208, zq_bind, zN_ix (by omega)]
  dsimp only
  cases hb : zbt B (Int32.ofNat k) with
  | true =>
    rw [if_neg (show ¬ zqb true = 0 by decide)]
    exact go _
  | false =>
    rw [if_pos (show zqb false = 0 from rfl)]
    exact go 0
/-- all their sign -/
def zAev (s : zy_S) : Int32 := ((1 : Int32) <<< ((s.1 1 5) &&& 31)) - (1 : Int32)
theorem zIn_x (hP : zPe s P) {w : Nat → Int32} (l0 : 0 ≤ (s.1 1 3).toInt) {k : Nat} (hk : k < 24) (hw : ∀ l, l < 24 → w l = s.1 2 l) : zIn s P (zAev s) 0 (s.1 1 3 ^^^ ((1 : Int32) <<< (Int32.ofNat k &&& 31))) (s.1 1 3) = zAl s P (s.1 1 3 ^^^ ((1 : Int32) <<< (Int32.ofNat k &&& 31))) (fun l => if l = k then (if zbt (s.1 1 3) (Int32.ofNat k) = true then w k else 0) else w l) := by
  refine zIn_all hP (zx0 l0 hk) l0 (fun l hl hb => ?_)
  rw [zbt_x l0 hk hl] at hb
  by_cases e : l = k
  · subst e
    have hf : zbt (s.1 1 3) (Int32.ofNat l) = false := by
      rw [decide_eq_true rfl] at hb
      cases q : zbt (s.1 1 3) (Int32.ofNat l) with
      | false => rfl
      | true =>
        rw [q] at hb
        cases hb
    rw [if_pos rfl, hf]
    rfl
  · have ht : zbt (s.1 1 3) (Int32.ofNat l) = true := by
      rw [decide_eq_false (fun w => e w.symm)] at hb
      cases q : zbt (s.1 1 3) (Int32.ofNat l) with
      | true => rfl
      | false =>
        rw [q] at hb
        cases hb
    rw [if_neg e, if_pos ht, hw l hl]
theorem zys73 (hP : zPe s P) (hL : zLw (s.1 5 3) (s.1 43 11) (s.1 6) (s.1 49)) (hs : zUn s t) (hr : zRg t) (l0 : 0 ≤ (s.1 1 3).toInt) {k : Nat} (hk : k < 24) : ∃ t', zyF73 (Int32.ofNat k) t = some (zIn s P (zAev s) 0 (s.1 1 3 ^^^ ((1 : Int32) <<< (Int32.ofNat k &&& 31))) (s.1 1 3), t') ∧ zTh s P (zAev s) 0 t' := by
  obtain ⟨t0, f0, g0⟩ := zys74 (P := P) hs hr
  have e13 : t0.1 1 3 = s.1 1 3 := g0.1.2 1 3 zto_14.1
  obtain ⟨t1, f1, g1⟩ := zys54 hP hL g0 (zx0 l0 hk) ((zmk_and2 (zx0 l0 hk) l0).1)
  unfold zyF73
  rw [f0, zq_bind]
  dsimp only
  rw [e13, f1, zq_bind]
  exact ⟨t1, rfl, g1⟩
theorem zop_ifLine (x : Int32) {s : zy_S} (h : zI s) : ∃ r s1 s2, zyF72 x s = some (r, s1) ∧ zyF210 x s1 = some (r, s2) ∧ zI s2 := by
  obtain ⟨hg, hP, hL, h4, e7, l0, l1, -⟩ := zMI h
  by_cases hx : 0 ≤ x.toInt ∧ x.toInt ≤ 23
  · obtain ⟨k, hk, ek⟩ : ∃ k, k < 24 ∧ x = Int32.ofNat k := ⟨x.toInt.toNat, by omega, zq_ext (by rw [zN_toInt (by omega)]; omega)⟩
    obtain ⟨t1, f1, g1⟩ := zys73 hP hL (zUn_refl s) hg l0 hk
    obtain ⟨t2, f2, u2, g2, w2, -⟩ := zys203 (s := s) hg g1.1 g1.2.1
    obtain ⟨t3, f3, u3, g3, -⟩ := zys211 hP hL u2 g2 hk (B := s.1 1 3) l0
    have hw : ∀ l, l < 24 → t2.1 51 l = s.1 2 l := fun l hl => (w2 l hl).trans (h4 l hl)
    refine ⟨zIn s (s.1 1 5).toInt.toNat (zAev s) 0 (s.1 1 3 ^^^ ((1 : Int32) <<< (Int32.ofNat k &&& 31))) (s.1 1 3), t1, t3, ?_, ?_, zI_end h u3 g3⟩
    · unfold zyF72
      rw [zys26, zqb_t (decide_eq_true hx), zq_bind]
      dsimp only
      rw [if_neg (show ¬ (1 : Int32) = 0 by decide), ek, f1, zq_bind]
    · unfold zyF210
      rw [zys186, zqb_t (decide_eq_true (by rw [Int32.toInt_toInt64]; exact hx)), zq_bind]
      dsimp only
      rw [if_pos (show (1 : Int32) ≠ 0 by decide), f2, zq_bind]
      dsimp only
      rw [show t2.1 43 7 = s.1 1 3 from (u2.2 43 7 zmt_6.2).trans e7, ek, f3, zq_bind, zIn_x hP l0 hk hw]
  · refine ⟨-1, s, s, ?_, ?_, h⟩
    · unfold zyF72
      rw [zys26, zqb_f (decide_eq_false hx), zq_bind]
      dsimp only
      rw [if_pos rfl]
    · unfold zyF210
      rw [zys186, zqb_f (decide_eq_false (by rw [Int32.toInt_toInt64]; exact hx)), zq_bind]
      dsimp only
      rw [if_neg (show ¬ (0 : Int32) ≠ 0 by decide)]
/-! helps -/
/-- the best so far: which (-1: none), what it weighs -/
def zhs (m : Nat → Bool) (V : Nat → Int32) (v0 : Int32) : Nat → Int × Int32
  | 0 => (-1, v0)
  | i + 1 => if m i = true ∧ ¬ (zhs m V v0 i).2 ≤ V i then ((i : Int), V i) else zhs m V v0 i
theorem zhs_s (m : Nat → Bool) (V : Nat → Int32) (v0 : Int32) (i : Nat) : zhs m V v0 (i + 1) = if m i = true ∧ ¬ (zhs m V v0 i).2 ≤ V i then ((i : Int), V i) else zhs m V v0 i := rfl
theorem zhs_in (m : Nat → Bool) (V : Nat → Int32) (v0 : Int32) : ∀ i, (zhs m V v0 i).1 = -1 ∨ ∃ j, j < i ∧ (zhs m V v0 i).1 = (j : Int) ∧ (zhs m V v0 i).2 = V j
  | 0 => Or.inl rfl
  | i + 1 => by
    rw [zhs_s]
    split
    · exact Or.inr ⟨i, by omega, rfl, rfl⟩
    · rcases zhs_in m V v0 i with h | ⟨j, h1, h2⟩
      · exact Or.inl h
      · exact Or.inr ⟨j, by omega, h2⟩
/-- a change may be made -/
def zhm (s : zy_S) (i : Nat) : Bool := zbt (s.1 1 3) (Int32.ofNat i) || !decide (s.1 1 4 ≤ zpc (s.1 1 3))
def zhV (s : zy_S) (P : Nat) (i : Nat) : Int32 := zIn s P (zAev s) 0 (s.1 1 3 ^^^ ((1 : Int32) <<< (Int32.ofNat i &&& 31))) (s.1 1 3)
theorem zl_90 (hP : zPe s P) (hL : zLw (s.1 5 3) (s.1 43 11) (s.1 6) (s.1 49)) (l0 : 0 ≤ (s.1 1 3).toInt) (l1 : (s.1 1 3).toInt ≤ 16777215) (v0 : Int32) : ∀ (n i : Nat) (x1 x2 : Int32) (t : zy_S), i ≤ 24 → 24 - i < n → zTh s P (zAev s) 0 t → x1.toInt = (zhs (zhm s) (zhV s P) v0 i).1 → x2 = (zhs (zhm s) (zhV s P) v0 i).2 → ∃ r t', zyF90_27 n x1 x2 (Int32.ofNat i) t = some (r, t') ∧ zTh s P (zAev s) 0 t' ∧ r.toInt = (zhs (zhm s) (zhV s P) v0 24).1
  | 0, i, x1, x2, t, hi, hn, h, h1, h2 => by omega
  | n + 1, i, x1, x2, t, hi, hn, h, h1, h2 => by
    have e13 : t.1 1 3 = s.1 1 3 := h.1.2 1 3 zto_14.1
    have e14 : t.1 1 4 = s.1 1 4 := h.1.2 1 4 zto_14.2.1
    have ei : (Int32.ofNat i).toInt = (i : Int) := zN_toInt (by omega)
    show ∃ r t', zyF90_27b (zyF90_27 n) x1 x2 (Int32.ofNat i) t = _ ∧ _
    unfold zyF90_27b zyF90_54 zyF90_89
    by_cases h24 : i = 24
    · rw [if_pos (by rw [Int32.le_iff_toInt_le, ei, zq_l24]; omega)]
      refine ⟨x1, t, rfl, h, ?_⟩
      rw [h1, h24]
    rw [if_neg (by rw [Int32.le_iff_toInt_le, ei, zq_l24]; omega), zys86, zq_bind, e13, zN_succ (by omega)]
    dsimp only
    have yes : zhm s i = true → ∃ r t', ((zyF54 (s.1 1 3 ^^^ ((1 : Int32) <<< (Int32.ofNat i &&& 31))) (s.1 1 3) t).bind fun p1 => if x2 ≤ p1.1 then zyF90_27 n x1 x2 (Int32.ofNat (i + 1)) p1.2 else zyF90_27 n (Int32.ofNat i) p1.1 (Int32.ofNat (i + 1)) p1.2) = some (r, t') ∧ zTh s P (zAev s) 0 t' ∧ r.toInt = (zhs (zhm s) (zhV s P) v0 24).1 := fun hm => by
      obtain ⟨t1, f1, g1⟩ := zys54 hP hL h (zx0 l0 (show i < 24 by omega)) ((zmk_and2 (zx0 l0 (show i < 24 by omega)) l0).1)
      rw [f1, zq_bind]
      dsimp only
      by_cases q : x2 ≤ zIn s P (zAev s) 0 (s.1 1 3 ^^^ ((1 : Int32) <<< (Int32.ofNat i &&& 31))) (s.1 1 3)
      · rw [if_pos q]
        have e : zhs (zhm s) (zhV s P) v0 (i + 1) = zhs (zhm s) (zhV s P) v0 i := by
          rw [zhs_s, if_neg (fun w => w.2 (by rw [← h2]; exact q))]
        exact zl_90 hP hL l0 l1 v0 n (i + 1) x1 x2 t1 (by omega) (by omega) g1 (by rw [e]; exact h1) (by rw [e]; exact h2)
      · rw [if_neg q]
        have e : zhs (zhm s) (zhV s P) v0 (i + 1) = ((i : Int), zhV s P i) := by
          rw [zhs_s, if_pos ⟨hm, by rw [← h2]; exact q⟩]
        exact zl_90 hP hL l0 l1 v0 n (i + 1) _ _ t1 (by omega) (by omega) g1 (by rw [e]; exact ei) (by rw [e]; rfl)
    cases hb : zbt (s.1 1 3) (Int32.ofNat i) with
    | true =>
      rw [if_pos (show zqb true ≠ 0 by decide)]
      exact yes (by unfold zhm; rw [hb]; rfl)
    | false =>
      rw [if_neg (show ¬ zqb false ≠ 0 by decide)]
      have f91 : zyF91 t = some (zqb (!decide (s.1 1 4 ≤ zpc (s.1 1 3))), t) := by
        unfold zyF91
        rw [zys92 (by rw [e13]; exact l0) (by rw [e13]; exact l1), zq_bind, e13, e14]
        by_cases q : s.1 1 4 ≤ zpc (s.1 1 3)
        · rw [if_pos q, decide_eq_true q]
          rfl
        · rw [if_neg q, decide_eq_false q]
          rfl
      rw [f91, zq_bind]
      dsimp only
      by_cases q : s.1 1 4 ≤ zpc (s.1 1 3)
      · rw [decide_eq_true q, if_pos (show zqb (!true) = 0 from rfl)]
        have e : zhs (zhm s) (zhV s P) v0 (i + 1) = zhs (zhm s) (zhV s P) v0 i := by
          rw [zhs_s, if_neg (fun w => by
            have := w.1
            unfold zhm at this
            rw [hb, decide_eq_true q] at this
            cases this)]
        exact zl_90 hP hL l0 l1 v0 n (i + 1) x1 x2 t (by omega) (by omega) h (by rw [e]; exact h1) (by rw [e]; exact h2)
      · rw [decide_eq_false q, if_neg (show ¬ zqb (!false) = 0 by decide), e13]
        exact yes (by unfold zhm; rw [hb, decide_eq_false q]; rfl)
theorem zl_218 (hP : zPe s P) (hL : zLw (s.1 5 3) (s.1 43 11) (s.1 6) (s.1 49)) (l0 : 0 ≤ (s.1 1 3).toInt) (l1 : (s.1 1 3).toInt ≤ 16777215) (e7 : s.1 43 7 = s.1 1 3) (e40 : s.1 44 40 = s.1 1 4) (x1 v0 : Int32) : ∀ (n i : Nat) (x2 x3 : Int32) (t : zy_S), i ≤ 24 → 24 - i < n → zUn s t → zRg t → (∀ l, l < 24 → t.1 51 l = s.1 2 l) → x2.toInt = (if (zhs (zhm s) (zhV s P) v0 i).1 = -1 then -2 else (zhs (zhm s) (zhV s P) v0 i).1) → x3 = (zhs (zhm s) (zhV s P) v0 i).2 →
    ∃ r t', zyF218_31 n x1 x2 x3 (Int32.ofNat i) t = some (r, t') ∧ zUn s t' ∧ zRg t' ∧ (((zhs (zhm s) (zhV s P) v0 24).1 = -1 ∧ r = -2) ∨ ((zhs (zhm s) (zhV s P) v0 24).1 ≠ -1 ∧ ((x1 = 0 ∧ r.toInt = (zhs (zhm s) (zhV s P) v0 24).1) ∨ (x1 ≠ 0 ∧ r = (zhs (zhm s) (zhV s P) v0 24).2))))
  | 0, i, x2, x3, t, hi, hn, h, hr, hw, h1, h2 => by omega
  | n + 1, i, x2, x3, t, hi, hn, h, hr, hw, h1, h2 => by
    have e437 : t.1 43 7 = s.1 1 3 := (h.2 43 7 zmt_6.2).trans e7
    have e4440 : t.1 44 40 = s.1 1 4 := (h.2 44 40 rfl).trans e40
    have ei : (Int32.ofNat i).toInt = (i : Int) := zN_toInt (by omega)
    have hin := zhs_in (zhm s) (zhV s P) v0 i
    show ∃ r t', zyF218_31b (zyF218_31 n) x1 x2 x3 (Int32.ofNat i) t = _ ∧ _
    unfold zyF218_31b zyF218_61 zyF218_85
    rw [e437]
    by_cases h24 : i = 24
    · rw [if_pos (by rw [Int32.le_iff_toInt_le, ei, zq_l24]; omega)]
      rw [h24] at h1 h2 hin
      by_cases hm1 : (zhs (zhm s) (zhV s P) v0 24).1 = -1
      · rw [if_pos hm1] at h1
        have e2 : x2 = -2 := zq_ext h1
        rw [if_pos (show x2 < 0 by rw [e2]; decide)]
        exact ⟨x2, t, rfl, h, hr, Or.inl ⟨hm1, e2⟩⟩
      · rw [if_neg hm1] at h1
        obtain ⟨j, j1, j2, j3⟩ : ∃ j : Nat, j < 24 ∧ (zhs (zhm s) (zhV s P) v0 24).1 = (j : Int) ∧ (zhs (zhm s) (zhV s P) v0 24).2 = zhV s P j := hin.resolve_left hm1
        rw [if_neg (show ¬ x2 < 0 by rw [Int32.lt_iff_toInt_lt, zq_l0]; omega)]
        by_cases c : x1 = 0
        · rw [if_neg (not_not_intro c)]
          exact ⟨x2, t, rfl, h, hr, Or.inr ⟨hm1, Or.inl ⟨c, h1⟩⟩⟩
        · rw [if_pos c]
          exact ⟨x3, t, rfl, h, hr, Or.inr ⟨hm1, Or.inr ⟨c, h2⟩⟩⟩
    rw [if_neg (by rw [Int32.le_iff_toInt_le, ei, zq_l24]; omega), zys208, zq_bind, zN_succ (by omega)]
    dsimp only
    have yes : zhm s i = true → ∃ r t', ((zyF211 (Int32.ofNat i) (s.1 1 3) t).bind fun p1 => if x3 ≤ p1.1 then zyF218_31 n x1 x2 x3 (Int32.ofNat (i + 1)) p1.2 else zyF218_31 n x1 (Int32.ofNat i) p1.1 (Int32.ofNat (i + 1)) p1.2) = some (r, t') ∧ zUn s t' ∧ zRg t' ∧ (((zhs (zhm s) (zhV s P) v0 24).1 = -1 ∧ r = -2) ∨ ((zhs (zhm s) (zhV s P) v0 24).1 ≠ -1 ∧ ((x1 = 0 ∧ r.toInt = (zhs (zhm s) (zhV s P) v0 24).1) ∨ (x1 ≠ 0 ∧ r = (zhs (zhm s) (zhV s P) v0 24).2)))) := fun hm => by
      obtain ⟨t1, f1, u1, g1, w1⟩ := zys211 hP hL h hr (show i < 24 by omega) l0
      have hw1 : ∀ l, l < 24 → t1.1 51 l = s.1 2 l := fun l hl => (w1 l).trans (hw l hl)
      have ev : zAl s P (s.1 1 3 ^^^ ((1 : Int32) <<< (Int32.ofNat i &&& 31))) (fun l => if l = i then (if zbt (s.1 1 3) (Int32.ofNat i) = true then t.1 51 i else 0) else t.1 51 l) = zhV s P i := (zIn_x hP l0 (show i < 24 by omega) hw).symm
      rw [f1, zq_bind, ev]
      dsimp only
      by_cases q : x3 ≤ zhV s P i
      · rw [if_pos q]
        have e : zhs (zhm s) (zhV s P) v0 (i + 1) = zhs (zhm s) (zhV s P) v0 i := by
          rw [zhs_s, if_neg (fun w => w.2 (by rw [← h2]; exact q))]
        exact zl_218 hP hL l0 l1 e7 e40 x1 v0 n (i + 1) x2 x3 t1 (by omega) (by omega) u1 g1 hw1 (by rw [e]; exact h1) (by rw [e]; exact h2)
      · rw [if_neg q]
        have e : zhs (zhm s) (zhV s P) v0 (i + 1) = ((i : Int), zhV s P i) := by
          rw [zhs_s, if_pos ⟨hm, by rw [← h2]; exact q⟩]
        exact zl_218 hP hL l0 l1 e7 e40 x1 v0 n (i + 1) _ _ t1 (by omega) (by omega) u1 g1 hw1 (by rw [e, if_neg (show ¬ (i : Int) = -1 by omega)]; exact ei) (by rw [e])
    cases hb : zbt (s.1 1 3) (Int32.ofNat i) with
    | true =>
      rw [if_pos (show zqb true ≠ 0 by decide), e437]
      exact yes (by unfold zhm; rw [hb]; rfl)
    | false =>
      rw [if_neg (show ¬ zqb false ≠ 0 by decide)]
      have f219 : zyF219 (s.1 1 3) t = some (zqb (!decide (s.1 1 4 ≤ zpc (s.1 1 3))), t) := by
        unfold zyF219
        rw [zys209 t l0 l1, zq_bind, e4440]
        by_cases q : s.1 1 4 ≤ zpc (s.1 1 3)
        · rw [if_pos q, decide_eq_true q]
          rfl
        · rw [if_neg q, decide_eq_false q]
          rfl
      rw [e437, f219, zq_bind]
      dsimp only
      by_cases q : s.1 1 4 ≤ zpc (s.1 1 3)
      · rw [decide_eq_true q, if_pos (show zqb (!true) = 0 from rfl)]
        have e : zhs (zhm s) (zhV s P) v0 (i + 1) = zhs (zhm s) (zhV s P) v0 i := by
          rw [zhs_s, if_neg (fun w => by
            have := w.1
            unfold zhm at this
            rw [hb, decide_eq_true q] at this
            cases this)]
        exact zl_218 hP hL l0 l1 e7 e40 x1 v0 n (i + 1) x2 x3 t (by omega) (by omega) h hr hw (by rw [e]; exact h1) (by rw [e]; exact h2)
      · rw [decide_eq_false q, if_neg (show ¬ zqb (!false) = 0 by decide), e437]
        exact yes (by unfold zhm; rw [hb, decide_eq_false q]; rfl)
theorem zys84b (x : Int32) (s : zy_S) : zyF84 x s = some (zqb (decide (x = 0 ∨ x = 1)), s) := by
  unfold zyF84
  by_cases a : x = 0
  · rw [if_pos a, decide_eq_true (Or.inl a)]
    rfl
  · rw [if_neg a]
    by_cases b : x = 1
    · rw [if_neg (not_not_intro b), decide_eq_true (Or.inr b)]
      rfl
    · rw [if_pos b, decide_eq_false (fun q => q.elim a b)]
      rfl
theorem zys87 (x : Int32) (s : zy_S) : zyF87 x s = some (if x = -1 then -2 else x, s) := by
  unfold zyF87
  by_cases a : x = -1
  · rw [if_neg (not_not_intro a), if_pos a]
  · rw [if_pos a, if_neg a]
theorem zw01 (x : Int32) : (0 ≤ x.toInt64.toInt ∧ x.toInt64.toInt ≤ 1) ↔ (x = 0 ∨ x = 1) := by
  rw [Int32.toInt_toInt64]
  constructor
  · intro h
    rcases (by omega : x.toInt = 0 ∨ x.toInt = 1) with q | q
    · exact Or.inl (zq_ext q)
    · exact Or.inr (zq_ext q)
  · rintro (rfl | rfl) <;> decide
theorem zop_helps (x : Int32) {s : zy_S} (h : zI s) : ∃ r s1 s2, zyF89 x s = some (r, s1) ∧ zyF218 x s1 = some (r, s2) ∧ zI s2 := by
  obtain ⟨hg, hP, hL, h4, e7, l0, l1, e40⟩ := zMI h
  obtain ⟨P, hPP⟩ : ∃ P, P = (s.1 1 5).toInt.toNat := ⟨_, rfl⟩
  rw [← hPP] at hP
  by_cases hx : x = 0 ∨ x = 1
  · obtain ⟨V0, hV0⟩ : ∃ V0, V0 = zIn s P (zAev s) 0 (s.1 1 3) (s.1 1 3) := ⟨_, rfl⟩
    -- the class looks
    obtain ⟨t0, f0, g0⟩ := zys74 (P := P) (zUn_refl s) hg
    have e13 : t0.1 1 3 = s.1 1 3 := g0.1.2 1 3 zto_14.1
    obtain ⟨t1, f1, g1⟩ := zys54 hP hL g0 (L := s.1 1 3) (K := s.1 1 3) l0 (by rw [Int32.and_self]; exact l0)
    obtain ⟨r, t2, f2, g2, hr⟩ := zl_90 hP hL l0 l1 V0 zy_fu 0 (-1) V0 t1 (by decide) (by unfold zy_fu; omega) g1 rfl rfl
    have f90 : zyF90 s = some (r, t2) := by
      unfold zyF90
      rw [f0, zq_bind]
      dsimp only
      rw [e13, f1, zq_bind]
      dsimp only
      rw [show zIn s P (((1 : Int32) <<< ((s.1 1 5) &&& 31)) - (1 : Int32)) 0 (s.1 1 3) (s.1 1 3) = V0 from hV0.symm]
      exact f2
    have hin := zhs_in (zhm s) (zhV s P) V0 24
    -- the class's answer
    obtain ⟨R, t3, f3, u3, g3, hR⟩ : ∃ R t3, zyF89 x s = some (R, t3) ∧ zUn s t3 ∧ zRg t3 ∧ (((zhs (zhm s) (zhV s P) V0 24).1 = -1 ∧ R = -2) ∨ ((zhs (zhm s) (zhV s P) V0 24).1 ≠ -1 ∧ ((x = 0 ∧ R.toInt = (zhs (zhm s) (zhV s P) V0 24).1) ∨ (x ≠ 0 ∧ R = (zhs (zhm s) (zhV s P) V0 24).2)))) := by
      unfold zyF89 zyF89_26
      rw [zys84b, zqb_t (decide_eq_true hx), zq_bind]
      dsimp only
      rw [if_pos (show (1 : Int32) ≠ 0 by decide), f90, zq_bind]
      dsimp only
      by_cases hm1 : (zhs (zhm s) (zhV s P) V0 24).1 = -1
      · have er : r = -1 := zq_ext (by rw [hr, hm1]; rfl)
        have end_ : (zyF87 r t2).bind (fun p1 => some (p1.1, p1.2)) = some ((-2 : Int32), t2) := by
          rw [zys87, if_pos er, zq_bind]
        by_cases c : x = 0
        · rw [if_pos c, end_]
          exact ⟨_, t2, rfl, g2.1, g2.2.1, Or.inl ⟨hm1, rfl⟩⟩
        · rw [if_neg c, if_neg (not_not_intro er), end_]
          exact ⟨_, t2, rfl, g2.1, g2.2.1, Or.inl ⟨hm1, rfl⟩⟩
      · obtain ⟨j, j1, j2, j3⟩ := hin.resolve_left hm1
        have er : r ≠ -1 := fun q => hm1 (by rw [← hr, q]; rfl)
        by_cases c : x = 0
        · rw [if_pos c, zys87, if_neg er, zq_bind]
          exact ⟨_, t2, rfl, g2.1, g2.2.1, Or.inr ⟨hm1, Or.inl ⟨c, hr⟩⟩⟩
        · have erj : r = Int32.ofNat j := zq_ext (by rw [hr, j2, zN_toInt (by omega)])
          obtain ⟨t3, f3, g3⟩ := zys73 hP hL g2.1 g2.2.1 l0 j1
          rw [if_neg c, if_pos er, erj, f3, zq_bind]
          exact ⟨_, t3, rfl, g3.1, g3.2.1, Or.inr ⟨hm1, Or.inr ⟨c, j3.symm⟩⟩⟩
    -- the model
    obtain ⟨t4, f4, u4, g4, w4, -⟩ := zys203 (s := s) hg u3 g3
    have hw : ∀ l, l < 24 → t4.1 51 l = s.1 2 l := fun l hl => (w4 l hl).trans (h4 l hl)
    have e437 : t4.1 43 7 = s.1 1 3 := (u4.2 43 7 zmt_6.2).trans e7
    obtain ⟨t5, f5, g5⟩ := zys212 hP hL (zMk_refl u4 g4) (L := s.1 1 3) l0
    have ev : zAl s P (s.1 1 3) (t4.1 51) = V0 := by
      rw [hV0]
      refine (zIn_all hP l0 l0 (fun l hl hb => ?_)).symm
      rw [if_pos hb, hw l hl]
    obtain ⟨R', t6, f6, u6, g6, hR'⟩ := zl_218 hP hL l0 l1 e7 e40 x V0 zy_fu 0 (-2) V0 t5 (by decide) (by unfold zy_fu; omega) g5.1 g5.2.1 (fun l hl => (g5.2.2 51 l (by decide) (by decide)).trans (hw l hl)) rfl rfl
    have eR : R' = R := by
      rcases hR with ⟨a, b⟩ | ⟨a, b⟩
      · rcases hR' with ⟨c, d⟩ | ⟨c, d⟩
        · rw [b, d]
        · exact absurd a c
      · rcases hR' with ⟨c, d⟩ | ⟨c, d⟩
        · exact absurd c a
        · rcases b with ⟨b1, b2⟩ | ⟨b1, b2⟩
          · rcases d with ⟨d1, d2⟩ | ⟨d1, d2⟩
            · exact zq_ext (by rw [b2, d2])
            · exact absurd b1 d1
          · rcases d with ⟨d1, d2⟩ | ⟨d1, d2⟩
            · exact absurd d1 b1
            · rw [b2, d2]
    refine ⟨R, t3, t6, f3, ?_, zI_end h u6 g6⟩
    unfold zyF218
    rw [zys179, zqb_t (decide_eq_true (by rw [zq_j0, show (1 : Int64).toInt = 1 from rfl]; exact (zw01 x).mpr hx)), zq_bind]
    dsimp only
    rw [if_pos (show (1 : Int32) ≠ 0 by decide), f4, zq_bind]
    dsimp only
    rw [e437, f5, zq_bind, ev]
    dsimp only
    rw [← eR]
    exact f6
  · refine ⟨-1, s, s, ?_, ?_, h⟩
    · unfold zyF89
      rw [zys84b, zqb_f (decide_eq_false hx), zq_bind]
      dsimp only
      rw [if_neg (show ¬ (0 : Int32) ≠ 0 by decide)]
    · unfold zyF218
      rw [zys179, zqb_f (decide_eq_false (by rw [zq_j0, show (1 : Int64).toInt = 1 from rfl]; exact fun q => hx ((zw01 x).mp q))), zq_bind]
      dsimp only
      rw [if_neg (show ¬ (0 : Int32) ≠ 0 by decide)]
end ZQ
