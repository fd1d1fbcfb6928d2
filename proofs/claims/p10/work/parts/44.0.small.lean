/-! PART 19x.1: what small methods answer. Made by wip/v4/gen_x.py. -/
def zqb (b : Bool) : Int32 := bif b then 1 else 0
theorem zqb_01 (b : Bool) : zqb b = 0 ∨ zqb b = 1 := by cases b; exact Or.inl rfl; exact Or.inr rfl
theorem zqb_n0 (b : Bool) : (zqb b ≠ 0) = (b = true) := by cases b <;> simp [zqb]
theorem zqb_e0 (b : Bool) : (zqb b = 0) = (b = false) := by cases b <;> simp [zqb]
theorem zqb_t0 (b : Bool) : ((zqb b).toInt = 0) = (b = false) := by cases b <;> simp [zqb]
theorem zqb_if01 {α : Type} (b : Bool) (x y : α) : (if zqb b = 0 ∨ zqb b = 1 then x else y) = x := if_pos (zqb_01 b)
theorem zqb_t {b : Bool} (h : b = true) : zqb b = 1 := by rw [h]; rfl
theorem zqb_f {b : Bool} (h : b = false) : zqb b = 0 := by rw [h]; rfl
theorem zqb_d {p : Prop} {hp : Decidable p} {x : Int32} {s : zy_S} {a : Option (Int32 × zy_S)} (h1 : p → a = some (1, s)) (h2 : ¬ p → a = some (0, s)) : a = some (zqb (decide p), s) := by
  by_cases h : p
  · rw [decide_eq_true h]; exact h1 h
  · rw [decide_eq_false h]; exact h2 h
theorem zq_l0 : (0 : Int32).toInt = 0 := rfl
theorem zq_lm1 : (-1 : Int32).toInt = -1 := rfl
theorem zq_l1 : (1 : Int32).toInt = 1 := rfl
theorem zq_l2 : (2 : Int32).toInt = 2 := rfl
theorem zq_l3 : (3 : Int32).toInt = 3 := rfl
theorem zq_l4 : (4 : Int32).toInt = 4 := rfl
theorem zq_l5 : (5 : Int32).toInt = 5 := rfl
theorem zq_l6 : (6 : Int32).toInt = 6 := rfl
theorem zq_l7 : (7 : Int32).toInt = 7 := rfl
theorem zq_l8 : (8 : Int32).toInt = 8 := rfl
theorem zq_l9 : (9 : Int32).toInt = 9 := rfl
theorem zq_l12 : (12 : Int32).toInt = 12 := rfl
theorem zq_l16 : (16 : Int32).toInt = 16 := rfl
theorem zq_l23 : (23 : Int32).toInt = 23 := rfl
theorem zq_l24 : (24 : Int32).toInt = 24 := rfl
theorem zq_l40 : (40 : Int32).toInt = 40 := rfl
theorem zq_l39 : (39 : Int32).toInt = 39 := rfl
theorem zq_l50 : (50 : Int32).toInt = 50 := rfl
theorem zq_l51 : (51 : Int32).toInt = 51 := rfl
theorem zq_l60 : (60 : Int32).toInt = 60 := rfl
theorem zq_l120 : (120 : Int32).toInt = 120 := rfl
theorem zq_l128 : (128 : Int32).toInt = 128 := rfl
theorem zq_l255 : (255 : Int32).toInt = 255 := rfl
theorem zq_l4095 : (4095 : Int32).toInt = 4095 := rfl
theorem zq_l4096 : (4096 : Int32).toInt = 4096 := rfl
theorem zq_j0 : (0 : Int64).toInt = 0 := rfl
theorem zq_j1 : (1 : Int64).toInt = 1 := rfl
theorem zq_j4 : (4 : Int64).toInt = 4 := rfl
theorem zq_j5 : (5 : Int64).toInt = 5 := rfl
theorem zq_j7 : (7 : Int64).toInt = 7 := rfl
theorem zq_j8 : (8 : Int64).toInt = 8 := rfl
theorem zq_j9 : (9 : Int64).toInt = 9 := rfl
theorem zq_j23 : (23 : Int64).toInt = 23 := rfl
theorem zq_j255 : (255 : Int64).toInt = 255 := rfl
theorem zq_j4095 : (4095 : Int64).toInt = 4095 := rfl
theorem zys18 (x : Int32) (s : zy_S) : zyF18 x s = some (zqb (decide (0 ≤ x.toInt ∧ x.toInt ≤ 5)), s) := by
  unfold zyF18
  simp only [ne_eq, zq_eq, Int32.lt_iff_toInt_lt, Int32.le_iff_toInt_le, zq_l0, zq_lm1, zq_l1, zq_l2, zq_l3, zq_l4, zq_l5, zq_l6, zq_l7, zq_l8, zq_l9, zq_l12, zq_l16, zq_l23, zq_l24, zq_l40, zq_l39, zq_l50, zq_l51, zq_l60, zq_l120, zq_l128, zq_l255, zq_l4095, zq_l4096, zqb_t0, Classical.not_not, Bool.not_eq_false, decide_eq_true_eq, decide_eq_false_iff_not]
  refine zqb_d (x := 0) (fun h => ?_) (fun h => ?_)
  all_goals
    repeat' split
  all_goals first | rfl | (exfalso; omega)
theorem zys26 (x : Int32) (s : zy_S) : zyF26 x s = some (zqb (decide (0 ≤ x.toInt ∧ x.toInt ≤ 23)), s) := by
  unfold zyF26
  simp only [ne_eq, zq_eq, Int32.lt_iff_toInt_lt, Int32.le_iff_toInt_le, zq_l0, zq_lm1, zq_l1, zq_l2, zq_l3, zq_l4, zq_l5, zq_l6, zq_l7, zq_l8, zq_l9, zq_l12, zq_l16, zq_l23, zq_l24, zq_l40, zq_l39, zq_l50, zq_l51, zq_l60, zq_l120, zq_l128, zq_l255, zq_l4095, zq_l4096, zqb_t0, Classical.not_not, Bool.not_eq_false, decide_eq_true_eq, decide_eq_false_iff_not]
  refine zqb_d (x := 0) (fun h => ?_) (fun h => ?_)
  all_goals
    repeat' split
  all_goals first | rfl | (exfalso; omega)
theorem zys149 (x : Int32) (s : zy_S) : zyF149 x s = some (zqb (decide (0 ≤ x.toInt ∧ x.toInt ≤ 7)), s) := by
  unfold zyF149
  simp only [ne_eq, zq_eq, Int32.lt_iff_toInt_lt, Int32.le_iff_toInt_le, zq_l0, zq_lm1, zq_l1, zq_l2, zq_l3, zq_l4, zq_l5, zq_l6, zq_l7, zq_l8, zq_l9, zq_l12, zq_l16, zq_l23, zq_l24, zq_l40, zq_l39, zq_l50, zq_l51, zq_l60, zq_l120, zq_l128, zq_l255, zq_l4095, zq_l4096, zqb_t0, Classical.not_not, Bool.not_eq_false, decide_eq_true_eq, decide_eq_false_iff_not]
  refine zqb_d (x := 0) (fun h => ?_) (fun h => ?_)
  all_goals
    repeat' split
  all_goals first | rfl | (exfalso; omega)
theorem zys154 (x : Int32) (s : zy_S) : zyF154 x s = some (zqb (decide (0 ≤ x.toInt ∧ x.toInt < (s.1 27 2).toInt)), s) := by
  unfold zyF154
  simp only [ne_eq, zq_eq, Int32.lt_iff_toInt_lt, Int32.le_iff_toInt_le, zq_l0, zq_lm1, zq_l1, zq_l2, zq_l3, zq_l4, zq_l5, zq_l6, zq_l7, zq_l8, zq_l9, zq_l12, zq_l16, zq_l23, zq_l24, zq_l40, zq_l39, zq_l50, zq_l51, zq_l60, zq_l120, zq_l128, zq_l255, zq_l4095, zq_l4096, zqb_t0, Classical.not_not, Bool.not_eq_false, decide_eq_true_eq, decide_eq_false_iff_not]
  refine zqb_d (x := 0) (fun h => ?_) (fun h => ?_)
  all_goals
    repeat' split
  all_goals first | rfl | (exfalso; omega)
theorem zys150 (s : zy_S) : zyF150  s = some (zqb (decide (50 ≤ (s.1 27 2).toInt)), s) := by
  unfold zyF150
  simp only [ne_eq, zq_eq, Int32.lt_iff_toInt_lt, Int32.le_iff_toInt_le, zq_l0, zq_lm1, zq_l1, zq_l2, zq_l3, zq_l4, zq_l5, zq_l6, zq_l7, zq_l8, zq_l9, zq_l12, zq_l16, zq_l23, zq_l24, zq_l40, zq_l39, zq_l50, zq_l51, zq_l60, zq_l120, zq_l128, zq_l255, zq_l4095, zq_l4096, zqb_t0, Classical.not_not, Bool.not_eq_false, decide_eq_true_eq, decide_eq_false_iff_not]
  refine zqb_d (x := 0) (fun h => ?_) (fun h => ?_)
  all_goals
    repeat' split
  all_goals first | rfl | (exfalso; omega)
theorem zys15 (s : zy_S) : zyF15  s = some (zqb (decide (8 ≤ (s.1 1 5).toInt)), s) := by
  unfold zyF15
  simp only [ne_eq, zq_eq, Int32.lt_iff_toInt_lt, Int32.le_iff_toInt_le, zq_l0, zq_lm1, zq_l1, zq_l2, zq_l3, zq_l4, zq_l5, zq_l6, zq_l7, zq_l8, zq_l9, zq_l12, zq_l16, zq_l23, zq_l24, zq_l40, zq_l39, zq_l50, zq_l51, zq_l60, zq_l120, zq_l128, zq_l255, zq_l4095, zq_l4096, zqb_t0, Classical.not_not, Bool.not_eq_false, decide_eq_true_eq, decide_eq_false_iff_not]
  refine zqb_d (x := 0) (fun h => ?_) (fun h => ?_)
  all_goals
    repeat' split
  all_goals first | rfl | (exfalso; omega)
theorem zys34 (s : zy_S) : zyF34  s = some (zqb (decide (120 ≤ (s.1 9 2).toInt)), s) := by
  unfold zyF34
  simp only [ne_eq, zq_eq, Int32.lt_iff_toInt_lt, Int32.le_iff_toInt_le, zq_l0, zq_lm1, zq_l1, zq_l2, zq_l3, zq_l4, zq_l5, zq_l6, zq_l7, zq_l8, zq_l9, zq_l12, zq_l16, zq_l23, zq_l24, zq_l40, zq_l39, zq_l50, zq_l51, zq_l60, zq_l120, zq_l128, zq_l255, zq_l4095, zq_l4096, zqb_t0, Classical.not_not, Bool.not_eq_false, decide_eq_true_eq, decide_eq_false_iff_not]
  refine zqb_d (x := 0) (fun h => ?_) (fun h => ?_)
  all_goals
    repeat' split
  all_goals first | rfl | (exfalso; omega)
theorem zys20 (c : Nat) (s : zy_S) : zyF20 c s = some (zqb (decide ((s.1 c 2).toInt ≠ -1)), s) := by
  unfold zyF20
  simp only [ne_eq, zq_eq, Int32.lt_iff_toInt_lt, Int32.le_iff_toInt_le, zq_l0, zq_lm1, zq_l1, zq_l2, zq_l3, zq_l4, zq_l5, zq_l6, zq_l7, zq_l8, zq_l9, zq_l12, zq_l16, zq_l23, zq_l24, zq_l40, zq_l39, zq_l50, zq_l51, zq_l60, zq_l120, zq_l128, zq_l255, zq_l4095, zq_l4096, zqb_t0, Classical.not_not, Bool.not_eq_false, decide_eq_true_eq, decide_eq_false_iff_not]
  refine zqb_d (x := 0) (fun h => ?_) (fun h => ?_)
  all_goals
    repeat' split
  all_goals first | rfl | (exfalso; omega)
theorem zys19 (c : Nat) (s : zy_S) : zyF19 c s = some (zqb (decide ((s.1 c 1).toInt = -1 ∧ (s.1 c 2).toInt = -1)), s) := by
  unfold zyF19
  simp only [zys20, zq_bind, zqb_n0, ne_eq, zq_eq, zq_l0, zq_lm1, zq_l1, zq_l2, zq_l3, zq_l4, zq_l5, zq_l6, zq_l7, zq_l8, zq_l9, zq_l12, zq_l16, zq_l23, zq_l24, zq_l40, zq_l39, zq_l50, zq_l51, zq_l60, zq_l120, zq_l128, zq_l255, zq_l4095, zq_l4096, zqb_t0, Classical.not_not, Bool.not_eq_false, decide_eq_true_eq, decide_eq_false_iff_not]
  refine zqb_d (x := 0) (fun h => ?_) (fun h => ?_)
  · rw [if_neg (by omega), if_neg (by omega)]
  · by_cases h1 : (s.1 c 1).toInt = -1
    · rw [if_neg (by omega), if_pos (by omega)]
    · rw [if_pos h1]
theorem zys21 (c : Nat) (x : Int32) (s : zy_S) : zyF21 c x s = some (zqb (decide ((s.1 c 2).toInt ≠ -1 ∧ (s.1 c 2).toInt = x.toInt)), s) := by
  unfold zyF21
  simp only [zys20, zq_bind, zqb_e0, ne_eq, zq_eq, zq_l0, zq_lm1, zq_l1, zq_l2, zq_l3, zq_l4, zq_l5, zq_l6, zq_l7, zq_l8, zq_l9, zq_l12, zq_l16, zq_l23, zq_l24, zq_l40, zq_l39, zq_l50, zq_l51, zq_l60, zq_l120, zq_l128, zq_l255, zq_l4095, zq_l4096, zqb_t0, Classical.not_not, Bool.not_eq_false, decide_eq_true_eq, decide_eq_false_iff_not]
  refine zqb_d (x := 0) (fun h => ?_) (fun h => ?_)
  · rw [if_neg (by omega), if_neg (by omega)]
  · by_cases h1 : (s.1 c 2).toInt = -1
    · rw [if_pos (by omega)]
    · rw [if_neg (by omega), if_pos (by omega)]
theorem zys23 (c : Nat) (x y : Int32) (s : zy_S) (hl : zin (s.1 c 3) 0 60) : zyF23 c x y s = some (zqb (decide (0 ≤ x.toInt ∧ 0 ≤ y.toInt ∧ x.toInt ≤ (s.1 c 3).toInt ∧ y.toInt ≤ (s.1 c 3).toInt - x.toInt)), s) := by
  obtain ⟨l0, l1⟩ := hl
  unfold zyF23
  by_cases hx : 0 ≤ x.toInt
  · have e : (s.1 c 3 - x).toInt = (s.1 c 3).toInt - x.toInt := zq_sub (by have := zq_hi x; omega) (by omega)
    simp only [e, Int32.lt_iff_toInt_lt, Int32.le_iff_toInt_le, zq_l0, zq_lm1, zq_l1, zq_l2, zq_l3, zq_l4, zq_l5, zq_l6, zq_l7, zq_l8, zq_l9, zq_l12, zq_l16, zq_l23, zq_l24, zq_l40, zq_l39, zq_l50, zq_l51, zq_l60, zq_l120, zq_l128, zq_l255, zq_l4095, zq_l4096, zqb_t0, Classical.not_not, Bool.not_eq_false, decide_eq_true_eq, decide_eq_false_iff_not]
    refine zqb_d (x := 0) (fun h => ?_) (fun h => ?_)
    all_goals
      repeat' split
    all_goals first | rfl | (exfalso; omega)
  · simp only [Int32.lt_iff_toInt_lt, Int32.le_iff_toInt_le, zq_l0, zq_lm1, zq_l1, zq_l2, zq_l3, zq_l4, zq_l5, zq_l6, zq_l7, zq_l8, zq_l9, zq_l12, zq_l16, zq_l23, zq_l24, zq_l40, zq_l39, zq_l50, zq_l51, zq_l60, zq_l120, zq_l128, zq_l255, zq_l4095, zq_l4096, zqb_t0, Classical.not_not, Bool.not_eq_false, decide_eq_true_eq, decide_eq_false_iff_not]
    refine zqb_d (x := 0) (fun h => ?_) (fun h => ?_)
    · exact absurd h.1 hx
    · rw [if_pos (by omega)]
theorem zys179 (v w u : Int64) (s : zy_S) : zyF179 v w u s = some (zqb (decide (w.toInt ≤ v.toInt ∧ v.toInt ≤ u.toInt)), s) := by
  unfold zyF179
  simp only [zq_cmp0, zq_cmp1]
  refine zqb_d (x := 0) (fun h => ?_) (fun h => ?_)
  all_goals
    repeat' split
  all_goals first | rfl | (exfalso; omega)
theorem zys182 (x : Int32) (s : zy_S) : zyF182 x s = some (zqb (decide (0 ≤ x.toInt ∧ x.toInt ≤ 5)), s) := by
  unfold zyF182
  simp only [zys179, zq_bind, zqb_if01, Int32.toInt_toInt64, zq_j0, zq_j1, zq_j4, zq_j5, zq_j7, zq_j8, zq_j9, zq_j23, zq_j255, zq_j4095]
theorem zys186 (v : Int64) (s : zy_S) : zyF186 v s = some (zqb (decide (0 ≤ v.toInt ∧ v.toInt ≤ 23)), s) := by
  unfold zyF186
  simp only [zys179, zq_bind, zqb_if01, zq_j0, zq_j1, zq_j4, zq_j5, zq_j7, zq_j8, zq_j9, zq_j23, zq_j255, zq_j4095]
theorem zys185 (v : Int64) (s : zy_S) (hp : zin (s.1 43 6) 0 8) : zyF185 v s = some (zqb (decide (0 ≤ v.toInt ∧ v.toInt < (s.1 43 6).toInt)), s) := by
  obtain ⟨p0, p1⟩ := hp
  unfold zyF185
  have e : (s.1 43 6 - 1).toInt = (s.1 43 6).toInt - 1 := zq_sub (by rw [zq_l1]; omega) (by rw [zq_l1]; omega)
  simp only [zys179, zq_bind, zqb_if01, Int32.toInt_toInt64, e, zq_j0, zq_j1, zq_j4, zq_j5, zq_j7, zq_j8, zq_j9, zq_j23, zq_j255, zq_j4095]
  congr 3
  exact decide_eq_decide.mpr (by omega)
theorem zys249 (x : Int32) (s : zy_S) (hp : zin (s.1 43 28) 0 50) : zyF249 x s = some (zqb (decide (0 ≤ x.toInt ∧ x.toInt < (s.1 43 28).toInt)), s) := by
  obtain ⟨p0, p1⟩ := hp
  unfold zyF249
  have e : (s.1 43 28 - 1).toInt = (s.1 43 28).toInt - 1 := zq_sub (by rw [zq_l1]; omega) (by rw [zq_l1]; omega)
  simp only [zys179, zq_bind, zqb_if01, Int32.toInt_toInt64, e, zq_j0, zq_j1, zq_j4, zq_j5, zq_j7, zq_j8, zq_j9, zq_j23, zq_j255, zq_j4095]
  congr 3
  exact decide_eq_decide.mpr (by omega)
