/-! PART 46.98: books. Made by wip/v4/gen_book.py. -/
theorem zq_div2 {a : Int32} (h : 0 ≤ a.toInt) : (a / (2 : Int32)).toInt = a.toInt / 2 := by
  rw [Int32.toInt_div_of_ne_right _ _ (by decide), zq_l2, Int.tdiv_eq_ediv_of_nonneg h]
theorem zys109 {c : Nat} {s : zy_S} (hl : zin (s.1 c 3) 0 60) : ∃ m, zyF109 c s = some (m, s) ∧ m.toInt = ((s.1 c 3).toInt + 1) / 2 := by
  obtain ⟨l0, l1⟩ := hl
  have e : (s.1 c 3 + (1 : Int32)).toInt = (s.1 c 3).toInt + 1 := by rw [zq_add (by rw [zq_l1]; omega) (by rw [zq_l1]; omega), zq_l1]
  exact ⟨_, rfl, by rw [zq_div2 (by omega), e]⟩
/-- the LINE of a two -/
def zbL (s : zy_S) (c k : Nat) : Int32 := (s.2.1 (c + 1) (2 * k)).toInt32
abbrev zbI (s : zy_S) (c k : Nat) : Prop := 0 ≤ (zbL s c k).toInt ∧ (zbL s c k).toInt ≤ 23
theorem zq_2k {x : Int32} {k : Nat} (h : x.toInt = (k : Int)) (hk : k < 100) : ((2 : Int32) * x).toInt = 2 * (k : Int) ∧ ((2 : Int32) * x).toNatClampNeg = 2 * k ∧ ((2 : Int32) * x + (1 : Int32)).toInt = 2 * (k : Int) + 1 ∧ ((2 : Int32) * x + (1 : Int32)).toNatClampNeg = 2 * k + 1 := by
  have e : ((2 : Int32) * x).toInt = 2 * (k : Int) := by rw [zq_mul (by rw [zq_l2]; omega) (by rw [zq_l2]; omega), zq_l2, h]
  have e1 : ((2 : Int32) * x + (1 : Int32)).toInt = 2 * (k : Int) + 1 := by rw [zq_add (by rw [zq_l1]; omega) (by rw [zq_l1]; omega), zq_l1, e]
  exact ⟨e, by rw [zq_ix, e]; omega, e1, by rw [zq_ix, e1]; omega⟩
theorem zys110 {c k : Nat} {x : Int32} (s : zy_S) (h : x.toInt = (k : Int)) (hk : 2 * k < 60) : zyF110 c x s = some (if zbI s c k then zbL s c k else -1, s) := by
  obtain ⟨e, en, -, -⟩ := zq_2k h (by omega)
  unfold zyF110
  have eL : (s.2.1 (c + 1) (2 * k)).toInt32 = zbL s c k := rfl
  rw [if_pos (zq_in.mpr ⟨by omega, by omega⟩), en, eL]
  simp only [zys26, zq_bind, zqb_e0, decide_eq_false_iff_not]
  by_cases g : 0 ≤ (zbL s c k).toInt ∧ (zbL s c k).toInt ≤ 23
  · rw [if_neg (not_not_intro g), if_pos g]
  · rw [if_pos g, if_neg g]
/-- whether a two is so for a VIEW (v: whether it is the LINE's) -/
def zbS (s : zy_S) (c k : Nat) (v : Bool) : Prop := zbI s c k ∧ 2 * (k : Int) + 2 ≤ (s.1 c 3).toInt ∧ (s.2.1 (c + 1) (2 * k + 1)).toInt = if v = true then 0 else 1
theorem zys111 {c k : Nat} {x w : Int32} {s : zy_S} (hl : zin (s.1 c 3) 0 60) (h : x.toInt = (k : Int)) (hk : 2 * k < 60) : ∃ b : Bool, zyF111 c x w s = some (zqb b, s) ∧ (b = true ↔ zbS s c k (decide (zbL s c k - zbL s c k / (4 : Int32) * (4 : Int32) = w))) := by
  obtain ⟨e, en, e1, e1n⟩ := zq_2k h (by omega)
  unfold zyF111
  rw [zys110 s h hk, zq_bind]
  dsimp only
  by_cases g : zbI s c k
  · rw [if_pos g]
    have gn : ¬ zbL s c k = -1 := fun q => by
      have := g.1
      rw [q] at this
      exact absurd this (by decide)
    rw [if_neg gn]
    simp only [zys23 _ _ _ s hl, zq_bind, zqb_n0, decide_eq_true_eq, zq_l2, e]
    by_cases p : 0 ≤ 2 * (k : Int) ∧ (0 : Int) ≤ 2 ∧ 2 * (k : Int) ≤ (s.1 c 3).toInt ∧ (2 : Int) ≤ (s.1 c 3).toInt - 2 * (k : Int)
    · obtain ⟨-, -, p1, p2⟩ := id p
      obtain ⟨l0, l1⟩ := id hl
      rw [if_pos p, if_pos (zq_in.mpr ⟨by omega, by omega⟩), e1n]
      have fin : ∀ (y : Int32) (v : Bool), y.toInt = (if v = true then 0 else 1) → ∃ b : Bool, zyF111_46 y (s.2.1 (c + 1) (2 * k + 1)) s = some (zqb b, s) ∧ (b = true ↔ zbS s c k v) := by
        intro y v hy
        unfold zyF111_46
        by_cases q : (s.2.1 (c + 1) (2 * k + 1)).toInt = y.toInt
        · rw [if_neg (not_not_intro ((zq_cmpE _ _).mpr (zq_eqJ.mpr (by rw [Int32.toInt_toInt64]; exact q))))]
          exact ⟨true, rfl, ⟨fun _ => ⟨g, by omega, by rw [q, hy]⟩, fun _ => rfl⟩⟩
        · rw [if_pos (fun w => q (by have := zq_eqJ.mp ((zq_cmpE _ _).mp w); rw [Int32.toInt_toInt64] at this; exact this))]
          exact ⟨false, rfl, ⟨fun w => (by cases w), fun w => absurd (by rw [w.2.2, hy]) q⟩⟩
      by_cases w1 : zbL s c k - zbL s c k / (4 : Int32) * (4 : Int32) = w
      · rw [if_neg (not_not_intro w1), decide_eq_true w1]
        exact fin 0 true rfl
      · rw [if_pos w1, decide_eq_false w1]
        exact fin 1 false rfl
    · rw [if_neg p]
      exact ⟨false, rfl, ⟨fun w => (by cases w), fun w => by have := w.2.1; omega⟩⟩
  · rw [if_neg g, if_pos rfl]
    exact ⟨false, rfl, ⟨fun w => (by cases w), fun w => absurd w.1 g⟩⟩
/-- a two and one who believes B -/
def zbW (s : zy_S) (c k : Nat) (B : Int32) : Prop := zbS s c k (zvw B (zbL s c k))
theorem zst_108 (f : Nat) {c k : Nat} {B x : Int32} {s : zy_S} (hl : zin (s.1 c 3) 0 60) (h : x.toInt = (k : Int)) (hk : k ≤ 30) :
    ((s.1 c 3).toInt ≤ 2 * (k : Int) → zyF108_2 (f + 1) c B x s = some (-2, s)) ∧ (2 * (k : Int) < (s.1 c 3).toInt → zbW s c k B → zyF108_2 (f + 1) c B x s = zyF108_2 f c B (x + (1 : Int32)) s) ∧ (2 * (k : Int) < (s.1 c 3).toInt → ¬ zbW s c k B → zyF108_2 (f + 1) c B x s = some (x, s)) := by
  obtain ⟨l0, l1⟩ := id hl
  obtain ⟨m, fm, em⟩ := zys109 hl
  have st : zyF108_2 (f + 1) c B x s = zyF108_2b (zyF108_2 f) c B x s := rfl
  rw [st]
  unfold zyF108_2b
  rw [fm, zq_bind]
  dsimp only
  refine ⟨fun g => ?_, fun g hb => ?_, fun g hb => ?_⟩
  · rw [if_pos (by rw [Int32.le_iff_toInt_le]; omega)]
  all_goals
    rw [if_neg (by rw [Int32.le_iff_toInt_le]; omega), zys110 s h (by omega), zq_bind]
    dsimp only
  · have gi := hb.1
    have gn : ¬ zbL s c k = -1 := fun q => by
      have := gi.1
      rw [q] at this
      exact absurd this (by decide)
    rw [if_pos gi, if_neg gn]
    obtain ⟨b, fb, hbb⟩ := zys111 (w := ((B >>> (((2 : Int32) * (zbL s c k / (4 : Int32))) &&& 31)) &&& (3 : Int32))) hl h (by omega)
    have f60 : zyF60 B (zbL s c k / (4 : Int32)) s = some (((B >>> (((2 : Int32) * (zbL s c k / (4 : Int32))) &&& 31)) &&& (3 : Int32)), s) := rfl
    rw [f60, zq_bind]
    dsimp only
    rw [fb, zq_bind]
    dsimp only
    have ev : decide (zbL s c k - zbL s c k / (4 : Int32) * (4 : Int32) = ((B >>> (((2 : Int32) * (zbL s c k / (4 : Int32))) &&& 31)) &&& (3 : Int32))) = zvw B (zbL s c k) := by
      unfold zvw
      exact decide_eq_decide.mpr ⟨Eq.symm, Eq.symm⟩
    rw [ev] at hbb
    rw [hbb.mpr hb, if_pos (by decide)]
  · by_cases gi : zbI s c k
    · have gn : ¬ zbL s c k = -1 := fun q => by
        have := gi.1
        rw [q] at this
        exact absurd this (by decide)
      rw [if_pos gi, if_neg gn]
      obtain ⟨b, fb, hbb⟩ := zys111 (w := ((B >>> (((2 : Int32) * (zbL s c k / (4 : Int32))) &&& 31)) &&& (3 : Int32))) hl h (by omega)
      have f60 : zyF60 B (zbL s c k / (4 : Int32)) s = some (((B >>> (((2 : Int32) * (zbL s c k / (4 : Int32))) &&& 31)) &&& (3 : Int32)), s) := rfl
      rw [f60, zq_bind]
      dsimp only
      rw [fb, zq_bind]
      dsimp only
      have ev : decide (zbL s c k - zbL s c k / (4 : Int32) * (4 : Int32) = ((B >>> (((2 : Int32) * (zbL s c k / (4 : Int32))) &&& 31)) &&& (3 : Int32))) = zvw B (zbL s c k) := by
        unfold zvw
        exact decide_eq_decide.mpr ⟨Eq.symm, Eq.symm⟩
      rw [ev] at hbb
      have b0 : b = false := Bool.eq_false_iff.mpr (fun q => hb (hbb.mp q))
      rw [b0, if_neg (by decide)]
    · rw [if_neg gi, if_pos rfl]
/-- what a book's shelf and the model's have alike -/
def zbE (s : zy_S) (d : Nat) : Prop := zin (s.1 (zy_sh d) 3) 0 60 ∧ s.1 61 d = s.1 (zy_sh d) 3 ∧ ∀ j, j < 60 → s.2.1 62 (60 * d + j) = s.2.1 (zy_sh d + 1) j ∧ -128 ≤ (s.2.1 (zy_sh d + 1) j).toInt ∧ (s.2.1 (zy_sh d + 1) j).toInt ≤ 127
theorem zbE_of {s : zy_S} (h : zI s) {d : Nat} (hd : d < 6) (ht : (s.1 (zy_sh d) 2).toInt = 0) : zbE s d := by
  obtain ⟨hw, hg, h1, h2, h3, h4, h5, h6, h7, h8, h9, h10, h11, h12, h13, h14, h15, h16, h17, h18, h19, h20, h21⟩ := id h
  obtain ⟨el, hl, -⟩ := h20 d hd
  refine ⟨hl, el.symm, fun j hj => ?_⟩
  obtain ⟨a, b⟩ := h21 d hd j hj
  exact ⟨a.symm, (b.1 ht).1, (b.1 ht).2⟩
theorem zst_230 (f : Nat) {d k : Nat} {B x i : Int32} {s : zy_S} (hd : d < 6) (hx : x.toInt = (d : Int)) (hE : zbE s d) (h : i.toInt = (k : Int)) (hk : k ≤ 30) :
    ((s.1 (zy_sh d) 3).toInt ≤ 2 * (k : Int) → zyF230_2 (f + 1) x B i s = some (-2, s)) ∧ (2 * (k : Int) < (s.1 (zy_sh d) 3).toInt → zbW s (zy_sh d) k B → zyF230_2 (f + 1) x B i s = zyF230_2 f x B (i + (1 : Int32)) s) ∧ (2 * (k : Int) < (s.1 (zy_sh d) 3).toInt → ¬ zbW s (zy_sh d) k B → zyF230_2 (f + 1) x B i s = some (i, s)) := by
  obtain ⟨⟨l0, l1⟩, el, hv⟩ := id hE
  obtain ⟨e, en, e1, e1n⟩ := zq_2k h (by omega)
  have xin : zy_in x 6 = true := zq_in.mpr ⟨by omega, by omega⟩
  have xn : x.toNatClampNeg = d := by rw [zq_ix]; omega
  have em : ((60 : Int32) * x).toInt = 60 * (d : Int) := by rw [zq_mul (by rw [zq_l60, hx]; omega) (by rw [zq_l60, hx]; omega), zq_l60, hx]
  have st : zyF230_2 (f + 1) x B i s = zyF230_2b (zyF230_2 f) x B i s := rfl
  rw [st]
  unfold zyF230_2b
  rw [if_pos xin, xn, el]
  refine ⟨fun g => ?_, fun g hb => ?_, fun g hb => ?_⟩
  · rw [if_pos (by rw [Int32.le_iff_toInt_le, e]; exact g)]
  all_goals
    rw [if_neg (by rw [Int32.le_iff_toInt_le, e]; omega), if_pos xin]
    have ea : ((60 : Int32) * x + (2 : Int32) * i).toInt = 60 * (d : Int) + 2 * k := by rw [zq_add (by rw [em, e]; omega) (by rw [em, e]; omega), em, e]
    have ean : ((60 : Int32) * x + (2 : Int32) * i).toNatClampNeg = 60 * d + 2 * k := by rw [zq_ix, ea]; omega
    have eb : ((60 : Int32) * x + (2 : Int32) * i + (1 : Int32)).toInt = 60 * (d : Int) + 2 * k + 1 := by rw [zq_add (by rw [ea, zq_l1]; omega) (by rw [ea, zq_l1]; omega), ea, zq_l1]
    have ebn : ((60 : Int32) * x + (2 : Int32) * i + (1 : Int32)).toNatClampNeg = 60 * d + (2 * k + 1) := by rw [zq_ix, eb]; omega
    obtain ⟨v1, v2, v3⟩ := hv (2 * k) (by omega)
    have j1 := zq_j32 (v := s.2.1 (zy_sh d + 1) (2 * k)) ⟨by omega, by omega⟩
    have eL : (s.2.1 (zy_sh d + 1) (2 * k)).toInt32 = zbL s (zy_sh d) k := rfl
  · obtain ⟨b1, b2, b3⟩ := id hb
    obtain ⟨c1, c2⟩ := id b1
    rw [← eL] at c1 c2
    obtain ⟨w1, -, -⟩ := hv (2 * k + 1) (by omega)
    rw [if_neg (by rw [Int32.le_iff_toInt_le, e1]; omega), if_pos (zq_in.mpr ⟨by omega, by omega⟩), ean, v1, zys186, zq_bind]
    simp only [zqb_n0, decide_eq_true_eq]
    rw [if_pos ⟨by omega, by omega⟩, if_pos (zq_in.mpr ⟨by omega, by omega⟩), if_pos (zq_in.mpr ⟨by omega, by omega⟩), ebn, v1, w1, eL]
    have f206 : zyF206 B (zbL s (zy_sh d) k / (4 : Int32)) s = some (((B >>> (((2 : Int32) * (zbL s (zy_sh d) k / (4 : Int32))) &&& 31)) &&& (3 : Int32)), s) := rfl
    rw [f206, zq_bind]
    dsimp only
    have fin : ∀ (y : Int64), y.toInt = (if zvw B (zbL s (zy_sh d) k) = true then 0 else 1) → zyF230_92 (zyF230_2 f) x B i y (s.2.1 (zy_sh d + 1) (2 * k + 1)) s = zyF230_2 f x B (i + (1 : Int32)) s := by
      intro y hy
      unfold zyF230_92
      rw [if_pos ((zq_cmpE _ _).mpr (zq_eqJ.mpr (by rw [b3, hy])))]
    by_cases w : ((B >>> (((2 : Int32) * (zbL s (zy_sh d) k / (4 : Int32))) &&& 31)) &&& (3 : Int32)) = zbL s (zy_sh d) k - zbL s (zy_sh d) k / (4 : Int32) * (4 : Int32)
    · rw [if_neg (not_not_intro w)]
      exact fin 0 (by rw [show zvw B (zbL s (zy_sh d) k) = true from decide_eq_true w]; rfl)
    · rw [if_pos w]
      exact fin 1 (by rw [show zvw B (zbL s (zy_sh d) k) = false from decide_eq_false w]; rfl)
  · by_cases g1 : (s.1 (zy_sh d) 3).toInt ≤ 2 * (k : Int) + 1
    · rw [if_pos (by rw [Int32.le_iff_toInt_le, e1]; exact g1)]
    · rw [if_neg (by rw [Int32.le_iff_toInt_le, e1]; exact g1), if_pos (zq_in.mpr ⟨by omega, by omega⟩), ean, v1, zys186, zq_bind]
      simp only [zqb_n0, decide_eq_true_eq]
      by_cases gi : 0 ≤ (s.2.1 (zy_sh d + 1) (2 * k)).toInt ∧ (s.2.1 (zy_sh d + 1) (2 * k)).toInt ≤ 23
      · obtain ⟨w1, -, -⟩ := hv (2 * k + 1) (by omega)
        rw [if_pos gi, if_pos (zq_in.mpr ⟨by omega, by omega⟩), if_pos (zq_in.mpr ⟨by omega, by omega⟩), ebn, v1, w1, eL]
        have f206 : zyF206 B (zbL s (zy_sh d) k / (4 : Int32)) s = some (((B >>> (((2 : Int32) * (zbL s (zy_sh d) k / (4 : Int32))) &&& 31)) &&& (3 : Int32)), s) := rfl
        rw [f206, zq_bind]
        dsimp only
        have fin : ∀ (y : Int64), y.toInt = (if zvw B (zbL s (zy_sh d) k) = true then 0 else 1) → zyF230_92 (zyF230_2 f) x B i y (s.2.1 (zy_sh d + 1) (2 * k + 1)) s = some (i, s) := by
          intro y hy
          unfold zyF230_92
          rw [if_neg (fun w => hb ⟨⟨by rw [← eL]; omega, by rw [← eL]; omega⟩, by omega, by rw [zq_eqJ.mp ((zq_cmpE _ _).mp w), hy]⟩)]
        by_cases w : ((B >>> (((2 : Int32) * (zbL s (zy_sh d) k / (4 : Int32))) &&& 31)) &&& (3 : Int32)) = zbL s (zy_sh d) k - zbL s (zy_sh d) k / (4 : Int32) * (4 : Int32)
        · rw [if_neg (not_not_intro w)]
          exact fin 0 (by rw [show zvw B (zbL s (zy_sh d) k) = true from decide_eq_true w]; rfl)
        · rw [if_pos w]
          exact fin 1 (by rw [show zvw B (zbL s (zy_sh d) k) = false from decide_eq_false w]; rfl)
      · rw [if_neg gi]
/-- both read a book alike -/
theorem zl_book {d : Nat} {B x : Int32} {s : zy_S} (hd : d < 6) (hx : x.toInt = (d : Int)) (hE : zbE s d) : ∀ (f g k : Nat) (i : Int32), i.toInt = (k : Int) → k ≤ 30 → 30 - k < f → 30 - k < g → ∃ r, zyF108_2 f (zy_sh d) B i s = some (r, s) ∧ zyF230_2 g x B i s = some (r, s) ∧ ((r = -2 ∧ ∀ j, k ≤ j → 2 * (j : Int) < (s.1 (zy_sh d) 3).toInt → zbW s (zy_sh d) j B) ∨ (0 ≤ r.toInt ∧ ¬ ∀ j, k ≤ j → 2 * (j : Int) < (s.1 (zy_sh d) 3).toInt → zbW s (zy_sh d) j B))
  | 0, g, k, i, hi, hk, hf, hg => by omega
  | f + 1, 0, k, i, hi, hk, hf, hg => by omega
  | f + 1, g + 1, k, i, hi, hk, hf, hg => by
    obtain ⟨l0, l1⟩ := hE.1
    obtain ⟨a1, a2, a3⟩ := zst_108 f (B := B) hE.1 hi hk
    obtain ⟨b1, b2, b3⟩ := zst_230 g (B := B) hd hx hE hi hk
    by_cases q : (s.1 (zy_sh d) 3).toInt ≤ 2 * (k : Int)
    · exact ⟨-2, a1 q, b1 q, Or.inl ⟨rfl, fun j hj hl => by omega⟩⟩
    · by_cases w : zbW s (zy_sh d) k B
      · obtain ⟨r, c1, c2, c3⟩ := zl_book hd hx hE f g (k + 1) (i + (1 : Int32)) (by rw [zq_add (by rw [zq_l1]; omega) (by rw [zq_l1]; omega), zq_l1, hi]; omega) (by omega) (by omega) (by omega)
        refine ⟨r, (a2 (by omega) w).trans c1, (b2 (by omega) w).trans c2, ?_⟩
        have key : (∀ j, k ≤ j → 2 * (j : Int) < (s.1 (zy_sh d) 3).toInt → zbW s (zy_sh d) j B) ↔ (∀ j, k + 1 ≤ j → 2 * (j : Int) < (s.1 (zy_sh d) 3).toInt → zbW s (zy_sh d) j B) := by
          constructor
          · intro p j hj
            exact p j (by omega)
          · intro p j hj
            by_cases e : j = k
            · subst e
              exact fun _ => w
            · exact p j (by omega)
        rw [key]
        exact c3
      · refine ⟨i, a3 (by omega) w, b3 (by omega) w, Or.inr ⟨by omega, fun p => w (p k (Nat.le_refl _) (by omega))⟩⟩
/-- the shelf of a book -/
theorem zb_107 {s : zy_S} (h : zI s) {d : Nat} {x : Int32} (hd : d < 6) (hx : x.toInt = (d : Int)) : (∃ e : Int32, zyF107 (zy_sh d) 0 s = some (e, s) ∧ zyF229 x s = some (e, s) ∧ (e = -11 ∨ e = -12)) ∨ (zyF107 (zy_sh d) 0 s = some (0, s) ∧ zyF229 x s = some (1, s) ∧ (s.1 (zy_sh d) 2).toInt = 0) := by
  obtain ⟨hw, hg, h1, h2, h3, h4, h5, h6, h7, h8, h9, h10, h11, h12, h13, h14, h15, h16, h17, h18, h19, h20, h21⟩ := id h
  obtain ⟨-, nb0, nb1⟩ := id h14
  obtain ⟨-, -, a2⟩ := h20 d hd
  have xin : zy_in x 6 = true := zq_in.mpr ⟨by omega, by omega⟩
  have xn : x.toNatClampNeg = d := by rw [zq_ix]; omega
  unfold zyF107 zyF229
  simp only [zys19, zys21, zys182, xn, zq_bind, zqb_e0, zqb_n0, decide_eq_false_iff_not, decide_eq_true_eq, zq_l0]
  rw [if_pos (show 0 ≤ x.toInt ∧ x.toInt ≤ 5 by omega), if_pos xin, if_pos xin]
  rcases a2 with ⟨t, hb, b0, b1, -⟩ | ⟨⟨t0, t1⟩, b, hh⟩
  · by_cases hbb : (s.1 (zy_sh d) 1).toInt = -1
    · rw [if_neg (not_not_intro ⟨hbb, t⟩), if_neg (by rw [Int32.le_iff_toInt_le, zq_l0, ← hb]; omega)]
      exact Or.inl ⟨-11, rfl, rfl, Or.inl rfl⟩
    · rw [if_pos (by omega), if_pos (by omega), if_pos (by rw [Int32.le_iff_toInt_le, zq_l0, ← hb]; omega), if_pos (fun w => by have := congrArg Int32.toInt w; rw [zq_l50, ← hb] at this; omega)]
      exact Or.inl ⟨-12, rfl, rfl, Or.inr rfl⟩
  · rw [if_pos (show ¬ ((s.1 (zy_sh d) 1).toInt = -1 ∧ (s.1 (zy_sh d) 2).toInt = -1) by omega)]
    have h60 : (0 : Int32) ≤ s.1 60 d := by rw [Int32.le_iff_toInt_le, zq_l0]; omega
    by_cases ht : (s.1 (zy_sh d) 2).toInt = 0
    · rw [if_neg (show ¬ ¬ ((s.1 (zy_sh d) 2).toInt ≠ -1 ∧ (s.1 (zy_sh d) 2).toInt = 0) from not_not_intro ⟨by omega, ht⟩), if_pos h60, if_neg (not_not_intro (zq_ext (by rw [zq_l50]; omega)))]
      exact Or.inr ⟨rfl, rfl, ht⟩
    · rw [if_pos (show ¬ ((s.1 (zy_sh d) 2).toInt ≠ -1 ∧ (s.1 (zy_sh d) 2).toInt = 0) by omega), if_pos h60, if_pos (fun w => by have := congrArg Int32.toInt w; rw [zq_l50] at this; omega)]
      exact Or.inl ⟨-12, rfl, rfl, Or.inr rfl⟩
theorem zop_judge (x y : Int32) {s : zy_S} (h : zI s) : ∃ r s1 s2, zyF106 x y s = some (r, s1) ∧ zyF228 x y s1 = some (r, s2) ∧ zI s2 := by
  obtain ⟨hw, hg, h1, h2, h3, h4, h5, h6, h7, h8, h9, h10, h11, h12, h13, h14, h15, h16, h17, h18, h19, h20, h21⟩ := id h
  obtain ⟨e1, p0, p1⟩ := id h1
  have hp : zin (s.1 43 6) 0 8 := by rw [← e1]; exact ⟨p0, p1⟩
  by_cases hx : 0 ≤ x.toInt ∧ x.toInt ≤ 5
  · obtain ⟨hin, hdl, hxd⟩ := zx6 hx
    obtain ⟨d, hd⟩ : ∃ d, d = x.toNatClampNeg := ⟨_, rfl⟩
    rw [← hd] at hdl hxd
    by_cases hy : 0 ≤ y.toInt ∧ y.toInt < (s.1 1 5).toInt
    · have hy' : 0 ≤ y.toInt ∧ y.toInt < (s.1 43 6).toInt := by rw [← e1]; exact hy
      have yn : y.toNatClampNeg < 8 := by rw [zq_ix]; omega
      rcases zb_107 h hdl hxd with ⟨e, f1, f2, f3⟩ | ⟨f1, f2, ht⟩
      · have en : ¬ e = 0 ∧ ¬ e = -1 ∧ ¬ (0 : Int32) ≤ e := by rcases f3 with rfl | rfl <;> decide
        refine ⟨e, s, s, ?_, ?_, h⟩
        · unfold zyF106
          simp only [zys18, zys25_0, ← hd, f1, zq_bind, zqb_e0, zqb_n0, decide_eq_false_iff_not, decide_eq_true_eq]
          rw [if_neg (not_not_intro hx), if_pos hy, if_pos hin, if_pos hw, if_neg en.1]
        · unfold zyF228
          simp only [f2, zys185 _ s hp, zq_bind, zqb_n0, decide_eq_true_eq, Int32.toInt_toInt64]
          rw [if_neg en.2.1, if_pos hy', if_neg en.2.2]
      · have hE := zbE_of h hdl ht
        obtain ⟨r, g1, g2, -⟩ := zl_book (B := s.1 3 y.toNatClampNeg) hdl hxd hE zy_fu zy_fu 0 0 rfl (by omega) (by unfold zy_fu; omega) (by unfold zy_fu; omega)
        have g1 : zyF108 (zy_sh d) (s.1 3 y.toNatClampNeg) s = some (r, s) := g1
        have g2 : zyF230 x (s.1 3 y.toNatClampNeg) s = some (r, s) := g2
        refine ⟨r, s, s, ?_, ?_, h⟩
        · unfold zyF106
          simp only [zys18, zys25_0, ← hd, f1, zq_bind, zqb_e0, zqb_n0, decide_eq_false_iff_not, decide_eq_true_eq]
          rw [if_neg (not_not_intro hx), if_pos hy, if_pos hin, if_pos hw, if_pos True.intro, if_pos hin, if_pos hw, if_pos (zq_in.mpr ⟨hy.1, by omega⟩), g1]
          rfl
        · unfold zyF228
          simp only [f2, zys185 _ s hp, zq_bind, zqb_n0, decide_eq_true_eq, Int32.toInt_toInt64]
          rw [if_neg (by decide), if_pos hy', if_pos (by decide), if_pos (zq_in.mpr ⟨hy.1, by omega⟩), ← (h2 _ yn).1, g2]
          rfl
    · have hy' : ¬ (0 ≤ y.toInt ∧ y.toInt < (s.1 43 6).toInt) := by rw [← e1]; exact hy
      refine ⟨-1, s, s, ?_, ?_, h⟩
      · unfold zyF106
        simp only [zys18, zys25_0, zq_bind, zqb_e0, zqb_n0, decide_eq_false_iff_not, decide_eq_true_eq]
        rw [if_neg (not_not_intro hx), if_neg hy]
      · unfold zyF228
        have f2 : ∃ e, zyF229 x s = some (e, s) := by
          rcases zb_107 h hdl hxd with ⟨e, -, f2, -⟩ | ⟨-, f2, -⟩
          · exact ⟨e, f2⟩
          · exact ⟨1, f2⟩
        obtain ⟨e, f2⟩ := f2
        simp only [f2, zys185 _ s hp, zq_bind, zqb_n0, decide_eq_true_eq, Int32.toInt_toInt64]
        split <;> first | rfl | rw [if_neg hy']
  · have f2 : zyF229 x s = some (-1, s) := by
      unfold zyF229
      simp only [zys182, zq_bind, zqb_n0, decide_eq_true_eq]
      rw [if_neg hx]
    refine ⟨-1, s, s, ?_, ?_, h⟩
    · unfold zyF106
      simp only [zys18, zq_bind, zqb_e0, decide_eq_false_iff_not]
      rw [if_pos hx]
    · unfold zyF228
      rw [f2, zq_bind]
      exact if_pos rfl
