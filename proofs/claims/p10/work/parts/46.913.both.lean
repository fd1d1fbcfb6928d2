/-! PART 46.913: act, trace, count on both sides. Made by wip/v6/gen_act.py. -/
/-- the model's four acts -/
noncomputable def zmd (a k x : Int32) (t : zy_S) : Option (Int32 × zy_S) := if a = 0 then zyF250 k x t else if a = 1 then zyF252 k x t else if a = 2 then zyF253 k x t else zyF254 k x t
def zaP (b a k x : Int32) (s : zy_S) : Prop := ∃ v N, N.length ≤ 24 ∧ (zyG155 100).1 b k a x 0 (zaN 27 3 29 [] s) = some (v, zaN 27 3 29 N s) ∧ ∀ t : zy_S, t.1 43 32 = k → t.1 43 33 = b → zmd a k x (zaN 43 31 59 [] t) = some (v, zaN 43 31 59 N t)
theorem zap_0_0 {b : Int32} {s : zy_S} (hb : zy_in b 50 = true) (hk : s.1 28 b.toNatClampNeg = (0 : Int32)) (x : Int32) : zaP b (0 : Int32) (0 : Int32) x s := ⟨(x + b), [(1 : Int32)], by decide, zca_0_0_0 hb hk 100 (by omega) x 0 [] ⟨by decide, by decide⟩ (by decide), fun t h1 h2 => by
  unfold zmd
  rw [if_pos rfl]
  exact zma_0_0_0 h1 h2 100 (by omega) x [] (by decide)⟩
theorem zap_0_1 {b : Int32} {s : zy_S} (hb : zy_in b 50 = true) (hk : s.1 28 b.toNatClampNeg = (0 : Int32)) (x : Int32) : zaP b (1 : Int32) (0 : Int32) x s := ⟨((x + b) * (2 : Int32)), [(10 : Int32), (1 : Int32)], by decide, zca_0_0_1 hb hk 100 (by omega) x 0 [] ⟨by decide, by decide⟩ (by decide), fun t h1 h2 => by
  unfold zmd
  rw [if_neg (by decide), if_pos rfl]
  exact zma_0_0_1 h1 h2 100 (by omega) x [] (by decide)⟩
theorem zap_0_2 {b : Int32} {s : zy_S} (hb : zy_in b 50 = true) (hk : s.1 28 b.toNatClampNeg = (0 : Int32)) (x : Int32) : zaP b (2 : Int32) (0 : Int32) x s := ⟨(x ^^^ b), [(11 : Int32)], by decide, zca_0_0_2 hb hk 100 (by omega) x 0 [] ⟨by decide, by decide⟩ (by decide), fun t h1 h2 => by
  unfold zmd
  rw [if_neg (by decide), if_neg (by decide), if_pos rfl]
  exact zma_0_0_2 h1 h2 100 (by omega) x [] (by decide)⟩
theorem zap_0_3 {b : Int32} {s : zy_S} (hb : zy_in b 50 = true) (hk : s.1 28 b.toNatClampNeg = (0 : Int32)) (x : Int32) : zaP b (3 : Int32) (0 : Int32) x s := ⟨(((x + b) * (2 : Int32)) - ((1 : Int32) ^^^ b)), [(2 : Int32), (10 : Int32), (1 : Int32), (11 : Int32)], by decide, zca_0_0_3 hb hk 100 (by omega) x 0 [] ⟨by decide, by decide⟩ (by decide), fun t h1 h2 => by
  unfold zmd
  rw [if_neg (by decide), if_neg (by decide), if_neg (by decide)]
  exact zma_0_0_3 h1 h2 100 (by omega) x [] (by decide)⟩
theorem zap_1_0 {b : Int32} {s : zy_S} (hb : zy_in b 50 = true) (hk : s.1 28 b.toNatClampNeg = (1 : Int32)) (x : Int32) : zaP b (0 : Int32) (1 : Int32) x s := ⟨((x + b) + (3 : Int32)), [(20 : Int32), (1 : Int32)], by decide, zca_1_1_0 hb hk 100 (by omega) x 0 [] ⟨by decide, by decide⟩ (by decide), fun t h1 h2 => by
  unfold zmd
  rw [if_pos rfl]
  exact zma_1_1_0 h1 h2 100 (by omega) x [] (by decide)⟩
theorem zap_1_1 {b : Int32} {s : zy_S} (hb : zy_in b 50 = true) (hk : s.1 28 b.toNatClampNeg = (1 : Int32)) (x : Int32) : zaP b (1 : Int32) (1 : Int32) x s := ⟨(((x + b) + (3 : Int32)) * (2 : Int32)), [(10 : Int32), (20 : Int32), (1 : Int32)], by decide, zca_1_1_1 hb hk 100 (by omega) x 0 [] ⟨by decide, by decide⟩ (by decide), fun t h1 h2 => by
  unfold zmd
  rw [if_neg (by decide), if_pos rfl]
  exact zma_1_1_1 h1 h2 100 (by omega) x [] (by decide)⟩
theorem zap_1_2 {b : Int32} {s : zy_S} (hb : zy_in b 50 = true) (hk : s.1 28 b.toNatClampNeg = (1 : Int32)) (x : Int32) : zaP b (2 : Int32) (1 : Int32) x s := ⟨(x ^^^ b), [(11 : Int32)], by decide, zca_1_1_2 hb hk 100 (by omega) x 0 [] ⟨by decide, by decide⟩ (by decide), fun t h1 h2 => by
  unfold zmd
  rw [if_neg (by decide), if_neg (by decide), if_pos rfl]
  exact zma_1_1_2 h1 h2 100 (by omega) x [] (by decide)⟩
theorem zap_1_3 {b : Int32} {s : zy_S} (hb : zy_in b 50 = true) (hk : s.1 28 b.toNatClampNeg = (1 : Int32)) (x : Int32) : zaP b (3 : Int32) (1 : Int32) x s := ⟨((((x + b) + (3 : Int32)) * (2 : Int32)) - ((1 : Int32) ^^^ b)), [(2 : Int32), (10 : Int32), (20 : Int32), (1 : Int32), (11 : Int32)], by decide, zca_1_1_3 hb hk 100 (by omega) x 0 [] ⟨by decide, by decide⟩ (by decide), fun t h1 h2 => by
  unfold zmd
  rw [if_neg (by decide), if_neg (by decide), if_neg (by decide)]
  exact zma_1_1_3 h1 h2 100 (by omega) x [] (by decide)⟩
theorem zap_2_0 {b : Int32} {s : zy_S} (hb : zy_in b 50 = true) (hk : s.1 28 b.toNatClampNeg = (2 : Int32)) (x : Int32) : zaP b (0 : Int32) (2 : Int32) x s := ⟨(x + b), [(1 : Int32)], by decide, zca_2_2_0 hb hk 100 (by omega) x 0 [] ⟨by decide, by decide⟩ (by decide), fun t h1 h2 => by
  unfold zmd
  rw [if_pos rfl]
  exact zma_2_2_0 h1 h2 100 (by omega) x [] (by decide)⟩
theorem zap_2_1 {b : Int32} {s : zy_S} (hb : zy_in b 50 = true) (hk : s.1 28 b.toNatClampNeg = (2 : Int32)) (x : Int32) : zaP b (1 : Int32) (2 : Int32) x s := ⟨(-((x + b) * (2 : Int32))), [(30 : Int32), (10 : Int32), (1 : Int32)], by decide, zca_2_2_1 hb hk 100 (by omega) x 0 [] ⟨by decide, by decide⟩ (by decide), fun t h1 h2 => by
  unfold zmd
  rw [if_neg (by decide), if_pos rfl]
  exact zma_2_2_1 h1 h2 100 (by omega) x [] (by decide)⟩
theorem zap_2_2 {b : Int32} {s : zy_S} (hb : zy_in b 50 = true) (hk : s.1 28 b.toNatClampNeg = (2 : Int32)) (x : Int32) : zaP b (2 : Int32) (2 : Int32) x s := ⟨(x ^^^ b), [(11 : Int32)], by decide, zca_2_2_2 hb hk 100 (by omega) x 0 [] ⟨by decide, by decide⟩ (by decide), fun t h1 h2 => by
  unfold zmd
  rw [if_neg (by decide), if_neg (by decide), if_pos rfl]
  exact zma_2_2_2 h1 h2 100 (by omega) x [] (by decide)⟩
theorem zap_2_3 {b : Int32} {s : zy_S} (hb : zy_in b 50 = true) (hk : s.1 28 b.toNatClampNeg = (2 : Int32)) (x : Int32) : zaP b (3 : Int32) (2 : Int32) x s := ⟨((-((x + b) * (2 : Int32))) - ((1 : Int32) ^^^ b)), [(2 : Int32), (30 : Int32), (10 : Int32), (1 : Int32), (11 : Int32)], by decide, zca_2_2_3 hb hk 100 (by omega) x 0 [] ⟨by decide, by decide⟩ (by decide), fun t h1 h2 => by
  unfold zmd
  rw [if_neg (by decide), if_neg (by decide), if_neg (by decide)]
  exact zma_2_2_3 h1 h2 100 (by omega) x [] (by decide)⟩
theorem zap_3_0 {b : Int32} {s : zy_S} (hb : zy_in b 50 = true) (hk : s.1 28 b.toNatClampNeg = (3 : Int32)) (x : Int32) : zaP b (0 : Int32) (3 : Int32) x s := ⟨(x + b), [(1 : Int32)], by decide, zca_3_3_0 hb hk 100 (by omega) x 0 [] ⟨by decide, by decide⟩ (by decide), fun t h1 h2 => by
  unfold zmd
  rw [if_pos rfl]
  exact zma_3_3_0 h1 h2 100 (by omega) x [] (by decide)⟩
theorem zap_3_1 {b : Int32} {s : zy_S} (hb : zy_in b 50 = true) (hk : s.1 28 b.toNatClampNeg = (3 : Int32)) (x : Int32) : zaP b (1 : Int32) (3 : Int32) x s := ⟨(-(((x + (1 : Int32)) + b) * (2 : Int32))), [(41 : Int32), (30 : Int32), (10 : Int32), (1 : Int32)], by decide, zca_3_3_1 hb hk 100 (by omega) x 0 [] ⟨by decide, by decide⟩ (by decide), fun t h1 h2 => by
  unfold zmd
  rw [if_neg (by decide), if_pos rfl]
  exact zma_3_3_1 h1 h2 100 (by omega) x [] (by decide)⟩
theorem zap_3_2 {b : Int32} {s : zy_S} (hb : zy_in b 50 = true) (hk : s.1 28 b.toNatClampNeg = (3 : Int32)) (x : Int32) : zaP b (2 : Int32) (3 : Int32) x s := ⟨((x ^^^ b) * (3 : Int32)), [(40 : Int32), (11 : Int32)], by decide, zca_3_3_2 hb hk 100 (by omega) x 0 [] ⟨by decide, by decide⟩ (by decide), fun t h1 h2 => by
  unfold zmd
  rw [if_neg (by decide), if_neg (by decide), if_pos rfl]
  exact zma_3_3_2 h1 h2 100 (by omega) x [] (by decide)⟩
theorem zap_3_3 {b : Int32} {s : zy_S} (hb : zy_in b 50 = true) (hk : s.1 28 b.toNatClampNeg = (3 : Int32)) (x : Int32) : zaP b (3 : Int32) (3 : Int32) x s := ⟨((-(((x + (1 : Int32)) + b) * (2 : Int32))) - (((1 : Int32) ^^^ b) * (3 : Int32))), [(2 : Int32), (41 : Int32), (30 : Int32), (10 : Int32), (1 : Int32), (40 : Int32), (11 : Int32)], by decide, zca_3_3_3 hb hk 100 (by omega) x 0 [] ⟨by decide, by decide⟩ (by decide), fun t h1 h2 => by
  unfold zmd
  rw [if_neg (by decide), if_neg (by decide), if_neg (by decide)]
  exact zma_3_3_3 h1 h2 100 (by omega) x [] (by decide)⟩
theorem zap_4_0 {b : Int32} {s : zy_S} (hb : zy_in b 50 = true) (hk : s.1 28 b.toNatClampNeg = (4 : Int32)) (x : Int32) : zaP b (0 : Int32) (4 : Int32) x s := ⟨((x + b) + (3 : Int32)), [(20 : Int32), (1 : Int32)], by decide, zca_4_4_0 hb hk 100 (by omega) x 0 [] ⟨by decide, by decide⟩ (by decide), fun t h1 h2 => by
  unfold zmd
  rw [if_pos rfl]
  exact zma_4_4_0 h1 h2 100 (by omega) x [] (by decide)⟩
theorem zap_4_1 {b : Int32} {s : zy_S} (hb : zy_in b 50 = true) (hk : s.1 28 b.toNatClampNeg = (4 : Int32)) (x : Int32) : zaP b (1 : Int32) (4 : Int32) x s := ⟨(((x + b) + (3 : Int32)) * (2 : Int32)), [(10 : Int32), (20 : Int32), (1 : Int32)], by decide, zca_4_4_1 hb hk 100 (by omega) x 0 [] ⟨by decide, by decide⟩ (by decide), fun t h1 h2 => by
  unfold zmd
  rw [if_neg (by decide), if_pos rfl]
  exact zma_4_4_1 h1 h2 100 (by omega) x [] (by decide)⟩
theorem zap_4_2 {b : Int32} {s : zy_S} (hb : zy_in b 50 = true) (hk : s.1 28 b.toNatClampNeg = (4 : Int32)) (x : Int32) : zaP b (2 : Int32) (4 : Int32) x s := ⟨((x ^^^ b) - (((2 : Int32) + b) + (3 : Int32))), [(50 : Int32), (11 : Int32), (20 : Int32), (1 : Int32)], by decide, zca_4_4_2 hb hk 100 (by omega) x 0 [] ⟨by decide, by decide⟩ (by decide), fun t h1 h2 => by
  unfold zmd
  rw [if_neg (by decide), if_neg (by decide), if_pos rfl]
  exact zma_4_4_2 h1 h2 100 (by omega) x [] (by decide)⟩
theorem zap_4_3 {b : Int32} {s : zy_S} (hb : zy_in b 50 = true) (hk : s.1 28 b.toNatClampNeg = (4 : Int32)) (x : Int32) : zaP b (3 : Int32) (4 : Int32) x s := ⟨((((x + b) + (3 : Int32)) * (2 : Int32)) - (((1 : Int32) ^^^ b) - (((2 : Int32) + b) + (3 : Int32)))), [(2 : Int32), (10 : Int32), (20 : Int32), (1 : Int32), (50 : Int32), (11 : Int32), (20 : Int32), (1 : Int32)], by decide, zca_4_4_3 hb hk 100 (by omega) x 0 [] ⟨by decide, by decide⟩ (by decide), fun t h1 h2 => by
  unfold zmd
  rw [if_neg (by decide), if_neg (by decide), if_neg (by decide)]
  exact zma_4_4_3 h1 h2 100 (by omega) x [] (by decide)⟩
theorem zap_5_0 {b : Int32} {s : zy_S} (hb : zy_in b 50 = true) (hk : s.1 28 b.toNatClampNeg = (5 : Int32)) (x : Int32) : zaP b (0 : Int32) (5 : Int32) x s := ⟨(x + b), [(1 : Int32)], by decide, zca_5_5_0 hb hk 100 (by omega) x 0 [] ⟨by decide, by decide⟩ (by decide), fun t h1 h2 => by
  unfold zmd
  rw [if_pos rfl]
  exact zma_5_5_0 h1 h2 100 (by omega) x [] (by decide)⟩
theorem zap_5_1 {b : Int32} {s : zy_S} (hb : zy_in b 50 = true) (hk : s.1 28 b.toNatClampNeg = (5 : Int32)) (x : Int32) : zaP b (1 : Int32) (5 : Int32) x s := ⟨(-(((x + (1 : Int32)) + b) * (2 : Int32))), [(41 : Int32), (30 : Int32), (10 : Int32), (1 : Int32)], by decide, zca_5_5_1 hb hk 100 (by omega) x 0 [] ⟨by decide, by decide⟩ (by decide), fun t h1 h2 => by
  unfold zmd
  rw [if_neg (by decide), if_pos rfl]
  exact zma_5_5_1 h1 h2 100 (by omega) x [] (by decide)⟩
theorem zap_5_2 {b : Int32} {s : zy_S} (hb : zy_in b 50 = true) (hk : s.1 28 b.toNatClampNeg = (5 : Int32)) (x : Int32) : zaP b (2 : Int32) (5 : Int32) x s := ⟨((x ^^^ b) * (3 : Int32)), [(40 : Int32), (11 : Int32)], by decide, zca_5_5_2 hb hk 100 (by omega) x 0 [] ⟨by decide, by decide⟩ (by decide), fun t h1 h2 => by
  unfold zmd
  rw [if_neg (by decide), if_neg (by decide), if_pos rfl]
  exact zma_5_5_2 h1 h2 100 (by omega) x [] (by decide)⟩
theorem zap_5_3 {b : Int32} {s : zy_S} (hb : zy_in b 50 = true) (hk : s.1 28 b.toNatClampNeg = (5 : Int32)) (x : Int32) : zaP b (3 : Int32) (5 : Int32) x s := ⟨(((-(((x + (1 : Int32)) + b) * (2 : Int32))) - (((1 : Int32) ^^^ b) * (3 : Int32))) ^^^ (5 : Int32)), [(60 : Int32), (2 : Int32), (41 : Int32), (30 : Int32), (10 : Int32), (1 : Int32), (40 : Int32), (11 : Int32)], by decide, zca_5_5_3 hb hk 100 (by omega) x 0 [] ⟨by decide, by decide⟩ (by decide), fun t h1 h2 => by
  unfold zmd
  rw [if_neg (by decide), if_neg (by decide), if_neg (by decide)]
  exact zma_5_5_3 h1 h2 100 (by omega) x [] (by decide)⟩
theorem zap_6_0 {b : Int32} {s : zy_S} (hb : zy_in b 50 = true) (hk : s.1 28 b.toNatClampNeg = (6 : Int32)) (x : Int32) : zaP b (0 : Int32) (6 : Int32) x s := ⟨((x + b) * (2 : Int32)), [(70 : Int32), (1 : Int32)], by decide, zca_6_6_0 hb hk 100 (by omega) x 0 [] ⟨by decide, by decide⟩ (by decide), fun t h1 h2 => by
  unfold zmd
  rw [if_pos rfl]
  exact zma_6_6_0 h1 h2 100 (by omega) x [] (by decide)⟩
theorem zap_6_1 {b : Int32} {s : zy_S} (hb : zy_in b 50 = true) (hk : s.1 28 b.toNatClampNeg = (6 : Int32)) (x : Int32) : zaP b (1 : Int32) (6 : Int32) x s := ⟨(((x + b) * (2 : Int32)) * (2 : Int32)), [(10 : Int32), (70 : Int32), (1 : Int32)], by decide, zca_6_6_1 hb hk 100 (by omega) x 0 [] ⟨by decide, by decide⟩ (by decide), fun t h1 h2 => by
  unfold zmd
  rw [if_neg (by decide), if_pos rfl]
  exact zma_6_6_1 h1 h2 100 (by omega) x [] (by decide)⟩
theorem zap_6_2 {b : Int32} {s : zy_S} (hb : zy_in b 50 = true) (hk : s.1 28 b.toNatClampNeg = (6 : Int32)) (x : Int32) : zaP b (2 : Int32) (6 : Int32) x s := ⟨(x ^^^ b), [(11 : Int32)], by decide, zca_6_6_2 hb hk 100 (by omega) x 0 [] ⟨by decide, by decide⟩ (by decide), fun t h1 h2 => by
  unfold zmd
  rw [if_neg (by decide), if_neg (by decide), if_pos rfl]
  exact zma_6_6_2 h1 h2 100 (by omega) x [] (by decide)⟩
theorem zap_6_3 {b : Int32} {s : zy_S} (hb : zy_in b 50 = true) (hk : s.1 28 b.toNatClampNeg = (6 : Int32)) (x : Int32) : zaP b (3 : Int32) (6 : Int32) x s := ⟨((((x + b) * (2 : Int32)) * (2 : Int32)) - ((1 : Int32) ^^^ b)), [(2 : Int32), (10 : Int32), (70 : Int32), (1 : Int32), (11 : Int32)], by decide, zca_6_6_3 hb hk 100 (by omega) x 0 [] ⟨by decide, by decide⟩ (by decide), fun t h1 h2 => by
  unfold zmd
  rw [if_neg (by decide), if_neg (by decide), if_neg (by decide)]
  exact zma_6_6_3 h1 h2 100 (by omega) x [] (by decide)⟩
theorem zap_7_0 {b : Int32} {s : zy_S} (hb : zy_in b 50 = true) (hk : s.1 28 b.toNatClampNeg = (7 : Int32)) (x : Int32) : zaP b (0 : Int32) (7 : Int32) x s := ⟨((x + b) + (3 : Int32)), [(20 : Int32), (1 : Int32)], by decide, zca_7_7_0 hb hk 100 (by omega) x 0 [] ⟨by decide, by decide⟩ (by decide), fun t h1 h2 => by
  unfold zmd
  rw [if_pos rfl]
  exact zma_7_7_0 h1 h2 100 (by omega) x [] (by decide)⟩
theorem zap_7_1 {b : Int32} {s : zy_S} (hb : zy_in b 50 = true) (hk : s.1 28 b.toNatClampNeg = (7 : Int32)) (x : Int32) : zaP b (1 : Int32) (7 : Int32) x s := ⟨((((x + b) + (3 : Int32)) * (2 : Int32)) + (((2 : Int32) ^^^ b) - (((2 : Int32) + b) + (3 : Int32)))), [(80 : Int32), (10 : Int32), (20 : Int32), (1 : Int32), (50 : Int32), (11 : Int32), (20 : Int32), (1 : Int32)], by decide, zca_7_7_1 hb hk 100 (by omega) x 0 [] ⟨by decide, by decide⟩ (by decide), fun t h1 h2 => by
  unfold zmd
  rw [if_neg (by decide), if_pos rfl]
  exact zma_7_7_1 h1 h2 100 (by omega) x [] (by decide)⟩
theorem zap_7_2 {b : Int32} {s : zy_S} (hb : zy_in b 50 = true) (hk : s.1 28 b.toNatClampNeg = (7 : Int32)) (x : Int32) : zaP b (2 : Int32) (7 : Int32) x s := ⟨((x ^^^ b) - (((2 : Int32) + b) + (3 : Int32))), [(50 : Int32), (11 : Int32), (20 : Int32), (1 : Int32)], by decide, zca_7_7_2 hb hk 100 (by omega) x 0 [] ⟨by decide, by decide⟩ (by decide), fun t h1 h2 => by
  unfold zmd
  rw [if_neg (by decide), if_neg (by decide), if_pos rfl]
  exact zma_7_7_2 h1 h2 100 (by omega) x [] (by decide)⟩
theorem zap_7_3 {b : Int32} {s : zy_S} (hb : zy_in b 50 = true) (hk : s.1 28 b.toNatClampNeg = (7 : Int32)) (x : Int32) : zaP b (3 : Int32) (7 : Int32) x s := ⟨((((((x + b) + (3 : Int32)) * (2 : Int32)) + (((2 : Int32) ^^^ b) - (((2 : Int32) + b) + (3 : Int32)))) - (((1 : Int32) ^^^ b) - (((2 : Int32) + b) + (3 : Int32)))) - (1 : Int32)), [(81 : Int32), (2 : Int32), (80 : Int32), (10 : Int32), (20 : Int32), (1 : Int32), (50 : Int32), (11 : Int32), (20 : Int32), (1 : Int32), (50 : Int32), (11 : Int32), (20 : Int32), (1 : Int32)], by decide, zca_7_7_3 hb hk 100 (by omega) x 0 [] ⟨by decide, by decide⟩ (by decide), fun t h1 h2 => by
  unfold zmd
  rw [if_neg (by decide), if_neg (by decide), if_neg (by decide)]
  exact zma_7_7_3 h1 h2 100 (by omega) x [] (by decide)⟩
theorem zap {b a x : Int32} {s : zy_S} (hb : zy_in b 50 = true) (hk : zin (s.1 28 b.toNatClampNeg) 0 7) (ha : 0 ≤ a.toInt ∧ a.toInt ≤ 3) : zaP b a (s.1 28 b.toNatClampNeg) x s := by
  obtain ⟨k, ek⟩ : ∃ k, k = s.1 28 b.toNatClampNeg := ⟨_, rfl⟩
  rw [← ek] at hk ⊢
  obtain ⟨k0, k1⟩ := hk
  have hk := ek.symm
  rcases (by omega : a.toInt = 0 ∨ a.toInt = 1 ∨ a.toInt = 2 ∨ a.toInt = 3) with q | q | q | q
  · have e : a = (0 : Int32) := zq_ext q
    subst e
    rcases (by omega : k.toInt = 0 ∨ k.toInt = 1 ∨ k.toInt = 2 ∨ k.toInt = 3 ∨ k.toInt = 4 ∨ k.toInt = 5 ∨ k.toInt = 6 ∨ k.toInt = 7) with q | q | q | q | q | q | q | q
    · have e : k = (0 : Int32) := zq_ext q
      rw [e] at hk ⊢
      exact zap_0_0 hb hk x
    · have e : k = (1 : Int32) := zq_ext q
      rw [e] at hk ⊢
      exact zap_1_0 hb hk x
    · have e : k = (2 : Int32) := zq_ext q
      rw [e] at hk ⊢
      exact zap_2_0 hb hk x
    · have e : k = (3 : Int32) := zq_ext q
      rw [e] at hk ⊢
      exact zap_3_0 hb hk x
    · have e : k = (4 : Int32) := zq_ext q
      rw [e] at hk ⊢
      exact zap_4_0 hb hk x
    · have e : k = (5 : Int32) := zq_ext q
      rw [e] at hk ⊢
      exact zap_5_0 hb hk x
    · have e : k = (6 : Int32) := zq_ext q
      rw [e] at hk ⊢
      exact zap_6_0 hb hk x
    · have e : k = (7 : Int32) := zq_ext q
      rw [e] at hk ⊢
      exact zap_7_0 hb hk x
  · have e : a = (1 : Int32) := zq_ext q
    subst e
    rcases (by omega : k.toInt = 0 ∨ k.toInt = 1 ∨ k.toInt = 2 ∨ k.toInt = 3 ∨ k.toInt = 4 ∨ k.toInt = 5 ∨ k.toInt = 6 ∨ k.toInt = 7) with q | q | q | q | q | q | q | q
    · have e : k = (0 : Int32) := zq_ext q
      rw [e] at hk ⊢
      exact zap_0_1 hb hk x
    · have e : k = (1 : Int32) := zq_ext q
      rw [e] at hk ⊢
      exact zap_1_1 hb hk x
    · have e : k = (2 : Int32) := zq_ext q
      rw [e] at hk ⊢
      exact zap_2_1 hb hk x
    · have e : k = (3 : Int32) := zq_ext q
      rw [e] at hk ⊢
      exact zap_3_1 hb hk x
    · have e : k = (4 : Int32) := zq_ext q
      rw [e] at hk ⊢
      exact zap_4_1 hb hk x
    · have e : k = (5 : Int32) := zq_ext q
      rw [e] at hk ⊢
      exact zap_5_1 hb hk x
    · have e : k = (6 : Int32) := zq_ext q
      rw [e] at hk ⊢
      exact zap_6_1 hb hk x
    · have e : k = (7 : Int32) := zq_ext q
      rw [e] at hk ⊢
      exact zap_7_1 hb hk x
  · have e : a = (2 : Int32) := zq_ext q
    subst e
    rcases (by omega : k.toInt = 0 ∨ k.toInt = 1 ∨ k.toInt = 2 ∨ k.toInt = 3 ∨ k.toInt = 4 ∨ k.toInt = 5 ∨ k.toInt = 6 ∨ k.toInt = 7) with q | q | q | q | q | q | q | q
    · have e : k = (0 : Int32) := zq_ext q
      rw [e] at hk ⊢
      exact zap_0_2 hb hk x
    · have e : k = (1 : Int32) := zq_ext q
      rw [e] at hk ⊢
      exact zap_1_2 hb hk x
    · have e : k = (2 : Int32) := zq_ext q
      rw [e] at hk ⊢
      exact zap_2_2 hb hk x
    · have e : k = (3 : Int32) := zq_ext q
      rw [e] at hk ⊢
      exact zap_3_2 hb hk x
    · have e : k = (4 : Int32) := zq_ext q
      rw [e] at hk ⊢
      exact zap_4_2 hb hk x
    · have e : k = (5 : Int32) := zq_ext q
      rw [e] at hk ⊢
      exact zap_5_2 hb hk x
    · have e : k = (6 : Int32) := zq_ext q
      rw [e] at hk ⊢
      exact zap_6_2 hb hk x
    · have e : k = (7 : Int32) := zq_ext q
      rw [e] at hk ⊢
      exact zap_7_2 hb hk x
  · have e : a = (3 : Int32) := zq_ext q
    subst e
    rcases (by omega : k.toInt = 0 ∨ k.toInt = 1 ∨ k.toInt = 2 ∨ k.toInt = 3 ∨ k.toInt = 4 ∨ k.toInt = 5 ∨ k.toInt = 6 ∨ k.toInt = 7) with q | q | q | q | q | q | q | q
    · have e : k = (0 : Int32) := zq_ext q
      rw [e] at hk ⊢
      exact zap_0_3 hb hk x
    · have e : k = (1 : Int32) := zq_ext q
      rw [e] at hk ⊢
      exact zap_1_3 hb hk x
    · have e : k = (2 : Int32) := zq_ext q
      rw [e] at hk ⊢
      exact zap_2_3 hb hk x
    · have e : k = (3 : Int32) := zq_ext q
      rw [e] at hk ⊢
      exact zap_3_3 hb hk x
    · have e : k = (4 : Int32) := zq_ext q
      rw [e] at hk ⊢
      exact zap_4_3 hb hk x
    · have e : k = (5 : Int32) := zq_ext q
      rw [e] at hk ⊢
      exact zap_5_3 hb hk x
    · have e : k = (6 : Int32) := zq_ext q
      rw [e] at hk ⊢
      exact zap_6_3 hb hk x
    · have e : k = (7 : Int32) := zq_ext q
      rw [e] at hk ⊢
      exact zap_7_3 hb hk x
theorem zarg : zrg 27 3 = (0, 100000) ∧ zrg 43 31 = (0, 100000) ∧ zrg 43 32 = (0, 7) ∧ zrg 43 33 = (0, 49) ∧ zrn 29 = 24 ∧ zrn 59 = 24 ∧ (∀ k, k < 24 → zrg 29 k = (-2147483648, 2147483647)) ∧ ∀ k, k < 24 → zrg 59 k = (-2147483648, 2147483647) := by decide +kernel
theorem zaRg {c f t : Nat} {L : List Int32} {s : zy_S} (h : zRg s) (hL : L.length ≤ 24) (e : zrg c f = (0, 100000)) (hn : zrn t = 24) (ht : ∀ k, k < 24 → zrg t k = (-2147483648, 2147483647)) : zRg (zaN c f t L s) := by
  unfold zaN
  refine zRg_upF (zRg_ua h (fun k hk => ?_)) e ?_
  · rw [hn] at hk
    rw [ht k hk]
    exact ⟨zq_lo _, zq_hi _⟩
  · unfold zin
    rw [zN_toInt (by omega)]
    omega
theorem zy_upc {s : zy_S} {c k k' : Nat} {x y : Int32} (h : k ≠ k') : zy_up (zy_up s c k x) c k' y = zy_up (zy_up s c k' y) c k x := by
  refine Prod.ext (funext fun a => funext fun b => ?_) rfl
  rw [zy_up_at, zy_up_at, zy_up_at, zy_up_at]
  by_cases h1 : a = c ∧ b = k
  · rw [if_pos h1, if_neg (fun q => h (h1.2.symm.trans q.2)), if_pos h1]
  · rw [if_neg h1, if_neg h1]
theorem zI_act {s : zy_S} (h : zI s) {N : List Int32} (hN : N.length ≤ 24) {k b : Int32} (hk : zin k 0 7) (hb : zin b 0 49) : zI (zaN 43 31 59 N (zy_up (zy_up (zaN 27 3 29 N s) 43 32 k) 43 33 b)) := by
  obtain ⟨r1, r2, r3, r4, r5, r6, r7, r8⟩ := zarg
  obtain ⟨hw, hg, h1, h2, h3, h4, h5, h6, h7, h8, h9, h10, h11, h12, h13, h14, h15, h16, h17, h18, h19, h20, h21⟩ := id h
  have sh : ∀ d, d < 6 → ∀ j, (zaN 43 31 59 N (zy_up (zy_up (zaN 27 3 29 N s) 43 32 k) 43 33 b)).1 (zy_sh d) j = s.1 (zy_sh d) j := fun d hd j => by rw [zaN_sh (by decide) (by decide) hd, zf_sh (by decide) hd, zf_sh (by decide) hd, zaN_sh (by decide) (by decide) hd]
  refine ⟨hw, zaRg (zRg_upF (zRg_upF (zaRg hg hN r1 r5 r7) r3 hk) r4 hb) hN r2 r6 r8, h1, h2, h3, h4, h5, h6, h7, h8, h9, h10, h11, h12, h13, h14, h15, ?_, ?_, h18, h19, zR20_of h20 rfl sh (fun d hd => rfl) (fun d hd => rfl), zR21_of h21 sh rfl⟩
  · refine ⟨rfl, ?_⟩
    show zin (Int32.ofNat N.length) 0 100000
    unfold zin
    rw [zN_toInt (by omega)]
    omega
  · intro p hp
    show (N[p]?).getD (s.1 29 p) = (N[p]?).getD (s.1 59 p)
    rw [h17 p hp]
theorem zI_no {s : zy_S} (h : zI s) : zI (zy_up (zy_up s 27 3 0) 43 31 0) := by
  obtain ⟨r1, r2, r3, r4, r5, r6, r7, r8⟩ := zarg
  obtain ⟨hw, hg, h1, h2, h3, h4, h5, h6, h7, h8, h9, h10, h11, h12, h13, h14, h15, h16, h17, h18, h19, h20, h21⟩ := id h
  have z0 : zin (0 : Int32) 0 100000 := ⟨by decide, by decide⟩
  exact ⟨hw, (zRg_upF (zRg_upF hg r1 z0) r2 z0), h1, h2, h3, h4, h5, h6, h7, h8, h9, h10, h11, h12, h13, h14, h15, ⟨rfl, z0⟩, h17, h18, h19, (zR20_of h20 rfl (fun d hd k => by rw [zf_sh (by decide) hd, zf_sh (by decide) hd]) (fun d hd => rfl) (fun d hd => rfl)), (zR21_of h21 (fun d hd k => by rw [zf_sh (by decide) hd, zf_sh (by decide) hd]) rfl)⟩
theorem zI_no2 {s : zy_S} (h : zI s) {k b : Int32} (hk : zin k 0 7) (hb : zin b 0 49) : zI (zy_up (zy_up s 43 32 k) 43 33 b) := by
  obtain ⟨r1, r2, r3, r4, r5, r6, r7, r8⟩ := zarg
  obtain ⟨hw, hg, h1, h2, h3, h4, h5, h6, h7, h8, h9, h10, h11, h12, h13, h14, h15, h16, h17, h18, h19, h20, h21⟩ := id h
  exact ⟨hw, (zRg_upF (zRg_upF hg r3 hk) r4 hb), h1, h2, h3, h4, h5, h6, h7, h8, h9, h10, h11, h12, h13, h14, h15, h16, h17, h18, h19, (zR20_of h20 rfl (fun d hd k => by rw [zf_sh (by decide) hd, zf_sh (by decide) hd]) (fun d hd => rfl) (fun d hd => rfl)), (zR21_of h21 (fun d hd k => by rw [zf_sh (by decide) hd, zf_sh (by decide) hd]) rfl)⟩
theorem zop_act (x1 x2 x3 : Int32) {s : zy_S} (h : zI s) : ∃ r s1 s2, zyF152 x1 x2 x3 s = some (r, s1) ∧ zyF248 x1 x2 x3 s1 = some (r, s2) ∧ zI s2 := by
  obtain ⟨hw, hg, h1, h2, h3, h4, h5, h6, h7, h8, h9, h10, h11, h12, h13, h14, h15, h16, h17, h18, h19, h20, h21⟩ := id h
  obtain ⟨e14, b0, b1⟩ := id h14
  have c1 : (zy_up s 27 3 (0 : Int32)).1 27 2 = s.1 27 2 := rfl
  by_cases hb : 0 ≤ x1.toInt ∧ x1.toInt < (s.1 27 2).toInt
  · have hb5 : zy_in x1 50 = true := zq_in.mpr ⟨hb.1, by omega⟩
    have hbj : x1.toNatClampNeg < 50 := by rw [zq_ix]; omega
    obtain ⟨e15, k0, k1⟩ := h15 x1.toNatClampNeg hbj
    have hbz : zin x1 0 49 := ⟨hb.1, by omega⟩
    by_cases ha : 0 ≤ x2.toInt ∧ x2.toInt ≤ 3
    · obtain ⟨v, N, hN, f1, f2⟩ := zap (x := x3) hb5 ⟨k0, k1⟩ ha
      refine ⟨v, zaN 27 3 29 N s, zaN 43 31 59 N (zy_up (zy_up (zaN 27 3 29 N s) 43 32 (s.1 28 x1.toNatClampNeg)) 43 33 x1), ?_, ?_, zI_act h hN ⟨k0, k1⟩ hbz⟩
      · unfold zyF152 zyF153
        rw [zys154, c1, zqb_t (decide_eq_true hb), zq_bind]
        dsimp only
        rw [if_neg (by decide), if_neg (by rw [Int32.lt_iff_toInt_lt, zq_l0]; omega), if_neg (by rw [Int32.le_iff_toInt_le, zq_l4]; omega)]
        unfold zyF153_27
        rw [if_neg (by decide), if_pos hb5, ← zaN_nil 27 3 29 s, zaN_28, show zyF155 = (zyG155 100).1 from rfl, f1, zq_bind, zq_bind]
      · have g := f2 (zy_up (zy_up (zaN 27 3 29 N s) 43 32 (s.1 28 x1.toNatClampNeg)) 43 33 x1) rfl rfl
        rw [zaN_nil, zy_upc (k := 33) (k' := 31) (by decide), zy_upc (k := 32) (k' := 31) (by decide)] at g
        have c2 : (zy_up (zaN 27 3 29 N s) 43 31 (0 : Int32)).1 43 28 = s.1 43 28 := rfl
        have c3 : (zy_up (zaN 27 3 29 N s) 43 31 (0 : Int32)).1 58 x1.toNatClampNeg = s.1 28 x1.toNatClampNeg := e15.symm
        unfold zyF248
        rw [zys249 _ _ (by rw [c2, ← e14]; exact ⟨b0, b1⟩), c2, ← e14, zqb_t (decide_eq_true hb), zq_bind]
        dsimp only
        rw [if_pos (by decide), if_pos hb5, c3]
        unfold zmd at g
        by_cases q0 : x2 = 0
        · rw [if_pos q0] at g
          rw [if_pos q0, g, zq_bind]
        · rw [if_neg q0] at g
          rw [if_neg q0]
          by_cases q1 : x2 = 1
          · rw [if_pos q1] at g
            rw [if_pos q1, g, zq_bind]
          · rw [if_neg q1] at g
            rw [if_neg q1]
            by_cases q2 : x2 = 2
            · rw [if_pos q2] at g
              rw [if_pos q2, g, zq_bind]
            · rw [if_neg q2] at g
              have n0 : ¬ x2.toInt = 0 := fun e => q0 (zq_ext e)
              have n1 : ¬ x2.toInt = 1 := fun e => q1 (zq_ext e)
              have n2 : ¬ x2.toInt = 2 := fun e => q2 (zq_ext e)
              have q3 : x2 = 3 := zq_ext (by show x2.toInt = 3; omega)
              rw [if_neg q2, if_pos q3, g, zq_bind]
    · refine ⟨0, zy_up s 27 3 0, zy_up (zy_up (zy_up (zy_up s 27 3 0) 43 31 0) 43 32 (s.1 28 x1.toNatClampNeg)) 43 33 x1, ?_, ?_, zI_no2 (zI_no h) ⟨k0, k1⟩ hbz⟩
      · unfold zyF152 zyF153 zyF153_26 zyF153_27
        rw [zys154, c1, zqb_t (decide_eq_true hb), zq_bind]
        dsimp only
        rw [if_neg (by decide)]
        by_cases q : x2.toInt < 0
        · rw [if_pos (by rw [Int32.lt_iff_toInt_lt, zq_l0]; exact q), if_pos rfl, zq_bind]
        · rw [if_neg (by rw [Int32.lt_iff_toInt_lt, zq_l0]; exact q), if_pos (by rw [Int32.le_iff_toInt_le, zq_l4]; omega), if_pos rfl, zq_bind]
      · have c2 : (zy_up (zy_up s 27 3 (0 : Int32)) 43 31 (0 : Int32)).1 43 28 = s.1 43 28 := rfl
        have c3 : (zy_up (zy_up s 27 3 (0 : Int32)) 43 31 (0 : Int32)).1 58 x1.toNatClampNeg = s.1 28 x1.toNatClampNeg := e15.symm
        have n : ∀ k : Int32, 0 ≤ k.toInt → k.toInt ≤ 3 → ¬ x2 = k := fun k a1 a2 e => ha ⟨by rw [e]; exact a1, by rw [e]; exact a2⟩
        unfold zyF248
        rw [zys249 _ _ (by rw [c2, ← e14]; exact ⟨b0, b1⟩), c2, ← e14, zqb_t (decide_eq_true hb), zq_bind]
        dsimp only
        rw [if_pos (by decide), if_pos hb5, c3, if_neg (n 0 (by decide) (by decide)), if_neg (n 1 (by decide) (by decide)), if_neg (n 2 (by decide) (by decide)), if_neg (n 3 (by decide) (by decide))]
  · refine ⟨0, zy_up s 27 3 0, zy_up (zy_up s 27 3 0) 43 31 0, ?_, ?_, zI_no h⟩
    · unfold zyF152 zyF153 zyF153_26 zyF153_27
      rw [zys154, c1, zqb_f (decide_eq_false hb), zq_bind]
      dsimp only
      rw [if_pos rfl, if_pos rfl, zq_bind]
    · have c2 : (zy_up (zy_up s 27 3 (0 : Int32)) 43 31 (0 : Int32)).1 43 28 = s.1 43 28 := rfl
      unfold zyF248
      rw [zys249 _ _ (by rw [c2, ← e14]; exact ⟨b0, b1⟩), c2, ← e14, zqb_f (decide_eq_false hb), zq_bind]
      dsimp only
      rw [if_neg (by decide)]
theorem zop_trace (x : Int32) {s : zy_S} (h : zI s) : ∃ r s1 s2, zyF159 x s = some (r, s1) ∧ zyF255 x s1 = some (r, s2) ∧ zI s2 := by
  obtain ⟨hw, hg, h1, h2, h3, h4, h5, h6, h7, h8, h9, h10, h11, h12, h13, h14, h15, h16, h17, h18, h19, h20, h21⟩ := id h
  obtain ⟨e16, r0, r1⟩ := id h16
  by_cases hx : x.toInt < 0
  · refine ⟨-1, s, s, ?_, ?_, h⟩
    · unfold zyF159
      rw [if_pos (by rw [Int32.lt_iff_toInt_lt, zq_l0]; exact hx)]
    · unfold zyF255
      rw [if_pos (by rw [Int32.lt_iff_toInt_lt, zq_l0]; exact hx)]
  have lt0 : ¬ x < 0 := by
    rw [Int32.lt_iff_toInt_lt, zq_l0]
    exact hx
  obtain ⟨m, hm, em⟩ : ∃ m : Int32, zyF160 s = some (m, s) ∧ ((m.toInt = (s.1 27 3).toInt ∧ m.toInt ≤ 24) ∨ (m.toInt = 24 ∧ 24 < (s.1 27 3).toInt)) := by
    unfold zyF160 zyF68
    by_cases q : (24 : Int32) < s.1 27 3
    · refine ⟨24, by rw [if_pos q, zq_bind], Or.inr ⟨rfl, ?_⟩⟩
      rw [Int32.lt_iff_toInt_lt, zq_l24] at q
      exact q
    · refine ⟨s.1 27 3, by rw [if_neg q, zq_bind], Or.inl ⟨rfl, ?_⟩⟩
      rw [Int32.lt_iff_toInt_lt, zq_l24] at q
      omega
  by_cases hi : x.toInt < m.toInt
  · have hin : zy_in x 24 = true := zq_in.mpr ⟨by omega, by omega⟩
    refine ⟨s.1 29 x.toNatClampNeg, s, s, ?_, ?_, h⟩
    · unfold zyF159
      rw [if_neg lt0, hm, zq_bind]
      dsimp only
      rw [if_neg (by rw [Int32.le_iff_toInt_le]; omega), if_pos hin]
    · unfold zyF255
      rw [if_neg lt0, ← e16, if_neg (by rw [Int32.le_iff_toInt_le]; omega), if_neg (by rw [Int32.le_iff_toInt_le, zq_l24]; omega), if_pos hin, h17 _ (by rw [zq_ix]; omega)]
  · refine ⟨-1, s, s, ?_, ?_, h⟩
    · unfold zyF159
      rw [if_neg lt0, hm, zq_bind]
      dsimp only
      rw [if_pos (by rw [Int32.le_iff_toInt_le]; omega)]
    · unfold zyF255
      rw [if_neg lt0, ← e16]
      by_cases q : (s.1 27 3).toInt ≤ x.toInt
      · rw [if_pos (by rw [Int32.le_iff_toInt_le]; exact q)]
      · rw [if_neg (by rw [Int32.le_iff_toInt_le]; exact q), if_pos (by rw [Int32.le_iff_toInt_le, zq_l24]; omega)]
theorem zop_count (x : Int32) {s : zy_S} (h : zI s) : ∃ r s1 s2, zyF174 x s = some (r, s1) ∧ zyF266 x s1 = some (r, s2) ∧ zI s2 := by
  obtain ⟨hw, hg, h1, h2, h3, h4, h5, h6, h7, h8, h9, h10, h11, h12, h13, h14, h15, h16, h17, h18, h19, h20, h21⟩ := id h
  obtain ⟨e6, l0, l1⟩ := id h6
  unfold zyF174 zyF266
  by_cases q0 : x = 0
  · exact ⟨_, s, s, if_pos q0, (if_pos q0).trans (by rw [h1.1]), h⟩
  rw [if_neg q0]
  by_cases q1 : x = 1
  · refine ⟨zpc (s.1 1 3), s, s, ?_, ?_, h⟩
    · rw [if_pos q1, zys92 l0 l1, zq_bind]
    · rw [if_neg q0, if_pos q1, ← e6, zys209 s l0 l1, zq_bind]
  rw [if_neg q1]
  by_cases q2 : x = 2
  · exact ⟨_, s, s, if_pos q2, by rw [if_neg q0, if_neg q1, if_pos q2, h18.1], h⟩
  rw [if_neg q2]
  by_cases q3 : x = 3
  · exact ⟨_, s, s, if_pos q3, by rw [if_neg q0, if_neg q1, if_neg q2, if_pos q3, h12.1], h⟩
  rw [if_neg q3]
  by_cases q4 : x = 4
  · exact ⟨_, s, s, if_pos q4, by rw [if_neg q0, if_neg q1, if_neg q2, if_neg q3, if_pos q4, h14.1], h⟩
  rw [if_neg q4]
  by_cases q5 : x = 5
  · exact ⟨_, s, s, if_pos q5, by rw [if_neg q0, if_neg q1, if_neg q2, if_neg q3, if_neg q4, if_pos q5, h16.1], h⟩
  rw [if_neg q5]
  exact ⟨-1, s, s, rfl, by rw [if_neg q0, if_neg q1, if_neg q2, if_neg q3, if_neg q4, if_neg q5], h⟩
