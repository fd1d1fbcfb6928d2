/-! PART 46.911: what each kind runs, in the class. Made by wip/v6/gen_act.py. -/
section ZB
variable {b : Int32} {s : zy_S}
theorem zca_0_0_0 (hb : zy_in b 50 = true) (hk : s.1 28 b.toNatClampNeg = (0 : Int32)) (N : Nat) (hN : 2 ≤ N) (x d : Int32) (L : List Int32) (hd : 0 ≤ d.toInt ∧ d.toInt + 1 ≤ 40) (hL : L.length + 1 ≤ 24) : (zyG155 N).1 b (0 : Int32) (0 : Int32) x d (zaN 27 3 29 L s) = some ((x + b), zaN 27 3 29 (L ++ [(1 : Int32)]) s) := by
  obtain ⟨n, rfl⟩ : ∃ n, N = n + 2 := ⟨N - 2, by omega⟩
  obtain ⟨d0, d1⟩ := zaD' (h := 1) (by omega) hd
  rw [zyS155, zas_0_0 d0 (by omega)]
  rw [zyS157]
  rw [zau_1 hb]
theorem zca_0_0_1 (hb : zy_in b 50 = true) (hk : s.1 28 b.toNatClampNeg = (0 : Int32)) (N : Nat) (hN : 4 ≤ N) (x d : Int32) (L : List Int32) (hd : 0 ≤ d.toInt ∧ d.toInt + 2 ≤ 40) (hL : L.length + 2 ≤ 24) : (zyG155 N).1 b (0 : Int32) (1 : Int32) x d (zaN 27 3 29 L s) = some (((x + b) * (2 : Int32)), zaN 27 3 29 (L ++ [(10 : Int32), (1 : Int32)]) s) := by
  obtain ⟨n, rfl⟩ : ∃ n, N = n + 2 := ⟨N - 2, by omega⟩
  obtain ⟨d0, d1⟩ := zaD' (h := 2) (by omega) hd
  rw [zyS155, zas_0_1 d0 (by omega)]
  rw [zyS157]
  rw [zau_10 hb, zaN_28, hk, zca_0_0_0 hb hk n (by omega) x _ _ ⟨by omega, by omega⟩ (by simp only [List.length_append, List.length_cons, List.length_nil]; omega), zq_bind]
  simp only [List.append_assoc, List.cons_append, List.nil_append]
theorem zca_0_0_2 (hb : zy_in b 50 = true) (hk : s.1 28 b.toNatClampNeg = (0 : Int32)) (N : Nat) (hN : 2 ≤ N) (x d : Int32) (L : List Int32) (hd : 0 ≤ d.toInt ∧ d.toInt + 1 ≤ 40) (hL : L.length + 1 ≤ 24) : (zyG155 N).1 b (0 : Int32) (2 : Int32) x d (zaN 27 3 29 L s) = some ((x ^^^ b), zaN 27 3 29 (L ++ [(11 : Int32)]) s) := by
  obtain ⟨n, rfl⟩ : ∃ n, N = n + 2 := ⟨N - 2, by omega⟩
  obtain ⟨d0, d1⟩ := zaD' (h := 1) (by omega) hd
  rw [zyS155, zas_0_2 d0 (by omega)]
  rw [zyS157]
  rw [zau_11 hb]
theorem zca_0_0_3 (hb : zy_in b 50 = true) (hk : s.1 28 b.toNatClampNeg = (0 : Int32)) (N : Nat) (hN : 6 ≤ N) (x d : Int32) (L : List Int32) (hd : 0 ≤ d.toInt ∧ d.toInt + 3 ≤ 40) (hL : L.length + 4 ≤ 24) : (zyG155 N).1 b (0 : Int32) (3 : Int32) x d (zaN 27 3 29 L s) = some ((((x + b) * (2 : Int32)) - ((1 : Int32) ^^^ b)), zaN 27 3 29 (L ++ [(2 : Int32), (10 : Int32), (1 : Int32), (11 : Int32)]) s) := by
  obtain ⟨n, rfl⟩ : ∃ n, N = n + 2 := ⟨N - 2, by omega⟩
  obtain ⟨d0, d1⟩ := zaD' (h := 3) (by omega) hd
  rw [zyS155, zas_0_3 d0 (by omega)]
  rw [zyS157]
  rw [zau_2 hb, zaN_28, hk, zca_0_0_1 hb hk n (by omega) x _ _ ⟨by omega, by omega⟩ (by simp only [List.length_append, List.length_cons, List.length_nil]; omega), zq_bind]
  dsimp only
  rw [zca_0_0_2 hb hk n (by omega) (1 : Int32) _ _ ⟨by omega, by omega⟩ (by simp only [List.length_append, List.length_cons, List.length_nil]; omega), zq_bind]
  simp only [List.append_assoc, List.cons_append, List.nil_append]
theorem zca_1_0_0 (hb : zy_in b 50 = true) (hk : s.1 28 b.toNatClampNeg = (1 : Int32)) (N : Nat) (hN : 2 ≤ N) (x d : Int32) (L : List Int32) (hd : 0 ≤ d.toInt ∧ d.toInt + 1 ≤ 40) (hL : L.length + 1 ≤ 24) : (zyG155 N).1 b (0 : Int32) (0 : Int32) x d (zaN 27 3 29 L s) = some ((x + b), zaN 27 3 29 (L ++ [(1 : Int32)]) s) := by
  obtain ⟨n, rfl⟩ : ∃ n, N = n + 2 := ⟨N - 2, by omega⟩
  obtain ⟨d0, d1⟩ := zaD' (h := 1) (by omega) hd
  rw [zyS155, zas_0_0 d0 (by omega)]
  rw [zyS157]
  rw [zau_1 hb]
theorem zca_1_1_0 (hb : zy_in b 50 = true) (hk : s.1 28 b.toNatClampNeg = (1 : Int32)) (N : Nat) (hN : 4 ≤ N) (x d : Int32) (L : List Int32) (hd : 0 ≤ d.toInt ∧ d.toInt + 2 ≤ 40) (hL : L.length + 2 ≤ 24) : (zyG155 N).1 b (1 : Int32) (0 : Int32) x d (zaN 27 3 29 L s) = some (((x + b) + (3 : Int32)), zaN 27 3 29 (L ++ [(20 : Int32), (1 : Int32)]) s) := by
  obtain ⟨n, rfl⟩ : ∃ n, N = n + 2 := ⟨N - 2, by omega⟩
  obtain ⟨d0, d1⟩ := zaD' (h := 2) (by omega) hd
  rw [zyS155, zas_1_0 d0 (by omega)]
  rw [zyS158]
  rw [zau_20 hb, zca_1_0_0 hb hk n (by omega) x _ _ ⟨by omega, by omega⟩ (by simp only [List.length_append, List.length_cons, List.length_nil]; omega), zq_bind]
  simp only [List.append_assoc, List.cons_append, List.nil_append]
theorem zca_1_1_1 (hb : zy_in b 50 = true) (hk : s.1 28 b.toNatClampNeg = (1 : Int32)) (N : Nat) (hN : 6 ≤ N) (x d : Int32) (L : List Int32) (hd : 0 ≤ d.toInt ∧ d.toInt + 3 ≤ 40) (hL : L.length + 3 ≤ 24) : (zyG155 N).1 b (1 : Int32) (1 : Int32) x d (zaN 27 3 29 L s) = some ((((x + b) + (3 : Int32)) * (2 : Int32)), zaN 27 3 29 (L ++ [(10 : Int32), (20 : Int32), (1 : Int32)]) s) := by
  obtain ⟨n, rfl⟩ : ∃ n, N = n + 2 := ⟨N - 2, by omega⟩
  obtain ⟨d0, d1⟩ := zaD' (h := 3) (by omega) hd
  rw [zyS155, zas_1_1 d0 (by omega)]
  rw [zyS157]
  rw [zau_10 hb, zaN_28, hk, zca_1_1_0 hb hk n (by omega) x _ _ ⟨by omega, by omega⟩ (by simp only [List.length_append, List.length_cons, List.length_nil]; omega), zq_bind]
  simp only [List.append_assoc, List.cons_append, List.nil_append]
theorem zca_1_1_2 (hb : zy_in b 50 = true) (hk : s.1 28 b.toNatClampNeg = (1 : Int32)) (N : Nat) (hN : 2 ≤ N) (x d : Int32) (L : List Int32) (hd : 0 ≤ d.toInt ∧ d.toInt + 1 ≤ 40) (hL : L.length + 1 ≤ 24) : (zyG155 N).1 b (1 : Int32) (2 : Int32) x d (zaN 27 3 29 L s) = some ((x ^^^ b), zaN 27 3 29 (L ++ [(11 : Int32)]) s) := by
  obtain ⟨n, rfl⟩ : ∃ n, N = n + 2 := ⟨N - 2, by omega⟩
  obtain ⟨d0, d1⟩ := zaD' (h := 1) (by omega) hd
  rw [zyS155, zas_1_2 d0 (by omega)]
  rw [zyS157]
  rw [zau_11 hb]
theorem zca_1_1_3 (hb : zy_in b 50 = true) (hk : s.1 28 b.toNatClampNeg = (1 : Int32)) (N : Nat) (hN : 8 ≤ N) (x d : Int32) (L : List Int32) (hd : 0 ≤ d.toInt ∧ d.toInt + 4 ≤ 40) (hL : L.length + 5 ≤ 24) : (zyG155 N).1 b (1 : Int32) (3 : Int32) x d (zaN 27 3 29 L s) = some (((((x + b) + (3 : Int32)) * (2 : Int32)) - ((1 : Int32) ^^^ b)), zaN 27 3 29 (L ++ [(2 : Int32), (10 : Int32), (20 : Int32), (1 : Int32), (11 : Int32)]) s) := by
  obtain ⟨n, rfl⟩ : ∃ n, N = n + 2 := ⟨N - 2, by omega⟩
  obtain ⟨d0, d1⟩ := zaD' (h := 4) (by omega) hd
  rw [zyS155, zas_1_3 d0 (by omega)]
  rw [zyS157]
  rw [zau_2 hb, zaN_28, hk, zca_1_1_1 hb hk n (by omega) x _ _ ⟨by omega, by omega⟩ (by simp only [List.length_append, List.length_cons, List.length_nil]; omega), zq_bind]
  dsimp only
  rw [zca_1_1_2 hb hk n (by omega) (1 : Int32) _ _ ⟨by omega, by omega⟩ (by simp only [List.length_append, List.length_cons, List.length_nil]; omega), zq_bind]
  simp only [List.append_assoc, List.cons_append, List.nil_append]
theorem zca_2_2_0 (hb : zy_in b 50 = true) (hk : s.1 28 b.toNatClampNeg = (2 : Int32)) (N : Nat) (hN : 2 ≤ N) (x d : Int32) (L : List Int32) (hd : 0 ≤ d.toInt ∧ d.toInt + 1 ≤ 40) (hL : L.length + 1 ≤ 24) : (zyG155 N).1 b (2 : Int32) (0 : Int32) x d (zaN 27 3 29 L s) = some ((x + b), zaN 27 3 29 (L ++ [(1 : Int32)]) s) := by
  obtain ⟨n, rfl⟩ : ∃ n, N = n + 2 := ⟨N - 2, by omega⟩
  obtain ⟨d0, d1⟩ := zaD' (h := 1) (by omega) hd
  rw [zyS155, zas_2_0 d0 (by omega)]
  rw [zyS157]
  rw [zau_1 hb]
theorem zca_2_0_1 (hb : zy_in b 50 = true) (hk : s.1 28 b.toNatClampNeg = (2 : Int32)) (N : Nat) (hN : 4 ≤ N) (x d : Int32) (L : List Int32) (hd : 0 ≤ d.toInt ∧ d.toInt + 2 ≤ 40) (hL : L.length + 2 ≤ 24) : (zyG155 N).1 b (0 : Int32) (1 : Int32) x d (zaN 27 3 29 L s) = some (((x + b) * (2 : Int32)), zaN 27 3 29 (L ++ [(10 : Int32), (1 : Int32)]) s) := by
  obtain ⟨n, rfl⟩ : ∃ n, N = n + 2 := ⟨N - 2, by omega⟩
  obtain ⟨d0, d1⟩ := zaD' (h := 2) (by omega) hd
  rw [zyS155, zas_0_1 d0 (by omega)]
  rw [zyS157]
  rw [zau_10 hb, zaN_28, hk, zca_2_2_0 hb hk n (by omega) x _ _ ⟨by omega, by omega⟩ (by simp only [List.length_append, List.length_cons, List.length_nil]; omega), zq_bind]
  simp only [List.append_assoc, List.cons_append, List.nil_append]
theorem zca_2_2_1 (hb : zy_in b 50 = true) (hk : s.1 28 b.toNatClampNeg = (2 : Int32)) (N : Nat) (hN : 6 ≤ N) (x d : Int32) (L : List Int32) (hd : 0 ≤ d.toInt ∧ d.toInt + 3 ≤ 40) (hL : L.length + 3 ≤ 24) : (zyG155 N).1 b (2 : Int32) (1 : Int32) x d (zaN 27 3 29 L s) = some ((-((x + b) * (2 : Int32))), zaN 27 3 29 (L ++ [(30 : Int32), (10 : Int32), (1 : Int32)]) s) := by
  obtain ⟨n, rfl⟩ : ∃ n, N = n + 2 := ⟨N - 2, by omega⟩
  obtain ⟨d0, d1⟩ := zaD' (h := 3) (by omega) hd
  rw [zyS155, zas_2_1 d0 (by omega)]
  rw [zyS158]
  rw [zau_30 hb, zca_2_0_1 hb hk n (by omega) x _ _ ⟨by omega, by omega⟩ (by simp only [List.length_append, List.length_cons, List.length_nil]; omega), zq_bind]
  simp only [List.append_assoc, List.cons_append, List.nil_append]
theorem zca_2_2_2 (hb : zy_in b 50 = true) (hk : s.1 28 b.toNatClampNeg = (2 : Int32)) (N : Nat) (hN : 2 ≤ N) (x d : Int32) (L : List Int32) (hd : 0 ≤ d.toInt ∧ d.toInt + 1 ≤ 40) (hL : L.length + 1 ≤ 24) : (zyG155 N).1 b (2 : Int32) (2 : Int32) x d (zaN 27 3 29 L s) = some ((x ^^^ b), zaN 27 3 29 (L ++ [(11 : Int32)]) s) := by
  obtain ⟨n, rfl⟩ : ∃ n, N = n + 2 := ⟨N - 2, by omega⟩
  obtain ⟨d0, d1⟩ := zaD' (h := 1) (by omega) hd
  rw [zyS155, zas_2_2 d0 (by omega)]
  rw [zyS157]
  rw [zau_11 hb]
theorem zca_2_2_3 (hb : zy_in b 50 = true) (hk : s.1 28 b.toNatClampNeg = (2 : Int32)) (N : Nat) (hN : 8 ≤ N) (x d : Int32) (L : List Int32) (hd : 0 ≤ d.toInt ∧ d.toInt + 4 ≤ 40) (hL : L.length + 5 ≤ 24) : (zyG155 N).1 b (2 : Int32) (3 : Int32) x d (zaN 27 3 29 L s) = some (((-((x + b) * (2 : Int32))) - ((1 : Int32) ^^^ b)), zaN 27 3 29 (L ++ [(2 : Int32), (30 : Int32), (10 : Int32), (1 : Int32), (11 : Int32)]) s) := by
  obtain ⟨n, rfl⟩ : ∃ n, N = n + 2 := ⟨N - 2, by omega⟩
  obtain ⟨d0, d1⟩ := zaD' (h := 4) (by omega) hd
  rw [zyS155, zas_2_3 d0 (by omega)]
  rw [zyS157]
  rw [zau_2 hb, zaN_28, hk, zca_2_2_1 hb hk n (by omega) x _ _ ⟨by omega, by omega⟩ (by simp only [List.length_append, List.length_cons, List.length_nil]; omega), zq_bind]
  dsimp only
  rw [zca_2_2_2 hb hk n (by omega) (1 : Int32) _ _ ⟨by omega, by omega⟩ (by simp only [List.length_append, List.length_cons, List.length_nil]; omega), zq_bind]
  simp only [List.append_assoc, List.cons_append, List.nil_append]
theorem zca_3_3_0 (hb : zy_in b 50 = true) (hk : s.1 28 b.toNatClampNeg = (3 : Int32)) (N : Nat) (hN : 2 ≤ N) (x d : Int32) (L : List Int32) (hd : 0 ≤ d.toInt ∧ d.toInt + 1 ≤ 40) (hL : L.length + 1 ≤ 24) : (zyG155 N).1 b (3 : Int32) (0 : Int32) x d (zaN 27 3 29 L s) = some ((x + b), zaN 27 3 29 (L ++ [(1 : Int32)]) s) := by
  obtain ⟨n, rfl⟩ : ∃ n, N = n + 2 := ⟨N - 2, by omega⟩
  obtain ⟨d0, d1⟩ := zaD' (h := 1) (by omega) hd
  rw [zyS155, zas_3_0 d0 (by omega)]
  rw [zyS157]
  rw [zau_1 hb]
theorem zca_3_0_1 (hb : zy_in b 50 = true) (hk : s.1 28 b.toNatClampNeg = (3 : Int32)) (N : Nat) (hN : 4 ≤ N) (x d : Int32) (L : List Int32) (hd : 0 ≤ d.toInt ∧ d.toInt + 2 ≤ 40) (hL : L.length + 2 ≤ 24) : (zyG155 N).1 b (0 : Int32) (1 : Int32) x d (zaN 27 3 29 L s) = some (((x + b) * (2 : Int32)), zaN 27 3 29 (L ++ [(10 : Int32), (1 : Int32)]) s) := by
  obtain ⟨n, rfl⟩ : ∃ n, N = n + 2 := ⟨N - 2, by omega⟩
  obtain ⟨d0, d1⟩ := zaD' (h := 2) (by omega) hd
  rw [zyS155, zas_0_1 d0 (by omega)]
  rw [zyS157]
  rw [zau_10 hb, zaN_28, hk, zca_3_3_0 hb hk n (by omega) x _ _ ⟨by omega, by omega⟩ (by simp only [List.length_append, List.length_cons, List.length_nil]; omega), zq_bind]
  simp only [List.append_assoc, List.cons_append, List.nil_append]
theorem zca_3_2_1 (hb : zy_in b 50 = true) (hk : s.1 28 b.toNatClampNeg = (3 : Int32)) (N : Nat) (hN : 6 ≤ N) (x d : Int32) (L : List Int32) (hd : 0 ≤ d.toInt ∧ d.toInt + 3 ≤ 40) (hL : L.length + 3 ≤ 24) : (zyG155 N).1 b (2 : Int32) (1 : Int32) x d (zaN 27 3 29 L s) = some ((-((x + b) * (2 : Int32))), zaN 27 3 29 (L ++ [(30 : Int32), (10 : Int32), (1 : Int32)]) s) := by
  obtain ⟨n, rfl⟩ : ∃ n, N = n + 2 := ⟨N - 2, by omega⟩
  obtain ⟨d0, d1⟩ := zaD' (h := 3) (by omega) hd
  rw [zyS155, zas_2_1 d0 (by omega)]
  rw [zyS158]
  rw [zau_30 hb, zca_3_0_1 hb hk n (by omega) x _ _ ⟨by omega, by omega⟩ (by simp only [List.length_append, List.length_cons, List.length_nil]; omega), zq_bind]
  simp only [List.append_assoc, List.cons_append, List.nil_append]
theorem zca_3_3_1 (hb : zy_in b 50 = true) (hk : s.1 28 b.toNatClampNeg = (3 : Int32)) (N : Nat) (hN : 8 ≤ N) (x d : Int32) (L : List Int32) (hd : 0 ≤ d.toInt ∧ d.toInt + 4 ≤ 40) (hL : L.length + 4 ≤ 24) : (zyG155 N).1 b (3 : Int32) (1 : Int32) x d (zaN 27 3 29 L s) = some ((-(((x + (1 : Int32)) + b) * (2 : Int32))), zaN 27 3 29 (L ++ [(41 : Int32), (30 : Int32), (10 : Int32), (1 : Int32)]) s) := by
  obtain ⟨n, rfl⟩ : ∃ n, N = n + 2 := ⟨N - 2, by omega⟩
  obtain ⟨d0, d1⟩ := zaD' (h := 4) (by omega) hd
  rw [zyS155, zas_3_1 d0 (by omega)]
  rw [zyS158]
  rw [zau_41 hb, zca_3_2_1 hb hk n (by omega) (x + (1 : Int32)) _ _ ⟨by omega, by omega⟩ (by simp only [List.length_append, List.length_cons, List.length_nil]; omega)]
  simp only [List.append_assoc, List.cons_append, List.nil_append]
theorem zca_3_2_2 (hb : zy_in b 50 = true) (hk : s.1 28 b.toNatClampNeg = (3 : Int32)) (N : Nat) (hN : 2 ≤ N) (x d : Int32) (L : List Int32) (hd : 0 ≤ d.toInt ∧ d.toInt + 1 ≤ 40) (hL : L.length + 1 ≤ 24) : (zyG155 N).1 b (2 : Int32) (2 : Int32) x d (zaN 27 3 29 L s) = some ((x ^^^ b), zaN 27 3 29 (L ++ [(11 : Int32)]) s) := by
  obtain ⟨n, rfl⟩ : ∃ n, N = n + 2 := ⟨N - 2, by omega⟩
  obtain ⟨d0, d1⟩ := zaD' (h := 1) (by omega) hd
  rw [zyS155, zas_2_2 d0 (by omega)]
  rw [zyS157]
  rw [zau_11 hb]
theorem zca_3_3_2 (hb : zy_in b 50 = true) (hk : s.1 28 b.toNatClampNeg = (3 : Int32)) (N : Nat) (hN : 4 ≤ N) (x d : Int32) (L : List Int32) (hd : 0 ≤ d.toInt ∧ d.toInt + 2 ≤ 40) (hL : L.length + 2 ≤ 24) : (zyG155 N).1 b (3 : Int32) (2 : Int32) x d (zaN 27 3 29 L s) = some (((x ^^^ b) * (3 : Int32)), zaN 27 3 29 (L ++ [(40 : Int32), (11 : Int32)]) s) := by
  obtain ⟨n, rfl⟩ : ∃ n, N = n + 2 := ⟨N - 2, by omega⟩
  obtain ⟨d0, d1⟩ := zaD' (h := 2) (by omega) hd
  rw [zyS155, zas_3_2 d0 (by omega)]
  rw [zyS158]
  rw [zau_40 hb, zca_3_2_2 hb hk n (by omega) x _ _ ⟨by omega, by omega⟩ (by simp only [List.length_append, List.length_cons, List.length_nil]; omega), zq_bind]
  simp only [List.append_assoc, List.cons_append, List.nil_append]
theorem zca_3_3_3 (hb : zy_in b 50 = true) (hk : s.1 28 b.toNatClampNeg = (3 : Int32)) (N : Nat) (hN : 10 ≤ N) (x d : Int32) (L : List Int32) (hd : 0 ≤ d.toInt ∧ d.toInt + 5 ≤ 40) (hL : L.length + 7 ≤ 24) : (zyG155 N).1 b (3 : Int32) (3 : Int32) x d (zaN 27 3 29 L s) = some (((-(((x + (1 : Int32)) + b) * (2 : Int32))) - (((1 : Int32) ^^^ b) * (3 : Int32))), zaN 27 3 29 (L ++ [(2 : Int32), (41 : Int32), (30 : Int32), (10 : Int32), (1 : Int32), (40 : Int32), (11 : Int32)]) s) := by
  obtain ⟨n, rfl⟩ : ∃ n, N = n + 2 := ⟨N - 2, by omega⟩
  obtain ⟨d0, d1⟩ := zaD' (h := 5) (by omega) hd
  rw [zyS155, zas_3_3 d0 (by omega)]
  rw [zyS157]
  rw [zau_2 hb, zaN_28, hk, zca_3_3_1 hb hk n (by omega) x _ _ ⟨by omega, by omega⟩ (by simp only [List.length_append, List.length_cons, List.length_nil]; omega), zq_bind]
  dsimp only
  rw [zca_3_3_2 hb hk n (by omega) (1 : Int32) _ _ ⟨by omega, by omega⟩ (by simp only [List.length_append, List.length_cons, List.length_nil]; omega), zq_bind]
  simp only [List.append_assoc, List.cons_append, List.nil_append]
theorem zca_4_0_0 (hb : zy_in b 50 = true) (hk : s.1 28 b.toNatClampNeg = (4 : Int32)) (N : Nat) (hN : 2 ≤ N) (x d : Int32) (L : List Int32) (hd : 0 ≤ d.toInt ∧ d.toInt + 1 ≤ 40) (hL : L.length + 1 ≤ 24) : (zyG155 N).1 b (0 : Int32) (0 : Int32) x d (zaN 27 3 29 L s) = some ((x + b), zaN 27 3 29 (L ++ [(1 : Int32)]) s) := by
  obtain ⟨n, rfl⟩ : ∃ n, N = n + 2 := ⟨N - 2, by omega⟩
  obtain ⟨d0, d1⟩ := zaD' (h := 1) (by omega) hd
  rw [zyS155, zas_0_0 d0 (by omega)]
  rw [zyS157]
  rw [zau_1 hb]
theorem zca_4_4_0 (hb : zy_in b 50 = true) (hk : s.1 28 b.toNatClampNeg = (4 : Int32)) (N : Nat) (hN : 4 ≤ N) (x d : Int32) (L : List Int32) (hd : 0 ≤ d.toInt ∧ d.toInt + 2 ≤ 40) (hL : L.length + 2 ≤ 24) : (zyG155 N).1 b (4 : Int32) (0 : Int32) x d (zaN 27 3 29 L s) = some (((x + b) + (3 : Int32)), zaN 27 3 29 (L ++ [(20 : Int32), (1 : Int32)]) s) := by
  obtain ⟨n, rfl⟩ : ∃ n, N = n + 2 := ⟨N - 2, by omega⟩
  obtain ⟨d0, d1⟩ := zaD' (h := 2) (by omega) hd
  rw [zyS155, zas_4_0 d0 (by omega)]
  rw [zyS158]
  rw [zau_20 hb, zca_4_0_0 hb hk n (by omega) x _ _ ⟨by omega, by omega⟩ (by simp only [List.length_append, List.length_cons, List.length_nil]; omega), zq_bind]
  simp only [List.append_assoc, List.cons_append, List.nil_append]
theorem zca_4_4_1 (hb : zy_in b 50 = true) (hk : s.1 28 b.toNatClampNeg = (4 : Int32)) (N : Nat) (hN : 6 ≤ N) (x d : Int32) (L : List Int32) (hd : 0 ≤ d.toInt ∧ d.toInt + 3 ≤ 40) (hL : L.length + 3 ≤ 24) : (zyG155 N).1 b (4 : Int32) (1 : Int32) x d (zaN 27 3 29 L s) = some ((((x + b) + (3 : Int32)) * (2 : Int32)), zaN 27 3 29 (L ++ [(10 : Int32), (20 : Int32), (1 : Int32)]) s) := by
  obtain ⟨n, rfl⟩ : ∃ n, N = n + 2 := ⟨N - 2, by omega⟩
  obtain ⟨d0, d1⟩ := zaD' (h := 3) (by omega) hd
  rw [zyS155, zas_4_1 d0 (by omega)]
  rw [zyS157]
  rw [zau_10 hb, zaN_28, hk, zca_4_4_0 hb hk n (by omega) x _ _ ⟨by omega, by omega⟩ (by simp only [List.length_append, List.length_cons, List.length_nil]; omega), zq_bind]
  simp only [List.append_assoc, List.cons_append, List.nil_append]
theorem zca_4_1_2 (hb : zy_in b 50 = true) (hk : s.1 28 b.toNatClampNeg = (4 : Int32)) (N : Nat) (hN : 2 ≤ N) (x d : Int32) (L : List Int32) (hd : 0 ≤ d.toInt ∧ d.toInt + 1 ≤ 40) (hL : L.length + 1 ≤ 24) : (zyG155 N).1 b (1 : Int32) (2 : Int32) x d (zaN 27 3 29 L s) = some ((x ^^^ b), zaN 27 3 29 (L ++ [(11 : Int32)]) s) := by
  obtain ⟨n, rfl⟩ : ∃ n, N = n + 2 := ⟨N - 2, by omega⟩
  obtain ⟨d0, d1⟩ := zaD' (h := 1) (by omega) hd
  rw [zyS155, zas_1_2 d0 (by omega)]
  rw [zyS157]
  rw [zau_11 hb]
theorem zca_4_4_2 (hb : zy_in b 50 = true) (hk : s.1 28 b.toNatClampNeg = (4 : Int32)) (N : Nat) (hN : 6 ≤ N) (x d : Int32) (L : List Int32) (hd : 0 ≤ d.toInt ∧ d.toInt + 3 ≤ 40) (hL : L.length + 4 ≤ 24) : (zyG155 N).1 b (4 : Int32) (2 : Int32) x d (zaN 27 3 29 L s) = some (((x ^^^ b) - (((2 : Int32) + b) + (3 : Int32))), zaN 27 3 29 (L ++ [(50 : Int32), (11 : Int32), (20 : Int32), (1 : Int32)]) s) := by
  obtain ⟨n, rfl⟩ : ∃ n, N = n + 2 := ⟨N - 2, by omega⟩
  obtain ⟨d0, d1⟩ := zaD' (h := 3) (by omega) hd
  rw [zyS155, zas_4_2 d0 (by omega)]
  rw [zyS158]
  rw [zau_50 hb, zaN_28, hk, zca_4_1_2 hb hk n (by omega) x _ _ ⟨by omega, by omega⟩ (by simp only [List.length_append, List.length_cons, List.length_nil]; omega), zq_bind]
  dsimp only
  rw [zca_4_4_0 hb hk n (by omega) (2 : Int32) _ _ ⟨by omega, by omega⟩ (by simp only [List.length_append, List.length_cons, List.length_nil]; omega), zq_bind]
  simp only [List.append_assoc, List.cons_append, List.nil_append]
theorem zca_4_4_3 (hb : zy_in b 50 = true) (hk : s.1 28 b.toNatClampNeg = (4 : Int32)) (N : Nat) (hN : 8 ≤ N) (x d : Int32) (L : List Int32) (hd : 0 ≤ d.toInt ∧ d.toInt + 4 ≤ 40) (hL : L.length + 8 ≤ 24) : (zyG155 N).1 b (4 : Int32) (3 : Int32) x d (zaN 27 3 29 L s) = some (((((x + b) + (3 : Int32)) * (2 : Int32)) - (((1 : Int32) ^^^ b) - (((2 : Int32) + b) + (3 : Int32)))), zaN 27 3 29 (L ++ [(2 : Int32), (10 : Int32), (20 : Int32), (1 : Int32), (50 : Int32), (11 : Int32), (20 : Int32), (1 : Int32)]) s) := by
  obtain ⟨n, rfl⟩ : ∃ n, N = n + 2 := ⟨N - 2, by omega⟩
  obtain ⟨d0, d1⟩ := zaD' (h := 4) (by omega) hd
  rw [zyS155, zas_4_3 d0 (by omega)]
  rw [zyS157]
  rw [zau_2 hb, zaN_28, hk, zca_4_4_1 hb hk n (by omega) x _ _ ⟨by omega, by omega⟩ (by simp only [List.length_append, List.length_cons, List.length_nil]; omega), zq_bind]
  dsimp only
  rw [zca_4_4_2 hb hk n (by omega) (1 : Int32) _ _ ⟨by omega, by omega⟩ (by simp only [List.length_append, List.length_cons, List.length_nil]; omega), zq_bind]
  simp only [List.append_assoc, List.cons_append, List.nil_append]
theorem zca_5_5_0 (hb : zy_in b 50 = true) (hk : s.1 28 b.toNatClampNeg = (5 : Int32)) (N : Nat) (hN : 2 ≤ N) (x d : Int32) (L : List Int32) (hd : 0 ≤ d.toInt ∧ d.toInt + 1 ≤ 40) (hL : L.length + 1 ≤ 24) : (zyG155 N).1 b (5 : Int32) (0 : Int32) x d (zaN 27 3 29 L s) = some ((x + b), zaN 27 3 29 (L ++ [(1 : Int32)]) s) := by
  obtain ⟨n, rfl⟩ : ∃ n, N = n + 2 := ⟨N - 2, by omega⟩
  obtain ⟨d0, d1⟩ := zaD' (h := 1) (by omega) hd
  rw [zyS155, zas_5_0 d0 (by omega)]
  rw [zyS157]
  rw [zau_1 hb]
theorem zca_5_0_1 (hb : zy_in b 50 = true) (hk : s.1 28 b.toNatClampNeg = (5 : Int32)) (N : Nat) (hN : 4 ≤ N) (x d : Int32) (L : List Int32) (hd : 0 ≤ d.toInt ∧ d.toInt + 2 ≤ 40) (hL : L.length + 2 ≤ 24) : (zyG155 N).1 b (0 : Int32) (1 : Int32) x d (zaN 27 3 29 L s) = some (((x + b) * (2 : Int32)), zaN 27 3 29 (L ++ [(10 : Int32), (1 : Int32)]) s) := by
  obtain ⟨n, rfl⟩ : ∃ n, N = n + 2 := ⟨N - 2, by omega⟩
  obtain ⟨d0, d1⟩ := zaD' (h := 2) (by omega) hd
  rw [zyS155, zas_0_1 d0 (by omega)]
  rw [zyS157]
  rw [zau_10 hb, zaN_28, hk, zca_5_5_0 hb hk n (by omega) x _ _ ⟨by omega, by omega⟩ (by simp only [List.length_append, List.length_cons, List.length_nil]; omega), zq_bind]
  simp only [List.append_assoc, List.cons_append, List.nil_append]
theorem zca_5_2_1 (hb : zy_in b 50 = true) (hk : s.1 28 b.toNatClampNeg = (5 : Int32)) (N : Nat) (hN : 6 ≤ N) (x d : Int32) (L : List Int32) (hd : 0 ≤ d.toInt ∧ d.toInt + 3 ≤ 40) (hL : L.length + 3 ≤ 24) : (zyG155 N).1 b (2 : Int32) (1 : Int32) x d (zaN 27 3 29 L s) = some ((-((x + b) * (2 : Int32))), zaN 27 3 29 (L ++ [(30 : Int32), (10 : Int32), (1 : Int32)]) s) := by
  obtain ⟨n, rfl⟩ : ∃ n, N = n + 2 := ⟨N - 2, by omega⟩
  obtain ⟨d0, d1⟩ := zaD' (h := 3) (by omega) hd
  rw [zyS155, zas_2_1 d0 (by omega)]
  rw [zyS158]
  rw [zau_30 hb, zca_5_0_1 hb hk n (by omega) x _ _ ⟨by omega, by omega⟩ (by simp only [List.length_append, List.length_cons, List.length_nil]; omega), zq_bind]
  simp only [List.append_assoc, List.cons_append, List.nil_append]
theorem zca_5_5_1 (hb : zy_in b 50 = true) (hk : s.1 28 b.toNatClampNeg = (5 : Int32)) (N : Nat) (hN : 8 ≤ N) (x d : Int32) (L : List Int32) (hd : 0 ≤ d.toInt ∧ d.toInt + 4 ≤ 40) (hL : L.length + 4 ≤ 24) : (zyG155 N).1 b (5 : Int32) (1 : Int32) x d (zaN 27 3 29 L s) = some ((-(((x + (1 : Int32)) + b) * (2 : Int32))), zaN 27 3 29 (L ++ [(41 : Int32), (30 : Int32), (10 : Int32), (1 : Int32)]) s) := by
  obtain ⟨n, rfl⟩ : ∃ n, N = n + 2 := ⟨N - 2, by omega⟩
  obtain ⟨d0, d1⟩ := zaD' (h := 4) (by omega) hd
  rw [zyS155, zas_5_1 d0 (by omega)]
  rw [zyS158]
  rw [zau_41 hb, zca_5_2_1 hb hk n (by omega) (x + (1 : Int32)) _ _ ⟨by omega, by omega⟩ (by simp only [List.length_append, List.length_cons, List.length_nil]; omega)]
  simp only [List.append_assoc, List.cons_append, List.nil_append]
theorem zca_5_2_2 (hb : zy_in b 50 = true) (hk : s.1 28 b.toNatClampNeg = (5 : Int32)) (N : Nat) (hN : 2 ≤ N) (x d : Int32) (L : List Int32) (hd : 0 ≤ d.toInt ∧ d.toInt + 1 ≤ 40) (hL : L.length + 1 ≤ 24) : (zyG155 N).1 b (2 : Int32) (2 : Int32) x d (zaN 27 3 29 L s) = some ((x ^^^ b), zaN 27 3 29 (L ++ [(11 : Int32)]) s) := by
  obtain ⟨n, rfl⟩ : ∃ n, N = n + 2 := ⟨N - 2, by omega⟩
  obtain ⟨d0, d1⟩ := zaD' (h := 1) (by omega) hd
  rw [zyS155, zas_2_2 d0 (by omega)]
  rw [zyS157]
  rw [zau_11 hb]
theorem zca_5_5_2 (hb : zy_in b 50 = true) (hk : s.1 28 b.toNatClampNeg = (5 : Int32)) (N : Nat) (hN : 4 ≤ N) (x d : Int32) (L : List Int32) (hd : 0 ≤ d.toInt ∧ d.toInt + 2 ≤ 40) (hL : L.length + 2 ≤ 24) : (zyG155 N).1 b (5 : Int32) (2 : Int32) x d (zaN 27 3 29 L s) = some (((x ^^^ b) * (3 : Int32)), zaN 27 3 29 (L ++ [(40 : Int32), (11 : Int32)]) s) := by
  obtain ⟨n, rfl⟩ : ∃ n, N = n + 2 := ⟨N - 2, by omega⟩
  obtain ⟨d0, d1⟩ := zaD' (h := 2) (by omega) hd
  rw [zyS155, zas_5_2 d0 (by omega)]
  rw [zyS158]
  rw [zau_40 hb, zca_5_2_2 hb hk n (by omega) x _ _ ⟨by omega, by omega⟩ (by simp only [List.length_append, List.length_cons, List.length_nil]; omega), zq_bind]
  simp only [List.append_assoc, List.cons_append, List.nil_append]
theorem zca_5_3_3 (hb : zy_in b 50 = true) (hk : s.1 28 b.toNatClampNeg = (5 : Int32)) (N : Nat) (hN : 10 ≤ N) (x d : Int32) (L : List Int32) (hd : 0 ≤ d.toInt ∧ d.toInt + 5 ≤ 40) (hL : L.length + 7 ≤ 24) : (zyG155 N).1 b (3 : Int32) (3 : Int32) x d (zaN 27 3 29 L s) = some (((-(((x + (1 : Int32)) + b) * (2 : Int32))) - (((1 : Int32) ^^^ b) * (3 : Int32))), zaN 27 3 29 (L ++ [(2 : Int32), (41 : Int32), (30 : Int32), (10 : Int32), (1 : Int32), (40 : Int32), (11 : Int32)]) s) := by
  obtain ⟨n, rfl⟩ : ∃ n, N = n + 2 := ⟨N - 2, by omega⟩
  obtain ⟨d0, d1⟩ := zaD' (h := 5) (by omega) hd
  rw [zyS155, zas_3_3 d0 (by omega)]
  rw [zyS157]
  rw [zau_2 hb, zaN_28, hk, zca_5_5_1 hb hk n (by omega) x _ _ ⟨by omega, by omega⟩ (by simp only [List.length_append, List.length_cons, List.length_nil]; omega), zq_bind]
  dsimp only
  rw [zca_5_5_2 hb hk n (by omega) (1 : Int32) _ _ ⟨by omega, by omega⟩ (by simp only [List.length_append, List.length_cons, List.length_nil]; omega), zq_bind]
  simp only [List.append_assoc, List.cons_append, List.nil_append]
theorem zca_5_5_3 (hb : zy_in b 50 = true) (hk : s.1 28 b.toNatClampNeg = (5 : Int32)) (N : Nat) (hN : 12 ≤ N) (x d : Int32) (L : List Int32) (hd : 0 ≤ d.toInt ∧ d.toInt + 6 ≤ 40) (hL : L.length + 8 ≤ 24) : (zyG155 N).1 b (5 : Int32) (3 : Int32) x d (zaN 27 3 29 L s) = some ((((-(((x + (1 : Int32)) + b) * (2 : Int32))) - (((1 : Int32) ^^^ b) * (3 : Int32))) ^^^ (5 : Int32)), zaN 27 3 29 (L ++ [(60 : Int32), (2 : Int32), (41 : Int32), (30 : Int32), (10 : Int32), (1 : Int32), (40 : Int32), (11 : Int32)]) s) := by
  obtain ⟨n, rfl⟩ : ∃ n, N = n + 2 := ⟨N - 2, by omega⟩
  obtain ⟨d0, d1⟩ := zaD' (h := 6) (by omega) hd
  rw [zyS155, zas_5_3 d0 (by omega)]
  rw [zyS158]
  rw [zau_60 hb, zca_5_3_3 hb hk n (by omega) x _ _ ⟨by omega, by omega⟩ (by simp only [List.length_append, List.length_cons, List.length_nil]; omega), zq_bind]
  simp only [List.append_assoc, List.cons_append, List.nil_append]
theorem zca_6_0_0 (hb : zy_in b 50 = true) (hk : s.1 28 b.toNatClampNeg = (6 : Int32)) (N : Nat) (hN : 2 ≤ N) (x d : Int32) (L : List Int32) (hd : 0 ≤ d.toInt ∧ d.toInt + 1 ≤ 40) (hL : L.length + 1 ≤ 24) : (zyG155 N).1 b (0 : Int32) (0 : Int32) x d (zaN 27 3 29 L s) = some ((x + b), zaN 27 3 29 (L ++ [(1 : Int32)]) s) := by
  obtain ⟨n, rfl⟩ : ∃ n, N = n + 2 := ⟨N - 2, by omega⟩
  obtain ⟨d0, d1⟩ := zaD' (h := 1) (by omega) hd
  rw [zyS155, zas_0_0 d0 (by omega)]
  rw [zyS157]
  rw [zau_1 hb]
theorem zca_6_6_0 (hb : zy_in b 50 = true) (hk : s.1 28 b.toNatClampNeg = (6 : Int32)) (N : Nat) (hN : 4 ≤ N) (x d : Int32) (L : List Int32) (hd : 0 ≤ d.toInt ∧ d.toInt + 2 ≤ 40) (hL : L.length + 2 ≤ 24) : (zyG155 N).1 b (6 : Int32) (0 : Int32) x d (zaN 27 3 29 L s) = some (((x + b) * (2 : Int32)), zaN 27 3 29 (L ++ [(70 : Int32), (1 : Int32)]) s) := by
  obtain ⟨n, rfl⟩ : ∃ n, N = n + 2 := ⟨N - 2, by omega⟩
  obtain ⟨d0, d1⟩ := zaD' (h := 2) (by omega) hd
  rw [zyS155, zas_6_0 d0 (by omega)]
  rw [zyS158]
  rw [zau_70 hb, zca_6_0_0 hb hk n (by omega) x _ _ ⟨by omega, by omega⟩ (by simp only [List.length_append, List.length_cons, List.length_nil]; omega), zq_bind]
  simp only [List.append_assoc, List.cons_append, List.nil_append]
theorem zca_6_6_1 (hb : zy_in b 50 = true) (hk : s.1 28 b.toNatClampNeg = (6 : Int32)) (N : Nat) (hN : 6 ≤ N) (x d : Int32) (L : List Int32) (hd : 0 ≤ d.toInt ∧ d.toInt + 3 ≤ 40) (hL : L.length + 3 ≤ 24) : (zyG155 N).1 b (6 : Int32) (1 : Int32) x d (zaN 27 3 29 L s) = some ((((x + b) * (2 : Int32)) * (2 : Int32)), zaN 27 3 29 (L ++ [(10 : Int32), (70 : Int32), (1 : Int32)]) s) := by
  obtain ⟨n, rfl⟩ : ∃ n, N = n + 2 := ⟨N - 2, by omega⟩
  obtain ⟨d0, d1⟩ := zaD' (h := 3) (by omega) hd
  rw [zyS155, zas_6_1 d0 (by omega)]
  rw [zyS157]
  rw [zau_10 hb, zaN_28, hk, zca_6_6_0 hb hk n (by omega) x _ _ ⟨by omega, by omega⟩ (by simp only [List.length_append, List.length_cons, List.length_nil]; omega), zq_bind]
  simp only [List.append_assoc, List.cons_append, List.nil_append]
theorem zca_6_6_2 (hb : zy_in b 50 = true) (hk : s.1 28 b.toNatClampNeg = (6 : Int32)) (N : Nat) (hN : 2 ≤ N) (x d : Int32) (L : List Int32) (hd : 0 ≤ d.toInt ∧ d.toInt + 1 ≤ 40) (hL : L.length + 1 ≤ 24) : (zyG155 N).1 b (6 : Int32) (2 : Int32) x d (zaN 27 3 29 L s) = some ((x ^^^ b), zaN 27 3 29 (L ++ [(11 : Int32)]) s) := by
  obtain ⟨n, rfl⟩ : ∃ n, N = n + 2 := ⟨N - 2, by omega⟩
  obtain ⟨d0, d1⟩ := zaD' (h := 1) (by omega) hd
  rw [zyS155, zas_6_2 d0 (by omega)]
  rw [zyS157]
  rw [zau_11 hb]
theorem zca_6_6_3 (hb : zy_in b 50 = true) (hk : s.1 28 b.toNatClampNeg = (6 : Int32)) (N : Nat) (hN : 8 ≤ N) (x d : Int32) (L : List Int32) (hd : 0 ≤ d.toInt ∧ d.toInt + 4 ≤ 40) (hL : L.length + 5 ≤ 24) : (zyG155 N).1 b (6 : Int32) (3 : Int32) x d (zaN 27 3 29 L s) = some (((((x + b) * (2 : Int32)) * (2 : Int32)) - ((1 : Int32) ^^^ b)), zaN 27 3 29 (L ++ [(2 : Int32), (10 : Int32), (70 : Int32), (1 : Int32), (11 : Int32)]) s) := by
  obtain ⟨n, rfl⟩ : ∃ n, N = n + 2 := ⟨N - 2, by omega⟩
  obtain ⟨d0, d1⟩ := zaD' (h := 4) (by omega) hd
  rw [zyS155, zas_6_3 d0 (by omega)]
  rw [zyS157]
  rw [zau_2 hb, zaN_28, hk, zca_6_6_1 hb hk n (by omega) x _ _ ⟨by omega, by omega⟩ (by simp only [List.length_append, List.length_cons, List.length_nil]; omega), zq_bind]
  dsimp only
  rw [zca_6_6_2 hb hk n (by omega) (1 : Int32) _ _ ⟨by omega, by omega⟩ (by simp only [List.length_append, List.length_cons, List.length_nil]; omega), zq_bind]
  simp only [List.append_assoc, List.cons_append, List.nil_append]
theorem zca_7_0_0 (hb : zy_in b 50 = true) (hk : s.1 28 b.toNatClampNeg = (7 : Int32)) (N : Nat) (hN : 2 ≤ N) (x d : Int32) (L : List Int32) (hd : 0 ≤ d.toInt ∧ d.toInt + 1 ≤ 40) (hL : L.length + 1 ≤ 24) : (zyG155 N).1 b (0 : Int32) (0 : Int32) x d (zaN 27 3 29 L s) = some ((x + b), zaN 27 3 29 (L ++ [(1 : Int32)]) s) := by
  obtain ⟨n, rfl⟩ : ∃ n, N = n + 2 := ⟨N - 2, by omega⟩
  obtain ⟨d0, d1⟩ := zaD' (h := 1) (by omega) hd
  rw [zyS155, zas_0_0 d0 (by omega)]
  rw [zyS157]
  rw [zau_1 hb]
theorem zca_7_7_0 (hb : zy_in b 50 = true) (hk : s.1 28 b.toNatClampNeg = (7 : Int32)) (N : Nat) (hN : 4 ≤ N) (x d : Int32) (L : List Int32) (hd : 0 ≤ d.toInt ∧ d.toInt + 2 ≤ 40) (hL : L.length + 2 ≤ 24) : (zyG155 N).1 b (7 : Int32) (0 : Int32) x d (zaN 27 3 29 L s) = some (((x + b) + (3 : Int32)), zaN 27 3 29 (L ++ [(20 : Int32), (1 : Int32)]) s) := by
  obtain ⟨n, rfl⟩ : ∃ n, N = n + 2 := ⟨N - 2, by omega⟩
  obtain ⟨d0, d1⟩ := zaD' (h := 2) (by omega) hd
  rw [zyS155, zas_7_0 d0 (by omega)]
  rw [zyS158]
  rw [zau_20 hb, zca_7_0_0 hb hk n (by omega) x _ _ ⟨by omega, by omega⟩ (by simp only [List.length_append, List.length_cons, List.length_nil]; omega), zq_bind]
  simp only [List.append_assoc, List.cons_append, List.nil_append]
theorem zca_7_4_1 (hb : zy_in b 50 = true) (hk : s.1 28 b.toNatClampNeg = (7 : Int32)) (N : Nat) (hN : 6 ≤ N) (x d : Int32) (L : List Int32) (hd : 0 ≤ d.toInt ∧ d.toInt + 3 ≤ 40) (hL : L.length + 3 ≤ 24) : (zyG155 N).1 b (4 : Int32) (1 : Int32) x d (zaN 27 3 29 L s) = some ((((x + b) + (3 : Int32)) * (2 : Int32)), zaN 27 3 29 (L ++ [(10 : Int32), (20 : Int32), (1 : Int32)]) s) := by
  obtain ⟨n, rfl⟩ : ∃ n, N = n + 2 := ⟨N - 2, by omega⟩
  obtain ⟨d0, d1⟩ := zaD' (h := 3) (by omega) hd
  rw [zyS155, zas_4_1 d0 (by omega)]
  rw [zyS157]
  rw [zau_10 hb, zaN_28, hk, zca_7_7_0 hb hk n (by omega) x _ _ ⟨by omega, by omega⟩ (by simp only [List.length_append, List.length_cons, List.length_nil]; omega), zq_bind]
  simp only [List.append_assoc, List.cons_append, List.nil_append]
theorem zca_7_1_2 (hb : zy_in b 50 = true) (hk : s.1 28 b.toNatClampNeg = (7 : Int32)) (N : Nat) (hN : 2 ≤ N) (x d : Int32) (L : List Int32) (hd : 0 ≤ d.toInt ∧ d.toInt + 1 ≤ 40) (hL : L.length + 1 ≤ 24) : (zyG155 N).1 b (1 : Int32) (2 : Int32) x d (zaN 27 3 29 L s) = some ((x ^^^ b), zaN 27 3 29 (L ++ [(11 : Int32)]) s) := by
  obtain ⟨n, rfl⟩ : ∃ n, N = n + 2 := ⟨N - 2, by omega⟩
  obtain ⟨d0, d1⟩ := zaD' (h := 1) (by omega) hd
  rw [zyS155, zas_1_2 d0 (by omega)]
  rw [zyS157]
  rw [zau_11 hb]
theorem zca_7_7_2 (hb : zy_in b 50 = true) (hk : s.1 28 b.toNatClampNeg = (7 : Int32)) (N : Nat) (hN : 6 ≤ N) (x d : Int32) (L : List Int32) (hd : 0 ≤ d.toInt ∧ d.toInt + 3 ≤ 40) (hL : L.length + 4 ≤ 24) : (zyG155 N).1 b (7 : Int32) (2 : Int32) x d (zaN 27 3 29 L s) = some (((x ^^^ b) - (((2 : Int32) + b) + (3 : Int32))), zaN 27 3 29 (L ++ [(50 : Int32), (11 : Int32), (20 : Int32), (1 : Int32)]) s) := by
  obtain ⟨n, rfl⟩ : ∃ n, N = n + 2 := ⟨N - 2, by omega⟩
  obtain ⟨d0, d1⟩ := zaD' (h := 3) (by omega) hd
  rw [zyS155, zas_7_2 d0 (by omega)]
  rw [zyS158]
  rw [zau_50 hb, zaN_28, hk, zca_7_1_2 hb hk n (by omega) x _ _ ⟨by omega, by omega⟩ (by simp only [List.length_append, List.length_cons, List.length_nil]; omega), zq_bind]
  dsimp only
  rw [zca_7_7_0 hb hk n (by omega) (2 : Int32) _ _ ⟨by omega, by omega⟩ (by simp only [List.length_append, List.length_cons, List.length_nil]; omega), zq_bind]
  simp only [List.append_assoc, List.cons_append, List.nil_append]
theorem zca_7_7_1 (hb : zy_in b 50 = true) (hk : s.1 28 b.toNatClampNeg = (7 : Int32)) (N : Nat) (hN : 8 ≤ N) (x d : Int32) (L : List Int32) (hd : 0 ≤ d.toInt ∧ d.toInt + 4 ≤ 40) (hL : L.length + 8 ≤ 24) : (zyG155 N).1 b (7 : Int32) (1 : Int32) x d (zaN 27 3 29 L s) = some (((((x + b) + (3 : Int32)) * (2 : Int32)) + (((2 : Int32) ^^^ b) - (((2 : Int32) + b) + (3 : Int32)))), zaN 27 3 29 (L ++ [(80 : Int32), (10 : Int32), (20 : Int32), (1 : Int32), (50 : Int32), (11 : Int32), (20 : Int32), (1 : Int32)]) s) := by
  obtain ⟨n, rfl⟩ : ∃ n, N = n + 2 := ⟨N - 2, by omega⟩
  obtain ⟨d0, d1⟩ := zaD' (h := 4) (by omega) hd
  rw [zyS155, zas_7_1 d0 (by omega)]
  rw [zyS158]
  rw [zau_80 hb, zaN_28, hk, zca_7_4_1 hb hk n (by omega) x _ _ ⟨by omega, by omega⟩ (by simp only [List.length_append, List.length_cons, List.length_nil]; omega), zq_bind]
  dsimp only
  rw [zca_7_7_2 hb hk n (by omega) (2 : Int32) _ _ ⟨by omega, by omega⟩ (by simp only [List.length_append, List.length_cons, List.length_nil]; omega), zq_bind]
  simp only [List.append_assoc, List.cons_append, List.nil_append]
theorem zca_7_4_3 (hb : zy_in b 50 = true) (hk : s.1 28 b.toNatClampNeg = (7 : Int32)) (N : Nat) (hN : 10 ≤ N) (x d : Int32) (L : List Int32) (hd : 0 ≤ d.toInt ∧ d.toInt + 5 ≤ 40) (hL : L.length + 13 ≤ 24) : (zyG155 N).1 b (4 : Int32) (3 : Int32) x d (zaN 27 3 29 L s) = some ((((((x + b) + (3 : Int32)) * (2 : Int32)) + (((2 : Int32) ^^^ b) - (((2 : Int32) + b) + (3 : Int32)))) - (((1 : Int32) ^^^ b) - (((2 : Int32) + b) + (3 : Int32)))), zaN 27 3 29 (L ++ [(2 : Int32), (80 : Int32), (10 : Int32), (20 : Int32), (1 : Int32), (50 : Int32), (11 : Int32), (20 : Int32), (1 : Int32), (50 : Int32), (11 : Int32), (20 : Int32), (1 : Int32)]) s) := by
  obtain ⟨n, rfl⟩ : ∃ n, N = n + 2 := ⟨N - 2, by omega⟩
  obtain ⟨d0, d1⟩ := zaD' (h := 5) (by omega) hd
  rw [zyS155, zas_4_3 d0 (by omega)]
  rw [zyS157]
  rw [zau_2 hb, zaN_28, hk, zca_7_7_1 hb hk n (by omega) x _ _ ⟨by omega, by omega⟩ (by simp only [List.length_append, List.length_cons, List.length_nil]; omega), zq_bind]
  dsimp only
  rw [zca_7_7_2 hb hk n (by omega) (1 : Int32) _ _ ⟨by omega, by omega⟩ (by simp only [List.length_append, List.length_cons, List.length_nil]; omega), zq_bind]
  simp only [List.append_assoc, List.cons_append, List.nil_append]
theorem zca_7_7_3 (hb : zy_in b 50 = true) (hk : s.1 28 b.toNatClampNeg = (7 : Int32)) (N : Nat) (hN : 12 ≤ N) (x d : Int32) (L : List Int32) (hd : 0 ≤ d.toInt ∧ d.toInt + 6 ≤ 40) (hL : L.length + 14 ≤ 24) : (zyG155 N).1 b (7 : Int32) (3 : Int32) x d (zaN 27 3 29 L s) = some (((((((x + b) + (3 : Int32)) * (2 : Int32)) + (((2 : Int32) ^^^ b) - (((2 : Int32) + b) + (3 : Int32)))) - (((1 : Int32) ^^^ b) - (((2 : Int32) + b) + (3 : Int32)))) - (1 : Int32)), zaN 27 3 29 (L ++ [(81 : Int32), (2 : Int32), (80 : Int32), (10 : Int32), (20 : Int32), (1 : Int32), (50 : Int32), (11 : Int32), (20 : Int32), (1 : Int32), (50 : Int32), (11 : Int32), (20 : Int32), (1 : Int32)]) s) := by
  obtain ⟨n, rfl⟩ : ∃ n, N = n + 2 := ⟨N - 2, by omega⟩
  obtain ⟨d0, d1⟩ := zaD' (h := 6) (by omega) hd
  rw [zyS155, zas_7_3 d0 (by omega)]
  rw [zyS158]
  rw [zau_81 hb, zca_7_4_3 hb hk n (by omega) x _ _ ⟨by omega, by omega⟩ (by simp only [List.length_append, List.length_cons, List.length_nil]; omega), zq_bind]
  simp only [List.append_assoc, List.cons_append, List.nil_append]
end ZB
