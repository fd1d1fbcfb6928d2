/-! PART 46.912: what each kind runs, in the model. Made by wip/v6/gen_act.py. -/
section ZB
variable {b : Int32} {t : zy_S}
theorem zma_0_0_0 (hk : t.1 43 32 = (0 : Int32)) (hn : t.1 43 33 = b) (N : Nat) (hN : 1 ≤ N) (x : Int32) (L : List Int32) (hL : L.length + 1 ≤ 24) : zyG250 N (0 : Int32) x (zaN 43 31 59 L t) = some ((x + b), zaN 43 31 59 (L ++ [(1 : Int32)]) t) := by
  obtain ⟨n, rfl⟩ : ∃ n, N = n + 1 := ⟨N - 1, by omega⟩
  rw [zyS250]
  unfold zyF250_0
  rw [if_neg (by decide), if_neg (by decide), if_pos (by decide), if_pos (by decide)]
  rw [zaN_251 _ (by omega), zq_bind]
  dsimp only
  rw [zaN_33, hn]
theorem zma_0_0_1 (hk : t.1 43 32 = (0 : Int32)) (hn : t.1 43 33 = b) (N : Nat) (hN : 1 ≤ N) (x : Int32) (L : List Int32) (hL : L.length + 2 ≤ 24) : zyG252 N (0 : Int32) x (zaN 43 31 59 L t) = some (((x + b) * (2 : Int32)), zaN 43 31 59 (L ++ [(10 : Int32), (1 : Int32)]) t) := by
  obtain ⟨n, rfl⟩ : ∃ n, N = n + 1 := ⟨N - 1, by omega⟩
  rw [zyS252]
  unfold zyF252_0
  rw [if_neg (by decide), if_pos (by decide), if_pos (by decide), if_pos (by decide)]
  rw [zaN_251 _ (by omega), zq_bind]
  dsimp only
  rw [zaN_32, hk, show zyF250 = zyG250 100 from rfl, zma_0_0_0 hk hn 100 (by omega) x _ (by simp only [List.length_append, List.length_cons, List.length_nil]; omega), zq_bind]
  dsimp only
  simp only [List.append_assoc, List.cons_append, List.nil_append]
theorem zma_0_0_2 (hk : t.1 43 32 = (0 : Int32)) (hn : t.1 43 33 = b) (N : Nat) (hN : 1 ≤ N) (x : Int32) (L : List Int32) (hL : L.length + 1 ≤ 24) : zyG253 N (0 : Int32) x (zaN 43 31 59 L t) = some ((x ^^^ b), zaN 43 31 59 (L ++ [(11 : Int32)]) t) := by
  obtain ⟨n, rfl⟩ : ∃ n, N = n + 1 := ⟨N - 1, by omega⟩
  rw [zyS253]
  unfold zyF253_0
  rw [if_neg (by decide), if_pos (by decide), if_neg (by decide), if_pos (by decide)]
  rw [zaN_251 _ (by omega), zq_bind]
  dsimp only
  rw [zaN_33, hn]
theorem zma_0_0_3 (hk : t.1 43 32 = (0 : Int32)) (hn : t.1 43 33 = b) (N : Nat) (hN : 1 ≤ N) (x : Int32) (L : List Int32) (hL : L.length + 4 ≤ 24) : zyG254 N (0 : Int32) x (zaN 43 31 59 L t) = some ((((x + b) * (2 : Int32)) - ((1 : Int32) ^^^ b)), zaN 43 31 59 (L ++ [(2 : Int32), (10 : Int32), (1 : Int32), (11 : Int32)]) t) := by
  obtain ⟨n, rfl⟩ : ∃ n, N = n + 1 := ⟨N - 1, by omega⟩
  rw [zyS254]
  unfold zyF254_0
  rw [if_pos (by decide), if_pos (by decide)]
  rw [zaN_251 _ (by omega), zq_bind]
  dsimp only
  rw [zaN_32, hk, show zyF252 = zyG252 100 from rfl, zma_0_0_1 hk hn 100 (by omega) x _ (by simp only [List.length_append, List.length_cons, List.length_nil]; omega), zq_bind]
  dsimp only
  rw [zaN_32, hk, show zyF253 = zyG253 100 from rfl, zma_0_0_2 hk hn 100 (by omega) (1 : Int32) _ (by simp only [List.length_append, List.length_cons, List.length_nil]; omega), zq_bind]
  dsimp only
  simp only [List.append_assoc, List.cons_append, List.nil_append]
theorem zma_1_0_0 (hk : t.1 43 32 = (1 : Int32)) (hn : t.1 43 33 = b) (N : Nat) (hN : 1 ≤ N) (x : Int32) (L : List Int32) (hL : L.length + 1 ≤ 24) : zyG250 N (0 : Int32) x (zaN 43 31 59 L t) = some ((x + b), zaN 43 31 59 (L ++ [(1 : Int32)]) t) := by
  obtain ⟨n, rfl⟩ : ∃ n, N = n + 1 := ⟨N - 1, by omega⟩
  rw [zyS250]
  unfold zyF250_0
  rw [if_neg (by decide), if_neg (by decide), if_pos (by decide), if_pos (by decide)]
  rw [zaN_251 _ (by omega), zq_bind]
  dsimp only
  rw [zaN_33, hn]
theorem zma_1_1_0 (hk : t.1 43 32 = (1 : Int32)) (hn : t.1 43 33 = b) (N : Nat) (hN : 2 ≤ N) (x : Int32) (L : List Int32) (hL : L.length + 2 ≤ 24) : zyG250 N (1 : Int32) x (zaN 43 31 59 L t) = some (((x + b) + (3 : Int32)), zaN 43 31 59 (L ++ [(20 : Int32), (1 : Int32)]) t) := by
  obtain ⟨n, rfl⟩ : ∃ n, N = n + 1 := ⟨N - 1, by omega⟩
  rw [zyS250]
  unfold zyF250_0
  rw [if_pos (by decide)]
  unfold zyF250_16
  rw [zaN_251 _ (by omega), zq_bind]
  dsimp only
  rw [zma_1_0_0 hk hn n (by omega) x _ (by simp only [List.length_append, List.length_cons, List.length_nil]; omega), zq_bind]
  dsimp only
  simp only [List.append_assoc, List.cons_append, List.nil_append]
theorem zma_1_1_1 (hk : t.1 43 32 = (1 : Int32)) (hn : t.1 43 33 = b) (N : Nat) (hN : 1 ≤ N) (x : Int32) (L : List Int32) (hL : L.length + 3 ≤ 24) : zyG252 N (1 : Int32) x (zaN 43 31 59 L t) = some ((((x + b) + (3 : Int32)) * (2 : Int32)), zaN 43 31 59 (L ++ [(10 : Int32), (20 : Int32), (1 : Int32)]) t) := by
  obtain ⟨n, rfl⟩ : ∃ n, N = n + 1 := ⟨N - 1, by omega⟩
  rw [zyS252]
  unfold zyF252_0
  rw [if_neg (by decide), if_pos (by decide), if_pos (by decide), if_pos (by decide)]
  rw [zaN_251 _ (by omega), zq_bind]
  dsimp only
  rw [zaN_32, hk, show zyF250 = zyG250 100 from rfl, zma_1_1_0 hk hn 100 (by omega) x _ (by simp only [List.length_append, List.length_cons, List.length_nil]; omega), zq_bind]
  dsimp only
  simp only [List.append_assoc, List.cons_append, List.nil_append]
theorem zma_1_1_2 (hk : t.1 43 32 = (1 : Int32)) (hn : t.1 43 33 = b) (N : Nat) (hN : 1 ≤ N) (x : Int32) (L : List Int32) (hL : L.length + 1 ≤ 24) : zyG253 N (1 : Int32) x (zaN 43 31 59 L t) = some ((x ^^^ b), zaN 43 31 59 (L ++ [(11 : Int32)]) t) := by
  obtain ⟨n, rfl⟩ : ∃ n, N = n + 1 := ⟨N - 1, by omega⟩
  rw [zyS253]
  unfold zyF253_0
  rw [if_neg (by decide), if_pos (by decide), if_neg (by decide), if_pos (by decide)]
  rw [zaN_251 _ (by omega), zq_bind]
  dsimp only
  rw [zaN_33, hn]
theorem zma_1_1_3 (hk : t.1 43 32 = (1 : Int32)) (hn : t.1 43 33 = b) (N : Nat) (hN : 1 ≤ N) (x : Int32) (L : List Int32) (hL : L.length + 5 ≤ 24) : zyG254 N (1 : Int32) x (zaN 43 31 59 L t) = some (((((x + b) + (3 : Int32)) * (2 : Int32)) - ((1 : Int32) ^^^ b)), zaN 43 31 59 (L ++ [(2 : Int32), (10 : Int32), (20 : Int32), (1 : Int32), (11 : Int32)]) t) := by
  obtain ⟨n, rfl⟩ : ∃ n, N = n + 1 := ⟨N - 1, by omega⟩
  rw [zyS254]
  unfold zyF254_0
  rw [if_pos (by decide), if_pos (by decide)]
  rw [zaN_251 _ (by omega), zq_bind]
  dsimp only
  rw [zaN_32, hk, show zyF252 = zyG252 100 from rfl, zma_1_1_1 hk hn 100 (by omega) x _ (by simp only [List.length_append, List.length_cons, List.length_nil]; omega), zq_bind]
  dsimp only
  rw [zaN_32, hk, show zyF253 = zyG253 100 from rfl, zma_1_1_2 hk hn 100 (by omega) (1 : Int32) _ (by simp only [List.length_append, List.length_cons, List.length_nil]; omega), zq_bind]
  dsimp only
  simp only [List.append_assoc, List.cons_append, List.nil_append]
theorem zma_2_2_0 (hk : t.1 43 32 = (2 : Int32)) (hn : t.1 43 33 = b) (N : Nat) (hN : 1 ≤ N) (x : Int32) (L : List Int32) (hL : L.length + 1 ≤ 24) : zyG250 N (2 : Int32) x (zaN 43 31 59 L t) = some ((x + b), zaN 43 31 59 (L ++ [(1 : Int32)]) t) := by
  obtain ⟨n, rfl⟩ : ∃ n, N = n + 1 := ⟨N - 1, by omega⟩
  rw [zyS250]
  unfold zyF250_0
  rw [if_neg (by decide), if_neg (by decide), if_pos (by decide), if_pos (by decide)]
  rw [zaN_251 _ (by omega), zq_bind]
  dsimp only
  rw [zaN_33, hn]
theorem zma_2_0_1 (hk : t.1 43 32 = (2 : Int32)) (hn : t.1 43 33 = b) (N : Nat) (hN : 1 ≤ N) (x : Int32) (L : List Int32) (hL : L.length + 2 ≤ 24) : zyG252 N (0 : Int32) x (zaN 43 31 59 L t) = some (((x + b) * (2 : Int32)), zaN 43 31 59 (L ++ [(10 : Int32), (1 : Int32)]) t) := by
  obtain ⟨n, rfl⟩ : ∃ n, N = n + 1 := ⟨N - 1, by omega⟩
  rw [zyS252]
  unfold zyF252_0
  rw [if_neg (by decide), if_pos (by decide), if_pos (by decide), if_pos (by decide)]
  rw [zaN_251 _ (by omega), zq_bind]
  dsimp only
  rw [zaN_32, hk, show zyF250 = zyG250 100 from rfl, zma_2_2_0 hk hn 100 (by omega) x _ (by simp only [List.length_append, List.length_cons, List.length_nil]; omega), zq_bind]
  dsimp only
  simp only [List.append_assoc, List.cons_append, List.nil_append]
theorem zma_2_2_1 (hk : t.1 43 32 = (2 : Int32)) (hn : t.1 43 33 = b) (N : Nat) (hN : 2 ≤ N) (x : Int32) (L : List Int32) (hL : L.length + 3 ≤ 24) : zyG252 N (2 : Int32) x (zaN 43 31 59 L t) = some ((-((x + b) * (2 : Int32))), zaN 43 31 59 (L ++ [(30 : Int32), (10 : Int32), (1 : Int32)]) t) := by
  obtain ⟨n, rfl⟩ : ∃ n, N = n + 1 := ⟨N - 1, by omega⟩
  rw [zyS252]
  unfold zyF252_0
  rw [if_neg (by decide), if_pos (by decide), if_neg (by decide)]
  rw [zaN_251 _ (by omega), zq_bind]
  dsimp only
  rw [zma_2_0_1 hk hn n (by omega) x _ (by simp only [List.length_append, List.length_cons, List.length_nil]; omega), zq_bind]
  dsimp only
  simp only [List.append_assoc, List.cons_append, List.nil_append]
theorem zma_2_2_2 (hk : t.1 43 32 = (2 : Int32)) (hn : t.1 43 33 = b) (N : Nat) (hN : 1 ≤ N) (x : Int32) (L : List Int32) (hL : L.length + 1 ≤ 24) : zyG253 N (2 : Int32) x (zaN 43 31 59 L t) = some ((x ^^^ b), zaN 43 31 59 (L ++ [(11 : Int32)]) t) := by
  obtain ⟨n, rfl⟩ : ∃ n, N = n + 1 := ⟨N - 1, by omega⟩
  rw [zyS253]
  unfold zyF253_0
  rw [if_neg (by decide), if_pos (by decide), if_neg (by decide), if_pos (by decide)]
  rw [zaN_251 _ (by omega), zq_bind]
  dsimp only
  rw [zaN_33, hn]
theorem zma_2_2_3 (hk : t.1 43 32 = (2 : Int32)) (hn : t.1 43 33 = b) (N : Nat) (hN : 1 ≤ N) (x : Int32) (L : List Int32) (hL : L.length + 5 ≤ 24) : zyG254 N (2 : Int32) x (zaN 43 31 59 L t) = some (((-((x + b) * (2 : Int32))) - ((1 : Int32) ^^^ b)), zaN 43 31 59 (L ++ [(2 : Int32), (30 : Int32), (10 : Int32), (1 : Int32), (11 : Int32)]) t) := by
  obtain ⟨n, rfl⟩ : ∃ n, N = n + 1 := ⟨N - 1, by omega⟩
  rw [zyS254]
  unfold zyF254_0
  rw [if_pos (by decide), if_pos (by decide)]
  rw [zaN_251 _ (by omega), zq_bind]
  dsimp only
  rw [zaN_32, hk, show zyF252 = zyG252 100 from rfl, zma_2_2_1 hk hn 100 (by omega) x _ (by simp only [List.length_append, List.length_cons, List.length_nil]; omega), zq_bind]
  dsimp only
  rw [zaN_32, hk, show zyF253 = zyG253 100 from rfl, zma_2_2_2 hk hn 100 (by omega) (1 : Int32) _ (by simp only [List.length_append, List.length_cons, List.length_nil]; omega), zq_bind]
  dsimp only
  simp only [List.append_assoc, List.cons_append, List.nil_append]
theorem zma_3_3_0 (hk : t.1 43 32 = (3 : Int32)) (hn : t.1 43 33 = b) (N : Nat) (hN : 1 ≤ N) (x : Int32) (L : List Int32) (hL : L.length + 1 ≤ 24) : zyG250 N (3 : Int32) x (zaN 43 31 59 L t) = some ((x + b), zaN 43 31 59 (L ++ [(1 : Int32)]) t) := by
  obtain ⟨n, rfl⟩ : ∃ n, N = n + 1 := ⟨N - 1, by omega⟩
  rw [zyS250]
  unfold zyF250_0
  rw [if_neg (by decide), if_neg (by decide), if_pos (by decide), if_pos (by decide)]
  rw [zaN_251 _ (by omega), zq_bind]
  dsimp only
  rw [zaN_33, hn]
theorem zma_3_0_1 (hk : t.1 43 32 = (3 : Int32)) (hn : t.1 43 33 = b) (N : Nat) (hN : 1 ≤ N) (x : Int32) (L : List Int32) (hL : L.length + 2 ≤ 24) : zyG252 N (0 : Int32) x (zaN 43 31 59 L t) = some (((x + b) * (2 : Int32)), zaN 43 31 59 (L ++ [(10 : Int32), (1 : Int32)]) t) := by
  obtain ⟨n, rfl⟩ : ∃ n, N = n + 1 := ⟨N - 1, by omega⟩
  rw [zyS252]
  unfold zyF252_0
  rw [if_neg (by decide), if_pos (by decide), if_pos (by decide), if_pos (by decide)]
  rw [zaN_251 _ (by omega), zq_bind]
  dsimp only
  rw [zaN_32, hk, show zyF250 = zyG250 100 from rfl, zma_3_3_0 hk hn 100 (by omega) x _ (by simp only [List.length_append, List.length_cons, List.length_nil]; omega), zq_bind]
  dsimp only
  simp only [List.append_assoc, List.cons_append, List.nil_append]
theorem zma_3_2_1 (hk : t.1 43 32 = (3 : Int32)) (hn : t.1 43 33 = b) (N : Nat) (hN : 2 ≤ N) (x : Int32) (L : List Int32) (hL : L.length + 3 ≤ 24) : zyG252 N (2 : Int32) x (zaN 43 31 59 L t) = some ((-((x + b) * (2 : Int32))), zaN 43 31 59 (L ++ [(30 : Int32), (10 : Int32), (1 : Int32)]) t) := by
  obtain ⟨n, rfl⟩ : ∃ n, N = n + 1 := ⟨N - 1, by omega⟩
  rw [zyS252]
  unfold zyF252_0
  rw [if_neg (by decide), if_pos (by decide), if_neg (by decide)]
  rw [zaN_251 _ (by omega), zq_bind]
  dsimp only
  rw [zma_3_0_1 hk hn n (by omega) x _ (by simp only [List.length_append, List.length_cons, List.length_nil]; omega), zq_bind]
  dsimp only
  simp only [List.append_assoc, List.cons_append, List.nil_append]
theorem zma_3_3_1 (hk : t.1 43 32 = (3 : Int32)) (hn : t.1 43 33 = b) (N : Nat) (hN : 3 ≤ N) (x : Int32) (L : List Int32) (hL : L.length + 4 ≤ 24) : zyG252 N (3 : Int32) x (zaN 43 31 59 L t) = some ((-(((x + (1 : Int32)) + b) * (2 : Int32))), zaN 43 31 59 (L ++ [(41 : Int32), (30 : Int32), (10 : Int32), (1 : Int32)]) t) := by
  obtain ⟨n, rfl⟩ : ∃ n, N = n + 1 := ⟨N - 1, by omega⟩
  rw [zyS252]
  unfold zyF252_0
  rw [if_pos (by decide)]
  unfold zyF252_10
  rw [zaN_251 _ (by omega), zq_bind]
  dsimp only
  rw [zma_3_2_1 hk hn n (by omega) (x + (1 : Int32)) _ (by simp only [List.length_append, List.length_cons, List.length_nil]; omega), zq_bind]
  dsimp only
  simp only [List.append_assoc, List.cons_append, List.nil_append]
theorem zma_3_2_2 (hk : t.1 43 32 = (3 : Int32)) (hn : t.1 43 33 = b) (N : Nat) (hN : 1 ≤ N) (x : Int32) (L : List Int32) (hL : L.length + 1 ≤ 24) : zyG253 N (2 : Int32) x (zaN 43 31 59 L t) = some ((x ^^^ b), zaN 43 31 59 (L ++ [(11 : Int32)]) t) := by
  obtain ⟨n, rfl⟩ : ∃ n, N = n + 1 := ⟨N - 1, by omega⟩
  rw [zyS253]
  unfold zyF253_0
  rw [if_neg (by decide), if_pos (by decide), if_neg (by decide), if_pos (by decide)]
  rw [zaN_251 _ (by omega), zq_bind]
  dsimp only
  rw [zaN_33, hn]
theorem zma_3_3_2 (hk : t.1 43 32 = (3 : Int32)) (hn : t.1 43 33 = b) (N : Nat) (hN : 2 ≤ N) (x : Int32) (L : List Int32) (hL : L.length + 2 ≤ 24) : zyG253 N (3 : Int32) x (zaN 43 31 59 L t) = some (((x ^^^ b) * (3 : Int32)), zaN 43 31 59 (L ++ [(40 : Int32), (11 : Int32)]) t) := by
  obtain ⟨n, rfl⟩ : ∃ n, N = n + 1 := ⟨N - 1, by omega⟩
  rw [zyS253]
  unfold zyF253_0
  rw [if_pos (by decide)]
  unfold zyF253_10
  rw [zaN_251 _ (by omega), zq_bind]
  dsimp only
  rw [zma_3_2_2 hk hn n (by omega) x _ (by simp only [List.length_append, List.length_cons, List.length_nil]; omega), zq_bind]
  dsimp only
  simp only [List.append_assoc, List.cons_append, List.nil_append]
theorem zma_3_3_3 (hk : t.1 43 32 = (3 : Int32)) (hn : t.1 43 33 = b) (N : Nat) (hN : 1 ≤ N) (x : Int32) (L : List Int32) (hL : L.length + 7 ≤ 24) : zyG254 N (3 : Int32) x (zaN 43 31 59 L t) = some (((-(((x + (1 : Int32)) + b) * (2 : Int32))) - (((1 : Int32) ^^^ b) * (3 : Int32))), zaN 43 31 59 (L ++ [(2 : Int32), (41 : Int32), (30 : Int32), (10 : Int32), (1 : Int32), (40 : Int32), (11 : Int32)]) t) := by
  obtain ⟨n, rfl⟩ : ∃ n, N = n + 1 := ⟨N - 1, by omega⟩
  rw [zyS254]
  unfold zyF254_0
  rw [if_pos (by decide), if_pos (by decide)]
  rw [zaN_251 _ (by omega), zq_bind]
  dsimp only
  rw [zaN_32, hk, show zyF252 = zyG252 100 from rfl, zma_3_3_1 hk hn 100 (by omega) x _ (by simp only [List.length_append, List.length_cons, List.length_nil]; omega), zq_bind]
  dsimp only
  rw [zaN_32, hk, show zyF253 = zyG253 100 from rfl, zma_3_3_2 hk hn 100 (by omega) (1 : Int32) _ (by simp only [List.length_append, List.length_cons, List.length_nil]; omega), zq_bind]
  dsimp only
  simp only [List.append_assoc, List.cons_append, List.nil_append]
theorem zma_4_0_0 (hk : t.1 43 32 = (4 : Int32)) (hn : t.1 43 33 = b) (N : Nat) (hN : 1 ≤ N) (x : Int32) (L : List Int32) (hL : L.length + 1 ≤ 24) : zyG250 N (0 : Int32) x (zaN 43 31 59 L t) = some ((x + b), zaN 43 31 59 (L ++ [(1 : Int32)]) t) := by
  obtain ⟨n, rfl⟩ : ∃ n, N = n + 1 := ⟨N - 1, by omega⟩
  rw [zyS250]
  unfold zyF250_0
  rw [if_neg (by decide), if_neg (by decide), if_pos (by decide), if_pos (by decide)]
  rw [zaN_251 _ (by omega), zq_bind]
  dsimp only
  rw [zaN_33, hn]
theorem zma_4_4_0 (hk : t.1 43 32 = (4 : Int32)) (hn : t.1 43 33 = b) (N : Nat) (hN : 2 ≤ N) (x : Int32) (L : List Int32) (hL : L.length + 2 ≤ 24) : zyG250 N (4 : Int32) x (zaN 43 31 59 L t) = some (((x + b) + (3 : Int32)), zaN 43 31 59 (L ++ [(20 : Int32), (1 : Int32)]) t) := by
  obtain ⟨n, rfl⟩ : ∃ n, N = n + 1 := ⟨N - 1, by omega⟩
  rw [zyS250]
  unfold zyF250_0
  rw [if_neg (by decide), if_pos (by decide)]
  unfold zyF250_16
  rw [zaN_251 _ (by omega), zq_bind]
  dsimp only
  rw [zma_4_0_0 hk hn n (by omega) x _ (by simp only [List.length_append, List.length_cons, List.length_nil]; omega), zq_bind]
  dsimp only
  simp only [List.append_assoc, List.cons_append, List.nil_append]
theorem zma_4_4_1 (hk : t.1 43 32 = (4 : Int32)) (hn : t.1 43 33 = b) (N : Nat) (hN : 1 ≤ N) (x : Int32) (L : List Int32) (hL : L.length + 3 ≤ 24) : zyG252 N (4 : Int32) x (zaN 43 31 59 L t) = some ((((x + b) + (3 : Int32)) * (2 : Int32)), zaN 43 31 59 (L ++ [(10 : Int32), (20 : Int32), (1 : Int32)]) t) := by
  obtain ⟨n, rfl⟩ : ∃ n, N = n + 1 := ⟨N - 1, by omega⟩
  rw [zyS252]
  unfold zyF252_0
  rw [if_neg (by decide), if_pos (by decide), if_pos (by decide), if_pos (by decide)]
  rw [zaN_251 _ (by omega), zq_bind]
  dsimp only
  rw [zaN_32, hk, show zyF250 = zyG250 100 from rfl, zma_4_4_0 hk hn 100 (by omega) x _ (by simp only [List.length_append, List.length_cons, List.length_nil]; omega), zq_bind]
  dsimp only
  simp only [List.append_assoc, List.cons_append, List.nil_append]
theorem zma_4_1_2 (hk : t.1 43 32 = (4 : Int32)) (hn : t.1 43 33 = b) (N : Nat) (hN : 1 ≤ N) (x : Int32) (L : List Int32) (hL : L.length + 1 ≤ 24) : zyG253 N (1 : Int32) x (zaN 43 31 59 L t) = some ((x ^^^ b), zaN 43 31 59 (L ++ [(11 : Int32)]) t) := by
  obtain ⟨n, rfl⟩ : ∃ n, N = n + 1 := ⟨N - 1, by omega⟩
  rw [zyS253]
  unfold zyF253_0
  rw [if_neg (by decide), if_pos (by decide), if_neg (by decide), if_pos (by decide)]
  rw [zaN_251 _ (by omega), zq_bind]
  dsimp only
  rw [zaN_33, hn]
theorem zma_4_4_2 (hk : t.1 43 32 = (4 : Int32)) (hn : t.1 43 33 = b) (N : Nat) (hN : 2 ≤ N) (x : Int32) (L : List Int32) (hL : L.length + 4 ≤ 24) : zyG253 N (4 : Int32) x (zaN 43 31 59 L t) = some (((x ^^^ b) - (((2 : Int32) + b) + (3 : Int32))), zaN 43 31 59 (L ++ [(50 : Int32), (11 : Int32), (20 : Int32), (1 : Int32)]) t) := by
  obtain ⟨n, rfl⟩ : ∃ n, N = n + 1 := ⟨N - 1, by omega⟩
  rw [zyS253]
  unfold zyF253_0
  rw [if_neg (by decide), if_pos (by decide), if_pos (by decide)]
  unfold zyF253_36
  rw [zaN_251 _ (by omega), zq_bind]
  dsimp only
  rw [zma_4_1_2 hk hn n (by omega) x _ (by simp only [List.length_append, List.length_cons, List.length_nil]; omega), zq_bind]
  dsimp only
  rw [zaN_32, hk, show zyF250 = zyG250 100 from rfl, zma_4_4_0 hk hn 100 (by omega) (2 : Int32) _ (by simp only [List.length_append, List.length_cons, List.length_nil]; omega), zq_bind]
  dsimp only
  simp only [List.append_assoc, List.cons_append, List.nil_append]
theorem zma_4_4_3 (hk : t.1 43 32 = (4 : Int32)) (hn : t.1 43 33 = b) (N : Nat) (hN : 1 ≤ N) (x : Int32) (L : List Int32) (hL : L.length + 8 ≤ 24) : zyG254 N (4 : Int32) x (zaN 43 31 59 L t) = some (((((x + b) + (3 : Int32)) * (2 : Int32)) - (((1 : Int32) ^^^ b) - (((2 : Int32) + b) + (3 : Int32)))), zaN 43 31 59 (L ++ [(2 : Int32), (10 : Int32), (20 : Int32), (1 : Int32), (50 : Int32), (11 : Int32), (20 : Int32), (1 : Int32)]) t) := by
  obtain ⟨n, rfl⟩ : ∃ n, N = n + 1 := ⟨N - 1, by omega⟩
  rw [zyS254]
  unfold zyF254_0
  rw [if_pos (by decide), if_pos (by decide)]
  rw [zaN_251 _ (by omega), zq_bind]
  dsimp only
  rw [zaN_32, hk, show zyF252 = zyG252 100 from rfl, zma_4_4_1 hk hn 100 (by omega) x _ (by simp only [List.length_append, List.length_cons, List.length_nil]; omega), zq_bind]
  dsimp only
  rw [zaN_32, hk, show zyF253 = zyG253 100 from rfl, zma_4_4_2 hk hn 100 (by omega) (1 : Int32) _ (by simp only [List.length_append, List.length_cons, List.length_nil]; omega), zq_bind]
  dsimp only
  simp only [List.append_assoc, List.cons_append, List.nil_append]
theorem zma_5_5_0 (hk : t.1 43 32 = (5 : Int32)) (hn : t.1 43 33 = b) (N : Nat) (hN : 1 ≤ N) (x : Int32) (L : List Int32) (hL : L.length + 1 ≤ 24) : zyG250 N (5 : Int32) x (zaN 43 31 59 L t) = some ((x + b), zaN 43 31 59 (L ++ [(1 : Int32)]) t) := by
  obtain ⟨n, rfl⟩ : ∃ n, N = n + 1 := ⟨N - 1, by omega⟩
  rw [zyS250]
  unfold zyF250_0
  rw [if_neg (by decide), if_neg (by decide), if_pos (by decide), if_pos (by decide)]
  rw [zaN_251 _ (by omega), zq_bind]
  dsimp only
  rw [zaN_33, hn]
theorem zma_5_0_1 (hk : t.1 43 32 = (5 : Int32)) (hn : t.1 43 33 = b) (N : Nat) (hN : 1 ≤ N) (x : Int32) (L : List Int32) (hL : L.length + 2 ≤ 24) : zyG252 N (0 : Int32) x (zaN 43 31 59 L t) = some (((x + b) * (2 : Int32)), zaN 43 31 59 (L ++ [(10 : Int32), (1 : Int32)]) t) := by
  obtain ⟨n, rfl⟩ : ∃ n, N = n + 1 := ⟨N - 1, by omega⟩
  rw [zyS252]
  unfold zyF252_0
  rw [if_neg (by decide), if_pos (by decide), if_pos (by decide), if_pos (by decide)]
  rw [zaN_251 _ (by omega), zq_bind]
  dsimp only
  rw [zaN_32, hk, show zyF250 = zyG250 100 from rfl, zma_5_5_0 hk hn 100 (by omega) x _ (by simp only [List.length_append, List.length_cons, List.length_nil]; omega), zq_bind]
  dsimp only
  simp only [List.append_assoc, List.cons_append, List.nil_append]
theorem zma_5_2_1 (hk : t.1 43 32 = (5 : Int32)) (hn : t.1 43 33 = b) (N : Nat) (hN : 2 ≤ N) (x : Int32) (L : List Int32) (hL : L.length + 3 ≤ 24) : zyG252 N (2 : Int32) x (zaN 43 31 59 L t) = some ((-((x + b) * (2 : Int32))), zaN 43 31 59 (L ++ [(30 : Int32), (10 : Int32), (1 : Int32)]) t) := by
  obtain ⟨n, rfl⟩ : ∃ n, N = n + 1 := ⟨N - 1, by omega⟩
  rw [zyS252]
  unfold zyF252_0
  rw [if_neg (by decide), if_pos (by decide), if_neg (by decide)]
  rw [zaN_251 _ (by omega), zq_bind]
  dsimp only
  rw [zma_5_0_1 hk hn n (by omega) x _ (by simp only [List.length_append, List.length_cons, List.length_nil]; omega), zq_bind]
  dsimp only
  simp only [List.append_assoc, List.cons_append, List.nil_append]
theorem zma_5_5_1 (hk : t.1 43 32 = (5 : Int32)) (hn : t.1 43 33 = b) (N : Nat) (hN : 3 ≤ N) (x : Int32) (L : List Int32) (hL : L.length + 4 ≤ 24) : zyG252 N (5 : Int32) x (zaN 43 31 59 L t) = some ((-(((x + (1 : Int32)) + b) * (2 : Int32))), zaN 43 31 59 (L ++ [(41 : Int32), (30 : Int32), (10 : Int32), (1 : Int32)]) t) := by
  obtain ⟨n, rfl⟩ : ∃ n, N = n + 1 := ⟨N - 1, by omega⟩
  rw [zyS252]
  unfold zyF252_0
  rw [if_neg (by decide), if_neg (by decide)]
  unfold zyF252_10
  rw [zaN_251 _ (by omega), zq_bind]
  dsimp only
  rw [zma_5_2_1 hk hn n (by omega) (x + (1 : Int32)) _ (by simp only [List.length_append, List.length_cons, List.length_nil]; omega), zq_bind]
  dsimp only
  simp only [List.append_assoc, List.cons_append, List.nil_append]
theorem zma_5_2_2 (hk : t.1 43 32 = (5 : Int32)) (hn : t.1 43 33 = b) (N : Nat) (hN : 1 ≤ N) (x : Int32) (L : List Int32) (hL : L.length + 1 ≤ 24) : zyG253 N (2 : Int32) x (zaN 43 31 59 L t) = some ((x ^^^ b), zaN 43 31 59 (L ++ [(11 : Int32)]) t) := by
  obtain ⟨n, rfl⟩ : ∃ n, N = n + 1 := ⟨N - 1, by omega⟩
  rw [zyS253]
  unfold zyF253_0
  rw [if_neg (by decide), if_pos (by decide), if_neg (by decide), if_pos (by decide)]
  rw [zaN_251 _ (by omega), zq_bind]
  dsimp only
  rw [zaN_33, hn]
theorem zma_5_5_2 (hk : t.1 43 32 = (5 : Int32)) (hn : t.1 43 33 = b) (N : Nat) (hN : 2 ≤ N) (x : Int32) (L : List Int32) (hL : L.length + 2 ≤ 24) : zyG253 N (5 : Int32) x (zaN 43 31 59 L t) = some (((x ^^^ b) * (3 : Int32)), zaN 43 31 59 (L ++ [(40 : Int32), (11 : Int32)]) t) := by
  obtain ⟨n, rfl⟩ : ∃ n, N = n + 1 := ⟨N - 1, by omega⟩
  rw [zyS253]
  unfold zyF253_0
  rw [if_neg (by decide), if_neg (by decide)]
  unfold zyF253_10
  rw [zaN_251 _ (by omega), zq_bind]
  dsimp only
  rw [zma_5_2_2 hk hn n (by omega) x _ (by simp only [List.length_append, List.length_cons, List.length_nil]; omega), zq_bind]
  dsimp only
  simp only [List.append_assoc, List.cons_append, List.nil_append]
theorem zma_5_3_3 (hk : t.1 43 32 = (5 : Int32)) (hn : t.1 43 33 = b) (N : Nat) (hN : 1 ≤ N) (x : Int32) (L : List Int32) (hL : L.length + 7 ≤ 24) : zyG254 N (3 : Int32) x (zaN 43 31 59 L t) = some (((-(((x + (1 : Int32)) + b) * (2 : Int32))) - (((1 : Int32) ^^^ b) * (3 : Int32))), zaN 43 31 59 (L ++ [(2 : Int32), (41 : Int32), (30 : Int32), (10 : Int32), (1 : Int32), (40 : Int32), (11 : Int32)]) t) := by
  obtain ⟨n, rfl⟩ : ∃ n, N = n + 1 := ⟨N - 1, by omega⟩
  rw [zyS254]
  unfold zyF254_0
  rw [if_pos (by decide), if_pos (by decide)]
  rw [zaN_251 _ (by omega), zq_bind]
  dsimp only
  rw [zaN_32, hk, show zyF252 = zyG252 100 from rfl, zma_5_5_1 hk hn 100 (by omega) x _ (by simp only [List.length_append, List.length_cons, List.length_nil]; omega), zq_bind]
  dsimp only
  rw [zaN_32, hk, show zyF253 = zyG253 100 from rfl, zma_5_5_2 hk hn 100 (by omega) (1 : Int32) _ (by simp only [List.length_append, List.length_cons, List.length_nil]; omega), zq_bind]
  dsimp only
  simp only [List.append_assoc, List.cons_append, List.nil_append]
theorem zma_5_5_3 (hk : t.1 43 32 = (5 : Int32)) (hn : t.1 43 33 = b) (N : Nat) (hN : 2 ≤ N) (x : Int32) (L : List Int32) (hL : L.length + 8 ≤ 24) : zyG254 N (5 : Int32) x (zaN 43 31 59 L t) = some ((((-(((x + (1 : Int32)) + b) * (2 : Int32))) - (((1 : Int32) ^^^ b) * (3 : Int32))) ^^^ (5 : Int32)), zaN 43 31 59 (L ++ [(60 : Int32), (2 : Int32), (41 : Int32), (30 : Int32), (10 : Int32), (1 : Int32), (40 : Int32), (11 : Int32)]) t) := by
  obtain ⟨n, rfl⟩ : ∃ n, N = n + 1 := ⟨N - 1, by omega⟩
  rw [zyS254]
  unfold zyF254_0
  rw [if_neg (by decide)]
  rw [zaN_251 _ (by omega), zq_bind]
  dsimp only
  rw [zma_5_3_3 hk hn n (by omega) x _ (by simp only [List.length_append, List.length_cons, List.length_nil]; omega), zq_bind]
  dsimp only
  simp only [List.append_assoc, List.cons_append, List.nil_append]
theorem zma_6_0_0 (hk : t.1 43 32 = (6 : Int32)) (hn : t.1 43 33 = b) (N : Nat) (hN : 1 ≤ N) (x : Int32) (L : List Int32) (hL : L.length + 1 ≤ 24) : zyG250 N (0 : Int32) x (zaN 43 31 59 L t) = some ((x + b), zaN 43 31 59 (L ++ [(1 : Int32)]) t) := by
  obtain ⟨n, rfl⟩ : ∃ n, N = n + 1 := ⟨N - 1, by omega⟩
  rw [zyS250]
  unfold zyF250_0
  rw [if_neg (by decide), if_neg (by decide), if_pos (by decide), if_pos (by decide)]
  rw [zaN_251 _ (by omega), zq_bind]
  dsimp only
  rw [zaN_33, hn]
theorem zma_6_6_0 (hk : t.1 43 32 = (6 : Int32)) (hn : t.1 43 33 = b) (N : Nat) (hN : 2 ≤ N) (x : Int32) (L : List Int32) (hL : L.length + 2 ≤ 24) : zyG250 N (6 : Int32) x (zaN 43 31 59 L t) = some (((x + b) * (2 : Int32)), zaN 43 31 59 (L ++ [(70 : Int32), (1 : Int32)]) t) := by
  obtain ⟨n, rfl⟩ : ∃ n, N = n + 1 := ⟨N - 1, by omega⟩
  rw [zyS250]
  unfold zyF250_0
  rw [if_neg (by decide), if_neg (by decide), if_pos (by decide), if_neg (by decide)]
  rw [zaN_251 _ (by omega), zq_bind]
  dsimp only
  rw [zma_6_0_0 hk hn n (by omega) x _ (by simp only [List.length_append, List.length_cons, List.length_nil]; omega), zq_bind]
  dsimp only
  simp only [List.append_assoc, List.cons_append, List.nil_append]
theorem zma_6_6_1 (hk : t.1 43 32 = (6 : Int32)) (hn : t.1 43 33 = b) (N : Nat) (hN : 1 ≤ N) (x : Int32) (L : List Int32) (hL : L.length + 3 ≤ 24) : zyG252 N (6 : Int32) x (zaN 43 31 59 L t) = some ((((x + b) * (2 : Int32)) * (2 : Int32)), zaN 43 31 59 (L ++ [(10 : Int32), (70 : Int32), (1 : Int32)]) t) := by
  obtain ⟨n, rfl⟩ : ∃ n, N = n + 1 := ⟨N - 1, by omega⟩
  rw [zyS252]
  unfold zyF252_0
  rw [if_neg (by decide), if_pos (by decide), if_pos (by decide), if_pos (by decide)]
  rw [zaN_251 _ (by omega), zq_bind]
  dsimp only
  rw [zaN_32, hk, show zyF250 = zyG250 100 from rfl, zma_6_6_0 hk hn 100 (by omega) x _ (by simp only [List.length_append, List.length_cons, List.length_nil]; omega), zq_bind]
  dsimp only
  simp only [List.append_assoc, List.cons_append, List.nil_append]
theorem zma_6_6_2 (hk : t.1 43 32 = (6 : Int32)) (hn : t.1 43 33 = b) (N : Nat) (hN : 1 ≤ N) (x : Int32) (L : List Int32) (hL : L.length + 1 ≤ 24) : zyG253 N (6 : Int32) x (zaN 43 31 59 L t) = some ((x ^^^ b), zaN 43 31 59 (L ++ [(11 : Int32)]) t) := by
  obtain ⟨n, rfl⟩ : ∃ n, N = n + 1 := ⟨N - 1, by omega⟩
  rw [zyS253]
  unfold zyF253_0
  rw [if_neg (by decide), if_pos (by decide), if_neg (by decide), if_pos (by decide)]
  rw [zaN_251 _ (by omega), zq_bind]
  dsimp only
  rw [zaN_33, hn]
theorem zma_6_6_3 (hk : t.1 43 32 = (6 : Int32)) (hn : t.1 43 33 = b) (N : Nat) (hN : 1 ≤ N) (x : Int32) (L : List Int32) (hL : L.length + 5 ≤ 24) : zyG254 N (6 : Int32) x (zaN 43 31 59 L t) = some (((((x + b) * (2 : Int32)) * (2 : Int32)) - ((1 : Int32) ^^^ b)), zaN 43 31 59 (L ++ [(2 : Int32), (10 : Int32), (70 : Int32), (1 : Int32), (11 : Int32)]) t) := by
  obtain ⟨n, rfl⟩ : ∃ n, N = n + 1 := ⟨N - 1, by omega⟩
  rw [zyS254]
  unfold zyF254_0
  rw [if_pos (by decide), if_pos (by decide)]
  rw [zaN_251 _ (by omega), zq_bind]
  dsimp only
  rw [zaN_32, hk, show zyF252 = zyG252 100 from rfl, zma_6_6_1 hk hn 100 (by omega) x _ (by simp only [List.length_append, List.length_cons, List.length_nil]; omega), zq_bind]
  dsimp only
  rw [zaN_32, hk, show zyF253 = zyG253 100 from rfl, zma_6_6_2 hk hn 100 (by omega) (1 : Int32) _ (by simp only [List.length_append, List.length_cons, List.length_nil]; omega), zq_bind]
  dsimp only
  simp only [List.append_assoc, List.cons_append, List.nil_append]
theorem zma_7_0_0 (hk : t.1 43 32 = (7 : Int32)) (hn : t.1 43 33 = b) (N : Nat) (hN : 1 ≤ N) (x : Int32) (L : List Int32) (hL : L.length + 1 ≤ 24) : zyG250 N (0 : Int32) x (zaN 43 31 59 L t) = some ((x + b), zaN 43 31 59 (L ++ [(1 : Int32)]) t) := by
  obtain ⟨n, rfl⟩ : ∃ n, N = n + 1 := ⟨N - 1, by omega⟩
  rw [zyS250]
  unfold zyF250_0
  rw [if_neg (by decide), if_neg (by decide), if_pos (by decide), if_pos (by decide)]
  rw [zaN_251 _ (by omega), zq_bind]
  dsimp only
  rw [zaN_33, hn]
theorem zma_7_7_0 (hk : t.1 43 32 = (7 : Int32)) (hn : t.1 43 33 = b) (N : Nat) (hN : 2 ≤ N) (x : Int32) (L : List Int32) (hL : L.length + 2 ≤ 24) : zyG250 N (7 : Int32) x (zaN 43 31 59 L t) = some (((x + b) + (3 : Int32)), zaN 43 31 59 (L ++ [(20 : Int32), (1 : Int32)]) t) := by
  obtain ⟨n, rfl⟩ : ∃ n, N = n + 1 := ⟨N - 1, by omega⟩
  rw [zyS250]
  unfold zyF250_0
  rw [if_neg (by decide), if_neg (by decide), if_neg (by decide)]
  unfold zyF250_16
  rw [zaN_251 _ (by omega), zq_bind]
  dsimp only
  rw [zma_7_0_0 hk hn n (by omega) x _ (by simp only [List.length_append, List.length_cons, List.length_nil]; omega), zq_bind]
  dsimp only
  simp only [List.append_assoc, List.cons_append, List.nil_append]
theorem zma_7_4_1 (hk : t.1 43 32 = (7 : Int32)) (hn : t.1 43 33 = b) (N : Nat) (hN : 1 ≤ N) (x : Int32) (L : List Int32) (hL : L.length + 3 ≤ 24) : zyG252 N (4 : Int32) x (zaN 43 31 59 L t) = some ((((x + b) + (3 : Int32)) * (2 : Int32)), zaN 43 31 59 (L ++ [(10 : Int32), (20 : Int32), (1 : Int32)]) t) := by
  obtain ⟨n, rfl⟩ : ∃ n, N = n + 1 := ⟨N - 1, by omega⟩
  rw [zyS252]
  unfold zyF252_0
  rw [if_neg (by decide), if_pos (by decide), if_pos (by decide), if_pos (by decide)]
  rw [zaN_251 _ (by omega), zq_bind]
  dsimp only
  rw [zaN_32, hk, show zyF250 = zyG250 100 from rfl, zma_7_7_0 hk hn 100 (by omega) x _ (by simp only [List.length_append, List.length_cons, List.length_nil]; omega), zq_bind]
  dsimp only
  simp only [List.append_assoc, List.cons_append, List.nil_append]
theorem zma_7_1_2 (hk : t.1 43 32 = (7 : Int32)) (hn : t.1 43 33 = b) (N : Nat) (hN : 1 ≤ N) (x : Int32) (L : List Int32) (hL : L.length + 1 ≤ 24) : zyG253 N (1 : Int32) x (zaN 43 31 59 L t) = some ((x ^^^ b), zaN 43 31 59 (L ++ [(11 : Int32)]) t) := by
  obtain ⟨n, rfl⟩ : ∃ n, N = n + 1 := ⟨N - 1, by omega⟩
  rw [zyS253]
  unfold zyF253_0
  rw [if_neg (by decide), if_pos (by decide), if_neg (by decide), if_pos (by decide)]
  rw [zaN_251 _ (by omega), zq_bind]
  dsimp only
  rw [zaN_33, hn]
theorem zma_7_7_2 (hk : t.1 43 32 = (7 : Int32)) (hn : t.1 43 33 = b) (N : Nat) (hN : 2 ≤ N) (x : Int32) (L : List Int32) (hL : L.length + 4 ≤ 24) : zyG253 N (7 : Int32) x (zaN 43 31 59 L t) = some (((x ^^^ b) - (((2 : Int32) + b) + (3 : Int32))), zaN 43 31 59 (L ++ [(50 : Int32), (11 : Int32), (20 : Int32), (1 : Int32)]) t) := by
  obtain ⟨n, rfl⟩ : ∃ n, N = n + 1 := ⟨N - 1, by omega⟩
  rw [zyS253]
  unfold zyF253_0
  rw [if_neg (by decide), if_pos (by decide), if_neg (by decide), if_neg (by decide)]
  unfold zyF253_36
  rw [zaN_251 _ (by omega), zq_bind]
  dsimp only
  rw [zma_7_1_2 hk hn n (by omega) x _ (by simp only [List.length_append, List.length_cons, List.length_nil]; omega), zq_bind]
  dsimp only
  rw [zaN_32, hk, show zyF250 = zyG250 100 from rfl, zma_7_7_0 hk hn 100 (by omega) (2 : Int32) _ (by simp only [List.length_append, List.length_cons, List.length_nil]; omega), zq_bind]
  dsimp only
  simp only [List.append_assoc, List.cons_append, List.nil_append]
theorem zma_7_7_1 (hk : t.1 43 32 = (7 : Int32)) (hn : t.1 43 33 = b) (N : Nat) (hN : 2 ≤ N) (x : Int32) (L : List Int32) (hL : L.length + 8 ≤ 24) : zyG252 N (7 : Int32) x (zaN 43 31 59 L t) = some (((((x + b) + (3 : Int32)) * (2 : Int32)) + (((2 : Int32) ^^^ b) - (((2 : Int32) + b) + (3 : Int32)))), zaN 43 31 59 (L ++ [(80 : Int32), (10 : Int32), (20 : Int32), (1 : Int32), (50 : Int32), (11 : Int32), (20 : Int32), (1 : Int32)]) t) := by
  obtain ⟨n, rfl⟩ : ∃ n, N = n + 1 := ⟨N - 1, by omega⟩
  rw [zyS252]
  unfold zyF252_0
  rw [if_neg (by decide), if_pos (by decide), if_pos (by decide), if_neg (by decide)]
  rw [zaN_251 _ (by omega), zq_bind]
  dsimp only
  rw [zma_7_4_1 hk hn n (by omega) x _ (by simp only [List.length_append, List.length_cons, List.length_nil]; omega), zq_bind]
  dsimp only
  rw [zaN_32, hk, show zyF253 = zyG253 100 from rfl, zma_7_7_2 hk hn 100 (by omega) (2 : Int32) _ (by simp only [List.length_append, List.length_cons, List.length_nil]; omega), zq_bind]
  dsimp only
  simp only [List.append_assoc, List.cons_append, List.nil_append]
theorem zma_7_4_3 (hk : t.1 43 32 = (7 : Int32)) (hn : t.1 43 33 = b) (N : Nat) (hN : 1 ≤ N) (x : Int32) (L : List Int32) (hL : L.length + 13 ≤ 24) : zyG254 N (4 : Int32) x (zaN 43 31 59 L t) = some ((((((x + b) + (3 : Int32)) * (2 : Int32)) + (((2 : Int32) ^^^ b) - (((2 : Int32) + b) + (3 : Int32)))) - (((1 : Int32) ^^^ b) - (((2 : Int32) + b) + (3 : Int32)))), zaN 43 31 59 (L ++ [(2 : Int32), (80 : Int32), (10 : Int32), (20 : Int32), (1 : Int32), (50 : Int32), (11 : Int32), (20 : Int32), (1 : Int32), (50 : Int32), (11 : Int32), (20 : Int32), (1 : Int32)]) t) := by
  obtain ⟨n, rfl⟩ : ∃ n, N = n + 1 := ⟨N - 1, by omega⟩
  rw [zyS254]
  unfold zyF254_0
  rw [if_pos (by decide), if_pos (by decide)]
  rw [zaN_251 _ (by omega), zq_bind]
  dsimp only
  rw [zaN_32, hk, show zyF252 = zyG252 100 from rfl, zma_7_7_1 hk hn 100 (by omega) x _ (by simp only [List.length_append, List.length_cons, List.length_nil]; omega), zq_bind]
  dsimp only
  rw [zaN_32, hk, show zyF253 = zyG253 100 from rfl, zma_7_7_2 hk hn 100 (by omega) (1 : Int32) _ (by simp only [List.length_append, List.length_cons, List.length_nil]; omega), zq_bind]
  dsimp only
  simp only [List.append_assoc, List.cons_append, List.nil_append]
theorem zma_7_7_3 (hk : t.1 43 32 = (7 : Int32)) (hn : t.1 43 33 = b) (N : Nat) (hN : 2 ≤ N) (x : Int32) (L : List Int32) (hL : L.length + 14 ≤ 24) : zyG254 N (7 : Int32) x (zaN 43 31 59 L t) = some (((((((x + b) + (3 : Int32)) * (2 : Int32)) + (((2 : Int32) ^^^ b) - (((2 : Int32) + b) + (3 : Int32)))) - (((1 : Int32) ^^^ b) - (((2 : Int32) + b) + (3 : Int32)))) - (1 : Int32)), zaN 43 31 59 (L ++ [(81 : Int32), (2 : Int32), (80 : Int32), (10 : Int32), (20 : Int32), (1 : Int32), (50 : Int32), (11 : Int32), (20 : Int32), (1 : Int32), (50 : Int32), (11 : Int32), (20 : Int32), (1 : Int32)]) t) := by
  obtain ⟨n, rfl⟩ : ∃ n, N = n + 1 := ⟨N - 1, by omega⟩
  rw [zyS254]
  unfold zyF254_0
  rw [if_pos (by decide), if_neg (by decide)]
  rw [zaN_251 _ (by omega), zq_bind]
  dsimp only
  rw [zma_7_4_3 hk hn n (by omega) x _ (by simp only [List.length_append, List.length_cons, List.length_nil]; omega), zq_bind]
  dsimp only
  simp only [List.append_assoc, List.cons_append, List.nil_append]
end ZB
