/-! PART 46.920: the reading of a text, as a function. Made by wip/v6/gen_parse.py. -/
theorem zq_neg {a : Int32} (h : -2147483648 < a.toInt) : (-a).toInt = -a.toInt := by
  have := zq_hi a
  rw [Int32.toInt_neg]
  exact Int.bmod_eq_of_le (by omega) (by omega)
theorem zN_ix {n : Nat} (h : n < 2147483647) : (Int32.ofNat n).toNatClampNeg = n := by
  rw [zq_ix, zN_toInt (by omega)]
  omega
theorem zN_succ {n : Nat} (h : n < 2147483646) : Int32.ofNat n + 1 = Int32.ofNat (n + 1) := by
  refine zq_ext ?_
  rw [zq_add (by rw [zN_toInt (by omega), zq_l1]; omega) (by rw [zN_toInt (by omega), zq_l1]; omega), zN_toInt (by omega), zN_toInt (by omega), zq_l1]
  omega
/-- the letter at a place, as the class has it; as the model has it -/
def zpB (b : Nat → Int32) (n a : Nat) : Int32 := if a < n then b a else 0
theorem zpBN (b : Nat → Int32) (n a : Nat) : (zpB b n a = zpN b n a ∧ a < n) ∨ ((zpB b n a).toInt = 0 ∧ (zpN b n a).toInt = -1 ∧ n ≤ a) := by
  unfold zpB zpN
  by_cases h : a < n
  · rw [if_pos h, if_pos h]
    exact Or.inl ⟨rfl, h⟩
  · rw [if_neg h, if_neg h]
    exact Or.inr ⟨rfl, rfl, by omega⟩
theorem zpN_lt {b : Nat → Int32} {n a : Nat} (h : (zpN b n a).toInt ≠ -1) : a < n := by
  rcases zpBN b n a with ⟨-, q⟩ | ⟨-, q, -⟩
  · exact q
  · exact absurd q h
/-- a letter's level, a letter's name -/
theorem zys47 (x : Int32) (s : zy_S) : zyF47 x s = some (zlv x, s) := by
  unfold zyF47 zlv
  by_cases h0 : x = (37 : Int32)
  · rw [if_pos h0, if_pos h0]
  rw [if_neg h0, if_neg h0]
  by_cases h1 : x = (38 : Int32)
  · rw [if_pos h1, if_pos h1]
  rw [if_neg h1, if_neg h1]
  by_cases h2 : x = (42 : Int32)
  · rw [if_pos h2, if_pos h2]
  rw [if_neg h2, if_neg h2]
  by_cases h3 : x = (43 : Int32)
  · rw [if_pos h3, if_pos h3]
  rw [if_neg h3, if_neg h3]
  by_cases h4 : x = (45 : Int32)
  · rw [if_pos h4, if_pos h4]
  rw [if_neg h4, if_neg h4]
  by_cases h5 : x = (47 : Int32)
  · rw [if_pos h5, if_pos h5]
  rw [if_neg h5, if_neg h5]
  by_cases h6 : x = (60 : Int32)
  · rw [if_pos h6, if_pos h6]
  rw [if_neg h6, if_neg h6]
  by_cases h7 : x = (61 : Int32)
  · rw [if_pos h7, if_pos h7]
  rw [if_neg h7, if_neg h7]
  by_cases h8 : x = (62 : Int32)
  · rw [if_pos h8, if_pos h8]
  rw [if_neg h8, if_neg h8]
  by_cases h9 : x = (124 : Int32)
  · rw [if_pos h9, if_pos h9]
  rw [if_neg h9, if_neg h9]
theorem zys45 (x : Int32) (s : zy_S) : zyF45 x s = some (znm x, s) := by
  unfold zyF45 znm
  by_cases h0 : x = (100 : Int32)
  · rw [if_pos h0, if_pos h0]
  rw [if_neg h0, if_neg h0]
  by_cases h1 : x = (101 : Int32)
  · rw [if_pos h1, if_pos h1]
  rw [if_neg h1, if_neg h1]
  by_cases h2 : x = (102 : Int32)
  · rw [if_pos h2, if_pos h2]
  rw [if_neg h2, if_neg h2]
  by_cases h3 : x = (103 : Int32)
  · rw [if_pos h3, if_pos h3]
  rw [if_neg h3, if_neg h3]
  by_cases h4 : x = (104 : Int32)
  · rw [if_pos h4, if_pos h4]
  rw [if_neg h4, if_neg h4]
  by_cases h5 : x = (105 : Int32)
  · rw [if_pos h5, if_pos h5]
  rw [if_neg h5, if_neg h5]
  by_cases h6 : x = (106 : Int32)
  · rw [if_pos h6, if_pos h6]
  rw [if_neg h6, if_neg h6]
  by_cases h7 : x = (107 : Int32)
  · rw [if_pos h7, if_pos h7]
  rw [if_neg h7, if_neg h7]
  by_cases h8 : x = (108 : Int32)
  · rw [if_pos h8, if_pos h8]
  rw [if_neg h8, if_neg h8]
  by_cases h9 : x = (109 : Int32)
  · rw [if_pos h9, if_pos h9]
  rw [if_neg h9, if_neg h9]
  by_cases h10 : x = (110 : Int32)
  · rw [if_pos h10, if_pos h10]
  rw [if_neg h10, if_neg h10]
  by_cases h11 : x = (111 : Int32)
  · rw [if_pos h11, if_pos h11]
  rw [if_neg h11, if_neg h11]
  by_cases h12 : x = (112 : Int32)
  · rw [if_pos h12, if_pos h12]
  rw [if_neg h12, if_neg h12]
  by_cases h13 : x = (113 : Int32)
  · rw [if_pos h13, if_pos h13]
  rw [if_neg h13, if_neg h13]
  by_cases h14 : x = (114 : Int32)
  · rw [if_pos h14, if_pos h14]
  rw [if_neg h14, if_neg h14]
  by_cases h15 : x = (115 : Int32)
  · rw [if_pos h15, if_pos h15]
  rw [if_neg h15, if_neg h15]
  by_cases h16 : x = (116 : Int32)
  · rw [if_pos h16, if_pos h16]
  rw [if_neg h16, if_neg h16]
  by_cases h17 : x = (117 : Int32)
  · rw [if_pos h17, if_pos h17]
  rw [if_neg h17, if_neg h17]
  by_cases h18 : x = (118 : Int32)
  · rw [if_pos h18, if_pos h18]
  rw [if_neg h18, if_neg h18]
  by_cases h19 : x = (119 : Int32)
  · rw [if_pos h19, if_pos h19]
  rw [if_neg h19, if_neg h19]
theorem zys201 (x : Int32) (s : zy_S) : zyF201 x s = some (znm x, s) := by
  unfold zyF201 znm
  by_cases h0 : x = (100 : Int32)
  · rw [if_pos h0, if_pos h0]
  rw [if_neg h0, if_neg h0]
  by_cases h1 : x = (101 : Int32)
  · rw [if_pos h1, if_pos h1]
  rw [if_neg h1, if_neg h1]
  by_cases h2 : x = (102 : Int32)
  · rw [if_pos h2, if_pos h2]
  rw [if_neg h2, if_neg h2]
  by_cases h3 : x = (103 : Int32)
  · rw [if_pos h3, if_pos h3]
  rw [if_neg h3, if_neg h3]
  by_cases h4 : x = (104 : Int32)
  · rw [if_pos h4, if_pos h4]
  rw [if_neg h4, if_neg h4]
  by_cases h5 : x = (105 : Int32)
  · rw [if_pos h5, if_pos h5]
  rw [if_neg h5, if_neg h5]
  by_cases h6 : x = (106 : Int32)
  · rw [if_pos h6, if_pos h6]
  rw [if_neg h6, if_neg h6]
  by_cases h7 : x = (107 : Int32)
  · rw [if_pos h7, if_pos h7]
  rw [if_neg h7, if_neg h7]
  by_cases h8 : x = (108 : Int32)
  · rw [if_pos h8, if_pos h8]
  rw [if_neg h8, if_neg h8]
  by_cases h9 : x = (109 : Int32)
  · rw [if_pos h9, if_pos h9]
  rw [if_neg h9, if_neg h9]
  by_cases h10 : x = (110 : Int32)
  · rw [if_pos h10, if_pos h10]
  rw [if_neg h10, if_neg h10]
  by_cases h11 : x = (111 : Int32)
  · rw [if_pos h11, if_pos h11]
  rw [if_neg h11, if_neg h11]
  by_cases h12 : x = (112 : Int32)
  · rw [if_pos h12, if_pos h12]
  rw [if_neg h12, if_neg h12]
  by_cases h13 : x = (113 : Int32)
  · rw [if_pos h13, if_pos h13]
  rw [if_neg h13, if_neg h13]
  by_cases h14 : x = (114 : Int32)
  · rw [if_pos h14, if_pos h14]
  rw [if_neg h14, if_neg h14]
  by_cases h15 : x = (115 : Int32)
  · rw [if_pos h15, if_pos h15]
  rw [if_neg h15, if_neg h15]
  by_cases h16 : x = (116 : Int32)
  · rw [if_pos h16, if_pos h16]
  rw [if_neg h16, if_neg h16]
  by_cases h17 : x = (117 : Int32)
  · rw [if_pos h17, if_pos h17]
  rw [if_neg h17, if_neg h17]
  by_cases h18 : x = (118 : Int32)
  · rw [if_pos h18, if_pos h18]
  rw [if_neg h18, if_neg h18]
  by_cases h19 : x = (119 : Int32)
  · rw [if_pos h19, if_pos h19]
  rw [if_neg h19, if_neg h19]
theorem zlvC (x : Int32) : (x.toInt = 37 ∧ (zlv x).toInt = 4) ∨ (x.toInt = 38 ∧ (zlv x).toInt = 1) ∨ (x.toInt = 42 ∧ (zlv x).toInt = 4) ∨ (x.toInt = 43 ∧ (zlv x).toInt = 3) ∨ (x.toInt = 45 ∧ (zlv x).toInt = 3) ∨ (x.toInt = 47 ∧ (zlv x).toInt = 4) ∨ (x.toInt = 60 ∧ (zlv x).toInt = 2) ∨ (x.toInt = 61 ∧ (zlv x).toInt = 2) ∨ (x.toInt = 62 ∧ (zlv x).toInt = 2) ∨ (x.toInt = 124 ∧ (zlv x).toInt = 0) ∨ ((zlv x).toInt = -1 ∧ x.toInt ≠ 37 ∧ x.toInt ≠ 38 ∧ x.toInt ≠ 42 ∧ x.toInt ≠ 43 ∧ x.toInt ≠ 45 ∧ x.toInt ≠ 47 ∧ x.toInt ≠ 60 ∧ x.toInt ≠ 61 ∧ x.toInt ≠ 62 ∧ x.toInt ≠ 124) := by
  unfold zlv
  by_cases h0 : x = (37 : Int32)
  · have e : x.toInt = 37 := by rw [h0]; rfl
    have v : (4 : Int32).toInt = 4 := rfl
    rw [if_pos h0]
    exact Or.inl ⟨e, v⟩
  rw [if_neg h0]
  have n0 : ¬ x.toInt = 37 := fun q => h0 (zq_ext q)
  by_cases h1 : x = (38 : Int32)
  · have e : x.toInt = 38 := by rw [h1]; rfl
    have v : (1 : Int32).toInt = 1 := rfl
    rw [if_pos h1]
    exact Or.inr (Or.inl ⟨e, v⟩)
  rw [if_neg h1]
  have n1 : ¬ x.toInt = 38 := fun q => h1 (zq_ext q)
  by_cases h2 : x = (42 : Int32)
  · have e : x.toInt = 42 := by rw [h2]; rfl
    have v : (4 : Int32).toInt = 4 := rfl
    rw [if_pos h2]
    exact Or.inr (Or.inr (Or.inl ⟨e, v⟩))
  rw [if_neg h2]
  have n2 : ¬ x.toInt = 42 := fun q => h2 (zq_ext q)
  by_cases h3 : x = (43 : Int32)
  · have e : x.toInt = 43 := by rw [h3]; rfl
    have v : (3 : Int32).toInt = 3 := rfl
    rw [if_pos h3]
    exact Or.inr (Or.inr (Or.inr (Or.inl ⟨e, v⟩)))
  rw [if_neg h3]
  have n3 : ¬ x.toInt = 43 := fun q => h3 (zq_ext q)
  by_cases h4 : x = (45 : Int32)
  · have e : x.toInt = 45 := by rw [h4]; rfl
    have v : (3 : Int32).toInt = 3 := rfl
    rw [if_pos h4]
    exact Or.inr (Or.inr (Or.inr (Or.inr (Or.inl ⟨e, v⟩))))
  rw [if_neg h4]
  have n4 : ¬ x.toInt = 45 := fun q => h4 (zq_ext q)
  by_cases h5 : x = (47 : Int32)
  · have e : x.toInt = 47 := by rw [h5]; rfl
    have v : (4 : Int32).toInt = 4 := rfl
    rw [if_pos h5]
    exact Or.inr (Or.inr (Or.inr (Or.inr (Or.inr (Or.inl ⟨e, v⟩)))))
  rw [if_neg h5]
  have n5 : ¬ x.toInt = 47 := fun q => h5 (zq_ext q)
  by_cases h6 : x = (60 : Int32)
  · have e : x.toInt = 60 := by rw [h6]; rfl
    have v : (2 : Int32).toInt = 2 := rfl
    rw [if_pos h6]
    exact Or.inr (Or.inr (Or.inr (Or.inr (Or.inr (Or.inr (Or.inl ⟨e, v⟩))))))
  rw [if_neg h6]
  have n6 : ¬ x.toInt = 60 := fun q => h6 (zq_ext q)
  by_cases h7 : x = (61 : Int32)
  · have e : x.toInt = 61 := by rw [h7]; rfl
    have v : (2 : Int32).toInt = 2 := rfl
    rw [if_pos h7]
    exact Or.inr (Or.inr (Or.inr (Or.inr (Or.inr (Or.inr (Or.inr (Or.inl ⟨e, v⟩)))))))
  rw [if_neg h7]
  have n7 : ¬ x.toInt = 61 := fun q => h7 (zq_ext q)
  by_cases h8 : x = (62 : Int32)
  · have e : x.toInt = 62 := by rw [h8]; rfl
    have v : (2 : Int32).toInt = 2 := rfl
    rw [if_pos h8]
    exact Or.inr (Or.inr (Or.inr (Or.inr (Or.inr (Or.inr (Or.inr (Or.inr (Or.inl ⟨e, v⟩))))))))
  rw [if_neg h8]
  have n8 : ¬ x.toInt = 62 := fun q => h8 (zq_ext q)
  by_cases h9 : x = (124 : Int32)
  · have e : x.toInt = 124 := by rw [h9]; rfl
    have v : (0 : Int32).toInt = 0 := rfl
    rw [if_pos h9]
    exact Or.inr (Or.inr (Or.inr (Or.inr (Or.inr (Or.inr (Or.inr (Or.inr (Or.inr (Or.inl ⟨e, v⟩)))))))))
  rw [if_neg h9]
  have n9 : ¬ x.toInt = 124 := fun q => h9 (zq_ext q)
  have v : (-1 : Int32).toInt = -1 := rfl
  refine Or.inr (Or.inr (Or.inr (Or.inr (Or.inr (Or.inr (Or.inr (Or.inr (Or.inr (Or.inr (⟨v, ?_⟩))))))))))
  omega
theorem znmC (x : Int32) : (x.toInt = 100 ∧ (znm x).toInt = 0) ∨ (x.toInt = 107 ∧ (znm x).toInt = 4) ∨ (x.toInt = 109 ∧ (znm x).toInt = 2) ∨ (x.toInt = 115 ∧ (znm x).toInt = 1) ∨ (x.toInt = 118 ∧ (znm x).toInt = 5) ∨ (x.toInt = 119 ∧ (znm x).toInt = 3) ∨ ((znm x).toInt = -1 ∧ x.toInt ≠ 100 ∧ x.toInt ≠ 107 ∧ x.toInt ≠ 109 ∧ x.toInt ≠ 115 ∧ x.toInt ≠ 118 ∧ x.toInt ≠ 119) := by
  unfold znm
  by_cases h0 : x = (100 : Int32)
  · have e : x.toInt = 100 := by rw [h0]; rfl
    have v : (0 : Int32).toInt = 0 := rfl
    rw [if_pos h0]
    exact Or.inl ⟨e, v⟩
  rw [if_neg h0]
  have n0 : ¬ x.toInt = 100 := fun q => h0 (zq_ext q)
  by_cases h1 : x = (101 : Int32)
  · have e : x.toInt = 101 := by rw [h1]; rfl
    have v : (-1 : Int32).toInt = -1 := rfl
    rw [if_pos h1]
    refine Or.inr (Or.inr (Or.inr (Or.inr (Or.inr (Or.inr (⟨v, ?_⟩))))))
    omega
  rw [if_neg h1]
  have n1 : ¬ x.toInt = 101 := fun q => h1 (zq_ext q)
  by_cases h2 : x = (102 : Int32)
  · have e : x.toInt = 102 := by rw [h2]; rfl
    have v : (-1 : Int32).toInt = -1 := rfl
    rw [if_pos h2]
    refine Or.inr (Or.inr (Or.inr (Or.inr (Or.inr (Or.inr (⟨v, ?_⟩))))))
    omega
  rw [if_neg h2]
  have n2 : ¬ x.toInt = 102 := fun q => h2 (zq_ext q)
  by_cases h3 : x = (103 : Int32)
  · have e : x.toInt = 103 := by rw [h3]; rfl
    have v : (-1 : Int32).toInt = -1 := rfl
    rw [if_pos h3]
    refine Or.inr (Or.inr (Or.inr (Or.inr (Or.inr (Or.inr (⟨v, ?_⟩))))))
    omega
  rw [if_neg h3]
  have n3 : ¬ x.toInt = 103 := fun q => h3 (zq_ext q)
  by_cases h4 : x = (104 : Int32)
  · have e : x.toInt = 104 := by rw [h4]; rfl
    have v : (-1 : Int32).toInt = -1 := rfl
    rw [if_pos h4]
    refine Or.inr (Or.inr (Or.inr (Or.inr (Or.inr (Or.inr (⟨v, ?_⟩))))))
    omega
  rw [if_neg h4]
  have n4 : ¬ x.toInt = 104 := fun q => h4 (zq_ext q)
  by_cases h5 : x = (105 : Int32)
  · have e : x.toInt = 105 := by rw [h5]; rfl
    have v : (-1 : Int32).toInt = -1 := rfl
    rw [if_pos h5]
    refine Or.inr (Or.inr (Or.inr (Or.inr (Or.inr (Or.inr (⟨v, ?_⟩))))))
    omega
  rw [if_neg h5]
  have n5 : ¬ x.toInt = 105 := fun q => h5 (zq_ext q)
  by_cases h6 : x = (106 : Int32)
  · have e : x.toInt = 106 := by rw [h6]; rfl
    have v : (-1 : Int32).toInt = -1 := rfl
    rw [if_pos h6]
    refine Or.inr (Or.inr (Or.inr (Or.inr (Or.inr (Or.inr (⟨v, ?_⟩))))))
    omega
  rw [if_neg h6]
  have n6 : ¬ x.toInt = 106 := fun q => h6 (zq_ext q)
  by_cases h7 : x = (107 : Int32)
  · have e : x.toInt = 107 := by rw [h7]; rfl
    have v : (4 : Int32).toInt = 4 := rfl
    rw [if_pos h7]
    exact Or.inr (Or.inl ⟨e, v⟩)
  rw [if_neg h7]
  have n7 : ¬ x.toInt = 107 := fun q => h7 (zq_ext q)
  by_cases h8 : x = (108 : Int32)
  · have e : x.toInt = 108 := by rw [h8]; rfl
    have v : (-1 : Int32).toInt = -1 := rfl
    rw [if_pos h8]
    refine Or.inr (Or.inr (Or.inr (Or.inr (Or.inr (Or.inr (⟨v, ?_⟩))))))
    omega
  rw [if_neg h8]
  have n8 : ¬ x.toInt = 108 := fun q => h8 (zq_ext q)
  by_cases h9 : x = (109 : Int32)
  · have e : x.toInt = 109 := by rw [h9]; rfl
    have v : (2 : Int32).toInt = 2 := rfl
    rw [if_pos h9]
    exact Or.inr (Or.inr (Or.inl ⟨e, v⟩))
  rw [if_neg h9]
  have n9 : ¬ x.toInt = 109 := fun q => h9 (zq_ext q)
  by_cases h10 : x = (110 : Int32)
  · have e : x.toInt = 110 := by rw [h10]; rfl
    have v : (-1 : Int32).toInt = -1 := rfl
    rw [if_pos h10]
    refine Or.inr (Or.inr (Or.inr (Or.inr (Or.inr (Or.inr (⟨v, ?_⟩))))))
    omega
  rw [if_neg h10]
  have n10 : ¬ x.toInt = 110 := fun q => h10 (zq_ext q)
  by_cases h11 : x = (111 : Int32)
  · have e : x.toInt = 111 := by rw [h11]; rfl
    have v : (-1 : Int32).toInt = -1 := rfl
    rw [if_pos h11]
    refine Or.inr (Or.inr (Or.inr (Or.inr (Or.inr (Or.inr (⟨v, ?_⟩))))))
    omega
  rw [if_neg h11]
  have n11 : ¬ x.toInt = 111 := fun q => h11 (zq_ext q)
  by_cases h12 : x = (112 : Int32)
  · have e : x.toInt = 112 := by rw [h12]; rfl
    have v : (-1 : Int32).toInt = -1 := rfl
    rw [if_pos h12]
    refine Or.inr (Or.inr (Or.inr (Or.inr (Or.inr (Or.inr (⟨v, ?_⟩))))))
    omega
  rw [if_neg h12]
  have n12 : ¬ x.toInt = 112 := fun q => h12 (zq_ext q)
  by_cases h13 : x = (113 : Int32)
  · have e : x.toInt = 113 := by rw [h13]; rfl
    have v : (-1 : Int32).toInt = -1 := rfl
    rw [if_pos h13]
    refine Or.inr (Or.inr (Or.inr (Or.inr (Or.inr (Or.inr (⟨v, ?_⟩))))))
    omega
  rw [if_neg h13]
  have n13 : ¬ x.toInt = 113 := fun q => h13 (zq_ext q)
  by_cases h14 : x = (114 : Int32)
  · have e : x.toInt = 114 := by rw [h14]; rfl
    have v : (-1 : Int32).toInt = -1 := rfl
    rw [if_pos h14]
    refine Or.inr (Or.inr (Or.inr (Or.inr (Or.inr (Or.inr (⟨v, ?_⟩))))))
    omega
  rw [if_neg h14]
  have n14 : ¬ x.toInt = 114 := fun q => h14 (zq_ext q)
  by_cases h15 : x = (115 : Int32)
  · have e : x.toInt = 115 := by rw [h15]; rfl
    have v : (1 : Int32).toInt = 1 := rfl
    rw [if_pos h15]
    exact Or.inr (Or.inr (Or.inr (Or.inl ⟨e, v⟩)))
  rw [if_neg h15]
  have n15 : ¬ x.toInt = 115 := fun q => h15 (zq_ext q)
  by_cases h16 : x = (116 : Int32)
  · have e : x.toInt = 116 := by rw [h16]; rfl
    have v : (-1 : Int32).toInt = -1 := rfl
    rw [if_pos h16]
    refine Or.inr (Or.inr (Or.inr (Or.inr (Or.inr (Or.inr (⟨v, ?_⟩))))))
    omega
  rw [if_neg h16]
  have n16 : ¬ x.toInt = 116 := fun q => h16 (zq_ext q)
  by_cases h17 : x = (117 : Int32)
  · have e : x.toInt = 117 := by rw [h17]; rfl
    have v : (-1 : Int32).toInt = -1 := rfl
    rw [if_pos h17]
    refine Or.inr (Or.inr (Or.inr (Or.inr (Or.inr (Or.inr (⟨v, ?_⟩))))))
    omega
  rw [if_neg h17]
  have n17 : ¬ x.toInt = 117 := fun q => h17 (zq_ext q)
  by_cases h18 : x = (118 : Int32)
  · have e : x.toInt = 118 := by rw [h18]; rfl
    have v : (5 : Int32).toInt = 5 := rfl
    rw [if_pos h18]
    exact Or.inr (Or.inr (Or.inr (Or.inr (Or.inl ⟨e, v⟩))))
  rw [if_neg h18]
  have n18 : ¬ x.toInt = 118 := fun q => h18 (zq_ext q)
  by_cases h19 : x = (119 : Int32)
  · have e : x.toInt = 119 := by rw [h19]; rfl
    have v : (3 : Int32).toInt = 3 := rfl
    rw [if_pos h19]
    exact Or.inr (Or.inr (Or.inr (Or.inr (Or.inr (Or.inl ⟨e, v⟩)))))
  rw [if_neg h19]
  have n19 : ¬ x.toInt = 119 := fun q => h19 (zq_ext q)
  have v : (-1 : Int32).toInt = -1 := rfl
  refine Or.inr (Or.inr (Or.inr (Or.inr (Or.inr (Or.inr (⟨v, ?_⟩))))))
  omega
/-- the lines behind a line that ends at b -/
theorem zpNum_s (g : Nat → Int32) (k a : Nat) (v : Int32) : zpNum g (k + 1) a v = if zpDig (g a) = true then zpNum g k (a + 1) (((10 : Int32) * v + g a) - (48 : Int32)) else (a, v) := rfl
theorem zpL_0 (sub : Nat → Nat × Bool × List Int32) (g : Nat → Int32) (lev : Nat) (r : Nat × Bool × List Int32) : zpL sub g lev 0 r = r := rfl
theorem zpL_s (sub : Nat → Nat × Bool × List Int32) (g : Nat → Int32) (lev k : Nat) (r : Nat × Bool × List Int32) : zpL sub g lev (k + 1) r = if r.2.1 = false ∧ (zlv (g r.1)).toInt = (lev : Int) then zpL sub g lev k ((sub (r.1 + 1)).1, (sub (r.1 + 1)).2.1, r.2.2 ++ ((sub (r.1 + 1)).2.2 ++ [-(g r.1)])) else r := rfl
theorem zpS_s (g : Nat → Int32) (f lev o a : Nat) : zpS g (f + 1) lev o a =
    if lev < 5 then zpL (fun b => zpS g f (lev + 1) o b) g lev (if lev = 2 then 1 else 120) (zpS g f (lev + 1) o a)
    else if zpDig (g a) = true then ((zpNum g 4 a 0).1, false, [(zpNum g 4 a 0).2])
    else if 0 ≤ (znm (g a)).toInt then (a + 1, false, [(10000 : Int32) + znm (g a)])
    else if o < 6 ∧ (g a).toInt = 40 then
      (if (zpS g f 0 (o + 1) (a + 1)).2.1 = false ∧ (g (zpS g f 0 (o + 1) (a + 1)).1).toInt = 41 then ((zpS g f 0 (o + 1) (a + 1)).1 + 1, false, (zpS g f 0 (o + 1) (a + 1)).2.2) else ((zpS g f 0 (o + 1) (a + 1)).1, true, (zpS g f 0 (o + 1) (a + 1)).2.2))
    else if o < 6 ∧ (g a).toInt = 33 then ((zpS g f 5 (o + 1) (a + 1)).1, (zpS g f 5 (o + 1) (a + 1)).2.1, (zpS g f 5 (o + 1) (a + 1)).2.2 ++ [(-33 : Int32)])
    else if o < 6 ∧ (g a).toInt = 45 then ((zpS g f 5 (o + 1) (a + 1)).1, (zpS g f 5 (o + 1) (a + 1)).2.1, (zpS g f 5 (o + 1) (a + 1)).2.2 ++ [(-126 : Int32)])
    else (a, true, []) := rfl
theorem zpU_s (g : Nat → Int32) (k b : Nat) (br : Bool) : zpU g (k + 1) b br = if br = false ∧ (g b).toInt = 59 then
      ((zpU g k (zpLine g (b + 1)).1 (zpLine g (b + 1)).2.1).1, (zpU g k (zpLine g (b + 1)).1 (zpLine g (b + 1)).2.1).2.1, (zpLine g (b + 1)).2.2 ++ (zpU g k (zpLine g (b + 1)).1 (zpLine g (b + 1)).2.1).2.2)
    else (b, br, []) := rfl
/-- letters: none behind n, bytes ahead of it -/
theorem zpG.lt {n : Nat} {g : Nat → Int32} (h : zpG n g) {a : Nat} (q : (g a).toInt ≠ -1) : a < n := by
  rcases Nat.lt_or_ge a n with k | k
  · exact k
  · exact absurd (by rw [h.1 a k]; rfl) q
/-- a step is one of these -/
def zpC (c : Int32) : Prop := -255 ≤ c.toInt ∧ c.toInt ≤ 10005
def zpOk (n a : Nat) (q : Nat × Bool × List Int32) : Prop := a ≤ q.1 ∧ q.1 ≤ n ∧ a + q.2.2.length ≤ q.1 ∧ (q.2.1 = false → a < q.1) ∧ ∀ c ∈ q.2.2, zpC c
section ZP
variable {n : Nat} {g : Nat → Int32}
theorem zpNum_ok (hg : zpG n g) : ∀ (k a : Nat) (v : Int32), a ≤ n → 0 ≤ v.toInt → (k = 4 ∧ v.toInt = 0 ∨ k = 3 ∧ v.toInt ≤ 9 ∨ k = 2 ∧ v.toInt ≤ 99 ∨ k = 1 ∧ v.toInt ≤ 999 ∨ k = 0 ∧ v.toInt ≤ 9999) → a ≤ (zpNum g k a v).1 ∧ (zpNum g k a v).1 ≤ n ∧ 0 ≤ (zpNum g k a v).2.toInt ∧ (zpNum g k a v).2.toInt ≤ 9999
  | 0, a, v, ha, h0, hv => ⟨Nat.le_refl _, ha, h0, by show v.toInt ≤ 9999; omega⟩
  | k + 1, a, v, ha, h0, hv => by
    rw [zpNum_s]
    by_cases h : zpDig (g a) = true
    · rw [if_pos h]
      obtain ⟨d0, d1⟩ := of_decide_eq_true h
      have han : a < n := hg.lt (by omega)
      have l10 : (10 : Int32).toInt = 10 := rfl
      have l48 : (48 : Int32).toInt = 48 := rfl
      have e1 : ((10 : Int32) * v).toInt = 10 * v.toInt := by rw [zq_mul (by rw [l10]; omega) (by rw [l10]; omega), l10]
      have e2 : ((10 : Int32) * v + g a).toInt = 10 * v.toInt + (g a).toInt := by rw [zq_add (by omega) (by omega), e1]
      have e3 : (((10 : Int32) * v + g a) - (48 : Int32)).toInt = 10 * v.toInt + (g a).toInt - 48 := by rw [zq_sub (by omega) (by omega), e2, l48]
      obtain ⟨q1, q2⟩ := zpNum_ok hg k (a + 1) (((10 : Int32) * v + g a) - (48 : Int32)) (by omega) (by omega) (by omega)
      exact ⟨by omega, q2⟩
    · rw [if_neg h]
      exact ⟨Nat.le_refl _, ha, h0, by show v.toInt ≤ 9999; omega⟩
theorem zpNum_1 (hg : zpG n g) {a : Nat} (ha : a ≤ n) (h : zpDig (g a) = true) : a + 1 ≤ (zpNum g 4 a 0).1 ∧ (zpNum g 4 a 0).1 ≤ n ∧ 0 ≤ (zpNum g 4 a 0).2.toInt ∧ (zpNum g 4 a 0).2.toInt ≤ 9999 := by
  have hall := zpNum_ok hg 4 a 0 ha (by decide) (Or.inl ⟨rfl, rfl⟩)
  refine ⟨?_, hall.2⟩
  show a + 1 ≤ (zpNum g (3 + 1) a 0).1
  rw [zpNum_s, if_pos h]
  obtain ⟨d0, d1⟩ := of_decide_eq_true h
  have han : a < n := hg.lt (by omega)
  have l10 : ((10 : Int32) * 0).toInt = 0 := rfl
  have l48 : (48 : Int32).toInt = 48 := rfl
  have e2 : ((10 : Int32) * 0 + g a).toInt = (g a).toInt := by rw [zq_add (by omega) (by omega), l10]; omega
  have e3 : (((10 : Int32) * 0 + g a) - (48 : Int32)).toInt = (g a).toInt - 48 := by rw [zq_sub (by omega) (by omega), e2, l48]
  exact (zpNum_ok hg 3 (a + 1) (((10 : Int32) * 0 + g a) - (48 : Int32)) (by omega) (by omega) (by omega)).1
theorem zpL_ok (hg : zpG n g) {sub : Nat → Nat × Bool × List Int32} (hs : ∀ b, b ≤ n → zpOk n b (sub b)) {lev a : Nat} : ∀ (k : Nat) (r : Nat × Bool × List Int32), zpOk n a r → zpOk n a (zpL sub g lev k r)
  | 0, r, h => h
  | k + 1, r, h => by
    rw [zpL_s]
    by_cases c : r.2.1 = false ∧ (zlv (g r.1)).toInt = (lev : Int)
    · rw [if_pos c]
      obtain ⟨h1, h2, h3, h4, h5⟩ := h
      have hr : r.1 < n := hg.lt (by have hc := zlvC (g r.1); omega)
      have hb := hg.2 r.1 hr
      obtain ⟨q1, q2, q3, q4, q5⟩ := hs (r.1 + 1) hr
      refine zpL_ok hg hs k _ ⟨by show a ≤ (sub (r.1 + 1)).1; omega, q2, ?_, fun _ => by show a < (sub (r.1 + 1)).1; omega, ?_⟩
      · show a + (r.2.2 ++ ((sub (r.1 + 1)).2.2 ++ [-(g r.1)])).length ≤ (sub (r.1 + 1)).1
        rw [List.length_append, List.length_append, List.length_singleton]
        omega
      · intro x hx
        have hx : x ∈ r.2.2 ++ ((sub (r.1 + 1)).2.2 ++ [-(g r.1)]) := hx
        rcases List.mem_append.mp hx with hx | hx
        · exact h5 x hx
        rcases List.mem_append.mp hx with hx | hx
        · exact q5 x hx
        rw [List.mem_singleton.mp hx]
        unfold zpC
        rw [zq_neg (by omega)]
        omega
    · rw [if_neg c]
      exact h
theorem zpOk_1 {a : Nat} {x : Int32} (ha : a < n) (hx : zpC x) : zpOk n a (a + 1, false, [x]) := ⟨by show a ≤ a + 1; omega, ha, Nat.le_refl _, fun _ => by show a < a + 1; omega, fun c hc => by rw [List.mem_singleton.mp hc]; exact hx⟩
theorem zpS_ok (hg : zpG n g) : ∀ (f lev o a : Nat), a ≤ n → zpOk n a (zpS g f lev o a)
  | 0, lev, o, a, ha => ⟨Nat.le_refl _, ha, Nat.le_refl _, (fun h => absurd (show true = false from h) (by decide)), (fun c hc => nomatch (show c ∈ ([] : List Int32) from hc))⟩
  | f + 1, lev, o, a, ha => by
    have no : zpOk n a (a, true, []) := ⟨Nat.le_refl _, ha, Nat.le_refl _, (fun h => absurd (show true = false from h) (by decide)), (fun c hc => nomatch (show c ∈ ([] : List Int32) from hc))⟩
    rw [zpS_s]
    by_cases h5 : lev < 5
    · rw [if_pos h5]
      exact zpL_ok hg (fun b hb => zpS_ok hg f (lev + 1) o b hb) _ _ (zpS_ok hg f (lev + 1) o a ha)
    rw [if_neg h5]
    by_cases hd : zpDig (g a) = true
    · rw [if_pos hd]
      obtain ⟨q1, q2, q3, q4⟩ := zpNum_1 hg ha hd
      exact ⟨by show a ≤ (zpNum g 4 a 0).1; omega, q2, by show a + 1 ≤ (zpNum g 4 a 0).1; omega, fun _ => by show a < (zpNum g 4 a 0).1; omega, fun c hc => by rw [List.mem_singleton.mp hc]; exact ⟨by omega, by omega⟩⟩
    rw [if_neg hd]
    have hm := znmC (g a)
    by_cases hn : 0 ≤ (znm (g a)).toInt
    · rw [if_pos hn]
      have l : (10000 : Int32).toInt = 10000 := rfl
      exact zpOk_1 (hg.lt (by omega)) (by unfold zpC; rw [zq_add (by rw [l]; omega) (by rw [l]; omega), l]; omega)
    rw [if_neg hn]
    have un : ∀ (x : Int32), zpC x → (g a).toInt ≠ -1 → ∀ q, zpOk n (a + 1) q → zpOk n a (q.1, q.2.1, q.2.2 ++ [x]) := fun x hx _ q hq => by
      obtain ⟨q1, q2, q3, q4, q5⟩ := hq
      refine ⟨by show a ≤ q.1; omega, q2, ?_, fun _ => by show a < q.1; omega, ?_⟩
      · show a + (q.2.2 ++ [x]).length ≤ q.1
        rw [List.length_append, List.length_singleton]
        omega
      · intro c hc
        have hc : c ∈ q.2.2 ++ [x] := hc
        rcases List.mem_append.mp hc with hc | hc
        · exact q5 c hc
        · rw [List.mem_singleton.mp hc]
          exact hx
    by_cases h40 : o < 6 ∧ (g a).toInt = 40
    · rw [if_pos h40]
      have han : a < n := hg.lt (by omega)
      obtain ⟨q1, q2, q3, q4, q5⟩ := zpS_ok hg f 0 (o + 1) (a + 1) han
      by_cases hc : (zpS g f 0 (o + 1) (a + 1)).2.1 = false ∧ (g (zpS g f 0 (o + 1) (a + 1)).1).toInt = 41
      · rw [if_pos hc]
        have hlt : (zpS g f 0 (o + 1) (a + 1)).1 < n := hg.lt (by omega)
        exact ⟨by show a ≤ (zpS g f 0 (o + 1) (a + 1)).1 + 1; omega, hlt, by show a + (zpS g f 0 (o + 1) (a + 1)).2.2.length ≤ (zpS g f 0 (o + 1) (a + 1)).1 + 1; omega, (fun _ => by show a < (zpS g f 0 (o + 1) (a + 1)).1 + 1; omega), q5⟩
      · rw [if_neg hc]
        exact ⟨by show a ≤ (zpS g f 0 (o + 1) (a + 1)).1; omega, q2, by show a + (zpS g f 0 (o + 1) (a + 1)).2.2.length ≤ (zpS g f 0 (o + 1) (a + 1)).1; omega, (fun h => absurd (show true = false from h) (by decide)), q5⟩
    rw [if_neg h40]
    by_cases h33 : o < 6 ∧ (g a).toInt = 33
    · rw [if_pos h33]
      exact un _ ⟨by decide, by decide⟩ (by omega) _ (zpS_ok hg f 5 (o + 1) (a + 1) (hg.lt (by omega)))
    rw [if_neg h33]
    by_cases h45 : o < 6 ∧ (g a).toInt = 45
    · rw [if_pos h45]
      exact un _ ⟨by decide, by decide⟩ (by omega) _ (zpS_ok hg f 5 (o + 1) (a + 1) (hg.lt (by omega)))
    rw [if_neg h45]
    exact no
/-- a line; its last step is one more -/
def zpOk' (n a : Nat) (q : Nat × Bool × List Int32) : Prop := a ≤ q.1 ∧ q.1 ≤ n ∧ a + q.2.2.length ≤ q.1 + 1 ∧ (q.2.1 = false → a < q.1) ∧ ∀ c ∈ q.2.2, zpC c
theorem zpLine_ok (hg : zpG n g) {a : Nat} (ha : a ≤ n) : zpOk' n a (zpLine g a) := by
  obtain ⟨q1, q2, q3, q4, q5⟩ := zpS_ok hg 50 0 0 a ha
  unfold zpLine
  by_cases hc : (zpS g 50 0 0 a).2.1 = false ∧ (g (zpS g 50 0 0 a).1).toInt = 63
  · rw [if_pos hc]
    have hlt : (zpS g 50 0 0 a).1 < n := hg.lt (by omega)
    obtain ⟨r1, r2, r3, r4, r5⟩ := zpS_ok hg 50 0 0 ((zpS g 50 0 0 a).1 + 1) hlt
    refine ⟨by show a ≤ (zpS g 50 0 0 ((zpS g 50 0 0 a).1 + 1)).1; omega, r2, ?_, fun _ => by show a < (zpS g 50 0 0 ((zpS g 50 0 0 a).1 + 1)).1; omega, ?_⟩
    · show a + ((zpS g 50 0 0 a).2.2 ++ ([(-63 : Int32)] ++ ((zpS g 50 0 0 ((zpS g 50 0 0 a).1 + 1)).2.2 ++ [(-59 : Int32)]))).length ≤ (zpS g 50 0 0 ((zpS g 50 0 0 a).1 + 1)).1 + 1
      rw [List.length_append, List.length_append, List.length_append, List.length_singleton, List.length_singleton]
      omega
    · intro c hc
      have hc : c ∈ (zpS g 50 0 0 a).2.2 ++ ([(-63 : Int32)] ++ ((zpS g 50 0 0 ((zpS g 50 0 0 a).1 + 1)).2.2 ++ [(-59 : Int32)])) := hc
      rcases List.mem_append.mp hc with hc | hc
      · exact q5 c hc
      rcases List.mem_append.mp hc with hc | hc
      · rw [List.mem_singleton.mp hc]
        exact ⟨by decide, by decide⟩
      rcases List.mem_append.mp hc with hc | hc
      · exact r5 c hc
      · rw [List.mem_singleton.mp hc]
        exact ⟨by decide, by decide⟩
  · rw [if_neg hc]
    refine ⟨q1, q2, ?_, q4, ?_⟩
    · show a + ((zpS g 50 0 0 a).2.2 ++ [(-59 : Int32)]).length ≤ (zpS g 50 0 0 a).1 + 1
      rw [List.length_append, List.length_singleton]
      omega
    · intro c hc
      have hc : c ∈ (zpS g 50 0 0 a).2.2 ++ [(-59 : Int32)] := hc
      rcases List.mem_append.mp hc with hc | hc
      · exact q5 c hc
      · rw [List.mem_singleton.mp hc]
        exact ⟨by decide, by decide⟩
theorem zpU_ok (hg : zpG n g) : ∀ (k b : Nat) (br : Bool), b ≤ n → b ≤ (zpU g k b br).1 ∧ (zpU g k b br).1 ≤ n ∧ b + (zpU g k b br).2.2.length ≤ (zpU g k b br).1 ∧ ∀ c ∈ (zpU g k b br).2.2, zpC c
  | 0, b, br, hb => ⟨Nat.le_refl _, hb, Nat.le_refl _, (fun c hc => nomatch (show c ∈ ([] : List Int32) from hc))⟩
  | k + 1, b, br, hb => by
    rw [zpU_s]
    by_cases c : br = false ∧ (g b).toInt = 59
    · rw [if_pos c]
      have hlt : b < n := hg.lt (by omega)
      obtain ⟨q1, q2, q3, q4, q5⟩ := zpLine_ok hg (a := b + 1) hlt
      obtain ⟨r1, r2, r3, r4⟩ := zpU_ok hg k (zpLine g (b + 1)).1 (zpLine g (b + 1)).2.1 q2
      refine ⟨by show b ≤ (zpU g k (zpLine g (b + 1)).1 (zpLine g (b + 1)).2.1).1; omega, r2, ?_, ?_⟩
      · show b + ((zpLine g (b + 1)).2.2 ++ (zpU g k (zpLine g (b + 1)).1 (zpLine g (b + 1)).2.1).2.2).length ≤ (zpU g k (zpLine g (b + 1)).1 (zpLine g (b + 1)).2.1).1
        rw [List.length_append]
        omega
      · intro x hx
        rcases List.mem_append.mp hx with hx | hx
        · exact q5 x hx
        · exact r4 x hx
    · rw [if_neg c]
      exact ⟨Nat.le_refl _, hb, Nat.le_refl _, (fun c hc => nomatch (show c ∈ ([] : List Int32) from hc))⟩
theorem zpT_ok (hg : zpG n g) : (zpT g).1 ≤ n ∧ (zpT g).2.2.length ≤ (zpT g).1 + 1 ∧ ∀ c ∈ (zpT g).2.2, zpC c := by
  obtain ⟨q1, q2, q3, q4, q5⟩ := zpLine_ok hg (a := 0) (Nat.zero_le _)
  obtain ⟨r1, r2, r3, r4⟩ := zpU_ok hg 120 (zpLine g 0).1 (zpLine g 0).2.1 q2
  unfold zpT
  refine ⟨r2, ?_, ?_⟩
  · show ((zpLine g 0).2.2 ++ (zpU g 120 (zpLine g 0).1 (zpLine g 0).2.1).2.2).length ≤ (zpU g 120 (zpLine g 0).1 (zpLine g 0).2.1).1 + 1
    rw [List.length_append]
    omega
  · intro x hx
    rcases List.mem_append.mp hx with hx | hx
    · exact q5 x hx
    · exact r4 x hx
end ZP
