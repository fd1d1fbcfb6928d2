/-! PART 46.95: the model's search for the nearest board. Made by wip/v4/gen_rest.py. -/
def znb (k : Nat) : Nat := zpopN 24 k
theorem znb_le : ∀ k, k < 16 → znb k ≤ 4 := by decide +kernel
theorem znb_0 : znb 0 = 0 := by decide +kernel
theorem znb_x {x : Int32} {k : Nat} (h : x.toInt = (k : Int)) (hk : k < 16) (s : zy_S) : zyF209 x s = some (zpc x, s) ∧ (zpc x).toInt = ((znb k : Nat) : Int) := by
  refine ⟨zys209 s (by omega) (by omega), ?_⟩
  have b : zpopN 24 k ≤ 24 := zpopN_le k 24
  unfold zpc zpo znb
  rw [h, Int.toNat_natCast]
  exact Int32.toInt_ofInt_of_le (by omega) (by omega)
theorem zq_lM : (1000000 : Int32).toInt = 1000000 := rfl
/-- x is what a choice of lines of the matter m gives, with room for c -/
def znA (s t : zy_S) (m c : Nat) (x : Int) (q : Nat) : Prop := ∃ k, k < q ∧ znb k ≤ c ∧ x = (s.1 53 (16 * (m - 1) + k)).toInt + (t.1 52 (10 * (m - 1) + (c - znb k))).toInt
theorem znA_up {s t : zy_S} {m c q q' : Nat} {x : Int} (h : q ≤ q') (g : znA s t m c x q) : znA s t m c x q' := by
  obtain ⟨k, h1, h2⟩ := g
  exact ⟨k, by omega, h2⟩
theorem znA_of {s t t' : zy_S} {m c q N : Nat} {x : Int} (h : ∀ j, j < N → t'.1 52 j = t.1 52 j) (hm : 1 ≤ m) (hN : 10 * m + c ≤ N) (g : znA s t m c x q) : znA s t' m c x q := by
  obtain ⟨k, h1, h2, h3⟩ := g
  exact ⟨k, h1, h2, by rw [h _ (by omega)]; exact h3⟩
/-- the table up to a place -/
def znT (s t : zy_S) (n : Nat) : Prop := ∀ m c : Nat, m ≤ 6 → c ≤ 9 → 10 * m + c < n → 0 ≤ (t.1 52 (10 * m + c)).toInt ∧ (t.1 52 (10 * m + c)).toInt ≤ 792 * (m : Int) ∧ (1 ≤ m → znA s t m c (t.1 52 (10 * m + c)).toInt 16)
def zX52 (s t : zy_S) : Prop := t.2 = s.2 ∧ ∀ a b, a ≠ 52 → t.1 a b = s.1 a b
theorem zrg_52 : ∀ k, k < 70 → zrg 52 k = (0, 1000000) := by decide +kernel
theorem zrg_53 : ∀ k, k < 96 → zrg 53 k = (0, 792) := by decide +kernel
theorem zrn_52 : zrn 52 = 70 ∧ zrn 53 = 96 ∧ zrn 44 = 41 ∧ zrg 44 40 = (1, 9) := by decide +kernel
