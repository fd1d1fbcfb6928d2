/-! PART 43.0: what holds between two calls. -/
/-! what the two sides have alike -/
def zR1 (s : zy_S) : Prop := s.1 1 5 = s.1 43 6 ∧ zin (s.1 1 5) 0 8
def zR2 (s : zy_S) : Prop := ∀ p, p < 8 → s.1 3 p = s.1 44 p ∧ zin (s.1 3 p) 0 4095
def zR3 (s : zy_S) : Prop := ∀ p, p < 8 → s.1 4 p = s.1 44 (8 + p) ∧ zin (s.1 4 p) 0 9
def zR4 (s : zy_S) : Prop := ∀ p, p < 24 → s.1 2 p = s.1 44 (16 + p) ∧ zin (s.1 2 p) 0 9
def zR5 (s : zy_S) : Prop := s.1 1 4 = s.1 44 40 ∧ zin (s.1 1 4) 1 9
def zR6 (s : zy_S) : Prop := s.1 1 3 = s.1 43 7 ∧ zin (s.1 1 3) 0 16777215
def zR7 (s : zy_S) : Prop := ∀ p, p < 5 → s.1 18 p = s.1 54 p
def zR8 (s : zy_S) : Prop := (s.1 17 2 = s.1 43 22 ∧ zin (s.1 17 2) 0 1) ∧ (s.1 17 3 = s.1 43 24 ∧ zin (s.1 17 3) 0 16777215) ∧ s.1 17 4 = s.1 43 23 ∧ zin (s.1 17 4) 0 (s.1 1 5).toInt
def zR9 (s : zy_S) : Prop := ∀ p : Nat, (p : Int) < (s.1 17 4).toInt → s.1 20 p = s.1 55 p ∧ zin (s.1 20 p) 0 4095
def zR10 (s : zy_S) : Prop := ∀ p, p < 24 → s.1 19 p = s.1 56 p ∧ zin (s.1 19 p) 0 9
def zR11 (s : zy_S) : Prop := ∀ p, p < 5 → s.1 21 p = s.1 57 p
def zR12 (s : zy_S) : Prop := s.1 22 5 = s.1 43 5 ∧ s.1 22 6 = s.1 43 4 ∧ 0 ≤ (s.1 22 5).toInt ∧ (s.1 22 5).toInt ≤ (s.1 22 6).toInt ∧ (s.1 22 6).toInt ≤ 40
/-- a change: of what, whose, from, to; where, from, to -/
def zRow (pe w n b a q c e : Int32) : Prop := b = c ∧ a = e ∧
  ((w.toInt = 0 ∧ 0 ≤ n.toInt ∧ n.toInt < pe.toInt ∧ q.toInt = n.toInt ∧ zin b 0 4095 ∧ zin a 0 4095) ∨ (w.toInt = 1 ∧ 0 ≤ n.toInt ∧ n.toInt < pe.toInt ∧ q.toInt = 8 + n.toInt ∧ zin b 0 9 ∧ zin a 0 9) ∨
  (w.toInt = 2 ∧ 0 ≤ n.toInt ∧ n.toInt < 24 ∧ q.toInt = 16 + n.toInt ∧ zin b 0 9 ∧ zin a 0 9) ∨ (w.toInt = 3 ∧ q.toInt = 40 ∧ zin b 1 9 ∧ zin a 1 9))
def zR13 (s : zy_S) : Prop := ∀ p : Nat, (p : Int) < (s.1 22 6).toInt → zRow (s.1 1 5) (s.1 23 p) (s.1 24 p) (s.1 25 p) (s.1 26 p) (s.1 45 p) (s.1 46 p) (s.1 47 p)
def zR14 (s : zy_S) : Prop := s.1 27 2 = s.1 43 28 ∧ zin (s.1 27 2) 0 50
def zR15 (s : zy_S) : Prop := ∀ p, p < 50 → s.1 28 p = s.1 58 p ∧ zin (s.1 28 p) 0 7
def zR16 (s : zy_S) : Prop := s.1 27 3 = s.1 43 31 ∧ zin (s.1 27 3) 0 100000
def zR17 (s : zy_S) : Prop := ∀ p, p < 24 → s.1 29 p = s.1 59 p
def zR18 (s : zy_S) : Prop := s.1 9 2 = s.1 43 9 ∧ zin (s.1 9 2) 0 120
def zR19 (s : zy_S) : Prop := (∀ p, p < 120 → s.1 10 p = s.1 48 p ∧ zin (s.1 10 p) 0 255) ∧ zLw (s.1 5 3) (s.1 43 11) (s.1 6) (s.1 49)
/-- a shelf: bodies, its body, sort, length; what it holds, how many -/
def zShelf (nb b t n h k : Int32) : Prop := n = k ∧ zin n 0 60 ∧ ((t.toInt = -1 ∧ b = h ∧ -1 ≤ b.toInt ∧ b.toInt < nb.toInt ∧ n.toInt = 0) ∨ (zin t 0 4 ∧ b.toInt = -1 ∧ h.toInt = 50 + t.toInt))
def zR20 (s : zy_S) : Prop := ∀ d, d < 6 → zShelf (s.1 27 2) (s.1 (zy_sh d) 1) (s.1 (zy_sh d) 2) (s.1 (zy_sh d) 3) (s.1 60 d) (s.1 61 d)
/-- what a row of a sort may hold -/
def zfit (t : Int32) (v : Int64) : Prop := (t.toInt = 0 → -128 ≤ v.toInt ∧ v.toInt ≤ 127) ∧ (t.toInt = 1 → -32768 ≤ v.toInt ∧ v.toInt ≤ 32767)
def zR21 (s : zy_S) : Prop := ∀ d, d < 6 → ∀ j, j < 60 → s.2.1 (zy_sh d + 1) j = s.2.1 62 (60 * d + j) ∧ zfit (s.1 (zy_sh d) 2) (s.2.1 (zy_sh d + 1) j)
def zI (s : zy_S) : Prop := zy_Wb s = true ∧ zRg s ∧ zR1 s ∧ zR2 s ∧ zR3 s ∧ zR4 s ∧ zR5 s ∧ zR6 s ∧ zR7 s ∧ zR8 s ∧ zR9 s ∧ zR10 s ∧ zR11 s ∧ zR12 s ∧ zR13 s ∧ zR14 s ∧ zR15 s ∧ zR16 s ∧ zR17 s ∧ zR18 s ∧ zR19 s ∧ zR20 s ∧ zR21 s
theorem zy_Wb_of {s : zy_S} (h : zy_W s) : zy_Wb s = true := List.all_eq_true.mpr (fun k hk => decide_eq_true (h k (List.mem_range.mp hk)))
theorem zto_sh {d : Nat} (h : d < 6) : zto (zy_sh d) 1 = true ∧ zto (zy_sh d) 2 = true ∧ zto (zy_sh d) 3 = true := by
  rcases (by omega : d = 0 ∨ d = 1 ∨ d = 2 ∨ d = 3 ∨ d = 4 ∨ d = 5) with rfl | rfl | rfl | rfl | rfl | rfl <;> exact ⟨rfl, rfl, rfl⟩
/-- it holds of all that is alike in told places -/
theorem zI_same {s t : zy_S} (h : zI s) (hW : zy_Wb t = true) (hg : zRg t) (e : ∀ c k, zto c k = true → t.1 c k = s.1 c k) (e2 : ∀ d, d < 6 → t.2.1 (zy_sh d + 1) = s.2.1 (zy_sh d + 1)) (e62 : t.2.1 62 = s.2.1 62) : zI t := by
  obtain ⟨hw, hg0, h1, h2, h3, h4, h5, h6, h7, h8, h9, h10, h11, h12, h13, h14, h15, h16, h17, h18, h19, h20, h21⟩ := h
  refine ⟨hW, hg, ?_, ?_, ?_, ?_, ?_, ?_, ?_, ?_, ?_, ?_, ?_, ?_, ?_, ?_, ?_, ?_, ?_, ?_, ?_, ?_, ?_⟩
  · unfold zR1
    rw [e 1 5 rfl, e 43 6 rfl]
    exact h1
  · unfold zR2
    intro p hp
    rw [e 3 p rfl, e 44 p rfl]
    exact h2 p hp
  · unfold zR3
    intro p hp
    rw [e 4 p rfl, e 44 (8 + p) rfl]
    exact h3 p hp
  · unfold zR4
    intro p hp
    rw [e 2 p rfl, e 44 (16 + p) rfl]
    exact h4 p hp
  · unfold zR5
    rw [e 1 4 rfl, e 44 40 rfl]
    exact h5
  · unfold zR6
    rw [e 1 3 rfl, e 43 7 rfl]
    exact h6
  · unfold zR7
    intro p hp
    rw [e 18 p rfl, e 54 p rfl]
    exact h7 p hp
  · unfold zR8
    rw [e 17 2 rfl, e 43 22 rfl, e 17 3 rfl, e 43 24 rfl, e 17 4 rfl, e 43 23 rfl, e 1 5 rfl]
    exact h8
  · intro p hp
    rw [e 17 4 rfl] at hp
    rw [e 20 p rfl, e 55 p rfl]
    exact h9 p hp
  · unfold zR10
    intro p hp
    rw [e 19 p rfl, e 56 p rfl]
    exact h10 p hp
  · unfold zR11
    intro p hp
    rw [e 21 p rfl, e 57 p rfl]
    exact h11 p hp
  · unfold zR12
    rw [e 22 5 rfl, e 43 5 rfl, e 22 6 rfl, e 43 4 rfl]
    exact h12
  · intro p hp
    rw [e 22 6 rfl] at hp
    rw [e 1 5 rfl, e 23 p rfl, e 24 p rfl, e 25 p rfl, e 26 p rfl, e 45 p rfl, e 46 p rfl, e 47 p rfl]
    exact h13 p hp
  · unfold zR14
    rw [e 27 2 rfl, e 43 28 rfl]
    exact h14
  · unfold zR15
    intro p hp
    rw [e 28 p rfl, e 58 p rfl]
    exact h15 p hp
  · unfold zR16
    rw [e 27 3 rfl, e 43 31 rfl]
    exact h16
  · unfold zR17
    intro p hp
    rw [e 29 p rfl, e 59 p rfl]
    exact h17 p hp
  · unfold zR18
    rw [e 9 2 rfl, e 43 9 rfl]
    exact h18
  · unfold zR19
    refine ⟨fun p hp => ?_, ?_⟩
    · rw [e 10 p rfl, e 48 p rfl]
      exact h19.1 p hp
    · rw [e 5 3 rfl, e 43 11 rfl, show t.1 6 = s.1 6 from funext fun k => e 6 k rfl, show t.1 49 = s.1 49 from funext fun k => e 49 k rfl]
      exact h19.2
  · intro d hd
    obtain ⟨t1, t2, t3⟩ := zto_sh hd
    rw [e 27 2 rfl, e _ _ t1, e _ _ t2, e _ _ t3, e 60 d rfl, e 61 d rfl]
    exact h20 d hd
  · intro d hd j hj
    obtain ⟨t1, t2, t3⟩ := zto_sh hd
    rw [e _ _ t2, e2 d hd, e62]
    exact h21 d hd j hj
