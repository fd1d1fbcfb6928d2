/-! PART 46.5: undo, redo. Made by wip/v4/gen_undo.py. -/
theorem zRow_pl {P w n b a q c e : Int32} (h : zRow P w n b a q c e) (hP : P.toInt ≤ 8) : ∃ cc k, zPl cc k q.toNatClampNeg ∧ zy_in q 41 = true ∧ zPv cc b ∧ zPv cc a ∧ ∀ (v : Int32) (s : zy_S), zyF28 w n v s = some (0, zy_up s cc k v) := by
  obtain ⟨-, -, h⟩ := h
  rcases h with ⟨hw, n0, n1, hq, hb, ha⟩ | ⟨hw, n0, n1, hq, hb, ha⟩ | ⟨hw, n0, n1, hq, hb, ha⟩ | ⟨hw, hq, hb, ha⟩
  · have ew : w = 0 := zq_ext hw
    refine ⟨3, n.toNatClampNeg, Or.inl ⟨rfl, by rw [zq_ix]; omega, by rw [zq_ix, zq_ix]; omega⟩, zq_in.mpr ⟨by omega, by omega⟩, ⟨fun _ => hb, fun g => absurd g (by decide), fun g => absurd g (by decide), fun g => absurd g (by decide)⟩, ⟨fun _ => ha, fun g => absurd g (by decide), fun g => absurd g (by decide), fun g => absurd g (by decide)⟩, fun v s => ?_⟩
    unfold zyF28
    rw [if_pos ew, if_pos (zq_in.mpr ⟨n0, by omega⟩)]
  · have ew : w = 1 := zq_ext hw
    subst ew
    refine ⟨4, n.toNatClampNeg, Or.inr (Or.inl ⟨rfl, by rw [zq_ix]; omega, by rw [zq_ix, zq_ix]; omega⟩), zq_in.mpr ⟨by omega, by omega⟩, ⟨fun g => absurd g (by decide), fun _ => hb, fun g => absurd g (by decide), fun g => absurd g (by decide)⟩, ⟨fun g => absurd g (by decide), fun _ => ha, fun g => absurd g (by decide), fun g => absurd g (by decide)⟩, fun v s => ?_⟩
    unfold zyF28
    rw [if_neg (by decide), if_pos rfl, if_pos (zq_in.mpr ⟨n0, by omega⟩)]
  · have ew : w = 2 := zq_ext hw
    subst ew
    refine ⟨2, n.toNatClampNeg, Or.inr (Or.inr (Or.inl ⟨rfl, by rw [zq_ix]; omega, by rw [zq_ix, zq_ix]; omega⟩)), zq_in.mpr ⟨by omega, by omega⟩, ⟨fun g => absurd g (by decide), fun g => absurd g (by decide), fun _ => hb, fun g => absurd g (by decide)⟩, ⟨fun g => absurd g (by decide), fun g => absurd g (by decide), fun _ => ha, fun g => absurd g (by decide)⟩, fun v s => ?_⟩
    unfold zyF28
    rw [if_neg (by decide), if_neg (by decide), if_pos rfl, if_pos (zq_in.mpr ⟨n0, by omega⟩)]
  · have ew : w = 3 := zq_ext hw
    subst ew
    refine ⟨1, 4, Or.inr (Or.inr (Or.inr ⟨rfl, rfl, by rw [zq_ix]; omega⟩)), zq_in.mpr ⟨by omega, by omega⟩, ⟨fun g => absurd g (by decide), fun g => absurd g (by decide), fun g => absurd g (by decide), fun _ => hb⟩, ⟨fun g => absurd g (by decide), fun g => absurd g (by decide), fun g => absurd g (by decide), fun _ => ha⟩, fun v s => ?_⟩
    unfold zyF28
    rw [if_neg (by decide), if_neg (by decide), if_neg (by decide)]
/-- a step in the journals: the pointers, and one place of the town -/
theorem zI_jmp {c k Q : Nat} {v x : Int32} {s t : zy_S} (h : zI s) (hp : zPl c k Q) (hv : zPv c v) (x0 : 0 ≤ x.toInt) (x1 : x.toInt ≤ (s.1 22 6).toInt) (ht2 : t.2 = s.2)
    (hat : ∀ a b, t.1 a b = if (a = 22 ∧ b = 5) ∨ (a = 43 ∧ b = 5) then x else if (a = c ∧ b = k) ∨ (a = 44 ∧ b = Q) then v else s.1 a b) : zI t := by
  obtain ⟨hw, hg, h1, h2, h3, h4, h5, h6, h7, h8, h9, h10, h11, h12, h13, h14, h15, h16, h17, h18, h19, h20, h21⟩ := id h
  obtain ⟨j1, j2, j3, j4, j5⟩ := id h12
  have hc : c = 1 ∨ c = 2 ∨ c = 3 ∨ c = 4 := by unfold zPl at hp; omega
  have hc1 : c = 1 → k = 4 := by unfold zPl at hp; omega
  have e : ∀ a b, zmn a → t.1 a b = s.1 a b := by
    intro a b ha
    unfold zmn at ha
    rw [hat, if_neg (by omega), if_neg (by omega)]
  have e1 : ∀ b, b ≠ 4 → t.1 1 b = s.1 1 b := by
    intro b hb
    rw [hat, if_neg (by omega), if_neg (by omega)]
  have e43 : ∀ b, b ≠ 4 → b ≠ 5 → t.1 43 b = s.1 43 b := by
    intro b _ hb
    rw [hat, if_neg (by omega), if_neg (by omega)]
  have eo : ∀ a b, a ≠ 22 → a ≠ 43 → a ≠ 44 → a ≠ c → t.1 a b = s.1 a b := by
    intro a b a1 a2 a3 a4
    rw [hat, if_neg (by omega), if_neg (by omega)]
  have et : ∀ a b, a < 22 → t.1 a b = if a = c ∧ b = k then v else s.1 a b := by
    intro a b ha
    rw [hat, if_neg (by omega)]
    by_cases g : a = c ∧ b = k
    · rw [if_pos (Or.inl g), if_pos g]
    · rw [if_neg (by omega), if_neg g]
  obtain ⟨q2, q3, q4, q5⟩ := zPl_R (t := t) hp hv h2 h3 h4 h5 (fun p => et 3 p (by decide)) (fun p => et 4 p (by decide)) (fun p => et 2 p (by decide)) (et 1 4 (by decide)) (fun p => by
    rw [hat, if_neg (by omega)]
    by_cases g : p = Q
    · rw [if_pos (Or.inr ⟨rfl, g⟩), if_pos g]
    · rw [if_neg (by omega), if_neg g])
  have a5 : t.1 22 5 = x := by rw [hat, if_pos (Or.inl ⟨rfl, rfl⟩)]
  have m5 : t.1 43 5 = x := by rw [hat, if_pos (Or.inr ⟨rfl, rfl⟩)]
  have a6 : t.1 22 6 = s.1 22 6 := by rw [hat, if_neg (by omega), if_neg (by omega)]
  have m4 : t.1 43 4 = s.1 43 4 := by rw [hat, if_neg (by omega), if_neg (by omega)]
  have q12 : zR12 t := by
    unfold zR12
    rw [a5, m5, a6, m4]
    exact ⟨rfl, j2, x0, x1, j5⟩
  have q13 : zR13 t := by
    intro p hp6
    rw [a6] at hp6
    rw [e1 5 (by decide), eo 23 p (by decide) (by decide) (by decide) (by omega), eo 24 p (by decide) (by decide) (by decide) (by omega), eo 25 p (by decide) (by decide) (by decide) (by omega), eo 26 p (by decide) (by decide) (by decide) (by omega),
      eo 45 p (by decide) (by decide) (by decide) (by omega), eo 46 p (by decide) (by decide) (by decide) (by omega), eo 47 p (by decide) (by decide) (by decide) (by omega)]
    exact h13 p hp6
  exact zI_mend h ht2 (zRg_mend hg e e1 e43 q5 q12) e e1 e43 q2 q3 q4 q5 q12 q13
theorem zop_undo {s : zy_S} (h : zI s) : ∃ r s1 s2, zyF144 s = some (r, s1) ∧ zyF176 s1 = some (r, s2) ∧ zI s2 := by
  obtain ⟨hw, hg, h1, h2, h3, h4, h5, h6, h7, h8, h9, h10, h11, h12, h13, h14, h15, h16, h17, h18, h19, h20, h21⟩ := id h
  obtain ⟨j1, j2, j3, j4, j5⟩ := id h12
  by_cases hu : (s.1 22 5).toInt ≤ 0
  · refine ⟨-5, s, s, ?_, ?_, h⟩
    · unfold zyF144
      rw [if_pos (by rw [Int32.le_iff_toInt_le, zq_l0]; exact hu)]
    · unfold zyF176
      have e : s.1 43 5 = 0 := by rw [← j1]; exact zq_ext (by rw [zq_l0]; omega)
      rw [if_neg (show ¬ (s.1 43 5 ≠ 0) from fun g => g e)]
  · obtain ⟨u, hu'⟩ : ∃ u : Nat, (s.1 22 5).toInt = (u : Int) + 1 := ⟨((s.1 22 5).toInt - 1).toNat, by omega⟩
    obtain ⟨x, hx⟩ : ∃ x, x = s.1 22 5 - 1 := ⟨_, rfl⟩
    have ex : x.toInt = (u : Int) := by rw [hx, zq_sub (by rw [zq_l1]; omega) (by rw [zq_l1]; omega), zq_l1]; omega
    have exn : x.toNatClampNeg = u := by rw [zq_ix]; omega
    have hin : zy_in x 40 = true := zq_in.mpr ⟨by omega, by omega⟩
    have row := h13 u (by omega)
    obtain ⟨c, k, hp, hq, vb, va, f28⟩ := zRow_pl row h1.2.2
    obtain ⟨rb, ra, -⟩ := id row
    have hc : c = 1 ∨ c = 2 ∨ c = 3 ∨ c = 4 := by unfold zPl at hp; omega
    refine ⟨x, zy_up (zy_up s 22 5 x) c k (s.1 25 u), zy_up (zy_up (zy_up (zy_up s 22 5 x) c k (s.1 25 u)) 43 5 x) 44 (s.1 45 u).toNatClampNeg (s.1 46 u), ?_, ?_, ?_⟩
    · unfold zyF144 zyF145
      rw [if_neg (by rw [Int32.le_iff_toInt_le, zq_l0]; exact hu), ← hx, if_pos hin, if_pos hin, if_pos hin, exn, f28]
      simp only [zq_bind]
      rw [zf_up (by omega), zf_upe]
    · have o : ∀ a b, 43 ≤ a → (zy_up (zy_up s 22 5 x) c k (s.1 25 u)).1 a b = s.1 a b := fun a b ha => by rw [zf_up (by omega), zf_up (by omega)]
      have o5 : (zy_up (zy_up s 22 5 x) c k (s.1 25 u)).1 43 5 = s.1 22 5 := by rw [o 43 5 (by decide), j1]
      unfold zyF176
      rw [o5, ← hx, exn, o 45 u (by decide), o 46 u (by decide), if_pos (show s.1 22 5 ≠ 0 from fun g => by rw [g, zq_l0] at hu; omega), if_pos hin, if_pos hin, if_pos hq]
    · refine zI_jmp h hp (v := s.1 25 u) vb (x := x) (by omega) (by omega) rfl ?_
      intro a b
      rw [← rb]
      simp only [zy_up_at]
      by_cases g1 : a = 44 ∧ b = (s.1 45 u).toNatClampNeg
      · rw [if_pos g1, if_neg (by omega), if_pos (Or.inr g1)]
      · rw [if_neg g1]
        by_cases g2 : a = 43 ∧ b = 5
        · rw [if_pos g2, if_pos (Or.inr g2)]
        · rw [if_neg g2]
          by_cases g3 : a = c ∧ b = k
          · rw [if_pos g3, if_neg (by omega), if_pos (Or.inl g3)]
          · rw [if_neg g3]
            by_cases g4 : a = 22 ∧ b = 5
            · rw [if_pos g4, if_pos (Or.inl g4)]
            · rw [if_neg g4, if_neg (by omega), if_neg (by omega)]
theorem zop_redo {s : zy_S} (h : zI s) : ∃ r s1 s2, zyF146 s = some (r, s1) ∧ zyF177 s1 = some (r, s2) ∧ zI s2 := by
  obtain ⟨hw, hg, h1, h2, h3, h4, h5, h6, h7, h8, h9, h10, h11, h12, h13, h14, h15, h16, h17, h18, h19, h20, h21⟩ := id h
  obtain ⟨j1, j2, j3, j4, j5⟩ := id h12
  by_cases hu : (s.1 22 6).toInt ≤ (s.1 22 5).toInt
  · refine ⟨-5, s, s, ?_, ?_, h⟩
    · unfold zyF146
      rw [if_pos (by rw [Int32.le_iff_toInt_le]; exact hu)]
    · unfold zyF177
      have e : s.1 43 5 = s.1 43 4 := by rw [← j1, ← j2]; exact zq_ext (by omega)
      rw [if_neg (show ¬ (s.1 43 5 ≠ s.1 43 4) from fun g => g e)]
  · obtain ⟨u, hu'⟩ : ∃ u : Nat, (s.1 22 5).toInt = (u : Int) := ⟨(s.1 22 5).toInt.toNat, by omega⟩
    obtain ⟨x, hx⟩ : ∃ x, x = s.1 22 5 + 1 := ⟨_, rfl⟩
    have ex : x.toInt = (u : Int) + 1 := by rw [hx, zq_add (by rw [zq_l1]; omega) (by rw [zq_l1]; omega), zq_l1]; omega
    have exn : (s.1 22 5).toNatClampNeg = u := by rw [zq_ix]; omega
    have hin : zy_in (s.1 22 5) 40 = true := zq_in.mpr ⟨by omega, by omega⟩
    have row := h13 u (by omega)
    obtain ⟨c, k, hp, hq, vb, va, f28⟩ := zRow_pl row h1.2.2
    obtain ⟨rb, ra, -⟩ := id row
    have hc : c = 1 ∨ c = 2 ∨ c = 3 ∨ c = 4 := by unfold zPl at hp; omega
    refine ⟨s.1 22 6 - x, zy_up (zy_up s c k (s.1 26 u)) 22 5 x, zy_up (zy_up (zy_up (zy_up s c k (s.1 26 u)) 22 5 x) 44 (s.1 45 u).toNatClampNeg (s.1 47 u)) 43 5 x, ?_, ?_, ?_⟩
    · unfold zyF146 zyF147
      rw [if_neg (by rw [Int32.le_iff_toInt_le]; exact hu), if_pos hin, if_pos hin, if_pos hin, exn, f28]
      simp only [zq_bind]
      rw [zf_up (show 22 ≠ c by omega), zf_up (show 22 ≠ c by omega), ← hx]
    · have o : ∀ a b, 43 ≤ a → (zy_up (zy_up s c k (s.1 26 u)) 22 5 x).1 a b = s.1 a b := fun a b ha => by rw [zf_up (by omega), zf_up (by omega)]
      have o5 : (zy_up (zy_up s c k (s.1 26 u)) 22 5 x).1 43 5 = s.1 22 5 := by rw [o 43 5 (by decide), j1]
      have o4 : (zy_up (zy_up s c k (s.1 26 u)) 22 5 x).1 43 4 = s.1 22 6 := by rw [o 43 4 (by decide), j2]
      unfold zyF177
      rw [o5, o4, exn, o 45 u (by decide), o 47 u (by decide), if_pos (show s.1 22 5 ≠ s.1 22 6 from fun g => hu (by rw [g]; exact Int.le_refl _)), if_pos hin, if_pos hin, if_pos hq, ← hx]
    · refine zI_jmp h hp (v := s.1 26 u) va (x := x) (by omega) (by omega) rfl ?_
      intro a b
      rw [← ra]
      simp only [zy_up_at]
      by_cases g2 : a = 43 ∧ b = 5
      · rw [if_pos g2, if_pos (Or.inr g2)]
      · rw [if_neg g2]
        by_cases g1 : a = 44 ∧ b = (s.1 45 u).toNatClampNeg
        · rw [if_pos g1, if_neg (by omega), if_pos (Or.inr g1)]
        · rw [if_neg g1]
          by_cases g4 : a = 22 ∧ b = 5
          · rw [if_pos g4, if_pos (Or.inl g4)]
          · rw [if_neg g4]
            by_cases g3 : a = c ∧ b = k
            · rw [if_pos g3, if_neg (by omega), if_pos (Or.inl g3)]
            · rw [if_neg g3, if_neg (by omega), if_neg (by omega)]
