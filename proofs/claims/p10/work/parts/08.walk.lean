/-! PART 08w: a method's code looked at from its first byte to its last. -/
noncomputable def zwk1 (m pc : Nat) (b : UInt8) (r : List UInt8) : Bool := match zi_get m pc with
  | none => true
  | some I => (match zdcd b r with
    | some q => zcko (zm m) pc I.1 I.2.1 I.2.2 q.1 q.2
    | none => zchk m pc)
noncomputable def zwk (m : Nat) (L : List UInt8) : Nat → Bool := List.rec (fun _ => true) (fun b r ih pc => zwk1 m pc b r && ih (pc + 1)) L
theorem zwk_g {m : Nat} : ∀ (L : List UInt8) (p : Nat), zwk m L p = true → (zm m).2.1.data.toList.drop p = L → ∀ k, k < L.length → zchk m (p + k) = true
  | [], _, _, _, k, hk => absurd hk (Nat.not_lt_zero k)
  | b :: r, p, h, hd, k, hk => by
    have h : (zwk1 m p b r && zwk m r (p + 1)) = true := h
    obtain ⟨h1, h2⟩ := (Bool.and_eq_true_iff.mp h)
    cases k with
    | zero =>
      show zchk m p = true
      unfold zwk1 at h1
      split at h1
      · next hi => simp only [zchk, hi]
      · next I hi =>
        split at h1
        · next q hq =>
          simp only [zchk, hi, zdcd_g hq hd]
          exact h1
        · exact h1
    | succ k =>
      have := zwk_g r (p + 1) h2 (zuD hd) k (Nat.lt_of_succ_lt_succ hk)
      rw [show p + (k + 1) = p + 1 + k by omega]
      exact this
noncomputable def zwr (m n : Nat) : Bool := (List.range' n (zbd m - n)).all (fun pc => match zi_get m pc with
  | none => true
  | some _ => false)
noncomputable def zchkF (m : Nat) : Bool := zwk m (zm m).2.1.data.toList 0 && zwr m (zm m).2.1.data.toList.length
theorem zchkF_g {m : Nat} (h : zchkF m = true) (pc : Nat) (hpc : pc < zbd m) : zchk m pc = true := by
  obtain ⟨h1, h2⟩ := (Bool.and_eq_true_iff.mp h)
  rcases Nat.lt_or_ge pc (zm m).2.1.data.toList.length with q | q
  · have := zwk_g _ 0 h1 rfl pc q
    rw [Nat.zero_add] at this
    exact this
  · have := List.all_eq_true.mp h2 pc (List.mem_range'_1.mpr ⟨q, by omega⟩)
    unfold zchk
    split at this
    · next hi => simp only [hi]
    · cases this
