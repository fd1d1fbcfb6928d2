theorem zHO_set : zHO.set 13 zW13 = zHW := zHeq_eq (by decide +kernel)
theorem zHO_set2 : zHW.set 13 (8, 13, 0, [], []) = zHO := zHeq_eq (by decide +kernel)
theorem zHO_at : zHO[13]? = some (8, 13, 0, [], []) := rfl
theorem zHW_at : zHW[13]? = some zW13 := rfl
theorem zHW_cn : zHW.all zcnC = true := by decide +kernel
def zno8 (a : zA_C) : Bool := !(a.1 == 8)
theorem zPhi {φ φ' : List z_C} {ρ : List Int} : ∀ {H : zA_H} {ph : List z_C}, H.all zno8 = true → zL2 (zg_C φ ρ) H ph → zL2 (zg_C φ' ρ) H ph
  | [], [], _, _ => trivial
  | a :: as, c :: cs, h, g => by
    simp only [List.all_cons, Bool.and_eq_true] at h
    refine ⟨?_, zPhi h.2 g.2⟩
    have h8 : a.1 ≠ 8 := by simpa [zno8] using h.1
    rcases g.1 with ⟨g1, -⟩ | g1
    · exact absurd g1 h8
    · exact Or.inr g1
  | [], _ :: _, _, g => g.elim
  | _ :: _, [], _, g => g.elim
theorem zHW_8 : zHW.all zno8 = true := by decide +kernel
/-- the heap while what was weighed is looked at: all else as it was -/
theorem zHO_of {φ : List z_C} {ρ : List Int} {ph : List z_C} (g : zL2 (zg_C φ ρ) zHW ph) : ∃ f : Nat → Int32, ph[13]? = some (.inl (0, 1536, z_I f)) ∧ (∀ j, j < 1536 → f j = -2000000000 ∨ f j = 0) ∧ zL2 (zg_C ph ρ) zHO ph := by
  obtain ⟨c, hc, gc⟩ := zL2.get g zHW_at
  obtain ⟨f, rfl, gf⟩ := zg_CI (a := zW13) rfl rfl gc
  refine ⟨f, hc, fun j hj => ?_, ?_⟩
  · have := gf j hj
    rcases this with ⟨h, -⟩ | ⟨h, -⟩ | ⟨h, -⟩ | ⟨h, -⟩ | ⟨h, -⟩ | ⟨h, -⟩ | ⟨-, h⟩
    · exact absurd (show (7 : Nat) = 0 from h) (by decide)
    · exact absurd (show (7 : Nat) = 1 from h) (by decide)
    · exact absurd (show (7 : Nat) = 2 from h) (by decide)
    · exact absurd (show (7 : Nat) = 3 from h) (by decide)
    · exact absurd (show (7 : Nat) = 4 from h) (by decide)
    · exact absurd (show (7 : Nat) = 5 from h) (by decide)
    rcases h with ⟨x, e, q, hq, h1, h2⟩ | ⟨h, -⟩ | ⟨h, -⟩
    · cases e
      have hq2 : q ∈ [((-2000000000 : Int), (-2000000000 : Int)), ((0 : Int), (0 : Int))] := hq
      rcases List.mem_cons.mp hq2 with rfl | hq2
      · have e : (-2000000000 : Int32).toInt = -2000000000 := by decide
        exact Or.inl (Int32.toInt_inj.mp (by omega))
      · rw [List.mem_singleton] at hq2
        subst hq2
        have e : (0 : Int32).toInt = 0 := by decide
        exact Or.inr (Int32.toInt_inj.mp (by omega))
    · exact absurd (show (7 : Nat) = 8 from h) (by decide)
    · exact absurd (show (7 : Nat) = 9 from h) (by decide)
  · have g2 := zPhi (φ' := ph) zHW_8 g
    have g3 := zL2.setL (a := ((8, 13, 0, [], []) : zA_C)) 13 g2 (fun b hb => Or.inl ⟨rfl, hb⟩)
    rw [zHO_set2] at g3
    exact g3
