theorem zHW_of {φ : List z_C} {ρ : List Int} {ph : List z_C} {f : Nat → Int32} (h13 : φ[13]? = some (.inl (0, 1536, z_I f))) (hf : ∀ j, j < 1536 → f j = -2000000000 ∨ f j = 0) (g : zL2 (zg_C φ ρ) zHO ph) (φ' : List z_C) (ρ' : List Int) : zL2 (zg_C φ' ρ') zHW ph := by
  obtain ⟨c, hc, gc⟩ := zL2.get g zHO_at
  have ec : φ[13]? = some c := by
    rcases gc with ⟨-, gc⟩ | ⟨h, -⟩ | ⟨h, -⟩ | ⟨h, -⟩ | ⟨h, -⟩
    · exact gc
    all_goals exact absurd h (by decide)
  rw [h13] at ec
  cases ec
  have g3 := zL2.setL (a := zW13) 13 g (fun b hb => by
    rw [hc] at hb
    cases hb
    refine Or.inr (Or.inr (Or.inl ⟨rfl, rfl, f, rfl, fun j hj => ?_⟩))
    have hv : zg_V ρ (7, .ofNat 4294967296) (.int (f j)) := by
      refine Or.inr (Or.inr (Or.inr (Or.inr (Or.inr (Or.inr ⟨by decide, Or.inl ⟨f j, rfl, ?_⟩⟩)))))
      show ∃ q ∈ [((-2000000000 : Int), (-2000000000 : Int)), ((0 : Int), (0 : Int))], q.1 ≤ (f j).toInt ∧ (f j).toInt ≤ q.2
      rcases hf j hj with e | e
      · exact ⟨(-2000000000, -2000000000), List.mem_cons_self, by rw [e]; decide, by rw [e]; decide⟩
      · exact ⟨(0, 0), List.mem_cons_of_mem _ List.mem_cons_self, by rw [e]; decide, by rw [e]; decide⟩
    exact hv)
  rw [zHO_set] at g3
  exact zcnH_g zHW_cn (zPhi zHW_8 g3)
