section ZM
variable {l : Launch} {X : zx_X} {φ : List z_C} {Q : Option Value → List z_C → Prop} {f : Nat → Int32}
theorem zom_fin (hQ : zom_Q Q) (h13 : φ[13]? = some (.inl (0, 1536, z_I f))) (hf : ∀ j, j < 1536 → f j = -2000000000 ∨ f j = 0) (P : List Int → Prop) : zFn φ P Q (zfinR zHO (some (0, 0))) := by
  intro t r h ρ ph v _ gS gH gR
  obtain ⟨h1, h2⟩ := zw_and h
  have e1 := zHeq_eq h1
  have e2 := of_decide_eq_true h2
  subst e2
  rw [e1] at gH
  rw [zg_R0 gR]
  exact hQ ph (zHW_of h13 hf gH _ _)
set_option maxRecDepth 100000 in
theorem zom_r51 : zx1 2000000 (zfinR zHO (some (0, 0))) zno zon 4000 55 100 51 zom_Y [] = true := by decide +kernel
theorem zom_51 (hQ : zom_Q Q) (h13 : φ[13]? = some (.inl (0, 1536, z_I f))) (hf : ∀ j, j < 1536 → f j = -2000000000 ∨ f j = 0) : zGd l X 2000000 φ (zom_P f) Q 55 100 51 zom_Y [] :=
  zGd_run (zom_Pup f) (zom_fin hQ h13 hf _) (zOk_no l X _ φ _) (zCt_no l X _ φ _ Q) (by decide) zom_r51
theorem zom_d50 : decode (zm 55).2.1 50 = .ok (.iaload, 1) := by decide +kernel
theorem zom_d14 : decode (zm 55).2.1 14 = .ok (.iaload, 1) := by decide +kernel
theorem zom_d43 : decode (zm 55).2.1 43 = .ok (.iastore, 1) := by decide +kernel
end ZM
