section ZM
variable {l : Launch} {X : zx_X} {φ : List z_C} {Q : Option Value → List z_C → Prop} {f : Nat → Int32}
theorem zom_15v (hQ : zom_Q Q) (h13 : φ[13]? = some (.inl (0, 1536, z_I f))) (hf : ∀ j, j < 1536 → f j = -2000000000 ∨ f j = 0) : zGd l X 2000000 φ zPt Q 55 100 15 zom_B [] :=
  zGd_run (fun _ _ _ h => h) (znf_ok _) (zOk_no l X _ φ _) (zcut1 (zom_43 hQ h13 hf)) (by decide) zom_rB
theorem zom_14 (hQ : zom_Q Q) (h13 : φ[13]? = some (.inl (0, 1536, z_I f))) (hf : ∀ j, j < 1536 → f j = -2000000000 ∨ f j = 0) : zGd l X 2000000 φ zPt Q 55 100 14 zom_A [] := by
  intro ρ ph lv st cst _ g gs
  obtain ⟨g1, g2, g3, g4, g5⟩ := g
  obtain ⟨x, rfl, ex⟩ := zom_st g4
  have hb : (0 : Int) ≤ x.toInt ∧ x.toInt ≤ 1535 := zS_rng g1 (rfl : zom_A.1[12]? = some (0, 1535, (10, (1, .ofNat 8), (1, .ofNat 11)))) ex
  refine zs_iaload zom_d14 (zom_ph g2 h13) (vp_in_iff.mpr ⟨hb.1, by omega⟩) ?_
  have hl : x.toNatClampNeg < 1536 := by show x.toInt.toNat < 1536; omega
  rcases hf _ hl with e | e
  · rw [e]
    exact zom_15v hQ h13 hf ρ ph lv _ cst trivial ⟨g1, g2, g3, ⟨zg_ofI (by decide), trivial⟩, g5⟩ gs
  · rw [e]
    exact zom_15z hQ h13 hf ρ ph lv _ cst ⟨_, ex, e⟩ ⟨g1, g2, g3, ⟨zg_ofI (by decide), trivial⟩, g5⟩ gs
theorem zom_0 (hQ : zom_Q Q) (h13 : φ[13]? = some (.inl (0, 1536, z_I f))) (hf : ∀ j, j < 1536 → f j = -2000000000 ∨ f j = 0) : zGd l X 2000000 φ zPt Q 55 100 0 zom_Z [] :=
  zGd_run (fun _ _ _ h => h) (znf_ok _) (zOk_no l X _ φ _) (zcut1 (zom_14 hQ h13 hf)) (by decide) zom_rZ
end ZM
