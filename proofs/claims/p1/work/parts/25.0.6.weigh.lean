section ZM
variable {l : Launch} {X : zx_X} {φ : List z_C} {Q : Option Value → List z_C → Prop} {f : Nat → Int32}
theorem zom_44 (hQ : zom_Q Q) (h13 : φ[13]? = some (.inl (0, 1536, z_I f))) (hf : ∀ j, j < 1536 → f j = -2000000000 ∨ f j = 0) : zGd l X 2000000 φ (zom_P f) Q 55 100 44 zom_D [] :=
  zGd_run (zom_Pup f) (znf_ok _) (zOk_no l X _ φ _) (zcut1 (zom_50 hQ h13 hf)) (by decide) zom_r44
theorem zom_15z (hQ : zom_Q Q) (h13 : φ[13]? = some (.inl (0, 1536, z_I f))) (hf : ∀ j, j < 1536 → f j = -2000000000 ∨ f j = 0) : zGd l X 2000000 φ (zom_P f) Q 55 100 15 zom_F [] :=
  zGd_run (zom_Pup f) (znf_ok _) (zOk_no l X _ φ _) (zcut1 (zom_50 hQ h13 hf)) (by decide) zom_rF
theorem zom_43 (hQ : zom_Q Q) (h13 : φ[13]? = some (.inl (0, 1536, z_I f))) (hf : ∀ j, j < 1536 → f j = -2000000000 ∨ f j = 0) : zGd l X 2000000 φ zPt Q 55 100 43 zom_C [] := by
  intro ρ ph lv st cst _ g gs
  obtain ⟨g1, g2, g3, g4, g5⟩ := g
  obtain ⟨v, st1, rfl, gv, gr⟩ := zL2.cons1 g4
  obtain ⟨x, rfl, ex⟩ := zom_st gr
  have ev := zg_R0 (v := some v) gv
  cases ev
  have hb : (0 : Int) ≤ x.toInt ∧ x.toInt ≤ 1535 := zS_rng g1 (rfl : zom_C.1[12]? = some (0, 1535, (10, (1, .ofNat 8), (1, .ofNat 11)))) ex
  refine zs_iastore zom_d43 (zom_ph g2 h13) (vp_in_iff.mpr ⟨hb.1, by omega⟩) ?_
  generalize hph' : ph.set 13 (.inl (0, 1536, z_I (upd f x.toNatClampNeg 0))) = ph'
  have hf' : ∀ j, j < 1536 → upd f x.toNatClampNeg 0 j = -2000000000 ∨ upd f x.toNatClampNeg 0 j = 0 := by
    intro j hj
    simp only [upd]
    split
    · exact Or.inr rfl
    · exact hf j hj
  have hl : 13 < ph.length := by
    have := zom_ph g2 h13
    exact (List.getElem?_eq_some_iff.mp this).1
  have h13' : ph'[13]? = some (.inl (0, 1536, z_I (upd f x.toNatClampNeg 0))) := by
    rw [← hph', List.getElem?_set_self hl]
  have gW := zHW_of h13 hf g2 [] ρ
  have gO : zL2 (zg_C ph' ρ) zHO ph' := by
    have u1 := zL2.set (a := ((8, 13, 0, [], []) : zA_C)) (b := .inl (0, 1536, z_I (upd f x.toNatClampNeg 0))) (R := zg_C ph' ρ) (Or.inl ⟨rfl, h13'⟩) 13 (zPhi (φ' := ph') zHW_8 gW)
    rw [zHO_set2, hph'] at u1
    exact u1
  refine zom_44 (φ := ph') hQ h13' hf' ρ ph' lv [] cst ⟨_, ex, ?_⟩ ⟨g1, gO, g3, trivial, g5⟩ gs
  show upd f x.toNatClampNeg 0 x.toNatClampNeg = 0
  simp [upd]
end ZM
