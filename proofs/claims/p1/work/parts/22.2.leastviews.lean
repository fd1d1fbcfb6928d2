/-! PART 22, 2: leastViews -/
set_option maxRecDepth 100000 in
theorem zLV_0 : zxp 1000000 (zfinR zHB (some (0, 0))) zno zorcLW 9000 79 110 0 (zLVt 0) [] = true := by decide +kernel
set_option maxRecDepth 100000 in
theorem zLV_1 : zxp 1000000 (zfinR zHB (some (0, 0))) zno zorcLW 9000 79 110 0 (zLVt 1) [] = true := by decide +kernel
set_option maxRecDepth 100000 in
theorem zLV_2 : zxp 1000000 (zfinR zHB (some (0, 0))) zno zorcLW 9000 79 110 0 (zLVt 2) [] = true := by decide +kernel
set_option maxRecDepth 100000 in
theorem zLV_3 : zxp 1000000 (zfinR zHB (some (0, 0))) zno zorcLW 9000 79 110 0 (zLVt 3) [] = true := by decide +kernel
set_option maxRecDepth 100000 in
theorem zLV_4 : zxp 1000000 (zfinR zHB (some (0, 0))) zno zorcLW 9000 79 110 0 (zLVt 4) [] = true := by decide +kernel
set_option maxRecDepth 100000 in
theorem zLV_5 : zxp 1000000 (zfinR zHB (some (0, 0))) zno zorcLW 9000 79 110 0 (zLVt 5) [] = true := by decide +kernel
theorem zLV_run (a : Nat) (ha : a < 6) : zxp 1000000 (zfinR zHB (some (0, 0))) zno zorcLW 9000 79 110 0 (zLVt a) [] = true := by
  rcases (by omega : a = 0 ∨ a = 1 ∨ a = 2 ∨ a = 3 ∨ a = 4 ∨ a = 5) with rfl | rfl | rfl | rfl | rfl | rfl
  · exact zLV_0
  · exact zLV_1
  · exact zLV_2
  · exact zLV_3
  · exact zLV_4
  · exact zLV_5
theorem zOk_LV (l : Launch) (X : zx_X) (XL : Nat) (φ : List z_C) : zOk l X XL φ zPt zorcLV := by
  intro m d t rs h ρ ph lv _ g Q hQ
  obtain ⟨S, H, L, s0, cn⟩ := t
  obtain ⟨g1, g2, g3, g4, g5⟩ := g
  unfold zorcLV at h
  split at h
  · next hm =>
    subst hm
    dsimp only at h g1 g2 g3
    split at h
    · next _ k a c =>
      split at h
      · next hc =>
        obtain ⟨c1, c2, c3, c4, c5, c9, c10, c11⟩ := hc
        cases h
        subst c2
        have c11 := zHeq_eq c11
        subst c11
        subst c10
        obtain ⟨q0, lv1, rfl, ⟨k0, gk⟩, g3⟩ := zL2.cons1 g3
        obtain ⟨q1, lv2, rfl, ⟨k1, ga⟩, g3⟩ := zL2.cons1 g3
        obtain ⟨q3, lv4, rfl, ⟨k3, gc⟩, g3⟩ := zL2.cons1 g3
        obtain ⟨x, ex, x1, x2⟩ := zinb_g g1 gc c9
        have ea : a = (0, .ofNat a.2.toNat) := Prod.ext c3 (Int.toNat_of_nonneg c4).symm
        have run := zLV_run a.2.toNat (by omega)
        refine ZW.deeper c1 (zcon_run (φ := φ) (zOk_LW l X _ φ) zHB_cn rfl (by decide) run (fun v ph' h1 h2 => hQ _ (List.mem_singleton.mpr rfl) ρ v ph' (zLE.refl ρ) g1 (zcnH_g zHB_cn h1) (zcnR_g rfl h2)) (zCt_no l X _ φ zPt Q) (ρ := [x.toInt]) ⟨⟨⟨x1, x2, Or.inl rfl⟩, trivial⟩, zcnH_g zHB_cn g2, ⟨⟨k0, zcnV_g rfl gk⟩, ⟨k1, zcnV_g rfl (ea ▸ ga)⟩, ⟨k3, ?_⟩, (by cases lv4 with | nil => exact trivial | cons a b => exact g3.elim)⟩, trivial, zg_Xbig _ _⟩)
        rw [ex]
        exact zg_ofK (k := 0) rfl
      · cases h
    · cases h
  · cases h
