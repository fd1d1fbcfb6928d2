/-! PART 22, 1: leastWith -/
set_option maxRecDepth 100000 in
theorem zLW_0 : (List.range 16).all (fun b => zxp 1000000 (zfinR zHB (some (0, 0))) zno zon 3000 80 100 0 (zLWt b 0) []) = true := by decide +kernel
set_option maxRecDepth 100000 in
theorem zLW_1 : (List.range 16).all (fun b => zxp 1000000 (zfinR zHB (some (0, 0))) zno zon 3000 80 100 0 (zLWt b 1) []) = true := by decide +kernel
set_option maxRecDepth 100000 in
theorem zLW_2 : (List.range 16).all (fun b => zxp 1000000 (zfinR zHB (some (0, 0))) zno zon 3000 80 100 0 (zLWt b 2) []) = true := by decide +kernel
set_option maxRecDepth 100000 in
theorem zLW_3 : (List.range 16).all (fun b => zxp 1000000 (zfinR zHB (some (0, 0))) zno zon 3000 80 100 0 (zLWt b 3) []) = true := by decide +kernel
set_option maxRecDepth 100000 in
theorem zLW_4 : (List.range 16).all (fun b => zxp 1000000 (zfinR zHB (some (0, 0))) zno zon 3000 80 100 0 (zLWt b 4) []) = true := by decide +kernel
set_option maxRecDepth 100000 in
theorem zLW_5 : (List.range 16).all (fun b => zxp 1000000 (zfinR zHB (some (0, 0))) zno zon 3000 80 100 0 (zLWt b 5) []) = true := by decide +kernel
theorem zLW_run (a : Nat) (ha : a < 6) (b : Nat) (hb : b < 16) : zxp 1000000 (zfinR zHB (some (0, 0))) zno zon 3000 80 100 0 (zLWt b a) [] = true := by
  rcases (by omega : a = 0 ∨ a = 1 ∨ a = 2 ∨ a = 3 ∨ a = 4 ∨ a = 5) with rfl | rfl | rfl | rfl | rfl | rfl
  · exact List.all_eq_true.mp zLW_0 b (List.mem_range.mpr hb)
  · exact List.all_eq_true.mp zLW_1 b (List.mem_range.mpr hb)
  · exact List.all_eq_true.mp zLW_2 b (List.mem_range.mpr hb)
  · exact List.all_eq_true.mp zLW_3 b (List.mem_range.mpr hb)
  · exact List.all_eq_true.mp zLW_4 b (List.mem_range.mpr hb)
  · exact List.all_eq_true.mp zLW_5 b (List.mem_range.mpr hb)
theorem zOk_LW (l : Launch) (X : zx_X) (XL : Nat) (φ : List z_C) : zOk l X XL φ zPt zorcLW := by
  intro m d t rs h ρ ph lv _ g Q hQ
  obtain ⟨S, H, L, s0, cn⟩ := t
  obtain ⟨g1, g2, g3, g4, g5⟩ := g
  unfold zorcLW at h
  split at h
  · next hm =>
    subst hm
    dsimp only at h g1 g2 g3
    split at h
    · next _ k a b c =>
      split at h
      · next hc =>
        obtain ⟨c1, c2, c3, c4, c5, c6, c7, c8, c9, c10, c11⟩ := hc
        cases h
        subst c2
        have c11 := zHeq_eq c11
        subst c11
        subst c10
        obtain ⟨q0, lv1, rfl, ⟨k0, gk⟩, g3⟩ := zL2.cons1 g3
        obtain ⟨q1, lv2, rfl, ⟨k1, ga⟩, g3⟩ := zL2.cons1 g3
        obtain ⟨q2, lv3, rfl, ⟨k2, gb⟩, g3⟩ := zL2.cons1 g3
        obtain ⟨q3, lv4, rfl, ⟨k3, gc⟩, g3⟩ := zL2.cons1 g3
        obtain ⟨x, ex, x1, x2⟩ := zinb_g g1 gc c9
        have ea : a = (0, .ofNat a.2.toNat) := Prod.ext c3 (Int.toNat_of_nonneg c4).symm
        have eb : b = (0, .ofNat b.2.toNat) := Prod.ext c6 (Int.toNat_of_nonneg c7).symm
        have run := zLW_run a.2.toNat (by omega) b.2.toNat (by omega)
        refine ZW.deeper c1 (zcon_run (φ := φ) (zOk_no l X _ φ zPt) zHB_cn rfl (by decide) run (fun v ph' h1 h2 => hQ _ (List.mem_singleton.mpr rfl) ρ v ph' (zLE.refl ρ) g1 (zcnH_g zHB_cn h1) (zcnR_g rfl h2)) (zCt_no l X _ φ zPt Q) (ρ := [x.toInt]) ⟨⟨⟨x1, x2, Or.inl rfl⟩, trivial⟩, zcnH_g zHB_cn g2, ⟨⟨k0, zcnV_g rfl gk⟩, ⟨k1, zcnV_g rfl (ea ▸ ga)⟩, ⟨k2, zcnV_g rfl (eb ▸ gb)⟩, ⟨k3, ?_⟩, (by cases lv4 with | nil => exact trivial | cons a b => exact g3.elim)⟩, trivial, zg_Xbig _ _⟩)
        rw [ex]
        exact zg_ofK (k := 0) rfl
      · cases h
    · cases h
  · cases h
