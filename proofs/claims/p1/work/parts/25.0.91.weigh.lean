def zia_Z : zA_T := ([(0, 16777215, zD0), (0, 16777215, zD0)], zHW, [(0, (2, .ofNat 15)), (1, (1, .ofNat 0)), (2, (1, .ofNat 1))], [], 0, 0)
set_option maxRecDepth 100000 in
theorem zia_r : zx1 2000000 (zfinR zHW (some (0, 0))) zno zorcOM 4000 54 110 0 zia_Z [] = true := by decide +kernel
/-- inAll: 0 -/
def zorcIA (m d : Nat) (t : zA_T) : Option (List zR_) := if m = 54 then (match t.2.2.1 with
  | [(0, k), (1, b), (2, c)] => if 110 ≤ d ∧ k = (2, .ofNat 15) ∧ zinb t.1 b 0 16777215 = true ∧ zinb t.1 c 0 16777215 = true ∧ t.2.2.2.2 = (0, 0) ∧ zHeq t.2.1 zHW = true then some [(t.1, zHW, some (0, 0))] else none
  | _ => none) else none
theorem zOk_IA (l : Launch) (X : zx_X) (φ : List z_C) (P : List Int → Prop) : zOk l X 2000000 φ P zorcIA := by
  intro m d t rs h ρ ph lv _ g Q hQ
  obtain ⟨S, H, L, s0, cn⟩ := t
  obtain ⟨g1, g2, g3, g4, g5⟩ := g
  unfold zorcIA at h
  split at h
  · next hm =>
    subst hm
    dsimp only at h g1 g2 g3
    split at h
    · next _ k b c =>
      split at h
      · next hc =>
        obtain ⟨c1, c2, c4, c5, c10, c11⟩ := hc
        cases h
        subst c2
        have c11 := zHeq_eq c11
        subst c11
        subst c10
        obtain ⟨q0, lv1, rfl, ⟨k0, gk⟩, g3⟩ := zL2.cons1 g3
        obtain ⟨q2, lv3, rfl, ⟨k2, gb⟩, g3⟩ := zL2.cons1 g3
        obtain ⟨q3, lv4, rfl, ⟨k3, gc⟩, g3⟩ := zL2.cons1 g3
        have g3 := zL2.nil1 g3
        subst g3
        obtain ⟨y, ey, y1, y2⟩ := zinb_g g1 gb c4
        obtain ⟨z, ez, z1, z2⟩ := zinb_g g1 gc c5
        have hfin : zFn φ zPt Q (zfinR zHW (some (0, 0))) := by
          intro t r h ρ1 ph1 v _ gS gH gR
          obtain ⟨h1, h2⟩ := zw_and h
          have e1 := zHeq_eq h1
          have e2 := of_decide_eq_true h2
          subst e2
          rw [e1] at gH
          rw [zg_R0 gR]
          exact hQ _ (List.mem_singleton.mpr rfl) ρ _ ph1 (zLE.refl ρ) g1 (zcnH_g zHW_cn gH) (zg_ofI (by decide))
        refine ZW.deeper c1 (zGd_run (l := l) (X := X) (φ := φ) (Q0 := Q) (P := zPt) (fun _ _ _ h => h) hfin (zOk_OM l X φ zPt) (zCt_no l X _ φ zPt Q) (by decide) zia_r [y.toInt, z.toInt] ph _ [] [] trivial ⟨⟨⟨y1, y2, Or.inl rfl⟩, ⟨z1, z2, Or.inl rfl⟩, trivial⟩, zcnH_g zHW_cn g2, ⟨⟨k0, zcnV_g rfl gk⟩, ⟨k2, ?_⟩, ⟨k3, ?_⟩, trivial⟩, trivial, zg_Xnil⟩ trivial)
        · rw [ey]; exact zg_ofK (k := 0) rfl
        · rw [ez]; exact zg_ofK (k := 1) rfl
      · cases h
    · cases h
  · cases h
