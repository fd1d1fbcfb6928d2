def zorcOM (m d : Nat) (t : zA_T) : Option (List zR_) := if m = 55 then (match t.2.2.1 with
  | [(0, k), (1, a), (2, b), (3, c)] => if 100 ≤ d ∧ k = (2, .ofNat 15) ∧ zinb t.1 a 0 5 = true ∧ zinb t.1 b 0 16777215 = true ∧ zinb t.1 c 0 16777215 = true ∧ t.2.2.2.2 = (0, 0) ∧ zHeq t.2.1 zHW = true then some [(t.1, zHW, some (0, 0))] else none
  | _ => none) else none
theorem zL2.nil1 {α β : Type} {R : α → β → Prop} {bs : List β} (h : zL2 R [] bs) : bs = [] := by
  cases bs with
  | nil => rfl
  | cons a b => exact h.elim
theorem zg_Xnil {ρ : List Int} {X : zx_X} : zg_X ρ 2000000 X := fun h => absurd h (by decide)
theorem zOk_OM (l : Launch) (X : zx_X) (φ : List z_C) (P : List Int → Prop) : zOk l X 2000000 φ P zorcOM := by
  intro m d t rs h ρ ph lv _ g Q hQ
  obtain ⟨S, H, L, s0, cn⟩ := t
  obtain ⟨g1, g2, g3, g4, g5⟩ := g
  unfold zorcOM at h
  split at h
  · next hm =>
    subst hm
    dsimp only at h g1 g2 g3
    split at h
    · next _ k a b c =>
      split at h
      · next hc =>
        obtain ⟨c1, c2, c3, c4, c5, c10, c11⟩ := hc
        cases h
        subst c2
        have c11 := zHeq_eq c11
        subst c11
        subst c10
        obtain ⟨q0, lv1, rfl, ⟨k0, gk⟩, g3⟩ := zL2.cons1 g3
        obtain ⟨q1, lv2, rfl, ⟨k1, ga⟩, g3⟩ := zL2.cons1 g3
        obtain ⟨q2, lv3, rfl, ⟨k2, gb⟩, g3⟩ := zL2.cons1 g3
        obtain ⟨q3, lv4, rfl, ⟨k3, gc⟩, g3⟩ := zL2.cons1 g3
        have g3 := zL2.nil1 g3
        subst g3
        obtain ⟨x, ex, x1, x2⟩ := zinb_g g1 ga c3
        obtain ⟨y, ey, y1, y2⟩ := zinb_g g1 gb c4
        obtain ⟨z, ez, z1, z2⟩ := zinb_g g1 gc c5
        refine ZW.deeper c1 (zOM (l := l) (X := X) (φ := φ) (ρ := [y.toInt, z.toInt, x.toInt]) (fun ph' hp => hQ _ (List.mem_singleton.mpr rfl) ρ _ ph' (zLE.refl ρ) g1 (zcnH_g zHW_cn (zPhi zHW_8 hp)) (zg_ofI (by decide))) ⟨⟨y1, y2, Or.inl rfl⟩, ⟨z1, z2, Or.inl rfl⟩, ⟨x1, x2, Or.inl rfl⟩, trivial⟩ (zcnH_g zHW_cn g2) ⟨⟨k0, zcnV_g rfl gk⟩, ⟨k1, ?_⟩, ⟨k2, ?_⟩, ⟨k3, ?_⟩, trivial⟩)
        · rw [ex]; exact zg_ofK (k := 2) rfl
        · rw [ey]; exact zg_ofK (k := 0) rfl
        · rw [ez]; exact zg_ofK (k := 1) rfl
      · cases h
    · cases h
  · cases h
