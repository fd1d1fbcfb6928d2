section ZM
variable {l : Launch} {X : zx_X} {φ : List z_C} {Q : Option Value → List z_C → Prop} {f : Nat → Int32}
theorem zom_st {ρ : List Int} {st : List Value} (g : zL2 (zg_V ρ) [(1, .ofNat 12), (2, .ofNat 16)] st) : ∃ x : Int32, st = [.int x, .ref (13 + 3)] ∧ ρ[12]? = some x.toInt := by
  obtain ⟨v, st1, rfl, gv, gr⟩ := zL2.cons1 g
  obtain ⟨w, st2, rfl, gw, gn⟩ := zL2.cons1 gr
  cases st2 with
  | cons a b => exact gn.elim
  | nil =>
    obtain ⟨x, rfl, ex⟩ := zg_int (a := (1, .ofNat 12)) rfl gv
    have e2 := zg_ref (a := (2, .ofNat 16)) rfl gw
    subst e2
    refine ⟨x, rfl, ?_⟩
    rcases ex with ⟨e, -⟩ | ⟨-, e⟩
    · exact absurd e (by decide)
    · exact e
theorem zom_ph {ρ : List Int} {ph : List z_C} (g : zL2 (zg_C φ ρ) zHO ph) (h13 : φ[13]? = some (.inl (0, 1536, z_I f))) : ph[13]? = some (.inl (0, 1536, z_I f)) := by
  obtain ⟨c, hc, gc⟩ := zL2.get g zHO_at
  rcases gc with ⟨-, gc⟩ | ⟨h, -⟩ | ⟨h, -⟩ | ⟨h, -⟩ | ⟨h, -⟩
  · have gc : φ[13]? = some c := gc
    rw [h13] at gc
    cases gc
    exact hc
  all_goals exact absurd h (by decide)
theorem zom_50 (hQ : zom_Q Q) (h13 : φ[13]? = some (.inl (0, 1536, z_I f))) (hf : ∀ j, j < 1536 → f j = -2000000000 ∨ f j = 0) : zGd l X 2000000 φ (zom_P f) Q 55 100 50 zom_E [] := by
  intro ρ ph lv st cst hp g gs
  obtain ⟨g1, g2, g3, g4, g5⟩ := g
  obtain ⟨x, rfl, ex⟩ := zom_st g4
  obtain ⟨n, hn, h0⟩ := hp
  rw [ex] at hn
  cases hn
  have hb : (0 : Int) ≤ x.toInt ∧ x.toInt ≤ 1535 := zS_rng g1 (rfl : zom_E.1[12]? = some (0, 1535, (10, (1, .ofNat 8), (1, .ofNat 11)))) ex
  refine zs_iaload zom_d50 (zom_ph g2 h13) (vp_in_iff.mpr ⟨hb.1, by omega⟩) ?_
  have e : f x.toNatClampNeg = 0 := h0
  rw [e]
  exact zom_51 hQ h13 hf ρ ph lv _ cst ⟨_, ex, h0⟩ ⟨g1, g2, g3, ⟨zg_ofI (by decide), trivial⟩, g5⟩ gs
set_option maxRecDepth 100000 in
theorem zom_r44 : zx1 2000000 znf (zcuts 55 100 50 [zom_E]) zon 4000 55 100 44 zom_D [] = true := by decide +kernel
set_option maxRecDepth 100000 in
theorem zom_rF : zx1 2000000 znf (zcuts 55 100 50 [zom_E]) zon 4000 55 100 15 zom_F [] = true := by decide +kernel
set_option maxRecDepth 100000 in
theorem zom_rB : zx1 2000000 znf (zcuts 55 100 43 [zom_C]) zon 4000 55 100 15 zom_B [] = true := by decide +kernel
set_option maxRecDepth 100000 in
theorem zom_rZ : zx1 2000000 znf (zcuts 55 100 14 [zom_A]) zon 4000 55 100 0 zom_Z [] = true := by decide +kernel
theorem zcut1 {XL : Nat} {P : List Int → Prop} {m0 d0 pc0 : Nat} {t0 : zA_T} (h : zGd l X XL φ P Q m0 d0 pc0 t0 []) : ∀ (m d pc : Nat) (t : zA_T) (stk : List zA_F), zcuts m0 d0 pc0 [t0] m d pc t stk = true → zGd l X XL φ P Q m d pc t stk :=
  zcuts_g (fun t ht => by rw [List.mem_singleton] at ht; subst ht; exact h)
end ZM
