section ZM
variable {l : Launch} {X : zx_X} {φ : List z_C} {Q : Option Value → List z_C → Prop} {f : Nat → Int32}
/-- onMatter: 0 -/
theorem zOM (hQ : zom_Q Q) {ρ : List Int} {ph : List z_C} {lv : List (Nat × Value)} (g1 : zg_S ρ zom_Z.1) (g2 : zL2 (zg_C φ ρ) zHW ph) (g3 : zg_L ρ zom_Z.2.2.1 lv) : ZW l 100 (zm 55) X (zmc 55).1 (zmc 55).2 Q 0 lv [] ph 0 0 := by
  obtain ⟨f, h13, hf, gO⟩ := zHO_of g2
  exact zom_0 (l := l) (X := X) (φ := ph) hQ h13 hf ρ ph lv [] [] trivial ⟨g1, gO, g3, trivial, fun hx => absurd hx (by decide)⟩ trivial
end ZM
