/-! PART 46.93: runs that leave what is told. Made by wip/v4/gen_rest.py. -/
/-- t is as s in all that is told -/
def zSm (s t : zy_S) : Prop := zy_Wb t = true ∧ zRg t ∧ (∀ c k, zto c k = true → t.1 c k = s.1 c k) ∧ (∀ d, d < 6 → t.2.1 (zy_sh d + 1) = s.2.1 (zy_sh d + 1)) ∧ t.2.1 62 = s.2.1 62
theorem zSm_I {s t : zy_S} (h : zI s) (g : zSm s t) : zI t := zI_same h g.1 g.2.1 g.2.2.1 g.2.2.2.1 g.2.2.2.2
theorem zSm_refl {s : zy_S} (h : zI s) : zSm s s := ⟨h.1, h.2.1, fun _ _ _ => rfl, fun _ _ => rfl, rfl⟩
theorem zSm_trans {s t u : zy_S} (h : zSm s t) (g : zSm t u) : zSm s u := ⟨g.1, g.2.1, fun c k hc => (g.2.2.1 c k hc).trans (h.2.2.1 c k hc), fun d hd => (g.2.2.2.1 d hd).trans (h.2.2.2.1 d hd), g.2.2.2.2.trans h.2.2.2.2⟩
theorem zSm_up {s t : zy_S} {c k : Nat} {x : Int32} (h : zSm s t) (hc : ∀ j, zto c j = false) (hx : k < zrn c → zin x (zrg c k).1 (zrg c k).2) : zSm s (zy_up t c k x) := by
  refine ⟨h.1, zRg_up h.2.1 hx, fun a b hb => ?_, h.2.2.2.1, h.2.2.2.2⟩
  have e : a ≠ c := fun e => by
    rw [e, hc b] at hb
    cases hb
  rw [zf_up e]
  exact h.2.2.1 a b hb
theorem zyR_mono {X : zx_X} {d m pc : Nat} {lv : List (Option Value)} {st : List Value} {s : zy_S} {P P' : Option Value → zy_S → Prop} (h : ∀ u t, P u t → P' u t) (k : zyR X d m pc lv st s P) : zyR X d m pc lv st s P' := fun l Q hQ => k l Q (fun v s' p => hQ v s' (h v s' p))
theorem zEu {ρ : List Int} (x : Int32) : zg_E ρ x.toInt ((.negSucc 2147483647), (.ofNat 2147483647), zD0) := ⟨by have := zq_lo x; show (-2147483648 : Int) ≤ x.toInt; omega, by have := zq_hi x; show x.toInt ≤ (2147483647 : Int); omega, Or.inl rfl⟩
theorem zEr {ρ : List Int} {x : Int32} {lo hi : Int} (h1 : lo ≤ x.toInt) (h2 : x.toInt ≤ hi) : zg_E ρ x.toInt (lo, hi, zD0) := ⟨h1, h2, Or.inl rfl⟩
theorem zVi {ρ : List Int} {a : zA_V} {x : Int32} (h : a.1 = 1) (h2 : ρ[a.2.toNat]? = some x.toInt) : zg_V ρ a (.int x) := Or.inr (Or.inl ⟨h, x, rfl, h2⟩)
theorem zVr {ρ : List Int} {a : zA_V} {r : Nat} (h : a.1 = 2) (h2 : a.2.toNat = r) : zg_V ρ a (.ref r) := Or.inr (Or.inr (Or.inl ⟨h, by rw [h2]⟩))
/-- a contract whose ends are heaps in wide words, as a run -/
theorem zcR0 {m d : Nat} {te : zA_T} {gs : List Nat} {al : List zAlt} {Pr : Option Value → Prop} (hc : zCon m d te gs al) (ha : al.all (fun alt => zfrL 0 alt.2.2.1 zHT) = true) (hr : ∀ alt ∈ al, ∀ G vals v, zAok G vals alt → zg_R vals alt.2.2.2 v → Pr v) (eH : zfrL 0 te.2.1 zHT = true) (e2 : te.2.2.2.2 = zmc m) (e0 : te.2.2.2.1 = []) {s : zy_S} (hw : zy_Wb s = true) (hg : zRg s) {ρ : List Int} {L : List (Option Value)} (gS : zg_S ρ te.1) (gL : zg_L ρ te.2.2.1 (zy_lf 0 L)) (X : zx_X) : zyR X d m 0 L [] s (fun u t => zSm s t ∧ Pr u) := by
  intro l Q hQ
  have gT : ∀ ρ', zL2 (zg_C (zy_hp s) ρ') zHT (zy_hp s) := fun ρ' => zL2.mono (fun _ _ => zg_C.mono (fun k n q => by simp at q)) (zb_to hg (zy_Wb_g hw))
  have hφ : ∀ k, (zy_hp s)[0 + k]? = (zy_hp s)[k]? := fun k => by rw [Nat.zero_add]
  have gH := zfrL_to eH hφ (gT ρ)
  have := hc l X (zy_hp s) Q ρ (zy_hp s) (zy_lf 0 L) ⟨gS, gH, gL, by rw [e0]; trivial, zg_Xno _ _ _ (by decide) (by decide)⟩ (fun alt hal vals hv v ph' g gR => by
    have a1 := List.all_eq_true.mp ha alt hal
    have g := zfrL_back a1 hφ (gT vals) g
    obtain ⟨e, k⟩ := zb_back zb_all g
    have hJ := zH_J k
    rw [e]
    exact hQ v _ ⟨⟨zy_Wb_of (zb_W rfl g), zH_rg hg k, fun c k' hc' => zH_to k hc', hJ.1, hJ.2⟩, hr alt hal _ _ _ hv gR⟩)
  rw [e2] at this
  exact this
