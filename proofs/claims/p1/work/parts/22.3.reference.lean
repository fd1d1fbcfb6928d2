/-! PART 22, 3: the reference's bitsOf and nearestBoard -/
set_option maxRecDepth 100000 in
theorem zBO_run : (List.range 16).all (fun a => zxp 1000000 (zfinR zHB (some (0, zPop.getD a 0))) zno zon 1000 209 50 0 (zBOt a) []) = true := by decide +kernel
theorem zPop_cn (a : Nat) : zcnV (0, zPop.getD a 0) = true := rfl
theorem zOk_BO (l : Launch) (X : zx_X) (XL : Nat) (φ : List z_C) : zOk l X XL φ zPt zorcBO := by
  intro m d t rs h ρ ph lv _ g Q hQ
  obtain ⟨S, H, L, s0, cn⟩ := t
  obtain ⟨g1, g2, g3, g4, g5⟩ := g
  unfold zorcBO at h
  split at h
  · next hm =>
    subst hm
    dsimp only at h g1 g2 g3
    split at h
    · next _ a =>
      split at h
      · next hc =>
        obtain ⟨c1, c3, c4, c5, c10, c11⟩ := hc
        cases h
        have c11 := zHeq_eq c11
        subst c11
        subst c10
        obtain ⟨q1, lv2, rfl, ⟨k1, ga⟩, g3⟩ := zL2.cons1 g3
        have ea : a = (0, .ofNat a.2.toNat) := Prod.ext c3 (Int.toNat_of_nonneg c4).symm
        have run := List.all_eq_true.mp zBO_run a.2.toNat (List.mem_range.mpr (by omega))
        exact ZW.deeper c1 (zcon_run (φ := φ) (zOk_no l X _ φ zPt) zHB_cn (zPop_cn _) (by decide) run (fun v ph' h1 h2 => hQ _ (List.mem_singleton.mpr rfl) ρ v ph' (zLE.refl ρ) g1 (zcnH_g zHB_cn h1) (zcnR_g (zPop_cn _) h2)) (zCt_no l X _ φ zPt Q) (ρ := []) ⟨trivial, zcnH_g zHB_cn g2, ⟨⟨k1, zcnV_g rfl (ea ▸ ga)⟩, (by cases lv2 with | nil => exact trivial | cons a b => exact g3.elim)⟩, trivial, zg_Xbig _ _⟩)
      · cases h
    · cases h
  · cases h
def zNBt_0 : zA_T := ([((.ofNat 0), (.ofNat 1), zD0)], zHB, [(0, (2, (.ofNat 46))), (1, (1, (.ofNat 0)))], [], 0, 0)
def zNBt_1 : zA_T := ([((.ofNat 0), (.ofNat 1), zD0)], zHB, [(3, (0, (.ofNat 0))), (2, (0, (.ofNat 10))), (0, (2, (.ofNat 46))), (1, (1, (.ofNat 0)))], [], 0, 0)
def zNBt_2 : zA_T := ([((.ofNat 0), (.ofNat 1), zD0)], zHB, [(3, (0, (.ofNat 1))), (4, (0, (.ofNat 10))), (6, (0, (.ofNat 0))), (5, (0, (.ofNat 0))), (2, (0, (.ofNat 10))), (0, (2, (.ofNat 46))), (1, (1, (.ofNat 0)))], [], 0, 0)
def zNBt_3 : zA_T := ([((.ofNat 0), (.ofNat 1), zD0)], zHB, [(3, (0, (.ofNat 2))), (4, (0, (.ofNat 10))), (6, (0, (.ofNat 16))), (5, (0, (.ofNat 0))), (8, (0, (.ofNat 0))), (7, (0, (.ofNat 4))), (2, (0, (.ofNat 10))), (0, (2, (.ofNat 46))), (1, (1, (.ofNat 0)))], [], 0, 0)
def zNBt_4 : zA_T := ([((.ofNat 0), (.ofNat 1), zD0)], zHB, [(3, (0, (.ofNat 3))), (4, (0, (.ofNat 10))), (6, (0, (.ofNat 16))), (5, (0, (.ofNat 0))), (8, (0, (.ofNat 0))), (7, (0, (.ofNat 4))), (2, (0, (.ofNat 10))), (0, (2, (.ofNat 46))), (1, (1, (.ofNat 0)))], [], 0, 0)
def zNBt_5 : zA_T := ([((.ofNat 0), (.ofNat 1), zD0)], zHB, [(3, (0, (.ofNat 4))), (4, (0, (.ofNat 10))), (6, (0, (.ofNat 16))), (5, (0, (.ofNat 0))), (8, (0, (.ofNat 0))), (7, (0, (.ofNat 4))), (2, (0, (.ofNat 10))), (0, (2, (.ofNat 46))), (1, (1, (.ofNat 0)))], [], 0, 0)
def zNBt_6 : zA_T := ([((.ofNat 0), (.ofNat 1), zD0)], zHB, [(3, (0, (.ofNat 5))), (4, (0, (.ofNat 10))), (6, (0, (.ofNat 16))), (5, (0, (.ofNat 0))), (8, (0, (.ofNat 0))), (7, (0, (.ofNat 4))), (2, (0, (.ofNat 10))), (0, (2, (.ofNat 46))), (1, (1, (.ofNat 0)))], [], 0, 0)
def zNBt_7 : zA_T := ([((.ofNat 0), (.ofNat 1), zD0)], zHB, [(3, (0, (.ofNat 6))), (4, (0, (.ofNat 10))), (6, (0, (.ofNat 16))), (5, (0, (.ofNat 0))), (8, (0, (.ofNat 0))), (7, (0, (.ofNat 4))), (2, (0, (.ofNat 10))), (0, (2, (.ofNat 46))), (1, (1, (.ofNat 0)))], [], 0, 0)
def zNBt_8 : zA_T := ([((.ofNat 0), (.ofNat 1), zD0)], zHB, [(3, (0, (.ofNat 7))), (4, (0, (.ofNat 10))), (6, (0, (.ofNat 16))), (5, (0, (.ofNat 0))), (8, (0, (.ofNat 0))), (7, (0, (.ofNat 4))), (2, (0, (.ofNat 10))), (0, (2, (.ofNat 46))), (1, (1, (.ofNat 0)))], [], 0, 0)
def zcutT (tx : zA_T) (m d pc : Nat) (t : zA_T) (stk : List zA_F) : Bool := match Nat.beq pc 82 with
  | false => false
  | true => (match stk with
    | [] => zteq t tx && decide (m = 215 ∧ d = 100)
    | _ => false)
theorem zcutT_g {l : Launch} {X : zx_X} {φ : List z_C} {Q : Option Value → List z_C → Prop} {tx : zA_T} (h : ∀ (ρ : List Int) (ph : List z_C) (lv : List (Nat × Value)), zg_T 1000000 X φ ρ tx ph lv [] → ZW l 100 (zm 215) X (zmc 215).1 (zmc 215).2 Q 82 lv [] ph tx.2.2.2.2.1 tx.2.2.2.2.2) (hs : tx.2.2.2.1 = []) :
    ∀ (m d pc : Nat) (t : zA_T) (stk : List zA_F), zcutT tx m d pc t stk = true → zGd l X 1000000 φ zPt Q m d pc t stk := by
  intro m d pc t stk hc ρ ph lv st cst _ g gs
  unfold zcutT at hc
  split at hc
  · cases hc
  · next hpc =>
    split at hc
    · obtain ⟨hc1, hc2⟩ := zw_and hc
      have hc1 := zteq_eq hc1
      subst hc1
      obtain ⟨rfl, rfl⟩ := of_decide_eq_true hc2
      have hpc : pc = 82 := by simpa using hpc
      subst hpc
      have hst : st = [] := by
        have g4 := g.2.2.2.1
        rw [hs] at g4
        cases st with
        | nil => rfl
        | cons a b => exact g4.elim
      subst hst
      cases cst with
      | nil => exact h ρ ph lv g
      | cons a b => exact gs.elim
    · cases hc
set_option maxRecDepth 100000 in
theorem zNBr_8 : zxp 1000000 (zfinR zHB (some (0, 0))) zno zorcBO 20000 215 100 82 zNBt_8 [] = true := by decide +kernel
theorem zNBg_8 (l : Launch) (X : zx_X) (φ : List z_C) {Q : Option Value → List z_C → Prop} (hQ : ∀ (v : Option Value) (ph' : List z_C), zL2 (zg_C φ []) zHB ph' → zg_R [] (some (0, 0)) v → Q v ph') (ρ : List Int) (ph : List z_C) (lv : List (Nat × Value)) (g : zg_T 1000000 X φ ρ zNBt_8 ph lv []) : ZW l 100 (zm 215) X (zmc 215).1 (zmc 215).2 Q 82 lv [] ph zNBt_8.2.2.2.2.1 zNBt_8.2.2.2.2.2 :=
  zcon_run (φ := φ) (zOk_BO l X _ φ) zHB_cn rfl (by decide) zNBr_8 hQ (zCt_no l X _ φ zPt Q) g
set_option maxRecDepth 100000 in
theorem zNBr_7 : zxp 1000000 (zfinR zHB (some (0, 0))) (zcutT zNBt_8) zorcBO 20000 215 100 82 zNBt_7 [] = true := by decide +kernel
theorem zNBg_7 (l : Launch) (X : zx_X) (φ : List z_C) {Q : Option Value → List z_C → Prop} (hQ : ∀ (v : Option Value) (ph' : List z_C), zL2 (zg_C φ []) zHB ph' → zg_R [] (some (0, 0)) v → Q v ph') (ρ : List Int) (ph : List z_C) (lv : List (Nat × Value)) (g : zg_T 1000000 X φ ρ zNBt_7 ph lv []) : ZW l 100 (zm 215) X (zmc 215).1 (zmc 215).2 Q 82 lv [] ph zNBt_7.2.2.2.2.1 zNBt_7.2.2.2.2.2 :=
  zcon_run (φ := φ) (zOk_BO l X _ φ) zHB_cn rfl (by decide) zNBr_7 hQ (zcutT_g (zNBg_8 l X φ hQ) rfl) g
set_option maxRecDepth 100000 in
theorem zNBr_6 : zxp 1000000 (zfinR zHB (some (0, 0))) (zcutT zNBt_7) zorcBO 20000 215 100 82 zNBt_6 [] = true := by decide +kernel
theorem zNBg_6 (l : Launch) (X : zx_X) (φ : List z_C) {Q : Option Value → List z_C → Prop} (hQ : ∀ (v : Option Value) (ph' : List z_C), zL2 (zg_C φ []) zHB ph' → zg_R [] (some (0, 0)) v → Q v ph') (ρ : List Int) (ph : List z_C) (lv : List (Nat × Value)) (g : zg_T 1000000 X φ ρ zNBt_6 ph lv []) : ZW l 100 (zm 215) X (zmc 215).1 (zmc 215).2 Q 82 lv [] ph zNBt_6.2.2.2.2.1 zNBt_6.2.2.2.2.2 :=
  zcon_run (φ := φ) (zOk_BO l X _ φ) zHB_cn rfl (by decide) zNBr_6 hQ (zcutT_g (zNBg_7 l X φ hQ) rfl) g
set_option maxRecDepth 100000 in
theorem zNBr_5 : zxp 1000000 (zfinR zHB (some (0, 0))) (zcutT zNBt_6) zorcBO 20000 215 100 82 zNBt_5 [] = true := by decide +kernel
theorem zNBg_5 (l : Launch) (X : zx_X) (φ : List z_C) {Q : Option Value → List z_C → Prop} (hQ : ∀ (v : Option Value) (ph' : List z_C), zL2 (zg_C φ []) zHB ph' → zg_R [] (some (0, 0)) v → Q v ph') (ρ : List Int) (ph : List z_C) (lv : List (Nat × Value)) (g : zg_T 1000000 X φ ρ zNBt_5 ph lv []) : ZW l 100 (zm 215) X (zmc 215).1 (zmc 215).2 Q 82 lv [] ph zNBt_5.2.2.2.2.1 zNBt_5.2.2.2.2.2 :=
  zcon_run (φ := φ) (zOk_BO l X _ φ) zHB_cn rfl (by decide) zNBr_5 hQ (zcutT_g (zNBg_6 l X φ hQ) rfl) g
set_option maxRecDepth 100000 in
theorem zNBr_4 : zxp 1000000 (zfinR zHB (some (0, 0))) (zcutT zNBt_5) zorcBO 20000 215 100 82 zNBt_4 [] = true := by decide +kernel
theorem zNBg_4 (l : Launch) (X : zx_X) (φ : List z_C) {Q : Option Value → List z_C → Prop} (hQ : ∀ (v : Option Value) (ph' : List z_C), zL2 (zg_C φ []) zHB ph' → zg_R [] (some (0, 0)) v → Q v ph') (ρ : List Int) (ph : List z_C) (lv : List (Nat × Value)) (g : zg_T 1000000 X φ ρ zNBt_4 ph lv []) : ZW l 100 (zm 215) X (zmc 215).1 (zmc 215).2 Q 82 lv [] ph zNBt_4.2.2.2.2.1 zNBt_4.2.2.2.2.2 :=
  zcon_run (φ := φ) (zOk_BO l X _ φ) zHB_cn rfl (by decide) zNBr_4 hQ (zcutT_g (zNBg_5 l X φ hQ) rfl) g
set_option maxRecDepth 100000 in
theorem zNBr_3 : zxp 1000000 (zfinR zHB (some (0, 0))) (zcutT zNBt_4) zorcBO 20000 215 100 82 zNBt_3 [] = true := by decide +kernel
theorem zNBg_3 (l : Launch) (X : zx_X) (φ : List z_C) {Q : Option Value → List z_C → Prop} (hQ : ∀ (v : Option Value) (ph' : List z_C), zL2 (zg_C φ []) zHB ph' → zg_R [] (some (0, 0)) v → Q v ph') (ρ : List Int) (ph : List z_C) (lv : List (Nat × Value)) (g : zg_T 1000000 X φ ρ zNBt_3 ph lv []) : ZW l 100 (zm 215) X (zmc 215).1 (zmc 215).2 Q 82 lv [] ph zNBt_3.2.2.2.2.1 zNBt_3.2.2.2.2.2 :=
  zcon_run (φ := φ) (zOk_BO l X _ φ) zHB_cn rfl (by decide) zNBr_3 hQ (zcutT_g (zNBg_4 l X φ hQ) rfl) g
set_option maxRecDepth 100000 in
theorem zNBr_2 : zxp 1000000 (zfinR zHB (some (0, 0))) (zcutT zNBt_3) zorcBO 20000 215 100 82 zNBt_2 [] = true := by decide +kernel
theorem zNBg_2 (l : Launch) (X : zx_X) (φ : List z_C) {Q : Option Value → List z_C → Prop} (hQ : ∀ (v : Option Value) (ph' : List z_C), zL2 (zg_C φ []) zHB ph' → zg_R [] (some (0, 0)) v → Q v ph') (ρ : List Int) (ph : List z_C) (lv : List (Nat × Value)) (g : zg_T 1000000 X φ ρ zNBt_2 ph lv []) : ZW l 100 (zm 215) X (zmc 215).1 (zmc 215).2 Q 82 lv [] ph zNBt_2.2.2.2.2.1 zNBt_2.2.2.2.2.2 :=
  zcon_run (φ := φ) (zOk_BO l X _ φ) zHB_cn rfl (by decide) zNBr_2 hQ (zcutT_g (zNBg_3 l X φ hQ) rfl) g
set_option maxRecDepth 100000 in
theorem zNBr_1 : zxp 1000000 (zfinR zHB (some (0, 0))) (zcutT zNBt_2) zorcBO 20000 215 100 82 zNBt_1 [] = true := by decide +kernel
theorem zNBg_1 (l : Launch) (X : zx_X) (φ : List z_C) {Q : Option Value → List z_C → Prop} (hQ : ∀ (v : Option Value) (ph' : List z_C), zL2 (zg_C φ []) zHB ph' → zg_R [] (some (0, 0)) v → Q v ph') (ρ : List Int) (ph : List z_C) (lv : List (Nat × Value)) (g : zg_T 1000000 X φ ρ zNBt_1 ph lv []) : ZW l 100 (zm 215) X (zmc 215).1 (zmc 215).2 Q 82 lv [] ph zNBt_1.2.2.2.2.1 zNBt_1.2.2.2.2.2 :=
  zcon_run (φ := φ) (zOk_BO l X _ φ) zHB_cn rfl (by decide) zNBr_1 hQ (zcutT_g (zNBg_2 l X φ hQ) rfl) g
set_option maxRecDepth 100000 in
theorem zNBr_0 : zxp 1000000 (zfinR zHB (some (0, 0))) (zcutT zNBt_1) zorcBO 20000 215 100 0 zNBt_0 [] = true := by decide +kernel
theorem zNBg_0 (l : Launch) (X : zx_X) (φ : List z_C) {Q : Option Value → List z_C → Prop} (hQ : ∀ (v : Option Value) (ph' : List z_C), zL2 (zg_C φ []) zHB ph' → zg_R [] (some (0, 0)) v → Q v ph') (ρ : List Int) (ph : List z_C) (lv : List (Nat × Value)) (g : zg_T 1000000 X φ ρ zNBt_0 ph lv []) : ZW l 100 (zm 215) X (zmc 215).1 (zmc 215).2 Q 0 lv [] ph zNBt_0.2.2.2.2.1 zNBt_0.2.2.2.2.2 :=
  zcon_run (φ := φ) (zOk_BO l X _ φ) zHB_cn rfl (by decide) zNBr_0 hQ (zcutT_g (zNBg_1 l X φ hQ) rfl) g
theorem zOk_NB (l : Launch) (X : zx_X) (XL : Nat) (φ : List z_C) : zOk l X XL φ zPt zorcNB := by
  intro m d t rs h ρ ph lv _ g Q hQ
  obtain ⟨S, H, L, s0, cn⟩ := t
  obtain ⟨g1, g2, g3, g4, g5⟩ := g
  unfold zorcNB at h
  split at h
  · next hm =>
    subst hm
    dsimp only at h g1 g2 g3
    split at h
    · next _ k a =>
      split at h
      · next hc =>
        obtain ⟨c1, c2, c9, c10, c11⟩ := hc
        cases h
        subst c2
        have c11 := zHeq_eq c11
        subst c11
        subst c10
        obtain ⟨q0, lv1, rfl, ⟨k0, gk⟩, g3⟩ := zL2.cons1 g3
        obtain ⟨q1, lv2, rfl, ⟨k1, ga⟩, g3⟩ := zL2.cons1 g3
        obtain ⟨x, ex, x1, x2⟩ := zinb_g g1 ga c9
        refine ZW.deeper c1 (zNBg_0 l X φ (fun v ph' h1 h2 => hQ _ (List.mem_singleton.mpr rfl) ρ v ph' (zLE.refl ρ) g1 (zcnH_g zHB_cn h1) (zcnR_g rfl h2)) [x.toInt] ph _ ⟨⟨⟨x1, x2, Or.inl rfl⟩, trivial⟩, zcnH_g zHB_cn g2, ⟨⟨k0, zcnV_g rfl gk⟩, ⟨k1, ?_⟩, (by cases lv2 with | nil => exact trivial | cons a b => exact g3.elim)⟩, trivial, zg_Xbig _ _⟩)
        rw [ex]
        exact zg_ofK (k := 0) rfl
      · cases h
    · cases h
  · cases h
theorem zOk_B (l : Launch) (X : zx_X) (XL : Nat) (φ : List z_C) : zOk l X XL φ zPt zorcB := by
  intro m d t rs h
  unfold zorcB at h
  split at h
  · exact zOk_LW l X XL φ m d t rs h
  · split at h
    · exact zOk_LV l X XL φ m d t rs h
    · split at h
      · exact zOk_NB l X XL φ m d t rs h
      · cases h
