/-! PART 25.1: heads with another way out; what a heap says of itself. -/
section ZH
variable {l : Launch} {X : zx_X} {XL : Nat} {φ : List z_C} {Q0 : Option Value → List z_C → Prop}
theorem zheads2 (hX : ¬ XL < 1000 ∧ XL ≠ 3000000) {hs : List zHd} {m d n : Nat} (hm : m < 267) {orc : zO_} {cx : Nat → Nat → Nat → zA_T → List zA_F → Bool} (hok : hs.all zhOK = true) (hor : ∀ P, zOk l X XL φ P orc) (hcx : ∀ m d pc t stk, cx m d pc t stk = true → zGd l X XL φ zPt Q0 m d pc t stk)
    (runs : ∀ h ∈ hs, zx1 XL znf (fun m' d' pc t stk => zcutH hs h m d m' d' pc t stk || cx m' d' pc t stk) orc n m d h.1 (zhS h) [] = true) :
    ∀ (N : Nat), ∀ h ∈ hs, zGd l X XL φ (zPf (zhI h N [])) Q0 m d h.1 h.2.1 [] := by
  intro N
  induction N with
  | zero =>
    intro h hh ρ ph lv st cst hp g gs
    obtain ⟨ns, hle, h1, h2, h3, -⟩ := hp
    have hk := List.all_eq_true.mp hok h hh
    unfold zhOK at hk
    obtain ⟨k1, k2⟩ := zw_and hk
    obtain ⟨k3, k4⟩ := zw_and k2
    have k3 := of_decide_eq_true k3
    have e : ns = ρ := hle.eq (h1.trans (zL2.len g.1).symm)
    subst e
    have := zmx_g (ws := h.2.2.2.2.2.1) g.1
    unfold zmu at h2
    omega
  | succ N ih =>
    intro h hh
    refine zGd_fx (zPf_up _) (fun ρ hp => by
      obtain ⟨ns, hle, -, -, -, h4⟩ := hp
      exact h4.mono hle) (zGd_run (zPf_up _) (znf_ok _) (hor _) ?_ hm (runs h hh))
    intro m' d' pc t stk hc
    rcases zw_or hc with hc | hc
    · unfold zcutH at hc
      split at hc
      · obtain ⟨h', hh', hc⟩ := List.any_eq_true.mp hc
        obtain ⟨c1, hc⟩ := zw_and hc
        obtain ⟨c2, hc⟩ := zw_and hc
        obtain ⟨c3, hc⟩ := zw_and hc
        rw [Nat.eq_of_beq_eq_true c1, Nat.eq_of_beq_eq_true c2, Nat.eq_of_beq_eq_true c3]
        split at hc
        · next σ hσ =>
          obtain ⟨c4, hc⟩ := zw_and hc
          obtain ⟨c5, c6⟩ := zw_and hc
          obtain ⟨c6, c7⟩ := zw_and c6
          refine zGd_m hX c4 (fun ρ hp hS hS0 => ?_) (ih h' hh')
          obtain ⟨ns, hle, h1, h2, h3, -⟩ := hp
          have hk := List.all_eq_true.mp hok h hh
          unfold zhOK at hk
          obtain ⟨k1, k2⟩ := zw_and hk
          obtain ⟨k3, k4⟩ := zw_and k2
          have k1 := Nat.eq_of_beq_eq_true k1
          refine zPf_self ⟨zL2.len hS0, ?_, ?_, zfts2_g hS (zmS_E hS (zw_and c4).1) c7⟩
          · unfold zdec at c5
            split at c5
            · next u hu =>
              have c5 := of_decide_eq_true c5
              have r := zub_g hS _ _ _ _ hu
              have hzm : zmS t.1 σ h'.2.1.1 = true := (zw_and c4).1
              rw [zdfS_g (zmS_E hS hzm)] at r
              dsimp only at r
              rw [zdfN_g (ns := ns) (k1.trans h1.symm) (fun j n hj => by rw [Nat.zero_add]; exact hle j n hj)] at r
              have e0 : zfs ρ [] = 0 := rfl
              rw [e0] at r
              unfold zmu at h2 ⊢
              omega
            · cases c5
          · exact zghs_g hS hle (zmS_E hS (zw_and c4).1) (fun g hg => by
              have := List.all_eq_true.mp k4 g hg
              rw [h1]
              exact Nat.le_of_ble_eq_true this) c6 h3
        · cases hc
      · cases hc
    · exact zGd_P (fun _ _ _ => trivial) (hcx _ _ _ _ _ hc)
end ZH
theorem zjG_self {H0 : zA_H} {J : zjD} {φ : List z_C} {ρ : List Int} {ph : List z_C} (hc : zjck2 H0 J = true) (hJ : zjG J φ) (g : zL2 (zg_C φ ρ) H0 ph) : zjG J ph := by
  obtain ⟨h1, h2⟩ := zw_and hc
  refine ⟨zjR_same (fun c hc => ?_) hJ.1, ?_⟩
  · obtain ⟨b, hb, -⟩ := zjck_d h1 c hc
    obtain ⟨x, ex, -⟩ := zL2.get g hb
    rw [ex, zjck_g h1 g c hc x ex]
  · obtain ⟨b, hb, c1, c5, c6⟩ := zjcu_d h2
    obtain ⟨x, ex, gx⟩ := zL2.get g hb
    exact zjK_oth (H := H0) hJ.2 c1 c5 c6 ex gx
theorem zJ_self {H0 : zA_H} {φ : List z_C} {ρ : List Int} {ph : List z_C} (hc : zjck2 H0 zjDC = true) (hc2 : zjck2 H0 zjDM = true) (hp : zpck H0 = true) (hJ : zJ φ) (g : zL2 (zg_C φ ρ) H0 ph) : zJ ph := ⟨zjG_self hc hJ.1 g, zjG_self hc2 hJ.2.1 g, zjP_self hp hJ.2.2 g⟩
