/-! PART 19e: contracts that speak of the cells alone that a method reaches; the others stay what they are. -/
theorem zL2.ofI {α β : Type} {R : α → β → Prop} : ∀ {as : List α} {bs : List β}, as.length = bs.length → (∀ (i : Nat) a b, as[i]? = some a → bs[i]? = some b → R a b) → zL2 R as bs
  | [], [], _, _ => trivial
  | a :: as, b :: bs, hl, h => ⟨h 0 a b rfl rfl, zL2.ofI (by simpa using hl) (fun i x y hx hy => h (i + 1) x y hx hy)⟩
  | [], _ :: _, hl, _ => by simp at hl
  | _ :: _, [], hl, _ => by simp at hl
/-- the cell i, whatever it is, as it was -/
def zfr (i : Nat) (a : zA_C) : Bool := Nat.beq a.1 8 && (Nat.beq a.2.1 i && Nat.beq a.2.2.1 0)
theorem zfr_g {φ : List z_C} {ρ : List Int} {i : Nat} {a : zA_C} {c : z_C} (h : zfr i a = true) (hc : φ[i]? = some c) : zg_C φ ρ a c := by
  obtain ⟨h1, h2⟩ := zw_and h
  obtain ⟨h3, h4⟩ := zw_and h2
  exact Or.inl ⟨Nat.eq_of_beq_eq_true h1, by rw [Nat.eq_of_beq_eq_true h3]; exact hc, zg_8.nil ρ c (Nat.eq_of_beq_eq_true h4)⟩
theorem zg_C8 {φ : List z_C} {ρ : List Int} {a : zA_C} {c : z_C} (h : a.1 = 8) (g : zg_C φ ρ a c) : φ[a.2.1]? = some c := by
  rcases g with g | ⟨g, -⟩ | ⟨g, -⟩ | ⟨g, -⟩ | ⟨g, -⟩
  · exact g.2.1
  all_goals omega
theorem zgC_self {φ ph : List z_C} {ρ : List Int} {b : zA_C} {c : z_C} {i : Nat} (g : zg_C φ ρ b c) (hc : ph[i]? = some c) (h8 : b.1 = 8 → b.2.1 = i) (hz : ∀ q ∈ b.2.2.2.2, b.1 = 0 → q.2.2.toNat = i) : zg_C ph ρ b c := by
  rcases g with ⟨g1, g2, g3⟩ | ⟨g1, fs, e, g2, gz⟩ | g | g | g
  · exact Or.inl ⟨g1, by rw [h8 g1]; exact hc, g3⟩
  · refine Or.inr (Or.inl ⟨g1, fs, e, g2, fun q hq => ⟨(gz q hq).1, b.2.1, fs, ?_, rfl⟩⟩)
    rw [hz q hq g1, hc, e]
  · exact Or.inr (Or.inr (Or.inl g))
  · exact Or.inr (Or.inr (Or.inr (Or.inl g)))
  · exact Or.inr (Or.inr (Or.inr (Or.inr g)))
theorem zgC_conv {φ ph : List z_C} {ρ vals : List Int} {a c : zA_C} {u u' : z_C} {i : Nat} (gc : zg_C ph vals c u') (hph : ph[i]? = some u) (ga : zg_C φ ρ a u) (hk : c.1 = 1 ∨ (c.1 = 0 ∧ a.1 = 0 ∧ ∀ q ∈ c.2.2.2.2, q.2.2.toNat = i ∧ q ∈ a.2.2.2.2)) : zg_C φ vals c u' := by
  rcases gc with ⟨g1, -⟩ | ⟨g1, fs', e', g2, gz'⟩ | g | g | g
  · omega
  · rcases hk with hk | ⟨-, ha, hq⟩
    · omega
    · obtain ⟨fs, e, -, gz⟩ := zg_C0 ha ga
      refine Or.inr (Or.inl ⟨g1, fs', e', g2, fun q hm => ?_⟩)
      obtain ⟨z1, n, gs, z2, z3⟩ := gz' q hm
      obtain ⟨hi, hma⟩ := hq q hm
      obtain ⟨-, n2, gs2, z4, z5⟩ := gz q hma
      rw [hi, hph, e] at z2
      have e3 : fs = gs := by
        have := Option.some.inj z2
        injection this with this
        exact (Prod.ext_iff.mp this).2
      exact ⟨z1, n2, gs2, z4, by rw [z3, ← e3, z5]⟩
  · exact Or.inr (Or.inr (Or.inl g))
  · exact Or.inr (Or.inr (Or.inr (Or.inl g)))
  · exact Or.inr (Or.inr (Or.inr (Or.inr g)))
theorem zmC_ov {S : zA_S} {σ : List zA_V} {a b : zA_C} (h : zmC S σ a b = true) (hb : b.1 = 0) : a.1 = 0 ∧ ∀ q ∈ b.2.2.2.2, q ∈ a.2.2.2.2 := by
  unfold zmC at h
  obtain ⟨h1, h2⟩ := zw_and h
  obtain ⟨-, h4⟩ := zw_and h2
  have e1 : a.1 = b.1 := Nat.eq_of_beq_eq_true h1
  have ha : a.1 = 0 := by omega
  rw [if_neg (by omega), if_pos ha] at h4
  refine ⟨ha, fun q hq => ?_⟩
  obtain ⟨p, hp, e⟩ := List.any_eq_true.mp (List.all_eq_true.mp (zw_and h4).2 q hq)
  rw [← zKeq_eq _ _ e]
  exact hp
/-- t fits the pattern te, where it is looked at: at the cells F -/
def zmF (σ : List zA_V) (t te : zA_T) (F : List Nat) : Bool := zmS t.1 σ te.1 && (F.all (fun i => match t.2.1[i]?, te.2.1[i]? with
  | some a, some b => zmCq t.1 σ a b
  | _, _ => false) && (Nat.beq t.2.1.length te.2.1.length && (zmL t.1 σ t.2.2.1 te.2.2.1 && (t.2.2.2.1.isEmpty && (te.2.2.2.1.isEmpty && decide (t.2.2.2.2 = te.2.2.2.2))))))
/-- the cells W as A has them, its names moved up -/
def zsF (n : Nat) (A : zA_H) : List Nat → zA_H → zA_H
  | [], H => H
  | i :: W, H => zsF n A W (H.set i (zshC n (A.getD i (99, 0, 0, [], []))))
theorem zsF_len (n : Nat) (A : zA_H) : ∀ (W : List Nat) (H : zA_H), (zsF n A W H).length = H.length
  | [], _ => rfl
  | i :: W, H => by
    show (zsF n A W (H.set i _)).length = _
    rw [zsF_len n A W, List.length_set]
theorem zsF_out {n : Nat} {A : zA_H} {i : Nat} : ∀ {W : List Nat} {H : zA_H}, (∀ w ∈ W, w ≠ i) → (zsF n A W H)[i]? = H[i]?
  | [], _, _ => rfl
  | w :: W, H, h => by
    show (zsF n A W (H.set w _))[i]? = _
    rw [zsF_out (fun v hv => h v (List.mem_cons_of_mem _ hv)), List.getElem?_set_ne (h w List.mem_cons_self)]
theorem zsF_in {n : Nat} {A : zA_H} {i : Nat} : ∀ {W : List Nat} {H : zA_H}, (∃ w ∈ W, w = i) → i < H.length → (zsF n A W H)[i]? = some (zshC n (A.getD i (99, 0, 0, [], [])))
  | [], _, ⟨_, hm, _⟩, _ => by cases hm
  | w :: W, H, hw, hl => by
    show (zsF n A W (H.set w _))[i]? = _
    by_cases h : ∃ v ∈ W, v = i
    · exact zsF_in h (by rw [List.length_set]; exact hl)
    · rw [zsF_out (fun v hv e => h ⟨v, hv, e⟩)]
      obtain ⟨v, hv, e⟩ := hw
      rcases List.mem_cons.mp hv with e2 | hv
      · have e3 : w = i := by rw [← e2]; exact e
        subst e3
        rw [List.getElem?_set_self hl]
      · exact absurd ⟨v, hv, e⟩ h
def zinF (S : zA_S) (gs : List Nat) (σ : List zA_V) (H : zA_H) (W : List Nat) (alt : zAlt) : zR_ := (S ++ alt.1.map (fun q => (q.1, q.2.1, zD0)) ++ zfct S S.length gs σ 0 alt.1, zsF S.length alt.2.2.1 W H, alt.2.2.2.map (zshV S.length))
def zorcF (m0 d0 : Nat) (te : zA_T) (lo : List (Nat × Nat × Nat)) (gs : List Nat) (alts : List zAlt) (F W : List Nat) (m d : Nat) (t : zA_T) : Option (List zR_) := match Nat.beq m m0 with
  | false => none
  | true => (match Nat.ble d0 d with
    | false => none
    | true => (match zlocs t none lo with
      | none => none
      | some σ => (match zmF σ t te F with
        | false => none
        | true => some (alts.map (zinF t.1 gs σ t.2.1 W)))))
def zhas (W : List Nat) (i : Nat) : Bool := W.any (fun w => Nat.beq w i)
theorem zhas_g {W : List Nat} {i : Nat} (h : zhas W i = true) : ∃ w ∈ W, w = i := by
  obtain ⟨w, hw, e⟩ := List.any_eq_true.mp h
  exact ⟨w, hw, Nat.eq_of_beq_eq_true e⟩
theorem zhas_n {W : List Nat} {i : Nat} (h : zhas W i = false) : ∀ w ∈ W, w ≠ i := by
  intro w hw e
  have : zhas W i = true := List.any_eq_true.mpr ⟨w, hw, by rw [e]; exact Nat.beq_refl i⟩
  rw [h] at this
  cases this
/-- what is looked at once: te tells nothing of the cells outside F; what ends tell of cells outside W is that they are as they were -/
def zFk1 (W : List Nat) (i : Nat) (b c : zA_C) : Bool := match zhas W i with
  | true => zposC c && (Nat.beq c.1 1 || (Nat.beq c.1 0 && (Nat.beq b.1 0 && c.2.2.2.2.all (fun q => Nat.beq q.2.2.toNat i && b.2.2.2.2.any (fun p => zKeq p q)))))
  | false => Nat.beq c.1 8 && Nat.beq c.2.1 i
def zFk (te : zA_T) (alts : List zAlt) (F W : List Nat) (i : Nat) : Bool := match te.2.1[i]? with
  | none => false
  | some b => (zhas F i || zfr i b) && ((!(Nat.beq b.1 8) || Nat.beq b.2.1 i) && (b.2.2.2.2.all (fun q => !(Nat.beq b.1 0) || Nat.beq q.2.2.toNat i) && ((!(zhas W i) || zhas F i) && alts.all (fun alt => match alt.2.2.1[i]? with
    | none => false
    | some c => zFk1 W i b c))))
def zFok (te : zA_T) (alts : List zAlt) (F W : List Nat) : Bool := (List.range te.2.1.length).all (zFk te alts F W) && alts.all (fun alt => Nat.beq alt.2.2.1.length te.2.1.length && (match alt.2.2.2 with
  | some a => zposV a
  | none => true))
theorem zOk_F {m0 d0 : Nat} {te : zA_T} {lo : List (Nat × Nat × Nat)} {gs : List Nat} {alts : List zAlt} {F W : List Nat} (hc : zCon m0 d0 te gs alts) (hok : zFok te alts F W = true) (l : Launch) (X : zx_X) (XL : Nat) (φ : List z_C) (P : List Int → Prop) : zOk l X XL φ P (zorcF m0 d0 te lo gs alts F W) := by
  intro m d t rs h ρ ph lv _ g Q hQ
  obtain ⟨hok1, hok2⟩ := zw_and hok
  unfold zorcF at h
  split at h
  · cases h
  · next hm =>
    split at h
    · cases h
    · next hd =>
      split at h
      · cases h
      · next σ hσ =>
        split at h
        · cases h
        · next hzm =>
          cases h
          have hm := Nat.eq_of_beq_eq_true hm
          subst hm
          obtain ⟨gS, gH, gL, gst, gX⟩ := g
          unfold zmF at hzm
          obtain ⟨h1, hzm⟩ := zw_and hzm
          obtain ⟨h2, hzm⟩ := zw_and hzm
          obtain ⟨h3, hzm⟩ := zw_and hzm
          obtain ⟨h4, hzm⟩ := zw_and hzm
          obtain ⟨-, hzm⟩ := zw_and hzm
          obtain ⟨h5, h6⟩ := zw_and hzm
          obtain ⟨lv0, g0, m0⟩ := zmL_g gS rfl gL h4
          have e2 : te.2.2.2.1 = [] := List.isEmpty_iff.mp h5
          have e3 : t.2.2.2.2 = te.2.2.2.2 := of_decide_eq_true h6
          have hlenH : t.2.1.length = te.2.1.length := Nat.eq_of_beq_eq_true h3
          have hlenP : t.2.1.length = ph.length := zL2.len gH
          -- what is known of a cell, on both sides
          have st : ∀ (i : Nat) (b : zA_C), te.2.1[i]? = some b → (zhas F i || zfr i b) = true ∧ (b.1 = 8 → b.2.1 = i) ∧ (∀ q ∈ b.2.2.2.2, b.1 = 0 → q.2.2.toNat = i) ∧ (zhas W i = true → zhas F i = true) ∧ ∀ alt ∈ alts, ∃ c, alt.2.2.1[i]? = some c ∧ zFk1 W i b c = true := by
            intro i b hb
            have hi : i < te.2.1.length := (List.getElem?_eq_some_iff.mp hb).1
            have hk := List.all_eq_true.mp hok1 i (List.mem_range.mpr hi)
            unfold zFk at hk
            rw [hb] at hk
            dsimp only at hk
            obtain ⟨k1, hk⟩ := zw_and hk
            obtain ⟨k2, hk⟩ := zw_and hk
            obtain ⟨k3, hk⟩ := zw_and hk
            obtain ⟨k4, hk⟩ := zw_and hk
            refine ⟨k1, fun h8 => ?_, fun q hq hq0 => ?_, fun hw => ?_, fun alt ha => ?_⟩
            · rcases zw_or k2 with k2 | k2
              · rw [h8] at k2
                cases k2
              · exact Nat.eq_of_beq_eq_true k2
            · rcases zw_or (List.all_eq_true.mp k3 q hq) with k | k
              · rw [hq0] at k
                cases k
              · exact Nat.eq_of_beq_eq_true k
            · rw [hw] at k4
              exact k4
            · have k5 := List.all_eq_true.mp hk alt ha
              split at k5
              · cases k5
              · next c hc' => exact ⟨c, hc', k5⟩
          have two : ∀ (i : Nat) (b : zA_C), te.2.1[i]? = some b → zhas F i = true → ∃ a, t.2.1[i]? = some a ∧ zmC t.1 σ a b = true := by
            intro i b hb hF
            obtain ⟨w, hw, e⟩ := zhas_g hF
            subst e
            have hm := List.all_eq_true.mp h2 w hw
            rw [hb] at hm
            split at hm
            · next a b' ha hb' =>
              cases hb'
              exact ⟨a, ha, zmCq_e hm⟩
            · cases hm
          have hT : zL2 (zg_C ph (σ.map (zval ρ))) te.2.1 ph := by
            refine zL2.ofI (by omega) (fun i b c hb hcp => ?_)
            obtain ⟨s1, s2, s3, -, -⟩ := st i b hb
            rcases zw_or s1 with hF | hfr
            · obtain ⟨a, ha, hm⟩ := two i b hb hF
              obtain ⟨c', hc', gc⟩ := zL2.get gH ha
              rw [hcp] at hc'
              cases hc'
              exact zgC_self (zmC_g gS rfl hm gc) hcp s2 s3
            · exact zfr_g hfr hcp
          have k := hc l X ph Q _ ph lv0 ⟨zmS_g gS h1, hT, g0, by rw [e2]; exact trivial, zg_Xno _ _ _ (by decide) (by decide)⟩ (fun alt ha vals hok' v ph' gH' gR => by
            have hlen : ρ.length = t.1.length := zL2.len gS
            have s1 : zg_S (ρ ++ vals) (t.1 ++ alt.1.map (fun q => (q.1, q.2.1, zD0))) := zg_S.news gS hok' rfl
            have hle1 : zLE ρ (ρ ++ vals) := fun k n hk => by
              rw [List.getElem?_append_left (List.getElem?_eq_some_iff.mp hk).1]
              exact hk
            have hv : ∀ k x, vals[k]? = some x → (ρ ++ vals)[t.1.length + 0 + k]? = some x := by
              intro k x hk
              rw [List.getElem?_append_right (by omega)]
              have e : t.1.length + 0 + k - ρ.length = k := by omega
              rw [e]
              exact hk
            obtain ⟨ρ', r1, r2⟩ := zfct_g (ρ := ρ) (n := t.1.length) (gs := gs) hle1 gS (zmS_E gS h1) s1 hok' hv
            have hr : ∀ k x, vals[k]? = some x → ρ'[t.1.length + k]? = some x := fun k x hk => r1 _ _ (hv k x hk)
            have hall : alt.2.2.1.length = ph'.length := zL2.len gH'
            refine hQ _ (List.mem_map.mpr ⟨alt, ha, rfl⟩) ρ' v ph' (hle1.trans r1) r2 ?_ ?_
            · show zL2 (zg_C φ ρ') (zsF t.1.length alt.2.2.1 W t.2.1) ph'
              have hlenA : alt.2.2.1.length = te.2.1.length := Nat.eq_of_beq_eq_true (zw_and (List.all_eq_true.mp hok2 alt ha)).1
              refine zL2.ofI (by rw [zsF_len]; omega) (fun i x c' hx hcp => ?_)
              have hi : i < te.2.1.length := by
                have := (List.getElem?_eq_some_iff.mp hx).1
                rw [zsF_len] at this
                omega
              obtain ⟨s1', s2, s3, s4, s5⟩ := st i _ (List.getElem?_eq_getElem hi)
              have hb := List.getElem?_eq_getElem hi
              generalize te.2.1[i] = b at *
              obtain ⟨c, hcA, hk⟩ := s5 alt ha
              obtain ⟨c'', hc'', gc⟩ := zL2.get gH' hcA
              rw [hcp] at hc''
              cases hc''
              have hiH : i < t.2.1.length := by omega
              obtain ⟨u, hu, gu⟩ := zL2.get gH (List.getElem?_eq_getElem hiH)
              unfold zFk1 at hk
              split at hk
              · next hW =>
                rw [zsF_in (zhas_g hW) hiH] at hx
                have eA : alt.2.2.1.getD i (99, 0, 0, [], []) = c := by rw [List.getD_eq_getElem?_getD, hcA]; rfl
                rw [eA] at hx
                cases hx
                obtain ⟨k1, k2⟩ := zw_and hk
                obtain ⟨a, haH, hmC⟩ := two i b hb (s4 hW)
                rw [List.getElem?_eq_getElem hiH] at haH
                cases haH
                refine zshC_g hr k1 (zgC_conv gc hu gu ?_)
                rcases zw_or k2 with k2 | k2
                · exact Or.inl (Nat.eq_of_beq_eq_true k2)
                · obtain ⟨k3, k2⟩ := zw_and k2
                  obtain ⟨k4, k5⟩ := zw_and k2
                  obtain ⟨z1, z2⟩ := zmC_ov hmC (Nat.eq_of_beq_eq_true k4)
                  refine Or.inr ⟨Nat.eq_of_beq_eq_true k3, z1, fun q hq => ?_⟩
                  obtain ⟨k6, k7⟩ := zw_and (List.all_eq_true.mp k5 q hq)
                  obtain ⟨p, hp, e⟩ := List.any_eq_true.mp k7
                  have e := zKeq_eq _ _ e
                  subst e
                  exact ⟨Nat.eq_of_beq_eq_true k6, z2 _ hp⟩
              · next hW =>
                rw [zsF_out (zhas_n hW), List.getElem?_eq_getElem hiH] at hx
                cases hx
                obtain ⟨k1, k2⟩ := zw_and hk
                have := zg_C8 (Nat.eq_of_beq_eq_true k1) gc
                rw [Nat.eq_of_beq_eq_true k2, hu] at this
                cases this
                exact gu.mono (hle1.trans r1)
            · show zg_R ρ' (alt.2.2.2.map (zshV t.1.length)) v
              have p2 := (zw_and (List.all_eq_true.mp hok2 alt ha)).2
              cases hret : alt.2.2.2 with
              | none =>
                rw [hret] at gR
                cases v with
                | none => trivial
                | some u => exact gR.elim
              | some a =>
                rw [hret] at gR p2
                cases v with
                | none => exact gR.elim
                | some u => exact zshV_g hr p2 gR)
          have k := ZW.deeper (Nat.le_of_ble_eq_true hd) (ZW.lsub m0 k)
          rw [← e3] at k
          exact k
/-- a heap that tells of some cells what G tells, of the others that they are as they were -/
def zfrL : Nat → zA_H → zA_H → Bool
  | _, [], [] => true
  | i, a :: as, b :: bs => (zfr i a || zCeq a b) && zfrL (i + 1) as bs
  | _, _, _ => false
theorem zfrL_to {φ : List z_C} {ρ : List Int} : ∀ {T G : zA_H} {i : Nat} {ph : List z_C}, zfrL i T G = true → (∀ k, φ[i + k]? = ph[k]?) → zL2 (zg_C φ ρ) G ph → zL2 (zg_C φ ρ) T ph
  | [], [], _, [], _, _, _ => trivial
  | a :: as, b :: bs, i, u :: ph, h, hφ, g => by
    obtain ⟨h1, h2⟩ := zw_and h
    refine ⟨?_, zfrL_to (i := i + 1) h2 (fun k => ?_) g.2⟩
    · rcases zw_or h1 with h1 | h1
      · exact zfr_g h1 (hφ 0)
      · rw [zCeq_eq _ _ h1]
        exact g.1
    · have := hφ (k + 1)
      rw [show i + (k + 1) = i + 1 + k by omega] at this
      exact this
  | [], [], _, _ :: _, _, _, g => g.elim
  | [], _ :: _, _, _, h, _, _ => by cases h
  | _ :: _, [], _, _, h, _, _ => by cases h
  | _ :: _, _ :: _, _, [], _, _, g => g.elim
theorem zfrL_back {φ : List z_C} {ρ : List Int} : ∀ {A G : zA_H} {i : Nat} {ph ph' : List z_C}, zfrL i A G = true → (∀ k, φ[i + k]? = ph[k]?) → zL2 (zg_C φ ρ) G ph → zL2 (zg_C φ ρ) A ph' → zL2 (zg_C φ ρ) G ph'
  | [], [], _, _, [], _, _, _, _ => trivial
  | a :: as, b :: bs, i, u :: ph, u' :: ph', h, hφ, g, g' => by
    obtain ⟨h1, h2⟩ := zw_and h
    refine ⟨?_, zfrL_back (i := i + 1) h2 (fun k => ?_) g.2 g'.2⟩
    · rcases zw_or h1 with h1 | h1
      · obtain ⟨k1, k2⟩ := zw_and h1
        have e := zg_C8 (Nat.eq_of_beq_eq_true k1) g'.1
        rw [Nat.eq_of_beq_eq_true (zw_and k2).1] at e
        have e2 : φ[i]? = some u := hφ 0
        rw [e2] at e
        cases e
        exact g.1
      · rw [← zCeq_eq _ _ h1]
        exact g'.1
    · have := hφ (k + 1)
      rw [show i + (k + 1) = i + 1 + k by omega] at this
      exact this
  | [], [], _, _, _ :: _, _, _, _, g => g.elim
  | [], _ :: _, _, _, _, h, _, _, _ => by cases h
  | _ :: _, [], _, _, _, h, _, _, _ => by cases h
  | _ :: _, _ :: _, _, [], _, _, _, g, _ => g.elim
  | _ :: _, _ :: _, _, _ :: _, [], _, _, _, g => g.elim
