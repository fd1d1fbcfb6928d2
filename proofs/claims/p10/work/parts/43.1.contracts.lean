/-! PART 19x.0b: contracts that leave what is told, as runs over the functions. -/
theorem zH_rg {ρ : List Int} {s t : zy_S} (hg : zRg s) (h : ∀ (i : Nat) (a : zA_C), zHT[i]? = some a → zbK s t ρ i a) : zRg t := by
  intro c k hk
  have hlen : zHT.length = zy_tm.length := (zbA_at zb_all).1
  have hc : c < zy_tm.length := by
    rcases Nat.lt_or_ge c zy_tm.length with q | q
    · exact q
    · unfold zrn at hk
      rw [List.getElem?_eq_none (by omega)] at hk
      cases hk
  have ha : zHT[c]? = some (zHT[c]'(by omega)) := List.getElem?_eq_getElem (by omega)
  generalize zHT[c]'(by omega) = a at ha
  obtain ⟨ht0, ht, hcc⟩ := zbH_at zb_all ha
  obtain ⟨k0, k8, k1⟩ := h c a ha
  have wide : ∀ v : zA_V, zrv c k = v → (v.1 = 6 → zg_V ρ v (.int (t.1 c k))) → zin (t.1 c k) (zrg c k).1 (zrg c k).2 := by
    intro v hv gv
    by_cases h6 : v.1 = 6
    · obtain ⟨x, ex, b1, b2⟩ := zvW_inv h6 (gv h6)
      cases ex
      obtain ⟨q1, q2⟩ := zrg_6 hv h6
      exact ⟨by rw [q1]; exact b1, by rw [q2]; exact b2⟩
    · have e : zrg c k = (-2147483648, 2147483647) := by
        unfold zrg zbd2
        rw [hv, if_neg h6]
      rw [e]
      exact ⟨zq_lo _, zq_hi _⟩
  by_cases h0 : a.1 = 0
  · cases hv : a.2.2.2.1[k]? with
    | none =>
      refine wide (3, 0) ?_ (fun h => absurd h (by decide))
      unfold zrv
      rw [ha]
      dsimp only
      rw [if_pos h0, hv]
      rfl
    | some v => exact wide v (zrv_f ha h0 hv) (fun h6 => (k0 h0).1 k v hv (Or.inl h6))
  · by_cases h8 : a.1 = 8
    · have hkt := k8 h8 ht0 ht
      unfold zbC at hcc
      by_cases t1 : ht0.1 = 1
      · rw [hkt.1 t1]
        exact hg c k hk
      · refine wide _ (zrv_a ha h0) (fun h6 => ?_)
        exfalso
        split at hcc
        · have := (of_decide_eq_true (zw_and hcc).1).1
          omega
        · split at hcc
          · rcases zw_or hcc with hcc | hcc
            · obtain ⟨-, -, -, a3, a4⟩ := of_decide_eq_true hcc
              unfold zx_el at h6
              rw [a4] at h6
              have h6 : (zbh a).1 = 6 := h6
              omega
            · have := (of_decide_eq_true hcc).1
              omega
          · have := (of_decide_eq_true hcc).2.1
            omega
    · unfold zbC at hcc
      split at hcc
      · have := (of_decide_eq_true (zw_and hcc).1).1
        omega
      · next t0 =>
        split at hcc
        · next t1 =>
          rcases zw_or hcc with hcc | hcc
          · have := (of_decide_eq_true hcc).1
            omega
          · obtain ⟨a0, a1, a2, a3, a4⟩ := of_decide_eq_true hcc
            refine wide _ (zrv_a ha h0) (fun _ => k1 a0 a1 k ?_)
            rw [zrn_of ht, if_neg t0] at hk
            omega
        · next t1 =>
          refine wide _ (zrv_a ha h0) (fun h6 => ?_)
          exfalso
          split at hcc
          · rcases zw_or hcc with hcc | hcc
            · have := (of_decide_eq_true hcc).1
              omega
            · obtain ⟨-, -, -, a3, a4⟩ := of_decide_eq_true hcc
              unfold zx_el at h6
              rw [a4] at h6
              have h6 : (zbh a).1 = 6 := h6
              omega
          · obtain ⟨-, a0, a1, a2, a3, a4, a5⟩ := of_decide_eq_true hcc
            unfold zx_el at h6
            rw [a5] at h6
            have hk6 : k < 6 := by rw [zrn_of ht, if_neg t0, a3] at hk; exact hk
            rcases (by omega : k = 0 ∨ k = 1 ∨ k = 2 ∨ k = 3 ∨ k = 4 ∨ k = 5) with rfl | rfl | rfl | rfl | rfl | rfl <;> exact absurd (show (2 : Nat) = 6 from h6) (by decide)
theorem zH_to {ρ : List Int} {s t : zy_S} (h : ∀ (i : Nat) (a : zA_C), zHT[i]? = some a → zbK s t ρ i a) {c k : Nat} (hc : zto c k = true) : t.1 c k = s.1 c k := by
  unfold zto at hc
  split at hc
  · next a ha =>
    obtain ⟨k0, k8, -⟩ := h c a ha
    split at hc
    · next h0 =>
      obtain ⟨q, hq, e⟩ := List.any_eq_true.mp hc
      have e := Nat.eq_of_beq_eq_true e
      rw [← e]
      exact (k0 h0).2 q hq
    · obtain ⟨e1, e2⟩ := zw_and hc
      have h8 : a.1 = 8 := by simpa using e1
      have e2 : ¬ (zbh a).1 = 8 := by simpa using e2
      obtain ⟨t0, ht, hcc⟩ := zbH_at zb_all ha
      have t1 : t0.1 = 1 := by
        unfold zbC at hcc
        split at hcc
        · have := (of_decide_eq_true (zw_and hcc).1).1
          omega
        · split at hcc
          · assumption
          · split at hcc
            · rcases zw_or hcc with hcc | hcc
              · exact absurd (of_decide_eq_true hcc).2.2.2.1 e2
              · have := (of_decide_eq_true hcc).1
                omega
            · have := (of_decide_eq_true hcc).2.1
              omega
      rw [(k8 h8 t0 ht).1 t1]
  · cases hc
theorem zH_J {ρ : List Int} {s t : zy_S} (h : ∀ (i : Nat) (a : zA_C), zHT[i]? = some a → zbK s t ρ i a) : (∀ d, d < 6 → t.2.1 (zy_sh d + 1) = s.2.1 (zy_sh d + 1)) ∧ t.2.1 62 = s.2.1 62 := by
  refine ⟨fun d hd => ?_, ((h 62 _ rfl).2.1 rfl _ rfl).2 rfl⟩
  rcases (by omega : d = 0 ∨ d = 1 ∨ d = 2 ∨ d = 3 ∨ d = 4 ∨ d = 5) with rfl | rfl | rfl | rfl | rfl | rfl
  · exact ((h 32 _ rfl).2.1 rfl _ rfl).2 rfl
  · exact ((h 34 _ rfl).2.1 rfl _ rfl).2 rfl
  · exact ((h 36 _ rfl).2.1 rfl _ rfl).2 rfl
  · exact ((h 38 _ rfl).2.1 rfl _ rfl).2 rfl
  · exact ((h 40 _ rfl).2.1 rfl _ rfl).2 rfl
  · exact ((h 42 _ rfl).2.1 rfl _ rfl).2 rfl
/-- a heap as it is between calls, with what was told -/
theorem zI_back {s : zy_S} (h : zI s) {ρ : List Int} {ph : List z_C} (g : zL2 (zg_C (zy_hp s) ρ) zHT ph) : ph = zy_hp (zrdS ph) ∧ zI (zrdS ph) := by
  obtain ⟨e, k⟩ := zb_back zb_all g
  have hJ := zH_J k
  exact ⟨e, zI_same h (zy_Wb_of (zb_W rfl g)) (zH_rg h.2.1 k) (fun c k' hc => zH_to k hc) hJ.1 hJ.2⟩
/-- what a method returns: nothing, an int, a long -/
def zrk (k : Nat) (u : Option Value) : Prop := if k = 0 then u = none else if k = 1 then ∃ x : Int32, u = some (.int x) else ∃ x : Int64, u = some (.long x)
def zrkB (k : Nat) (r : Option zA_V) : Bool := match r with
  | none => decide (k = 0)
  | some a => (decide (k = 1) && zIs a) || (decide (k = 2) && zIsJ a)
theorem zrk_g {k : Nat} {r : Option zA_V} {v : Option Value} {ρ : List Int} (h : zrkB k r = true) (g : zg_R ρ r v) : zrk k v := by
  unfold zrkB at h
  cases r with
  | none =>
    have e := of_decide_eq_true h
    subst e
    cases v with
    | none => exact rfl
    | some u => exact g.elim
  | some a =>
    cases v with
    | none => exact g.elim
    | some u =>
      rcases zw_or h with h | h
      · obtain ⟨h1, h2⟩ := zw_and h
        have e := of_decide_eq_true h1
        subst e
        obtain ⟨x, rfl, -⟩ := zg_int h2 g
        exact ⟨x, rfl⟩
      · obtain ⟨h1, h2⟩ := zw_and h
        have e := of_decide_eq_true h1
        subst e
        obtain ⟨x, rfl, -⟩ := zg_long h2 g
        exact ⟨x, rfl⟩
/-- a contract whose ends are such heaps -/
theorem zcR {m d rk : Nat} {te : zA_T} {gs : List Nat} {al : List zAlt} (hc : zCon m d te gs al) (ha : al.all (fun alt => zfrL 0 alt.2.2.1 zHT && zrkB rk alt.2.2.2) = true) (eH : zfrL 0 te.2.1 zHT = true) (e2 : te.2.2.2.2 = zmc m) {s : zy_S} (h : zI s) {ρ : List Int} {L : List (Option Value)} (gS : zg_S ρ te.1) (gL : zg_L ρ te.2.2.1 (zy_lf 0 L)) (e0 : te.2.2.2.1 = []) (X : zx_X) : zyR X d m 0 L [] s (fun u t => zI t ∧ zrk rk u) := by
  intro l Q hQ
  have gT : ∀ ρ', zL2 (zg_C (zy_hp s) ρ') zHT (zy_hp s) := fun ρ' => zL2.mono (fun _ _ => zg_C.mono (fun k n q => by simp at q)) (zb_to h.2.1 (zy_Wb_g h.1))
  have hφ : ∀ k, (zy_hp s)[0 + k]? = (zy_hp s)[k]? := fun k => by rw [Nat.zero_add]
  have gH := zfrL_to eH hφ (gT ρ)
  have := hc l X (zy_hp s) Q ρ (zy_hp s) (zy_lf 0 L) ⟨gS, gH, gL, by rw [e0]; trivial, zg_Xno _ _ _ (by decide) (by decide)⟩ (fun alt hal vals _ v ph' g gR => by
    obtain ⟨a1, a2⟩ := zw_and (List.all_eq_true.mp ha alt hal)
    have g := zfrL_back a1 hφ (gT vals) g
    obtain ⟨e, k⟩ := zI_back h g
    rw [e]
    exact hQ v _ ⟨k, zrk_g a2 gR⟩)
  rw [e2] at this
  exact this
