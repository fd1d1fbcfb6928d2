/-! PART 48.3: the law from its start. Made by wip/v4/gen_law.py. -/
theorem zl_27 {X : zx_X} {i : Int32} {s : zy_S} {P : Option Value → zy_S → Prop} (hX : X.1 ≤ 3072) (i0 : 0 ≤ i.toInt) (i6 : i.toInt + 6 ≤ X.1) (h : zI s) (k : ∀ t, zI t → zyR X 2000 0 1435 [some (.ref 2), some (.ref (0 + 3)), some (.ref (43 + 3)), some (.int i)] [] t P) : zyR X 2000 0 27 [some (.ref 2), some (.ref (0 + 3)), some (.ref (43 + 3)), some (.int i)] [] s P := by
  refine zy_0 rfl rfl (show zyR _ _ _ _ [some (.ref 2), some (.ref (0 + 3)), some (.ref (43 + 3)), some (.int i)] [.ref 2] _ _ from ?_)
  refine zy_2 rfl rfl (show zyR _ _ _ _ [some (.ref 2), some (.ref (0 + 3)), some (.ref (43 + 3)), some (.int i)] [.int i, .ref 2] _ _ from ?_)
  refine zy_26s rfl (zq_in.mpr ⟨i0, by omega⟩) (show zyR _ _ _ _ [some (.ref 2), some (.ref (0 + 3)), some (.ref (43 + 3)), some (.int i)] [.int (X.2 i.toNatClampNeg)] _ _ from ?_)
  refine zy_3 rfl rfl (show zyR _ _ _ _ [some (.ref 2), some (.ref (0 + 3)), some (.ref (43 + 3)), some (.int i)] [.int (63 : Int32), .int (X.2 i.toNatClampNeg)] _ _ from ?_)
  refine zy_13 rfl (show zyR _ _ _ _ [some (.ref 2), some (.ref (0 + 3)), some (.ref (43 + 3)), some (.int i)] [.int ((X.2 i.toNatClampNeg) &&& (63 : Int32))] _ _ from ?_)
  refine zy_50 rfl (by decide) ?_
  refine zy_swp (fun _ => zlc_0 hX i0 i6 h k) (fun _ => ?_)
  refine zy_swp (fun _ => zlc_1 hX i0 i6 h k) (fun _ => ?_)
  refine zy_swp (fun _ => zlc_2 hX i0 i6 h k) (fun _ => ?_)
  refine zy_swp (fun _ => zlc_3 hX i0 i6 h k) (fun _ => ?_)
  refine zy_swp (fun _ => zlc_4 hX i0 i6 h k) (fun _ => ?_)
  refine zy_swp (fun _ => zlc_5 hX i0 i6 h k) (fun _ => ?_)
  refine zy_swp (fun _ => zlc_6 hX i0 i6 h k) (fun _ => ?_)
  refine zy_swp (fun _ => zlc_7 hX i0 i6 h k) (fun _ => ?_)
  refine zy_swp (fun _ => zlc_8 hX i0 i6 h k) (fun _ => ?_)
  refine zy_swp (fun _ => zlc_9 hX i0 i6 h k) (fun _ => ?_)
  refine zy_swp (fun _ => zlc_10 hX i0 i6 h k) (fun _ => ?_)
  refine zy_swp (fun _ => zlc_11 hX i0 i6 h k) (fun _ => ?_)
  refine zy_swp (fun _ => zlc_12 hX i0 i6 h k) (fun _ => ?_)
  refine zy_swp (fun _ => zlc_13 hX i0 i6 h k) (fun _ => ?_)
  refine zy_swp (fun _ => zlc_14 hX i0 i6 h k) (fun _ => ?_)
  refine zy_swp (fun _ => zlc_15 hX i0 i6 h k) (fun _ => ?_)
  refine zy_swp (fun _ => zlc_16 hX i0 i6 h k) (fun _ => ?_)
  refine zy_swp (fun _ => zlc_17 hX i0 i6 h k) (fun _ => ?_)
  refine zy_swp (fun _ => zlc_18 hX i0 i6 h k) (fun _ => ?_)
  refine zy_swp (fun _ => zlc_19 hX i0 i6 h k) (fun _ => ?_)
  refine zy_swp (fun _ => zlc_20 hX i0 i6 h k) (fun _ => ?_)
  refine zy_swp (fun _ => zlc_21 hX i0 i6 h k) (fun _ => ?_)
  refine zy_swp (fun _ => zlc_22 hX i0 i6 h k) (fun _ => ?_)
  refine zy_swp (fun _ => zlc_23 hX i0 i6 h k) (fun _ => ?_)
  refine zy_swp (fun _ => zlc_24 hX i0 i6 h k) (fun _ => ?_)
  refine zy_swp (fun _ => zlc_25 hX i0 i6 h k) (fun _ => ?_)
  refine zy_swp (fun _ => zlc_26 hX i0 i6 h k) (fun _ => ?_)
  refine zy_swp (fun _ => zlc_27 hX i0 i6 h k) (fun _ => ?_)
  refine zy_swp (fun _ => zlc_28 hX i0 i6 h k) (fun _ => ?_)
  refine zy_swp (fun _ => zlc_29 hX i0 i6 h k) (fun _ => ?_)
  refine zy_swp (fun _ => zlc_30 hX i0 i6 h k) (fun _ => ?_)
  refine zy_swp (fun _ => zlc_31 hX i0 i6 h k) (fun _ => ?_)
  refine zy_swp (fun _ => zlc_32 hX i0 i6 h k) (fun _ => ?_)
  refine zy_swp (fun _ => zlc_33 hX i0 i6 h k) (fun _ => ?_)
  refine zy_swp (fun _ => zlc_34 hX i0 i6 h k) (fun _ => ?_)
  refine zy_swp (fun _ => zlc_35 hX i0 i6 h k) (fun _ => ?_)
  refine zy_swp (fun _ => zlc_36 hX i0 i6 h k) (fun _ => ?_)
  refine zy_swp (fun _ => zlc_37 hX i0 i6 h k) (fun _ => ?_)
  refine zy_swp (fun _ => zlc_38 hX i0 i6 h k) (fun _ => ?_)
  refine zy_swp (fun _ => zlc_39 hX i0 i6 h k) (fun _ => ?_)
  refine zy_swp (fun _ => zlc_40 hX i0 i6 h k) (fun _ => ?_)
  exact k _ h
theorem zl_18 {X : zx_X} (hX : X.1 ≤ 3072) : ∀ (N : Nat) (i : Int32) (s : zy_S), zI s → 0 ≤ i.toInt → i.toInt ≤ X.1 → (X.1 : Int) - i.toInt < N → zyR X 2000 0 18 [some (.ref 2), some (.ref (0 + 3)), some (.ref (43 + 3)), some (.int i)] [] s zlP
  | 0, i, s, h, i0, i1, hN => by omega
  | N + 1, i, s, h, i0, i1, hN => by
    have hL : (Int32.ofNat X.1).toInt = (X.1 : Int) := zN_toInt (by omega)
    have h6 : (Int32.ofNat X.1 - (6 : Int32)).toInt = (X.1 : Int) - 6 := by rw [zq_sub (by rw [hL, zq_l6]; omega) (by rw [hL, zq_l6]; omega), hL, zq_l6]
    refine zy_2 rfl rfl (show zyR _ _ _ _ [some (.ref 2), some (.ref (0 + 3)), some (.ref (43 + 3)), some (.int i)] [.int i] _ _ from ?_)
    refine zy_0 rfl rfl (show zyR _ _ _ _ [some (.ref 2), some (.ref (0 + 3)), some (.ref (43 + 3)), some (.int i)] [.ref 2, .int i] _ _ from ?_)
    refine zy_32s rfl (show zyR _ _ _ _ [some (.ref 2), some (.ref (0 + 3)), some (.ref (43 + 3)), some (.int i)] [.int (Int32.ofNat X.1), .int i] _ _ from ?_)
    refine zy_3 rfl rfl (show zyR _ _ _ _ [some (.ref 2), some (.ref (0 + 3)), some (.ref (43 + 3)), some (.int i)] [.int (6 : Int32), .int (Int32.ofNat X.1), .int i] _ _ from ?_)
    refine zy_11 rfl (show zyR _ _ _ _ [some (.ref 2), some (.ref (0 + 3)), some (.ref (43 + 3)), some (.int i)] [.int ((Int32.ofNat X.1) - (6 : Int32)), .int i] _ _ from ?_)
    refine zy_25_4 rfl (fun c => (show zyR _ _ _ _ [some (.ref 2), some (.ref (0 + 3)), some (.ref (43 + 3)), some (.int i)] [] _ _ from ?_)) (fun c => (show zyR _ _ _ _ [some (.ref 2), some (.ref (0 + 3)), some (.ref (43 + 3)), some (.int i)] [] _ _ from ?_))
    · refine zy_3 rfl rfl (show zyR _ _ _ _ [some (.ref 2), some (.ref (0 + 3)), some (.ref (43 + 3)), some (.int i)] [.int (1 : Int32)] _ _ from ?_)
      exact zy_4b rfl rfl (Or.inr rfl)
    · have i6 : i.toInt + 6 ≤ X.1 := by
        rw [Int32.lt_iff_toInt_lt, h6] at c
        omega
      refine zl_27 hX i0 i6 h (fun t ht => ?_)
      refine zy_22 rfl rfl rfl rfl (show zyR _ _ _ _ [some (.ref 2), some (.ref (0 + 3)), some (.ref (43 + 3)), some (.int (i + (6 : Int32)))] [] _ _ from ?_)
      refine zy_6 rfl (show zyR _ _ _ _ [some (.ref 2), some (.ref (0 + 3)), some (.ref (43 + 3)), some (.int (i + (6 : Int32)))] [] _ _ from ?_)
      have e6 : (i + (6 : Int32)).toInt = i.toInt + 6 := by rw [zq_add (by rw [zq_l6]; omega) (by rw [zq_l6]; omega), zq_l6]
      exact zl_18 hX N (i + (6 : Int32)) t ht (by omega) (by omega) (by omega)
def zQ1 (v : Option Value) (_ : List z_C) : Prop := v = some (.int 1)
def zstL : zA_L := [(3, (1, 0)), (2, (2, 46)), (1, (2, 3)), (0, (2, 2))]
def zst0 (t : zA_T) : Bool := zHeq t.2.1 zH0 && (zmL t.1 [(0, 0)] t.2.2.1 zstL && (t.2.2.2.1.isEmpty && decide (t.2.2.2.2 = (64, 4062))))
def zcut0 (m d pc : Nat) (t : zA_T) (stk : List zA_F) : Bool := match stk with
  | _ :: _ => false
  | [] => Nat.beq pc 18 && (Nat.beq m 0 && (Nat.beq d 2000 && zst0 t))
theorem zst0_g {l : Launch} {X : zx_X} (hX : X.1 ≤ 3072) {s : zy_S} {t : zA_T} (h : zst0 t = true) : zGd l X 2000000 (zy_hp s) zPt zQ1 0 2000 18 t [] := by
  intro ρ ph lv st cst hp g gs
  cases cst with
  | cons a b => exact gs.elim
  | nil =>
    obtain ⟨g1, g2, g3, g4, g5⟩ := g
    unfold zst0 at h
    obtain ⟨h1, q1⟩ := zw_and h
    obtain ⟨h2, q2⟩ := zw_and q1
    obtain ⟨h3, h4⟩ := zw_and q2
    have h4 := of_decide_eq_true h4
    have e1 : t.2.2.2.1 = [] := List.isEmpty_iff.mp h3
    rw [e1] at g4
    have hst := zL2.nil1 g4
    subst hst
    rw [zHeq_eq h1] at g2
    obtain ⟨e, kk⟩ := zs_back zsA_all g2
    have hI := zI_start kk (zb_W (H := zH0) rfl g2)
    obtain ⟨lv0, gl, hm0⟩ := zmL_g (σ := [(0, 0)]) (ρ' := [0]) g1 rfl g3 h2
    have hsub : ∀ q ∈ zy_lf 0 [some (.ref 2), some (.ref (0 + 3)), some (.ref (43 + 3)), some (.int (0 : Int32))], q ∈ lv0 := by
      match lv0, gl with
      | [(_, w3), (_, w2), (_, w1), (_, w0)], ⟨⟨rfl, k3⟩, ⟨rfl, k2⟩, ⟨rfl, k1⟩, ⟨rfl, k0⟩, _⟩ =>
        obtain ⟨y, rfl, ey⟩ := zg_int (a := (1, 0)) rfl k3
        have e0 : y = 0 := by
          rcases ey with ⟨q, -⟩ | ⟨-, q⟩
          · exact absurd q (by decide)
          · exact zq_ext (Option.some.inj q).symm
        have r2 := zg_ref (a := (2, 46)) rfl k2
        have r1 := zg_ref (a := (2, 3)) rfl k1
        have r0 := zg_ref (a := (2, 2)) rfl k0
        subst e0 r2 r1 r0
        intro q hq
        have hq : q ∈ [((0 : Nat), (Value.ref 2)), (1, .ref 3), (2, .ref 46), (3, .int 0)] := hq
        rcases List.mem_cons.mp hq with rfl | hq
        · exact List.mem_cons_of_mem _ (List.mem_cons_of_mem _ (List.mem_cons_of_mem _ List.mem_cons_self))
        rcases List.mem_cons.mp hq with rfl | hq
        · exact List.mem_cons_of_mem _ (List.mem_cons_of_mem _ List.mem_cons_self)
        rcases List.mem_cons.mp hq with rfl | hq
        · exact List.mem_cons_of_mem _ List.mem_cons_self
        rcases List.mem_cons.mp hq with rfl | hq
        · exact List.mem_cons_self
        · cases hq
    have k := zl_18 hX (X.1 + 1) 0 (zrdS ph) hI (by decide) (by show (0 : Int) ≤ X.1; omega) (by show (X.1 : Int) - 0 < _; omega) l zQ1 (fun v s' hv => hv)
    have k := ZW.lsub (fun q hq => hm0 q (hsub q hq)) k
    rw [← e] at k
    have h4 : t.2.2.2.2 = zmc 0 := h4
    show ZW l 2000 (zm 0) X (zmc 0).1 (zmc 0).2 zQ1 18 lv [] ph t.2.2.2.2.1 t.2.2.2.2.2
    rw [h4]
    exact k
theorem zcut0_g {l : Launch} {X : zx_X} (hX : X.1 ≤ 3072) {s : zy_S} : ∀ (m d pc : Nat) (t : zA_T) (stk : List zA_F), zcut0 m d pc t stk = true → zGd l X 2000000 (zy_hp s) zPt zQ1 m d pc t stk := by
  intro m d pc t stk h
  unfold zcut0 at h
  split at h
  · cases h
  · obtain ⟨h1, q1⟩ := zw_and h
    obtain ⟨h2, q2⟩ := zw_and q1
    obtain ⟨h3, h4⟩ := zw_and q2
    rw [Nat.eq_of_beq_eq_true h1, Nat.eq_of_beq_eq_true h2, Nat.eq_of_beq_eq_true h3]
    exact zst0_g hX h4
def zstE : zA_T := ([], [], [(0, (2, 2))], [], 0, 0)
theorem zl_r0 : zx1 2000000 znf zcut0 zon 60000 0 2000 0 zstE [] = true := by decide +kernel
theorem y_law0 : zm 0 = y_law := rfl
def zsD : zy_S := (fun _ _ => 0, fun _ _ => 0, fun _ => none)
theorem zlaw (l : Launch) (X : zx_X) (hX : X.1 ≤ 3072) : ZW l 2000 y_law X 64 4062 (fun v _ => v = some (.int 1)) 0 [(0, .ref 2)] [] [] 0 0 := by
  have h := zGd_run (l := l) (X := X) (XL := 2000000) (φ := zy_hp zsD) (Q0 := zQ1) (P := zPt) (fun _ _ _ h => h) (znf_ok _) (zOk_no l _ _ _ _) (zcut0_g hX) (by decide) zl_r0 [] [] [(0, .ref 2)] [] [] trivial ⟨trivial, trivial, ⟨⟨rfl, zg_ofR (i := 2)⟩, trivial⟩, trivial, zg_Xno _ _ _ (by decide) (by decide)⟩ trivial
  rw [← y_law0]
  exact h
