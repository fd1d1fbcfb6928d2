/-! PART 25.5: the search for the nearest board, from end to end. -/
section ZB
variable {l : Launch} {X : zx_X} {Q : Option Value → List z_C → Prop}
theorem zc1_g {N : Nat} {φ : List z_C} {t : zA_T} {ρ : List Int} (h2 : zleq0 t.1 [(1, zlv t 6)] 0 = true) (h3 : ((zleq0 t.1 [(1, zlv t 3), (-1, (1, 1))] 0 && zleq0 t.1 [(1, zlv t 4), (-1, (1, 2))] (-1)) || (zleq0 t.1 [(1, zlv t 3), (-1, (1, 1))] (-1) && (zleq0 t.1 [(1, zlv t 4)] 0 && zlle t.1 [(-1, (1, 2))] 9))) = true)
    (h4 : ((zleq0 t.1 [(1, zlv t 3)] 0 && zleq0 t.1 [(1, zlv t 5)] 0) || (zlle t.1 [(-1, zlv t 3)] 1 && zleq0 t.1 [(1, zlv t 5)] (-1000000))) = true) (hp : zPf (zbI1 φ N) ρ) (hS : zg_S ρ t.1) (hS0 : zg_S ([zlv t 1, zlv t 3, zlv t 4, zlv t 5, zlv t 6].map (zval ρ)) zK2.1) : zPf (zbI2 φ N) ([zlv t 1, zlv t 3, zlv t 4, zlv t 5, zlv t 6].map (zval ρ)) := by
  obtain ⟨ns, hle, m, c, w, rfl, i1, i2, iT, i6⟩ := hp
  obtain ⟨b0, b1, b2⟩ := zns3 hle
  have n1 : zval ρ (1, 1) = (m : Int) := zv_name (k := 1) b1
  have n2 : zval ρ (1, 2) = (c : Int) := zv_name (k := 2) b2
  have v6 := zl_1 (zleq0_g hS h2)
  have r3 : (0 : Int) ≤ zval ρ (zlv t 3) ∧ zval ρ (zlv t 3) ≤ 6 := ⟨hS0.2.1.1, hS0.2.1.2.1⟩
  have r4 : (0 : Int) ≤ zval ρ (zlv t 4) ∧ zval ρ (zlv t 4) ≤ 9 := ⟨hS0.2.2.1.1, hS0.2.2.1.2.1⟩
  have key : ∀ (m' c' : Nat), zval ρ (zlv t 3) = (m' : Int) → zval ρ (zlv t 4) = (c' : Int) → zbT φ m' c' → 1000 * (7 - m') + 50 * (10 - c') + 20 < N → zPf (zbI2 φ N) ([zlv t 1, zlv t 3, zlv t 4, zlv t 5, zlv t 6].map (zval ρ)) := by
    intro m' c' e3 e4 hT hN
    have h5 : (m' = 0 → zval ρ (zlv t 5) = 0) ∧ (1 ≤ m' → zval ρ (zlv t 5) = 1000000) := by
      rcases zw_or h4 with h | h
      · obtain ⟨q1, q2⟩ := zw_and h
        have u1 := zl_1 (zleq0_g hS q1)
        have u2 := zl_1 (zleq0_g hS q2)
        exact ⟨fun _ => by omega, fun h => by omega⟩
      · obtain ⟨q1, q2⟩ := zw_and h
        have u1 := zm_1 (zlle_g hS q1)
        have u2 := zl_1 (zleq0_g hS q2)
        exact ⟨fun _ => by omega, fun h => by omega⟩
    refine zPf_self ⟨m', c', 0, zval ρ (zlv t 1), zval ρ (zlv t 5), ?_, by omega, by omega, by omega, hT, h5.1, fun h => Or.inl ⟨rfl, h5.2 h⟩, by omega⟩
    show [zval ρ (zlv t 1), zval ρ (zlv t 3), zval ρ (zlv t 4), zval ρ (zlv t 5), zval ρ (zlv t 6)] = _
    have e6 : zval ρ (zlv t 6) = ((0 : Nat) : Int) := by omega
    rw [e3, e4, e6]
  rcases zw_or h3 with h | h
  · obtain ⟨q1, q2⟩ := zw_and h
    have u1 := zl_2 (zleq0_g hS q1)
    have u2 := zl_2 (zleq0_g hS q2)
    rw [n1] at u1
    rw [n2] at u2
    exact key m (c + 1) (by omega) (by omega) iT (by omega)
  · obtain ⟨q1, z1⟩ := zw_and h
    obtain ⟨q2, q3⟩ := zw_and z1
    have u1 := zl_2 (zleq0_g hS q1)
    have u2 := zl_1 (zleq0_g hS q2)
    have u3 := zm_1 (zlle_g hS q3)
    rw [n1] at u1
    rw [n2] at u3
    exact key (m + 1) 0 (by omega) (by omega) (fun m' c' k1 k2 k3 => iT m' c' k1 k2 (by omega)) (by omega)
theorem zb_1 {N : Nat} {φ : List z_C} (h2 : zGd l X 2000000 φ (zPf (zbI2 φ N)) Q 215 200 113 zK2 []) (h4 : zbT φ 7 0 → zGd l X 2000000 φ zPt Q 215 200 223 zK4 []) : zGd l X 2000000 φ (zPf (zbI1 φ N)) Q 215 200 211 zK1 [] := by
  refine zGd_run (zPf_up _) (znf_ok _) (zbO_ok l X 2000000 φ _) ?_ (by decide) zbr_1
  intro m d pc t stk h
  unfold zc1 at h
  rcases zw_or h with h | h
  · obtain ⟨ha, z1⟩ := zw_and h
    obtain ⟨k1, z2⟩ := zw_and z1
    obtain ⟨k2, z3⟩ := zw_and z2
    obtain ⟨k3, k4⟩ := zw_and z3
    obtain ⟨rfl, rfl, rfl, rfl⟩ := zat0_g ha
    exact zGd_m (XL' := 2000000) (by decide) k1 (fun ρ hp hS hS0 => zc1_g k2 k3 k4 hp hS hS0) h2
  · obtain ⟨ha, z1⟩ := zw_and h
    obtain ⟨k1, z2⟩ := zw_and z1
    obtain ⟨k2, k3⟩ := zw_and z2
    obtain ⟨rfl, rfl, rfl, rfl⟩ := zat0_g ha
    intro ρ ph lv st cst hp g gs
    have hT : zbT φ 7 0 := by
      obtain ⟨ns, hle, m, c, w, rfl, i1, i2, iT, i6⟩ := hp
      obtain ⟨b0, b1, b2⟩ := zns3 hle
      have n1 : zval ρ (1, 1) = (m : Int) := zv_name (k := 1) b1
      have n2 : zval ρ (1, 2) = (c : Int) := zv_name (k := 2) b2
      have u1 := zm_1 (zlle_g g.1 k2)
      have u2 := zm_1 (zlle_g g.1 k3)
      rw [n1] at u1
      rw [n2] at u2
      intro m' c' q1 q2 q3
      exact iT m' c' q1 q2 (by omega)
    exact zGd_m (P := zPt) (XL' := 2000000) (by decide) k1 (fun ρ _ hS hS0 => trivial) (h4 hT) ρ ph lv st cst trivial g gs
/-- the search of a matter -/
theorem zcW0_g {M : Nat} {φ : List z_C} (hT : zbT φ 7 0) {P : List Int → Prop} {m d pc : Nat} {t : zA_T} {stk : List zA_F} (hM : ∀ ρ, P ρ → zg_S ρ t.1 → zval ρ (zlv t 5) ≤ 6 → 20 * zval ρ (zlv t 5) + 16 < M) (h : zcW0 200 m d pc t stk = true) (hW : zGd l X 2000000 φ (zPf (zbIW φ M)) Q 215 200 262 zKW []) : zGd l X 2000000 φ P Q m d pc t stk := by
  unfold zcW0 at h
  obtain ⟨ha, z1⟩ := zw_and h
  obtain ⟨k1, k2⟩ := zw_and z1
  obtain ⟨rfl, rfl, rfl, rfl⟩ := zat0_g ha
  refine zGd_m (XL' := 2000000) (by decide) k1 (fun ρ hp hS hS0 => ?_) hW
  have r1 : (0 : Int) ≤ zval ρ (zlv t 3) ∧ zval ρ (zlv t 3) ≤ 9 := ⟨hS0.1.1, hS0.1.2.1⟩
  have r2 : (1 : Int) ≤ zval ρ (zlv t 5) ∧ zval ρ (zlv t 5) ≤ 6 := ⟨hS0.2.2.1.1, hS0.2.2.1.2.1⟩
  have u1 := zl_1 (zleq0_g hS k2)
  have hm := hM ρ hp hS r2.2
  obtain ⟨c, ec⟩ : ∃ c : Nat, zval ρ (zlv t 3) = (c : Int) := ⟨(zval ρ (zlv t 3)).toNat, by omega⟩
  obtain ⟨m, em⟩ : ∃ m : Nat, zval ρ (zlv t 5) = (m : Int) := ⟨(zval ρ (zlv t 5)).toNat, by omega⟩
  obtain ⟨k, q1, q2, q3⟩ := (hT m c (by omega) (by omega) (by omega)).2 (by omega)
  refine zPf_self ⟨c, m, 0, zval ρ (zlv t 4), ?_, by omega, by omega, by omega, ⟨k, Nat.zero_le _, q1, q2, q3.symm⟩, by omega⟩
  show [zval ρ (zlv t 3), zval ρ (zlv t 4), zval ρ (zlv t 5), zval ρ (zlv t 6)] = _
  have e6 : zval ρ (zlv t 6) = ((0 : Nat) : Int) := by omega
  rw [ec, em, e6]
/-- the witness lies farther on -/
def zbIX (φ : List z_C) (M k : Nat) (ns : List Int) : Prop := ∃ (c m : Nat) (b : Int), ns = [(c : Int), b, (m : Int), (k : Int)] ∧ c ≤ 9 ∧ 1 ≤ m ∧ m ≤ 6 ∧ (∃ k', k + 1 ≤ k' ∧ k' < 16 ∧ zbW φ c m k') ∧ 20 * m + (16 - k) < M + 1
theorem zcW1_g {M k : Nat} {φ : List z_C} (hk : k < 16) {m d pc : Nat} {t : zA_T} {stk : List zA_F} (h : zcW1 k 200 m d pc t stk = true) (hW : zGd l X 2000000 φ (zPf (zbIW φ M)) Q 215 200 262 zKW []) : zGd l X 2000000 φ (zPf (zbIX φ M k)) Q m d pc t stk := by
  unfold zcW1 at h
  obtain ⟨ha, z1⟩ := zw_and h
  obtain ⟨rfl, rfl, rfl, rfl⟩ := zat0_g ha
  rcases zw_or z1 with z | z
  · intro ρ ph lv st cst hp g gs
    obtain ⟨ns, hle, c, m, b, rfl, i1, i2, i3, ⟨k', w1, w2, w3⟩, i4⟩ := hp
    have := Nat.eq_of_beq_eq_true z
    omega
  · obtain ⟨k1, z2⟩ := zw_and z
    obtain ⟨k2, z3⟩ := zw_and z2
    obtain ⟨k3, k4⟩ := zw_and z3
    refine zGd_m (XL' := 2000000) (by decide) k1 (fun ρ hp hS hS0 => ?_) hW
    obtain ⟨ns, hle, c, m, b, rfl, i1, i2, i3, ⟨k', w1, w2, w3⟩, i4⟩ := hp
    obtain ⟨b0, b1, b2, b3⟩ := zns4 hle
    have n0 : zval ρ (1, 0) = (c : Int) := zv_name (k := 0) b0
    have n2 : zval ρ (1, 2) = (m : Int) := zv_name (k := 2) b2
    have u1 := zl_2 (zleq0_g hS k2)
    have u2 := zl_2 (zleq0_g hS k3)
    have u3 := zl_1 (zleq0_g hS k4)
    rw [n0] at u1
    rw [n2] at u2
    refine zPf_self ⟨c, m, k + 1, zval ρ (zlv t 4), ?_, i1, i2, i3, ⟨k', w1, w2, w3⟩, by omega⟩
    show [zval ρ (zlv t 3), zval ρ (zlv t 4), zval ρ (zlv t 5), zval ρ (zlv t 6)] = _
    have e1 : zval ρ (zlv t 3) = (c : Int) := by omega
    have e2 : zval ρ (zlv t 5) = (m : Int) := by omega
    have e3 : zval ρ (zlv t 6) = ((k + 1 : Nat) : Int) := by omega
    rw [e1, e2, e3]
theorem zb_d317 : decode (zm 215).2.1 317 = .ok (.if_icmp .eq 9, 3) := by decide +kernel
/-- one round of the search -/
theorem zb_W {M : Nat} {φ : List z_C} (hA : zArOk φ zbA) (hT : zbT φ 7 0) (hfin : zFn φ (zPf (zbIW φ (M + 1))) Q zfB) (hW : zGd l X 2000000 φ (zPf (zbIW φ M)) Q 215 200 262 zKW []) : zGd l X 2000000 φ (zPf (zbIW φ (M + 1))) Q 215 200 262 zKW [] := by
  have hcf : ∀ Fs m d pc t stk, zcfW 200 Fs m d pc t stk = true → zGd l X 2000000 φ (zPF φ (zbIW φ (M + 1)) Fs) Q m d pc t stk := by
    intro Fs m d pc t stk h
    unfold zcfW at h
    rcases zw_or h with h | h
    · obtain ⟨ha, z1⟩ := zw_and h
      obtain ⟨z2, z3⟩ := zw_and z1
      obtain ⟨k, hk, z4⟩ := List.any_eq_true.mp z3
      have hk := List.mem_range.mp hk
      obtain ⟨k1, z5⟩ := zw_and z4
      obtain ⟨k2, k3⟩ := zw_and z5
      obtain ⟨rfl, rfl, rfl, rfl⟩ := zat0_g ha
      refine zGd_P (P' := zPf (zbIX φ M k)) (fun ρ hS hp => ?_) (zcW1_g hk k3 hW)
      obtain ⟨⟨ns, hle, c, m, s, b, rfl, i1, i2, i3, ⟨k', w1, w2, w3⟩, i4⟩, -⟩ := hp
      obtain ⟨b0, b1, b2, b3⟩ := zns4 hle
      have n0 : zval ρ (1, 0) = (c : Int) := zv_name (k := 0) b0
      have n3 : zval ρ (1, 3) = (s : Int) := zv_name (k := 3) b3
      have u1 := zl_1 (zleq0_g hS k1)
      have u2 := zm_1 (zlle_g hS k2)
      rw [n3] at u1
      rw [n0] at u2
      have es : s = k := by omega
      subst es
      refine ⟨_, hle, c, m, b, rfl, i1, i2, i3, ⟨k', ?_, w2, w3⟩, by omega⟩
      rcases Nat.lt_or_ge s k' with hlt | hge
      · exact hlt
      · have : s = k' := by omega
        subst this
        have := w3.1
        omega
    · obtain ⟨ha, z1⟩ := zw_and h
      obtain ⟨k, hk, z4⟩ := List.any_eq_true.mp z1
      have hk := List.mem_range.mp hk
      obtain ⟨k1, z5⟩ := zw_and z4
      obtain ⟨rfl, rfl, rfl, rfl⟩ := zat0_g ha
      clear h ha z1 z4
      unfold zW3 at z5
      split at z5
      · next v3 v12 hst =>
        split at z5
        · next f3 f2 f1 =>
          obtain ⟨p1, z6⟩ := zw_and z5
          obtain ⟨p2, z7⟩ := zw_and z6
          obtain ⟨p3, z8⟩ := zw_and z7
          obtain ⟨p4, z9⟩ := zw_and z8
          obtain ⟨p5, z10⟩ := zw_and z9
          obtain ⟨p6, z11⟩ := zw_and z10
          obtain ⟨p7, z12⟩ := zw_and z11
          obtain ⟨p8, z13⟩ := zw_and z12
          obtain ⟨p9, z14⟩ := zw_and z13
          obtain ⟨p10, z15⟩ := zw_and z14
          obtain ⟨p11, z16⟩ := zw_and z15
          obtain ⟨p12, p13⟩ := zw_and z16
          clear z5 z6 z7 z8 z9 z10 z11 z12 z13 z14 z15 z16
          obtain ⟨S, H, L, s0, cc, ns0⟩ := t
          have hst : s0 = [v3, v12] := hst
          subst hst
          intro ρ ph lv st cst hp g gs
          obtain ⟨g1, g2, g3, g4, g5⟩ := g
          obtain ⟨x3, st1, rfl, gv3, gr1⟩ := zL2.cons1 g4
          obtain ⟨x12, st2, rfl, gv12, gr2⟩ := zL2.cons1 gr1
          have hs2 := zL2.nil1 gr2
          subst hs2
          obtain ⟨y3, rfl, e3⟩ := zg_int p1 gv3
          obtain ⟨y12, rfl, e12⟩ := zg_int p2 gv12
          obtain ⟨hp1, hF⟩ := hp
          have hp0 := hp1
          obtain ⟨ns, hle, c, m, s, b, rfl, i1, i2, i3, ⟨k', w1, w2, w3⟩, i4⟩ := hp1
          obtain ⟨b0, b1, b2, b3⟩ := zns4 hle
          have n0 : zval ρ (1, 0) = (c : Int) := zv_name (k := 0) b0
          have n2 : zval ρ (1, 2) = (m : Int) := zv_name (k := 2) b2
          have n3 : zval ρ (1, 3) = (s : Int) := zv_name (k := 3) b3
          have u1 := zl_1 (zleq0_g g1 k1)
          rw [n3] at u1
          have es : s = k := by omega
          subst es
          obtain ⟨r1, t1⟩ := zFa_v g1 (hF f1 (by simp)) p3 p8
          obtain ⟨r2, t2⟩ := zFa_v g1 (hF f2 (by simp)) p4 p9
          obtain ⟨r3, t3⟩ := zFa_v g1 (hF f3 (by simp)) p5 p10
          have u6 := zl_2 (zleq0_g g1 p6)
          have u7 := zl_3 (zleq0_g g1 p7)
          have u8 := zl_2 (zleq0_g g1 p8)
          have u9 := zl_3 (zleq0_g g1 p9)
          have u10 := zl_3 (zleq0_g g1 p10)
          have u11 := zm_1 (zlle_g g1 p11)
          rw [n2] at u8 u9 u10
          rw [n0] at u9 u10 u11
          have hpc : zbpc s ≤ c := by omega
          have x1 : (zval ρ f1.2.1).toNat = 16 * (m - 1) + s := by omega
          have x2 : (zval ρ f2.2.1).toNat = 10 * (m - 1) + (c - zbpc s) := by omega
          have x3 : (zval ρ f3.2.1).toNat = 10 * m + c := by omega
          rw [x1] at r1
          rw [x2] at r2
          rw [x3] at r3
          rw [zval_E p1 e3, r3] at u6
          rw [zval_E p2 e12, r1, r2] at u7
          refine zs_icmp_eq (tgt := 326) zb_d317 (by decide) (fun hc => ?_) (fun hc => ?_)
          · refine zxp_ok (P := zPf (zbIW φ (M + 1))) (fin := zfB) (cut := zcWn 200) (orc := zbO) zall (zPf_up _) hfin (zbO_ok l X 2000000 φ _) (fun m d pc t stk hcut => ?_) 3000 215 200 326 (zt_st (S, H, L, [v3, v12], cc, ns0) []) [] (by decide) p12 ρ ph lv [] cst hp0 ⟨g1, g2, g3, trivial, g5⟩ gs
            obtain ⟨q1, q2⟩ := zw_and hcut
            refine zcW0_g hT (fun ρ hp hS _ => ?_) q1 hW
            obtain ⟨ns, hle, c, m, s, b, rfl, i1, i2, i3, -, i4⟩ := hp
            obtain ⟨b0, b1, b2, b3⟩ := zns4 hle
            have n2 : zval ρ (1, 2) = (m : Int) := zv_name (k := 2) b2
            have u := zm_2 (zlle_g hS q2)
            rw [n2] at u
            omega
          · refine zxp_ok (P := zPf (zbIX φ M s)) (fin := znf) (cut := zcW1 s 200) (orc := zbO) zall (zPf_up _) (znf_ok _) (zbO_ok l X 2000000 φ _) (fun m d pc t stk hcut => zcW1_g hk hcut hW) 3000 215 200 320 (zt_st (S, H, L, [v3, v12], cc, ns0) []) [] (by decide) p13 ρ ph lv [] cst ?_ ⟨g1, g2, g3, trivial, g5⟩ gs
            refine ⟨_, hle, c, m, b, rfl, i1, i2, i3, ⟨k', ?_, w2, w3⟩, by omega⟩
            rcases Nat.lt_or_ge s k' with hlt | hge
            · exact hlt
            · have : s = k' := by omega
              subst this
              refine absurd (Int32.toInt_inj.mp ?_) hc
              have := w3.2
              omega
        · cases z5
      · cases z5
  have hd : ∀ pc ∈ [285, 304, 316], decode (zm 215).2.1 pc = .ok (.iaload, 1) := by
    intro pc hpc
    rcases List.mem_cons.mp hpc with rfl | hpc
    · decide +kernel
    · rcases List.mem_cons.mp hpc with rfl | hpc
      · decide +kernel
      · rw [List.mem_singleton] at hpc
        subst hpc
        decide +kernel
  have r := zGd_run (P := zPF φ (zbIW φ (M + 1)) []) (l := l) (X := X) (Q0 := Q) (zPF_up _ _ _) (znf_ok _) (zbO_ok l X 2000000 φ _) (zrX_g hA (by decide) hd (fun Fs => znf_ok _) (fun Fs => zbO_ok l X 2000000 φ _) hcf 3 []) (by decide) zbr_W
  exact zGd_P (fun ρ _ hp => ⟨hp, fun fa h => by cases h⟩) r
theorem zb_Ws {φ : List z_C} (hA : zArOk φ zbA) (hT : zbT φ 7 0) (hfin : ∀ P, zFn φ P Q zfB) : ∀ M, zGd l X 2000000 φ (zPf (zbIW φ M)) Q 215 200 262 zKW [] := by
  intro M
  induction M with
  | zero =>
    intro ρ ph lv st cst hp g gs
    obtain ⟨ns, hle, c, m, s, b, rfl, i1, i2, i3, -, i4⟩ := hp
    exact absurd i4 (Nat.not_lt_zero _)
  | succ M ih => exact zb_W hA hT (hfin _) ih
theorem zb_4 {φ : List z_C} (hA : zArOk φ zbA) (hT : zbT φ 7 0) (hfin : ∀ P, zFn φ P Q zfB) : zGd l X 2000000 φ zPt Q 215 200 223 zK4 [] := by
  have hd : ∀ pc ∈ [245], decode (zm 215).2.1 pc = .ok (.iaload, 1) := by
    intro pc hpc
    rw [List.mem_singleton] at hpc
    subst hpc
    decide +kernel
  have hcf : ∀ Fs m d pc t stk, zcf4 200 Fs m d pc t stk = true → zGd l X 2000000 φ (zPF φ (fun _ => True) Fs) Q m d pc t stk := by
    intro Fs m d pc t stk h
    exact zcW0_g (M := 1000) hT (fun ρ hp hS h6 => by omega) h (zb_Ws hA hT hfin 1000)
  have r := zGd_run (P := zPF φ (fun _ => True) []) (l := l) (X := X) (Q0 := Q) (zPF_up _ _ _) (hfin _) (zbO_ok l X 2000000 φ _) (zrX_g hA (by decide) hd (fun Fs => hfin _) (fun Fs => zbO_ok l X 2000000 φ _) hcf 1 []) (by decide) zbr_4
  exact zGd_P (fun ρ _ hp => ⟨⟨[], fun k n h => by simp at h, trivial⟩, fun fa h => by cases h⟩) r
theorem zb_all (hfin : ∀ φ, zJ φ → zArOk φ zbA → ∀ P, zFn φ P Q zfB) : ∀ (N : Nat) (φ : List z_C), zJ φ → zArOk φ zbA → zGd l X 2000000 φ (zPf (zbI2 φ N)) Q 215 200 113 zK2 [] := by
  intro N
  induction N with
  | zero =>
    intro φ hJ hA ρ ph lv st cst hp g gs
    obtain ⟨ns, hle, m, c, s, w, e, rfl, i1, i2, i3, iT, i4, i5, i6⟩ := hp
    exact absurd i6 (Nat.not_lt_zero _)
  | succ N ih => intro φ hJ hA; exact zb_2 hA (ih φ hJ hA) (zb_3 hJ hA (fun φ' hJ' hA' => zb_1 (ih φ' hJ' hA') (fun hT => zb_4 hA' hT (hfin φ' hJ' hA'))))
theorem zc0_g {φ : List z_C} (h2 : zGd l X 2000000 φ (zPf (zbI2 φ 10000)) Q 215 200 113 zK2 []) : zGd l X 2000000 φ zPt Q 215 200 77 zK0 [] := by
  refine zGd_run (fun _ _ _ h => h) (znf_ok _) (zbO_ok l X 2000000 φ _) ?_ (by decide) zbr_0
  intro m d pc t stk h
  unfold zc0 at h
  obtain ⟨ha, z1⟩ := zw_and h
  obtain ⟨k1, z2⟩ := zw_and z1
  obtain ⟨k2, z3⟩ := zw_and z2
  obtain ⟨k3, z4⟩ := zw_and z3
  obtain ⟨k4, k5⟩ := zw_and z4
  obtain ⟨rfl, rfl, rfl, rfl⟩ := zat0_g ha
  refine zGd_m (XL' := 2000000) (by decide) k1 (fun ρ hp hS hS0 => ?_) h2
  have u2 := zl_1 (zleq0_g hS k2)
  have u3 := zl_1 (zleq0_g hS k3)
  have u4 := zl_1 (zleq0_g hS k4)
  have u5 := zl_1 (zleq0_g hS k5)
  refine zPf_self ⟨0, 0, 0, zval ρ (zlv t 1), zval ρ (zlv t 5), ?_, by omega, by omega, by omega, fun m' c' _ _ h => by omega, fun _ => by omega, fun h => by omega, by omega⟩
  show [zval ρ (zlv t 1), zval ρ (zlv t 3), zval ρ (zlv t 4), zval ρ (zlv t 5), zval ρ (zlv t 6)] = _
  have e3 : zval ρ (zlv t 3) = ((0 : Nat) : Int) := by omega
  have e4 : zval ρ (zlv t 4) = ((0 : Nat) : Int) := by omega
  have e6 : zval ρ (zlv t 6) = ((0 : Nat) : Int) := by omega
  rw [e3, e4, e6]
end ZB
/-! the heap, told and in wide words -/
theorem zHT_52 : zHT[52]? = some (1, 0, 70, [(6, .ofNat 8589938886967296)], []) := rfl
theorem zHT_53 : zHT[53]? = some (1, 0, 96, [(6, .ofNat 6807523164160)], []) := rfl
theorem zHB_ne {i : Nat} (h1 : i ≠ 52) (h2 : i ≠ 53) : zHB[i]? = zHT[i]? := by
  unfold zHB
  rw [List.getElem?_set_ne (fun h => h2 h.symm), List.getElem?_set_ne (fun h => h1 h.symm)]
theorem zstrip {φ : List z_C} {ρ : List Int} {b : zA_C} {x : z_C} (g : zg_C φ ρ b x) : zg_C φ ρ (b.1, b.2.1, b.2.2.1, b.2.2.2.1, if b.1 = 0 then [] else b.2.2.2.2) x := by
  by_cases h0 : b.1 = 0
  · rw [if_pos h0]
    obtain ⟨fs, rfl, gf, -⟩ := zg_C0 h0 g
    exact Or.inr (Or.inl ⟨h0, fs, rfl, gf, zg_Z.nil _ _⟩)
  · rw [if_neg h0]
    exact g
theorem zg_W6 {ρ : List Int} {a : zA_V} {x : Int32} {q : zI2} (h6 : a.1 = 6) (hq : zIq a = [q]) (h1 : q.1 ≤ x.toInt) (h2 : x.toInt ≤ q.2) : zg_V ρ a (.int x) :=
  Or.inr (Or.inr (Or.inr (Or.inr (Or.inr (Or.inr ⟨by omega, Or.inl ⟨x, rfl, q, by rw [hq]; exact List.mem_singleton.mpr rfl, h1, h2⟩⟩)))))
theorem zg_W6e {ρ : List Int} {a : zA_V} {v : Value} {q : zI2} (h6 : a.1 = 6) (hq : zIq a = [q]) (g : zg_V ρ a v) : ∃ x : Int32, v = .int x ∧ q.1 ≤ x.toInt ∧ x.toInt ≤ q.2 := by
  rcases g with ⟨q, -⟩ | ⟨q, -⟩ | ⟨q, -⟩ | ⟨q, -⟩ | ⟨q, -⟩ | ⟨q, -⟩ | ⟨-, ⟨x, e, p, hp, b1, b2⟩ | ⟨q, -⟩ | ⟨q, -⟩⟩
  · omega
  · omega
  · omega
  · omega
  · omega
  · omega
  · rw [hq, List.mem_singleton] at hp
    subst hp
    exact ⟨x, e, b1, b2⟩
  · omega
  · omega
/-- an array in wide words is told by itself -/
theorem zwid {φ : List z_C} {ρ : List Int} {a : zA_V} {n : Nat} {q : zI2} {x : z_C} (h6 : a.1 = 6) (hq : zIq a = [q]) (g : zg_C φ ρ (1, 0, n, [a], []) x) : ∃ f : Nat → Int32, x = .inl (0, n, z_I f) ∧ ∀ k, k < n → q.1 ≤ (f k).toInt ∧ (f k).toInt ≤ q.2 := by
  obtain ⟨f, rfl, gf, -⟩ := zg_CI (a := (1, 0, n, [a], [])) rfl rfl g
  refine ⟨f, rfl, fun k hk => ?_⟩
  obtain ⟨y, ey, h1, h2⟩ := zg_W6e h6 hq (gf k hk)
  cases ey
  exact ⟨h1, h2⟩
theorem zbAr {φ : List z_C} {f g : Nat → Int32} (h1 : φ[52]? = some (.inl (0, 70, z_I f))) (h2 : ∀ k, k < 70 → 0 ≤ (f k).toInt ∧ (f k).toInt ≤ 1000000) (h3 : φ[53]? = some (.inl (0, 96, z_I g))) (h4 : ∀ k, k < 96 → 0 ≤ (g k).toInt ∧ (g k).toInt ≤ 792) : zArOk φ zbA := by
  intro i q hq
  unfold zbA at hq
  rw [List.lookup_cons] at hq
  cases h52 : i == 52 with
  | true =>
    rw [h52] at hq
    cases hq
    have e52 : i = 52 := by simpa using h52
    subst e52
    exact ⟨⟨f, h1⟩, fun k hk => by rw [zrd_eqn h1]; exact h2 k hk⟩
  | false =>
    rw [h52] at hq
    rw [List.lookup_cons] at hq
    cases h53 : i == 53 with
    | true =>
      rw [h53] at hq
      cases hq
      have e53 : i = 53 := by simpa using h53
      subst e53
      exact ⟨⟨g, h3⟩, fun k hk => by rw [zrd_eqn h3]; exact h4 k hk⟩
    | false =>
      rw [h53] at hq
      cases hq
theorem zbTell {φ : List z_C} {ρ : List Int} {ph : List z_C} (hJ : zJ φ) (g : zL2 (zg_C φ ρ) zHT ph) : zJ ph ∧ zArOk ph zbA ∧ zL2 (zg_C ph ρ) zHB ph := by
  have hlen : zHB.length = ph.length := (by decide +kernel : zHB.length = zHT.length).trans (zL2.len g)
  obtain ⟨x1, e1, g1⟩ := zL2.get g zHT_52
  obtain ⟨x2, e2, g2⟩ := zL2.get g zHT_53
  obtain ⟨f1, rfl, b1⟩ := zwid (q := (0, 1000000)) rfl (by decide +kernel) g1
  obtain ⟨f2, rfl, b2⟩ := zwid (q := (0, 792)) rfl (by decide +kernel) g2
  refine ⟨zJ_self (by decide +kernel) (by decide +kernel) (by decide +kernel) hJ g, zbAr e1 b1 e2 b2, zself zHB_8 (φ := φ) hlen (fun i b hb h8 x hx => zstrip ?_)⟩
  by_cases h1 : i = 52
  · subst h1
    rw [zHB_52] at hb
    cases hb
    exact absurd rfl h8
  · by_cases h2 : i = 53
    · subst h2
      rw [zHB_53] at hb
      cases hb
      exact absurd rfl h8
    · rw [zHB_ne h1 h2] at hb
      obtain ⟨x', ex, gx⟩ := zL2.get g hb
      rw [hx] at ex
      cases ex
      exact gx
theorem zbWide {φ : List z_C} {ρ : List Int} {ph : List z_C} (hJ : zJ φ) (hA : zArOk φ zbA) (g : zL2 (zg_C φ ρ) zHB ph) : zJ ph ∧ zL2 (zg_C ph ρ) zHT ph := by
  have hlen : zHT.length = ph.length := (by decide +kernel : zHT.length = zHB.length).trans (zL2.len g)
  have tell : ∀ {i n : Nat} {x : z_C}, zHB[i]? = some (8, i, n, [], []) → ph[i]? = some x → φ[i]? = some x := by
    intro i n x hb hx
    obtain ⟨x', ex, gx⟩ := zL2.get g hb
    rw [hx] at ex
    cases ex
    rcases gx with ⟨-, gx⟩ | ⟨g1, -⟩ | ⟨g1, -⟩ | ⟨g1, -⟩ | ⟨g1, -⟩
    · exact gx
    · have g1 : (8 : Nat) = 0 := g1
      omega
    all_goals
      have g1 : (8 : Nat) = 1 := g1
      omega
  refine ⟨zJ_self (by decide +kernel) (by decide +kernel) (by decide +kernel) hJ g, zself zHT_8 (φ := φ) hlen (fun i b hb h8 x hx => zstrip ?_)⟩
  by_cases h1 : i = 52
  · subst h1
    rw [zHT_52] at hb
    cases hb
    obtain ⟨⟨f, hf⟩, hb⟩ := hA 52 (70, 0, 1000000) rfl
    have e := tell zHB_52 hx
    rw [hf] at e
    cases e
    refine Or.inr (Or.inr (Or.inl ⟨rfl, rfl, f, rfl, fun k hk => ?_, zg_Y.nil _ _ _⟩))
    have := hb k hk
    rw [zrd_eqn hf] at this
    exact zg_W6 (a := (6, .ofNat 8589938886967296)) (q := (0, 1000000)) rfl (by decide +kernel) this.1 this.2
  · by_cases h2 : i = 53
    · subst h2
      rw [zHT_53] at hb
      cases hb
      obtain ⟨⟨f, hf⟩, hb⟩ := hA 53 (96, 0, 792) rfl
      have e := tell zHB_53 hx
      rw [hf] at e
      cases e
      refine Or.inr (Or.inr (Or.inl ⟨rfl, rfl, f, rfl, fun k hk => ?_, zg_Y.nil _ _ _⟩))
      have := hb k hk
      rw [zrd_eqn hf] at this
      exact zg_W6 (a := (6, .ofNat 6807523164160)) (q := (0, 792)) rfl (by decide +kernel) this.1 this.2
    · rw [← zHB_ne h1 h2] at hb
      obtain ⟨x', ex, gx⟩ := zL2.get g hb
      rw [hx] at ex
      cases ex
      exact gx
