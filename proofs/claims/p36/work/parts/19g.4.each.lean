/-! PART 30.6: cases of the law that run for each value of the fields that hold alike. -/
theorem zlrunK_g {l : Launch} {X : zx_X} {Q0 : Option Value → List z_C → Prop} {N : Nat} {orc : zO_} {p : Nat × Nat × Nat × Nat} {n pc : Nat} (hp : p ∈ zPs) (hc : zpck zHT = true) (hw : zvw p.1 p.2.1 (0, (n : Int)) = true) (h : ∀ k : Nat, k ≤ n → zlrunN orc p ((k : Int), (k : Int)) pc = true) (hor : ∀ φ, zOk l X 3000000 φ (zPf (zlI X N)) orc) (hH : zlHd l X Q0 N) : zlSt l X Q0 N pc := by
  intro φ hj
  have kk : ∀ k : Nat, k ≤ n → zGd l X 3000000 φ (zPf (zlI X N)) Q0 0 2000 pc (ztN p ((k : Int), (k : Int))) [] := by
    intro k hk
    refine zGd_run (zPf_up _) (znf_ok _) (hor φ) ?_ (by decide) (h k hk)
    intro m d pc t stk hcut
    unfold zlcN at hcut
    split at hcut
    · cases hcut
    · obtain ⟨k1, z1⟩ := zw_and hcut
      obtain ⟨k2, z2⟩ := zw_and z1
      obtain ⟨k3, k4⟩ := zw_and z2
      rw [Nat.eq_of_beq_eq_true k1, Nat.eq_of_beq_eq_true k2, Nat.eq_of_beq_eq_true k3]
      unfold zlNd at k4
      split at k4
      · cases k4
      · exact zlNh_g hj hH k4
  intro ρ ph lv st cst hpI g gs
  obtain ⟨g1, g2, g3, g4, g5⟩ := g
  obtain ⟨m, fs, x, e1, e2, b1, b2⟩ := zvw_g hw g2
  have b1 : (0 : Int) ≤ x.toInt := b1
  have b2 : x.toInt ≤ (n : Int) := b2
  obtain ⟨c1, c2⟩ := zw_and (List.all_eq_true.mp hc p hp)
  obtain ⟨n1, gs1, m1, fs1, a1, a2, a3⟩ := ztold_g c1 g2
  obtain ⟨n2, gs2, m2, fs2, d1, d2, d3⟩ := ztold_g c2 g2
  obtain ⟨n', m', gs', hs, v, u1, u2, u3, u4⟩ := hj.2.2 p hp
  rw [u1] at a1
  cases a1
  rw [u3] at d1
  cases d1
  rw [a2] at e1
  cases e1
  rw [a3, u2] at e2
  cases e2
  have hle := zLE.app ρ x.toInt
  have hlen : ρ.length = 7 := zL2.len g1
  have e7 : (ρ ++ [x.toInt])[7]? = some x.toInt := by
    rw [List.getElem?_append_right (by omega), hlen]
    rfl
  exact kk x.toInt.toNat (by omega) (ρ ++ [x.toInt]) ph lv st cst (zPf_up _ _ _ hle hpI) ⟨zg_S.push g1 (q := (((x.toInt.toNat : Nat) : Int), ((x.toInt.toNat : Nat) : Int))) (show ((x.toInt.toNat : Nat) : Int) ≤ x.toInt by omega) (show x.toInt ≤ ((x.toInt.toNat : Nat) : Int) by omega), zsf_g (zsf_g (zL2.mono (fun _ _ => zg_C.mono hle) g2) a2 (a3.trans u2) e7) d2 (d3.trans u4) e7, zL2.mono (fun _ _ q => ⟨q.1, q.2.mono hle⟩) g3, zL2.mono (fun _ _ => zg_V.mono hle) g4, g5.mono hle⟩ (zL2.mono (fun _ _ => zg_F.mono hle) gs)
