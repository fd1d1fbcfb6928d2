/-! PART 27: the law's case of drawn; the law from its start -/
def z21c : zA_T := ([((.negSucc 2147483647), (.ofNat 2147483647), zD0), ((.negSucc 2147483647), (.ofNat 2147483647), zD0), ((.negSucc 2147483647), (.ofNat 2147483647), zD0), ((.negSucc 0), (.ofNat 23), zD0), ((.negSucc 2147483647), (.ofNat 2147483647), zD0), ((.negSucc 2147483647), (.ofNat 2147483647), zD0), ((.ofNat 21), (.ofNat 21), zD0), ((.ofNat 1), (.ofNat 30), (19, (1, (.ofNat 2)), (0, (.ofNat 100)))), ((.ofNat 1), (.ofNat 30), (20, (1, (.ofNat 2)), (0, (.ofNat 100))))], zH0, [(0, (2, (.ofNat 15))), (1, (1, (.ofNat 1))), (2, (1, (.ofNat 7))), (3, (1, (.ofNat 8))), (4, (1, (.ofNat 3)))], [], 0, 0)
def z21f1 : zA_F := (129, 1999, 64, [(5, (1, (.ofNat 8))), (4, (1, (.ofNat 7))), (0, (2, (.ofNat 3))), (1, (1, (.ofNat 1))), (2, (1, (.ofNat 2))), (3, (1, (.ofNat 3)))], [], 0, 0)
def z21f0 : zA_F := (0, 2000, 844, [(3, (0, (.ofNat 0))), (2, (2, (.ofNat 46))), (1, (2, (.ofNat 3))), (0, (2, (.ofNat 2)))], [], 64, 4062)
def z21t2 : zA_T := ([((.negSucc 2147483647), (.ofNat 2147483647), zD0), ((.negSucc 2147483647), (.ofNat 2147483647), zD0), ((.ofNat 100), (.ofNat 3099), zD0), ((.negSucc 0), (.ofNat 23), zD0), ((.negSucc 2147483647), (.ofNat 2147483647), zD0), ((.negSucc 2147483647), (.ofNat 2147483647), zD0), ((.ofNat 21), (.ofNat 21), zD0), ((.ofNat 1), (.ofNat 30), (19, (1, (.ofNat 2)), (0, (.ofNat 100)))), ((.ofNat 1), (.ofNat 30), (20, (1, (.ofNat 2)), (0, (.ofNat 100)))), ((.negSucc 2147483647), (.ofNat 2147483647), zD0)], zHW, [(5, (1, (.ofNat 8))), (4, (1, (.ofNat 7))), (0, (2, (.ofNat 3))), (1, (1, (.ofNat 1))), (2, (1, (.ofNat 2))), (3, (1, (.ofNat 3)))], [(1, (.ofNat 9))], 0, 0)
def z21d : zA_T := ([((.negSucc 2147483647), (.ofNat 2147483647), zD0), ((.negSucc 2147483647), (.ofNat 2147483647), zD0), ((.ofNat 100), (.ofNat 3099), zD0), ((.negSucc 0), (.ofNat 23), zD0), ((.negSucc 2147483647), (.ofNat 2147483647), zD0), ((.negSucc 2147483647), (.ofNat 2147483647), zD0), ((.ofNat 21), (.ofNat 21), zD0), ((.ofNat 1), (.ofNat 30), (19, (1, (.ofNat 2)), (0, (.ofNat 100)))), ((.ofNat 1), (.ofNat 30), (20, (1, (.ofNat 2)), (0, (.ofNat 100)))), ((.negSucc 2147483647), (.ofNat 2147483647), zD0)], zHW, [(0, (2, (.ofNat 46))), (1, (1, (.ofNat 1))), (2, (1, (.ofNat 2))), (3, (1, (.ofNat 3)))], [], 0, 0)
def z21g0 : zA_F := (0, 2000, 863, [(3, (0, (.ofNat 0))), (2, (2, (.ofNat 46))), (1, (2, (.ofNat 3))), (0, (2, (.ofNat 2)))], [(1, (.ofNat 9))], 64, 4062)
def z21t3 : zA_T := ([((.negSucc 2147483647), (.ofNat 2147483647), zD0), ((.negSucc 2147483647), (.ofNat 2147483647), zD0), ((.ofNat 100), (.ofNat 3099), zD0), ((.negSucc 0), (.ofNat 23), zD0), ((.negSucc 2147483647), (.ofNat 2147483647), zD0), ((.negSucc 2147483647), (.ofNat 2147483647), zD0), ((.ofNat 21), (.ofNat 21), zD0), ((.ofNat 1), (.ofNat 30), (19, (1, (.ofNat 2)), (0, (.ofNat 100)))), ((.ofNat 1), (.ofNat 30), (20, (1, (.ofNat 2)), (0, (.ofNat 100)))), ((.negSucc 2147483647), (.ofNat 2147483647), zD0)], zHW, [(3, (0, (.ofNat 0))), (2, (2, (.ofNat 46))), (1, (2, (.ofNat 3))), (0, (2, (.ofNat 2)))], [(1, (.ofNat 9)), (1, (.ofNat 9))], 64, 4062)
def zFeq (a b : zA_F) : Bool := Nat.beq a.1 b.1 && (Nat.beq a.2.1 b.2.1 && (Nat.beq a.2.2.1 b.2.2.1 && (zLeq zKeq a.2.2.2.1 b.2.2.2.1 && (zLeq zVeq a.2.2.2.2.1 b.2.2.2.2.1 && (Nat.beq a.2.2.2.2.2.1 b.2.2.2.2.2.1 && Nat.beq a.2.2.2.2.2.2 b.2.2.2.2.2.2)))))
theorem zFeq_eq (a b : zA_F) (h : zFeq a b = true) : a = b := by
  obtain ⟨h1, h⟩ := zw_and h
  obtain ⟨h2, h⟩ := zw_and h
  obtain ⟨h3, h⟩ := zw_and h
  obtain ⟨h4, h⟩ := zw_and h
  obtain ⟨h5, h⟩ := zw_and h
  obtain ⟨h6, h7⟩ := zw_and h
  exact Prod.ext (Nat.eq_of_beq_eq_true h1) (Prod.ext (Nat.eq_of_beq_eq_true h2) (Prod.ext (Nat.eq_of_beq_eq_true h3) (Prod.ext (zLeq_eq zKeq_eq h4) (Prod.ext (zLeq_eq zVeq_eq h5) (Prod.ext (Nat.eq_of_beq_eq_true h6) (Nat.eq_of_beq_eq_true h7))))))
def zcutF (m0 d0 : Nat) (t0 : zA_T) (s0 : List zA_F) (m d pc : Nat) (t : zA_T) (stk : List zA_F) : Bool := match Nat.beq m m0 with
  | false => false
  | true => Nat.beq pc 0 && (Nat.beq d d0 && (zteq t t0 && zLeq zFeq stk s0))
theorem zcutF_g {l : Launch} {X : zx_X} {XL : Nat} {φ : List z_C} {Q0 : Option Value → List z_C → Prop} {P : List Int → Prop} {m0 d0 : Nat} {t0 : zA_T} {s0 : List zA_F} (h : zGd l X XL φ P Q0 m0 d0 0 t0 s0) : ∀ (m d pc : Nat) (t : zA_T) (stk : List zA_F), zcutF m0 d0 t0 s0 m d pc t stk = true → zGd l X XL φ P Q0 m d pc t stk := by
  intro m d pc t stk hc
  unfold zcutF at hc
  split at hc
  · cases hc
  · next hm =>
    obtain ⟨h1, h2⟩ := zw_and hc
    obtain ⟨h3, h4⟩ := zw_and h2
    obtain ⟨h5, h6⟩ := zw_and h4
    rw [Nat.eq_of_beq_eq_true hm, Nat.eq_of_beq_eq_true h1, Nat.eq_of_beq_eq_true h3, zteq_eq h5, zLeq_eq zFeq_eq h6]
    exact h
set_option maxRecDepth 100000 in
theorem z21_r1 : zx1 6 zfin1 (zcutF 130 1998 z21c [z21f1, z21f0]) zon 4000 0 2000 825 (zTs (zSk 21)) [] = true := by decide +kernel
set_option maxRecDepth 100000 in
theorem z21_r2 : zx1 6 zfin1 (zcutF 239 1999 z21d [z21g0]) zon 4000 129 1999 64 z21t2 [z21f0] = true := by decide +kernel
set_option maxRecDepth 100000 in
theorem z21_r3 : zx1 6 zfin1 zno zon 4000 0 2000 863 z21t3 [] = true := by decide +kernel
theorem z21_m : zmT [(1, (.ofNat 1)), (1, (.ofNat 7)), (1, (.ofNat 8)), (1, (.ofNat 3))] z21c zdE = true := by decide +kernel
def zeE0 : zA_T := (zeE.1.map (fun q => (q.1, q.2.1, zD0)), zeE.2)
theorem z21_md : zmT [(1, (.ofNat 1)), (1, (.ofNat 2)), (1, (.ofNat 3)), (1, (.ofNat 7)), (1, (.ofNat 8))] z21d zeE0 = true := by decide +kernel
theorem zmap_eq4 {ρ : List Int} {a0 a1 a2 a3 : zA_V} {x0 x1 x2 x3 : Int} (e0 : zval ρ a0 = x0) (e1 : zval ρ a1 = x1) (e2 : zval ρ a2 = x2) (e3 : zval ρ a3 = x3) : [a0, a1, a2, a3].map (zval ρ) = [x0, x1, x2, x3] := by
  show [zval ρ a0, zval ρ a1, zval ρ a2, zval ρ a3] = _
  rw [e0, e1, e2, e3]
/-- the names that the two sides share -/
def z21P (n1 n2 n3 T : Int) (ns : List Int) : Prop := ns[1]? = some n1 ∧ ns[2]? = some n2 ∧ ns[3]? = some n3 ∧ ns[9]? = some T
section Z21
variable {l : Launch} {X : zx_X}
theorem z21_3 (P : List Int → Prop) (hP : ∀ ρ ρ' : List Int, zLE ρ ρ' → P ρ → P ρ') : zGd l X 6 [] P zQ1 0 2000 863 z21t3 [] :=
  zGd_run hP zfin1_ok (zOk_no l X _ _ _) (zCt_no l X _ _ _ zQ1) (by decide) z21_r3
theorem z21_d {n1 n2 n3 T : Int} (hT : T = zdO (zb_c 19 n2 100).toNat (zb_c 20 n2 100).toNat n1 n3 0) : zGd l X 6 [] (zPf (z21P n1 n2 n3 T)) zQ1 239 1999 0 z21d [z21g0] := by
  intro ρ ph lv st cst hp g gs
  obtain ⟨c, cst1, rfl, gf, gs1⟩ := zL2.cons1 gs
  have gs1 := zL2.nil1 gs1
  subst gs1
  have hS := g.1
  obtain ⟨ns, hle, p1, p2, p3, p9⟩ := hp
  have b1 : ρ[1]? = some n1 := hle 1 _ p1
  have b2 : ρ[2]? = some n2 := hle 2 _ p2
  have b3 : ρ[3]? = some n3 := hle 3 _ p3
  have b9 : ρ[9]? = some T := hle 9 _ p9
  have r2 : (100 : Int) ≤ n2 ∧ n2 ≤ 3099 := zS_rng hS (rfl : z21d.1[2]? = some (100, 3099, zD0)) b2
  have h7 : ρ[7]? = some (zb_c 19 n2 100) ∧ (1 : Int) ≤ zb_c 19 n2 100 ∧ zb_c 19 n2 100 ≤ 30 := zD_use hS (rfl : z21d.1[7]? = some (1, 30, (19, (1, .ofNat 2), (0, .ofNat 100)))) (by decide) (zEk b2) (zE0 ρ 100)
  have h8 : ρ[8]? = some (zb_c 20 n2 100) ∧ (1 : Int) ≤ zb_c 20 n2 100 ∧ zb_c 20 n2 100 ≤ 30 := zD_use hS (rfl : z21d.1[8]? = some (1, 30, (20, (1, .ofNat 2), (0, .ofNat 100)))) (by decide) (zEk b2) (zE0 ρ 100)
  obtain ⟨rfl, e, lv0, m0, g0⟩ := zmT_g (XL' := 2000000) (by decide) z21_md g
  have hρ := zmap_eq5 (ρ := ρ) (zval_E (a := (1, .ofNat 1)) rfl (zEk b1)) (zval_E (a := (1, .ofNat 2)) rfl (zEk b2)) (zval_E (a := (1, .ofNat 3)) rfl (zEk b3)) (zval_E (a := (1, .ofNat 7)) rfl (zEk h7.1)) (zval_E (a := (1, .ofNat 8)) rfl (zEk h8.1))
  rw [hρ] at g0
  obtain ⟨u1, u2, u3, u4, u5⟩ := g0
  have gE : zg_S [n1, n2, n3, zb_c 19 n2 100, zb_c 20 n2 100] zeE.1 := ⟨⟨u1.1.1, u1.1.2.1, Or.inl rfl⟩, ⟨u1.2.1.1, u1.2.1.2.1, Or.inl rfl⟩, ⟨u1.2.2.1.1, u1.2.2.1.2.1, Or.inl rfl⟩,
    ⟨h7.2.1, h7.2.2, Or.inr ⟨n2, 100, zEk (j := 1) rfl, zE0 _ 100, rfl⟩⟩, ⟨h8.2.1, h8.2.2, Or.inr ⟨n2, 100, zEk (j := 1) rfl, zE0 _ 100, rfl⟩⟩, trivial⟩
  have hQ : zdQ (zQS l X zQ1 [c]) T := by
    intro ph' x hx gW
    obtain ⟨cm, cd, cpc, clv, cstk, ccc, cns⟩ := c
    obtain ⟨f0, f1, f2, f3, f4, f5, f6⟩ := gf
    have f1 : 0 = cm := f1
    have f2 : 2000 = cd := f2
    have f3 : 863 = cpc := f3
    have f6 : ((64 : Nat), (4062 : Nat)) = (ccc, cns) := f6
    subst f1 f2 f3
    cases f6
    exact z21_3 (fun _ => True) (fun _ _ _ h => h) ρ ph' clv (.int x :: cstk) [] trivial ⟨hS, zPhi zHW_8 (zcnH_g zHW_cn gW), f4, ⟨zg_ofK (k := 9) (by rw [hx]; exact b9), f5⟩, g.2.2.2.2⟩ trivial
  have k := zdR (l := l) (X := X) (φ := []) n1 n2 n3 h7.2.1 h7.2.2 h8.2.1 h8.2.2 hT hQ _ ph lv0 [] [] ⟨[n1, n2, n3], fun j n h => by
    match j, h with
    | 0, h => exact h
    | 1, h => exact h
    | 2, h => exact h
    | j + 3, h => exact absurd h (by simp), rfl⟩ ⟨gE, u2, u3, u4, u5⟩ trivial
  exact ZW.deeper (by decide) (ZW.lsub m0 k)
theorem z21_2 {n1 n2 n3 T : Int} (hT : T = zdO (zb_c 19 n2 100).toNat (zb_c 20 n2 100).toNat n1 n3 0) : zGd l X 6 [] (zPf (z21P n1 n2 n3 T)) zQ1 129 1999 64 z21t2 [z21f0] :=
  zGd_run (zPf_up _) zfin1_ok (zOk_no l X _ _ _) (zcutF_g (z21_d hT)) (by decide) z21_r2
theorem z21_c : zGd l X 6 [] zPt zQ1 130 1998 0 z21c [z21f1, z21f0] := by
  intro ρ ph lv st cst _ g gs
  obtain ⟨c, cst1, rfl, gf, gs1⟩ := zL2.cons1 gs
  obtain ⟨c2, cst2, rfl, gf2, gs2⟩ := zL2.cons1 gs1
  have gs2 := zL2.nil1 gs2
  subst gs2
  have hS := g.1
  obtain ⟨n1, b1, -⟩ := zL2.getR hS (rfl : z21c.1[1]? = some (-2147483648, 2147483647, zD0))
  obtain ⟨n2, b2, -⟩ := zL2.getR hS (rfl : z21c.1[2]? = some (-2147483648, 2147483647, zD0))
  obtain ⟨n3, b3, -⟩ := zL2.getR hS (rfl : z21c.1[3]? = some (-1, 23, zD0))
  have h7 : ρ[7]? = some (zb_c 19 n2 100) ∧ (1 : Int) ≤ zb_c 19 n2 100 ∧ zb_c 19 n2 100 ≤ 30 := zD_use hS (rfl : z21c.1[7]? = some (1, 30, (19, (1, .ofNat 2), (0, .ofNat 100)))) (by decide) (zEk b2) (zE0 ρ 100)
  have h8 : ρ[8]? = some (zb_c 20 n2 100) ∧ (1 : Int) ≤ zb_c 20 n2 100 ∧ zb_c 20 n2 100 ≤ 30 := zD_use hS (rfl : z21c.1[8]? = some (1, 30, (20, (1, .ofNat 2), (0, .ofNat 100)))) (by decide) (zEk b2) (zE0 ρ 100)
  have r2 : (-2147483648 : Int) ≤ n2 ∧ n2 ≤ 2147483647 := zS_rng hS (rfl : z21c.1[2]? = some (-2147483648, 2147483647, zD0)) b2
  have hdv : zb_c 19 n2 100 = n2.tdiv 100 := by
    have e1 : zb_c 19 n2 100 = (Int32.ofInt n2 / Int32.ofInt 100).toInt := rfl
    have e2 : (Int32.ofInt n2).toInt = n2 := Int32.toInt_ofInt_of_le (by omega) (by omega)
    have e3 : (Int32.ofInt 100).toInt = 100 := by decide
    rw [e1, Int32.toInt_div, e2, e3]
    have u := z_tdiv_abs (a := n2) (b := 100) (by omega)
    exact Int.bmod_eq_of_le (by omega) (by omega)
  have r2' : 100 ≤ n2 ∧ n2 ≤ 3099 := by
    have u1 := h7.2.1
    have u2 := h7.2.2
    rw [hdv] at u1 u2
    have hpos : 0 ≤ n2 := by
      rcases Int.le_total 0 n2 with h | h
      · exact h
      · have := z_tdiv_abs (a := n2) (b := 100) (by omega)
        omega
    rw [Int.tdiv_eq_ediv_of_nonneg hpos] at u1 u2
    omega
  obtain ⟨rfl, e, lv0, m0, g0⟩ := zmT_g (XL' := 2000000) (by decide) z21_m g
  have hρ := zmap_eq4 (ρ := ρ) (zval_E (a := (1, .ofNat 1)) rfl (zEk b1)) (zval_E (a := (1, .ofNat 7)) rfl (zEk h7.1)) (zval_E (a := (1, .ofNat 8)) rfl (zEk h8.1)) (zval_E (a := (1, .ofNat 3)) rfl (zEk b3))
  rw [hρ] at g0
  generalize hT : zdO (zb_c 19 n2 100).toNat (zb_c 20 n2 100).toNat n1 n3 0 = T
  have hQ : zdQ (zQS l X zQ1 [c, c2]) T := by
    intro ph' x hx gW
    obtain ⟨cm, cd, cpc, clv, cstk, ccc, cns⟩ := c
    obtain ⟨f0, f1, f2, f3, f4, f5, f6⟩ := gf
    have f1 : 129 = cm := f1
    have f2 : 1999 = cd := f2
    have f3 : 64 = cpc := f3
    have f6 : ((0 : Nat), (0 : Nat)) = (ccc, cns) := f6
    subst f1 f2 f3
    cases f6
    have hlen : ρ.length = 9 := (zL2.len hS).trans rfl
    have hle := zLE.app ρ x.toInt
    have b9 : (ρ ++ [x.toInt])[9]? = some T := by
      rw [List.getElem?_append_right (by omega), hlen, hx]
      rfl
    have hS2 : zg_S (ρ ++ [x.toInt]) z21t2.1 := zg_S.push (zrf_g (a := (1, 2)) (q := (100, 3099)) hS (zEk (j := 2) b2) r2'.1 r2'.2) (q := (-2147483648, 2147483647)) (Int32.le_toInt x) (by have := Int32.toInt_lt x; show x.toInt ≤ 2147483647; omega)
    exact z21_2 hT.symm (ρ ++ [x.toInt]) ph' clv (.int x :: cstk) [c2] ⟨ρ ++ [x.toInt], zLE.refl _, hle _ _ b1, hle _ _ b2, hle _ _ b3, b9⟩
      ⟨hS2, zPhi zHW_8 (zcnH_g zHW_cn gW), zL2.mono (fun _ _ q => ⟨q.1, q.2.mono hle⟩) f4, ⟨zg_ofK (k := 9) (b9.trans (congrArg some hx.symm)), zL2.mono (fun _ _ => zg_V.mono hle) f5⟩, g.2.2.2.2.mono hle⟩ ⟨gf2.mono hle, trivial⟩
  have k := zdC (l := l) (X := X) (φ := []) n1 (zb_c 19 n2 100) (zb_c 20 n2 100) n3 hT.symm hQ _ ph lv0 [] [] (zPf_self rfl) g0 trivial
  exact ZW.deeper (by decide) (ZW.lsub m0 k)
end Z21
theorem zcs_21 (l : Launch) (X : zx_X) : zGood l X 6 825 (zTs (zSk 21)) :=
  zGd_run (fun _ _ _ h => h) zfin1_ok (zOk_no l X _ _ _) (zcutF_g z21_c) (by decide) z21_r1
