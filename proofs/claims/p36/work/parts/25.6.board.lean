/-! PART 25.6: the nearest board: a contract that keeps the journals. -/
def zj_215_te : zA_T := ([zqw], zHT, [(0, (2, 46)), (1, (1, 0))], [], 0, 0)
def zK7 : zA_T := ([zqw], zHT, [(0, (2, 46)), (1, (1, 0))], [], 0, 0)
def zb_h0 : zHd := (0, zj_215_te, [(0, 1, 0)], [], 300, [0], [])
def zb_h6 : zHd := (6, ([zqw, (0, 24, zD0)], zHT, [(0, (2, 46)), (1, (1, 0)), (2, (1, 1))], [], 0, 0), [(0, 1, 0), (0, 2, 0)], [], 200, [0, 1], [])
def zb_h47 : zHd := (47, ([zqw, (0, 96, zD0)], zHT, [(0, (2, 46)), (1, (1, 0)), (2, (1, 1))], [], 0, 0), [(0, 1, 0), (0, 2, 0)], [], 100, [0, 1], [])
def zb_hs : List zHd := [zb_h0, zb_h6, zb_h47]
def zb_or : zO_ := zor zk_203_o (zor zk_216_u_o zon)
theorem zb_oo (l : Launch) (X : zx_X) (φ : List z_C) (P : List Int → Prop) : zOk l X 2000000 φ P zb_or := zOk_or (zk_203_ok l X 2000000 φ P) (zOk_or (zk_216_u_ok l X 2000000 φ P) (zOk_no l X 2000000 φ P))
def zc77 (D m d pc : Nat) (t : zA_T) (stk : List zA_F) : Bool := zat0 D 77 m d pc stk && zmT [zlv t 1] t zK7
set_option maxRecDepth 100000 in
theorem zb_e0 : zx1 2000000 znf (fun m' d' pc t stk => zcutH zb_hs zb_h0 215 200 m' d' pc t stk || zc77 200 m' d' pc t stk) zb_or 6000 215 200 zb_h0.1 (zhS zb_h0) [] = true := by decide +kernel
set_option maxRecDepth 100000 in
theorem zb_e6 : zx1 2000000 znf (fun m' d' pc t stk => zcutH zb_hs zb_h6 215 200 m' d' pc t stk || zc77 200 m' d' pc t stk) zb_or 6000 215 200 zb_h6.1 (zhS zb_h6) [] = true := by decide +kernel
set_option maxRecDepth 100000 in
theorem zb_e47 : zx1 2000000 znf (fun m' d' pc t stk => zcutH zb_hs zb_h47 215 200 m' d' pc t stk || zc77 200 m' d' pc t stk) zb_or 6000 215 200 zb_h47.1 (zhS zb_h47) [] = true := by decide +kernel
theorem zj_215_c : zConJ 215 200 zj_215_te (some (-2147483648, 2147483647)) := by
  intro l X φ Q ρ ph lv hJ g hQ
  have hfin : ∀ φ, zJ φ → zArOk φ zbA → ∀ P, zFn φ P Q zfB := by
    intro φ hJ hA P t r hf ρ ph v hp gS gH gR
    unfold zfB at hf
    obtain ⟨h1, h2⟩ := zw_and hf
    obtain ⟨r1, r2⟩ := zbWide hJ hA (zmH_g (σ := []) gS rfl h1 gH)
    refine hQ ph v ph r1 r2 ?_
    cases r with
    | none => cases h2
    | some a =>
      cases v with
      | none => exact gR.elim
      | some u =>
        obtain ⟨x, rfl, -⟩ := zg_int h2 gR
        exact ⟨Int32.le_toInt x, by have := Int32.toInt_lt x; show x.toInt ≤ 2147483647; omega⟩
  have hcx : ∀ m d pc t stk, zc77 200 m d pc t stk = true → zGd l X 2000000 φ zPt Q m d pc t stk := by
    intro m d pc t stk h
    unfold zc77 at h
    obtain ⟨ha, k1⟩ := zw_and h
    obtain ⟨rfl, rfl, rfl, rfl⟩ := zat0_g ha
    intro ρ ph lv st cst hp g gs
    obtain ⟨rfl, e, lv0, m0, g0⟩ := zmT_g (XL' := 2000000) (by decide) k1 g
    cases cst with
    | cons a b => exact gs.elim
    | nil =>
      obtain ⟨j1, j2, j3⟩ := zbTell hJ g0.2.1
      have k := zc0_g (l := l) (X := X) (Q := Q) (zb_all hfin 10000 ph j1 j2) _ ph lv0 [] [] trivial ⟨g0.1, j3, g0.2.2.1, trivial, g0.2.2.2.2⟩ trivial
      have k := k.lsub m0
      have e : t.2.2.2.2 = zK0.2.2.2.2 := e
      rw [← e] at k
      exact k
  have k := zheads2 (l := l) (X := X) (XL := 2000000) (φ := φ) (Q0 := Q) (by decide) (hs := zb_hs) (m := 215) (d := 200) (n := 6000) (by decide) (orc := zb_or) (by decide +kernel) (zb_oo l X φ) hcx (zAll_mem ⟨zb_e0, zb_e6, zb_e47, trivial⟩) ((zmu zb_h0 ρ).toNat + 1) zb_h0 List.mem_cons_self
  exact k ρ ph lv [] [] (zPf_self ⟨zL2.len g.1, by omega, trivial, fun f hf => by cases hf⟩) g trivial
