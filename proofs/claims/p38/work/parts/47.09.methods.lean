/-! PART 20.09: what methods do, readLevel, readOperand. -/
/-! readOperand -/
def zk_40_1_te : zA_T := ([], zHT, [(0, (2, (.ofNat 12))), (1, (0, (.ofNat 1)))], [], 0, 0)
def zk_40_1_al : List zAlt := [([], [], zHT, none)]
def zk_40_1_h0 : zHd := (0, zk_40_1_te, [], [], (.ofNat 5), [], [])
def zk_40_1_hs : List zHd := [zk_40_1_h0]
def zk_40_1_or : zO_ := zor zk_43_o (zor zk_40_2_o (zor zk_39_0_2_o (zon)))
theorem zk_40_1_oo (l : Launch) (X : zx_X) (φ : List z_C) (P : List Int → Prop) : zOk l X 2000000 φ P zk_40_1_or := zOk_or (zk_43_ok l X 2000000 φ P) (zOk_or (zk_40_2_ok l X 2000000 φ P) (zOk_or (zk_39_0_2_ok l X 2000000 φ P) (zOk_no l X 2000000 φ P)))
theorem zk_40_1_r0 : zx1 2000000 (zfinC zk_40_1_al zk_40_1_h0.2.2.2.1) (zcutH zk_40_1_hs zk_40_1_h0 40 75) zk_40_1_or 6000 40 75 zk_40_1_h0.1 (zhS zk_40_1_h0) [] = true := by decide +kernel
theorem zk_40_1_c : zCon 40 75 zk_40_1_te [] zk_40_1_al := zCon_of (n := 6000) (hs := zk_40_1_hs) (lo := []) (c := (.ofNat 5)) (ws := []) (by decide) (by decide +kernel) zk_40_1_oo (List.mem_cons_self) (zAll_mem ⟨zk_40_1_r0, trivial⟩)
def zk_40_1_o : zO_ := zorcC 40 75 zk_40_1_te [] [] zk_40_1_al
theorem zk_40_1_ok (l : Launch) (X : zx_X) (XL : Nat) (φ : List z_C) (P : List Int → Prop) : zOk l X XL φ P zk_40_1_o := zOk_C zk_40_1_c (by decide +kernel) l X XL φ P
/-! readLevel -/
def zk_39_5_1_te : zA_T := ([], zHT, [(0, (2, (.ofNat 12))), (1, (0, (.ofNat 5))), (2, (0, (.ofNat 1)))], [], 0, 0)
def zk_39_5_1_al : List zAlt := [([], [], zHT, none)]
def zk_39_5_1_h0 : zHd := (0, zk_39_5_1_te, [], [], (.ofNat 5), [], [])
def zk_39_5_1_hs : List zHd := [zk_39_5_1_h0]
def zk_39_5_1_or : zO_ := zor zk_40_1_o (zon)
theorem zk_39_5_1_oo (l : Launch) (X : zx_X) (φ : List z_C) (P : List Int → Prop) : zOk l X 2000000 φ P zk_39_5_1_or := zOk_or (zk_40_1_ok l X 2000000 φ P) (zOk_no l X 2000000 φ P)
theorem zk_39_5_1_r0 : zx1 2000000 (zfinC zk_39_5_1_al zk_39_5_1_h0.2.2.2.1) (zcutH zk_39_5_1_hs zk_39_5_1_h0 39 77) zk_39_5_1_or 6000 39 77 zk_39_5_1_h0.1 (zhS zk_39_5_1_h0) [] = true := by decide +kernel
theorem zk_39_5_1_c : zCon 39 77 zk_39_5_1_te [] zk_39_5_1_al := zCon_of (n := 6000) (hs := zk_39_5_1_hs) (lo := []) (c := (.ofNat 5)) (ws := []) (by decide) (by decide +kernel) zk_39_5_1_oo (List.mem_cons_self) (zAll_mem ⟨zk_39_5_1_r0, trivial⟩)
def zk_39_5_1_o : zO_ := zorcC 39 77 zk_39_5_1_te [] [] zk_39_5_1_al
theorem zk_39_5_1_ok (l : Launch) (X : zx_X) (XL : Nat) (φ : List z_C) (P : List Int → Prop) : zOk l X XL φ P zk_39_5_1_o := zOk_C zk_39_5_1_c (by decide +kernel) l X XL φ P
/-! readLevel -/
def zk_39_4_1_te : zA_T := ([], zHT, [(0, (2, (.ofNat 12))), (1, (0, (.ofNat 4))), (2, (0, (.ofNat 1)))], [], 0, 0)
def zk_39_4_1_al : List zAlt := [([], [], zHT, none)]
def zk_39_4_1_h0 : zHd := (0, zk_39_4_1_te, [], [], (.ofNat 247), [], [])
def zk_39_4_1_h1 : zHd := (34, ([((.ofNat 0), (.ofNat 120), zD0)], zHT, [(0, (2, (.ofNat 12))), (1, (0, (.ofNat 4))), (2, (0, (.ofNat 1))), (3, (0, (.ofNat 120))), (4, (1, (.ofNat 0)))], [], 0, 0), [(0, 4, 0)], [], (.ofNat 241), [(.ofNat 2)], [])
def zk_39_4_1_hs : List zHd := [zk_39_4_1_h0, zk_39_4_1_h1]
def zk_39_4_1_or : zO_ := zor zk_39_5_1_o (zon)
theorem zk_39_4_1_oo (l : Launch) (X : zx_X) (φ : List z_C) (P : List Int → Prop) : zOk l X 2000000 φ P zk_39_4_1_or := zOk_or (zk_39_5_1_ok l X 2000000 φ P) (zOk_no l X 2000000 φ P)
theorem zk_39_4_1_r0 : zx1 2000000 (zfinC zk_39_4_1_al zk_39_4_1_h0.2.2.2.1) (zcutH zk_39_4_1_hs zk_39_4_1_h0 39 79) zk_39_4_1_or 6000 39 79 zk_39_4_1_h0.1 (zhS zk_39_4_1_h0) [] = true := by decide +kernel
theorem zk_39_4_1_r1 : zx1 2000000 (zfinC zk_39_4_1_al zk_39_4_1_h1.2.2.2.1) (zcutH zk_39_4_1_hs zk_39_4_1_h1 39 79) zk_39_4_1_or 6000 39 79 zk_39_4_1_h1.1 (zhS zk_39_4_1_h1) [] = true := by decide +kernel
theorem zk_39_4_1_c : zCon 39 79 zk_39_4_1_te [] zk_39_4_1_al := zCon_of (n := 6000) (hs := zk_39_4_1_hs) (lo := []) (c := (.ofNat 247)) (ws := []) (by decide) (by decide +kernel) zk_39_4_1_oo (List.mem_cons_self) (zAll_mem ⟨zk_39_4_1_r0, zk_39_4_1_r1, trivial⟩)
def zk_39_4_1_o : zO_ := zorcC 39 79 zk_39_4_1_te [] [] zk_39_4_1_al
theorem zk_39_4_1_ok (l : Launch) (X : zx_X) (XL : Nat) (φ : List z_C) (P : List Int → Prop) : zOk l X XL φ P zk_39_4_1_o := zOk_C zk_39_4_1_c (by decide +kernel) l X XL φ P
