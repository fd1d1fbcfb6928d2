/-! PART 20.04: what methods do, readLevel. -/
/-! readLevel -/
def zk_39_3_4_te : zA_T := ([], zHT, [(0, (2, (.ofNat 12))), (1, (0, (.ofNat 3))), (2, (0, (.ofNat 4)))], [], 0, 0)
def zk_39_3_4_al : List zAlt := [([], [], zHT, none)]
def zk_39_3_4_h0 : zHd := (0, zk_39_3_4_te, [], [], (.ofNat 247), [], [])
def zk_39_3_4_h1 : zHd := (34, ([((.ofNat 0), (.ofNat 120), zD0)], zHT, [(0, (2, (.ofNat 12))), (1, (0, (.ofNat 3))), (2, (0, (.ofNat 4))), (3, (0, (.ofNat 120))), (4, (1, (.ofNat 0)))], [], 0, 0), [(0, 4, 0)], [], (.ofNat 241), [(.ofNat 2)], [])
def zk_39_3_4_hs : List zHd := [zk_39_3_4_h0, zk_39_3_4_h1]
def zk_39_3_4_or : zO_ := zor zk_39_4_4_o (zon)
theorem zk_39_3_4_oo (l : Launch) (X : zx_X) (φ : List z_C) (P : List Int → Prop) : zOk l X 2000000 φ P zk_39_3_4_or := zOk_or (zk_39_4_4_ok l X 2000000 φ P) (zOk_no l X 2000000 φ P)
theorem zk_39_3_4_r0 : zx1 2000000 (zfinC zk_39_3_4_al zk_39_3_4_h0.2.2.2.1) (zcutH zk_39_3_4_hs zk_39_3_4_h0 39 39) zk_39_3_4_or 6000 39 39 zk_39_3_4_h0.1 (zhS zk_39_3_4_h0) [] = true := by decide +kernel
theorem zk_39_3_4_r1 : zx1 2000000 (zfinC zk_39_3_4_al zk_39_3_4_h1.2.2.2.1) (zcutH zk_39_3_4_hs zk_39_3_4_h1 39 39) zk_39_3_4_or 6000 39 39 zk_39_3_4_h1.1 (zhS zk_39_3_4_h1) [] = true := by decide +kernel
theorem zk_39_3_4_c : zCon 39 39 zk_39_3_4_te [] zk_39_3_4_al := zCon_of (n := 6000) (hs := zk_39_3_4_hs) (lo := []) (c := (.ofNat 247)) (ws := []) (by decide) (by decide +kernel) zk_39_3_4_oo (List.mem_cons_self) (zAll_mem ⟨zk_39_3_4_r0, zk_39_3_4_r1, trivial⟩)
def zk_39_3_4_o : zO_ := zorcC 39 39 zk_39_3_4_te [] [] zk_39_3_4_al
theorem zk_39_3_4_ok (l : Launch) (X : zx_X) (XL : Nat) (φ : List z_C) (P : List Int → Prop) : zOk l X XL φ P zk_39_3_4_o := zOk_C zk_39_3_4_c (by decide +kernel) l X XL φ P
/-! readLevel -/
def zk_39_2_4_te : zA_T := ([], zHT, [(0, (2, (.ofNat 12))), (1, (0, (.ofNat 2))), (2, (0, (.ofNat 4)))], [], 0, 0)
def zk_39_2_4_al : List zAlt := [([], [], zHT, none)]
def zk_39_2_4_h0 : zHd := (0, zk_39_2_4_te, [], [], (.ofNat 9), [], [])
def zk_39_2_4_h1 : zHd := (34, ([((.ofNat 0), (.ofNat 1), zD0)], zHT, [(0, (2, (.ofNat 12))), (1, (0, (.ofNat 2))), (2, (0, (.ofNat 4))), (3, (0, (.ofNat 1))), (4, (1, (.ofNat 0)))], [], 0, 0), [(0, 4, 0)], [], (.ofNat 3), [(.ofNat 2)], [])
def zk_39_2_4_hs : List zHd := [zk_39_2_4_h0, zk_39_2_4_h1]
def zk_39_2_4_or : zO_ := zor zk_39_3_4_o (zon)
theorem zk_39_2_4_oo (l : Launch) (X : zx_X) (φ : List z_C) (P : List Int → Prop) : zOk l X 2000000 φ P zk_39_2_4_or := zOk_or (zk_39_3_4_ok l X 2000000 φ P) (zOk_no l X 2000000 φ P)
theorem zk_39_2_4_r0 : zx1 2000000 (zfinC zk_39_2_4_al zk_39_2_4_h0.2.2.2.1) (zcutH zk_39_2_4_hs zk_39_2_4_h0 39 41) zk_39_2_4_or 6000 39 41 zk_39_2_4_h0.1 (zhS zk_39_2_4_h0) [] = true := by decide +kernel
theorem zk_39_2_4_r1 : zx1 2000000 (zfinC zk_39_2_4_al zk_39_2_4_h1.2.2.2.1) (zcutH zk_39_2_4_hs zk_39_2_4_h1 39 41) zk_39_2_4_or 6000 39 41 zk_39_2_4_h1.1 (zhS zk_39_2_4_h1) [] = true := by decide +kernel
theorem zk_39_2_4_c : zCon 39 41 zk_39_2_4_te [] zk_39_2_4_al := zCon_of (n := 6000) (hs := zk_39_2_4_hs) (lo := []) (c := (.ofNat 9)) (ws := []) (by decide) (by decide +kernel) zk_39_2_4_oo (List.mem_cons_self) (zAll_mem ⟨zk_39_2_4_r0, zk_39_2_4_r1, trivial⟩)
def zk_39_2_4_o : zO_ := zorcC 39 41 zk_39_2_4_te [] [] zk_39_2_4_al
theorem zk_39_2_4_ok (l : Launch) (X : zx_X) (XL : Nat) (φ : List z_C) (P : List Int → Prop) : zOk l X XL φ P zk_39_2_4_o := zOk_C zk_39_2_4_c (by decide +kernel) l X XL φ P
/-! readLevel -/
def zk_39_1_4_te : zA_T := ([], zHT, [(0, (2, (.ofNat 12))), (1, (0, (.ofNat 1))), (2, (0, (.ofNat 4)))], [], 0, 0)
def zk_39_1_4_al : List zAlt := [([], [], zHT, none)]
def zk_39_1_4_h0 : zHd := (0, zk_39_1_4_te, [], [], (.ofNat 247), [], [])
def zk_39_1_4_h1 : zHd := (34, ([((.ofNat 0), (.ofNat 120), zD0)], zHT, [(0, (2, (.ofNat 12))), (1, (0, (.ofNat 1))), (2, (0, (.ofNat 4))), (3, (0, (.ofNat 120))), (4, (1, (.ofNat 0)))], [], 0, 0), [(0, 4, 0)], [], (.ofNat 241), [(.ofNat 2)], [])
def zk_39_1_4_hs : List zHd := [zk_39_1_4_h0, zk_39_1_4_h1]
def zk_39_1_4_or : zO_ := zor zk_39_2_4_o (zon)
theorem zk_39_1_4_oo (l : Launch) (X : zx_X) (φ : List z_C) (P : List Int → Prop) : zOk l X 2000000 φ P zk_39_1_4_or := zOk_or (zk_39_2_4_ok l X 2000000 φ P) (zOk_no l X 2000000 φ P)
theorem zk_39_1_4_r0 : zx1 2000000 (zfinC zk_39_1_4_al zk_39_1_4_h0.2.2.2.1) (zcutH zk_39_1_4_hs zk_39_1_4_h0 39 43) zk_39_1_4_or 6000 39 43 zk_39_1_4_h0.1 (zhS zk_39_1_4_h0) [] = true := by decide +kernel
theorem zk_39_1_4_r1 : zx1 2000000 (zfinC zk_39_1_4_al zk_39_1_4_h1.2.2.2.1) (zcutH zk_39_1_4_hs zk_39_1_4_h1 39 43) zk_39_1_4_or 6000 39 43 zk_39_1_4_h1.1 (zhS zk_39_1_4_h1) [] = true := by decide +kernel
theorem zk_39_1_4_c : zCon 39 43 zk_39_1_4_te [] zk_39_1_4_al := zCon_of (n := 6000) (hs := zk_39_1_4_hs) (lo := []) (c := (.ofNat 247)) (ws := []) (by decide) (by decide +kernel) zk_39_1_4_oo (List.mem_cons_self) (zAll_mem ⟨zk_39_1_4_r0, zk_39_1_4_r1, trivial⟩)
def zk_39_1_4_o : zO_ := zorcC 39 43 zk_39_1_4_te [] [] zk_39_1_4_al
theorem zk_39_1_4_ok (l : Launch) (X : zx_X) (XL : Nat) (φ : List z_C) (P : List Int → Prop) : zOk l X XL φ P zk_39_1_4_o := zOk_C zk_39_1_4_c (by decide +kernel) l X XL φ P
/-! readLevel -/
def zk_39_0_4_te : zA_T := ([], zHT, [(0, (2, (.ofNat 12))), (1, (0, (.ofNat 0))), (2, (0, (.ofNat 4)))], [], 0, 0)
def zk_39_0_4_al : List zAlt := [([], [], zHT, none)]
def zk_39_0_4_h0 : zHd := (0, zk_39_0_4_te, [], [], (.ofNat 247), [], [])
def zk_39_0_4_h1 : zHd := (34, ([((.ofNat 0), (.ofNat 120), zD0)], zHT, [(0, (2, (.ofNat 12))), (1, (0, (.ofNat 0))), (2, (0, (.ofNat 4))), (3, (0, (.ofNat 120))), (4, (1, (.ofNat 0)))], [], 0, 0), [(0, 4, 0)], [], (.ofNat 241), [(.ofNat 2)], [])
def zk_39_0_4_hs : List zHd := [zk_39_0_4_h0, zk_39_0_4_h1]
def zk_39_0_4_or : zO_ := zor zk_39_1_4_o (zon)
theorem zk_39_0_4_oo (l : Launch) (X : zx_X) (φ : List z_C) (P : List Int → Prop) : zOk l X 2000000 φ P zk_39_0_4_or := zOk_or (zk_39_1_4_ok l X 2000000 φ P) (zOk_no l X 2000000 φ P)
theorem zk_39_0_4_r0 : zx1 2000000 (zfinC zk_39_0_4_al zk_39_0_4_h0.2.2.2.1) (zcutH zk_39_0_4_hs zk_39_0_4_h0 39 45) zk_39_0_4_or 6000 39 45 zk_39_0_4_h0.1 (zhS zk_39_0_4_h0) [] = true := by decide +kernel
theorem zk_39_0_4_r1 : zx1 2000000 (zfinC zk_39_0_4_al zk_39_0_4_h1.2.2.2.1) (zcutH zk_39_0_4_hs zk_39_0_4_h1 39 45) zk_39_0_4_or 6000 39 45 zk_39_0_4_h1.1 (zhS zk_39_0_4_h1) [] = true := by decide +kernel
theorem zk_39_0_4_c : zCon 39 45 zk_39_0_4_te [] zk_39_0_4_al := zCon_of (n := 6000) (hs := zk_39_0_4_hs) (lo := []) (c := (.ofNat 247)) (ws := []) (by decide) (by decide +kernel) zk_39_0_4_oo (List.mem_cons_self) (zAll_mem ⟨zk_39_0_4_r0, zk_39_0_4_r1, trivial⟩)
def zk_39_0_4_o : zO_ := zorcC 39 45 zk_39_0_4_te [] [] zk_39_0_4_al
theorem zk_39_0_4_ok (l : Launch) (X : zx_X) (XL : Nat) (φ : List z_C) (P : List Int → Prop) : zOk l X XL φ P zk_39_0_4_o := zOk_C zk_39_0_4_c (by decide +kernel) l X XL φ P
