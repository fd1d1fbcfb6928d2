/-! PART 20.08: what methods do, readLevel. -/
/-! readLevel -/
def zk_39_3_2_te : zA_T := ([], zHT, [(0, (2, (.ofNat 12))), (1, (0, (.ofNat 3))), (2, (0, (.ofNat 2)))], [], 0, 0)
def zk_39_3_2_al : List zAlt := [([], [], zHT, none)]
def zk_39_3_2_h0 : zHd := (0, zk_39_3_2_te, [], [], (.ofNat 247), [], [])
def zk_39_3_2_h1 : zHd := (34, ([((.ofNat 0), (.ofNat 120), zD0)], zHT, [(0, (2, (.ofNat 12))), (1, (0, (.ofNat 3))), (2, (0, (.ofNat 2))), (3, (0, (.ofNat 120))), (4, (1, (.ofNat 0)))], [], 0, 0), [(0, 4, 0)], [], (.ofNat 241), [(.ofNat 2)], [])
def zk_39_3_2_hs : List zHd := [zk_39_3_2_h0, zk_39_3_2_h1]
def zk_39_3_2_or : zO_ := zor zk_39_4_2_o (zon)
theorem zk_39_3_2_oo (l : Launch) (X : zx_X) (φ : List z_C) (P : List Int → Prop) : zOk l X 2000000 φ P zk_39_3_2_or := zOk_or (zk_39_4_2_ok l X 2000000 φ P) (zOk_no l X 2000000 φ P)
theorem zk_39_3_2_r0 : zx1 2000000 (zfinC zk_39_3_2_al zk_39_3_2_h0.2.2.2.1) (zcutH zk_39_3_2_hs zk_39_3_2_h0 39 67) zk_39_3_2_or 6000 39 67 zk_39_3_2_h0.1 (zhS zk_39_3_2_h0) [] = true := by decide +kernel
theorem zk_39_3_2_r1 : zx1 2000000 (zfinC zk_39_3_2_al zk_39_3_2_h1.2.2.2.1) (zcutH zk_39_3_2_hs zk_39_3_2_h1 39 67) zk_39_3_2_or 6000 39 67 zk_39_3_2_h1.1 (zhS zk_39_3_2_h1) [] = true := by decide +kernel
theorem zk_39_3_2_c : zCon 39 67 zk_39_3_2_te [] zk_39_3_2_al := zCon_of (n := 6000) (hs := zk_39_3_2_hs) (lo := []) (c := (.ofNat 247)) (ws := []) (by decide) (by decide +kernel) zk_39_3_2_oo (List.mem_cons_self) (zAll_mem ⟨zk_39_3_2_r0, zk_39_3_2_r1, trivial⟩)
def zk_39_3_2_o : zO_ := zorcC 39 67 zk_39_3_2_te [] [] zk_39_3_2_al
theorem zk_39_3_2_ok (l : Launch) (X : zx_X) (XL : Nat) (φ : List z_C) (P : List Int → Prop) : zOk l X XL φ P zk_39_3_2_o := zOk_C zk_39_3_2_c (by decide +kernel) l X XL φ P
/-! readLevel -/
def zk_39_2_2_te : zA_T := ([], zHT, [(0, (2, (.ofNat 12))), (1, (0, (.ofNat 2))), (2, (0, (.ofNat 2)))], [], 0, 0)
def zk_39_2_2_al : List zAlt := [([], [], zHT, none)]
def zk_39_2_2_h0 : zHd := (0, zk_39_2_2_te, [], [], (.ofNat 9), [], [])
def zk_39_2_2_h1 : zHd := (34, ([((.ofNat 0), (.ofNat 1), zD0)], zHT, [(0, (2, (.ofNat 12))), (1, (0, (.ofNat 2))), (2, (0, (.ofNat 2))), (3, (0, (.ofNat 1))), (4, (1, (.ofNat 0)))], [], 0, 0), [(0, 4, 0)], [], (.ofNat 3), [(.ofNat 2)], [])
def zk_39_2_2_hs : List zHd := [zk_39_2_2_h0, zk_39_2_2_h1]
def zk_39_2_2_or : zO_ := zor zk_39_3_2_o (zon)
theorem zk_39_2_2_oo (l : Launch) (X : zx_X) (φ : List z_C) (P : List Int → Prop) : zOk l X 2000000 φ P zk_39_2_2_or := zOk_or (zk_39_3_2_ok l X 2000000 φ P) (zOk_no l X 2000000 φ P)
theorem zk_39_2_2_r0 : zx1 2000000 (zfinC zk_39_2_2_al zk_39_2_2_h0.2.2.2.1) (zcutH zk_39_2_2_hs zk_39_2_2_h0 39 69) zk_39_2_2_or 6000 39 69 zk_39_2_2_h0.1 (zhS zk_39_2_2_h0) [] = true := by decide +kernel
theorem zk_39_2_2_r1 : zx1 2000000 (zfinC zk_39_2_2_al zk_39_2_2_h1.2.2.2.1) (zcutH zk_39_2_2_hs zk_39_2_2_h1 39 69) zk_39_2_2_or 6000 39 69 zk_39_2_2_h1.1 (zhS zk_39_2_2_h1) [] = true := by decide +kernel
theorem zk_39_2_2_c : zCon 39 69 zk_39_2_2_te [] zk_39_2_2_al := zCon_of (n := 6000) (hs := zk_39_2_2_hs) (lo := []) (c := (.ofNat 9)) (ws := []) (by decide) (by decide +kernel) zk_39_2_2_oo (List.mem_cons_self) (zAll_mem ⟨zk_39_2_2_r0, zk_39_2_2_r1, trivial⟩)
def zk_39_2_2_o : zO_ := zorcC 39 69 zk_39_2_2_te [] [] zk_39_2_2_al
theorem zk_39_2_2_ok (l : Launch) (X : zx_X) (XL : Nat) (φ : List z_C) (P : List Int → Prop) : zOk l X XL φ P zk_39_2_2_o := zOk_C zk_39_2_2_c (by decide +kernel) l X XL φ P
/-! readLevel -/
def zk_39_1_2_te : zA_T := ([], zHT, [(0, (2, (.ofNat 12))), (1, (0, (.ofNat 1))), (2, (0, (.ofNat 2)))], [], 0, 0)
def zk_39_1_2_al : List zAlt := [([], [], zHT, none)]
def zk_39_1_2_h0 : zHd := (0, zk_39_1_2_te, [], [], (.ofNat 247), [], [])
def zk_39_1_2_h1 : zHd := (34, ([((.ofNat 0), (.ofNat 120), zD0)], zHT, [(0, (2, (.ofNat 12))), (1, (0, (.ofNat 1))), (2, (0, (.ofNat 2))), (3, (0, (.ofNat 120))), (4, (1, (.ofNat 0)))], [], 0, 0), [(0, 4, 0)], [], (.ofNat 241), [(.ofNat 2)], [])
def zk_39_1_2_hs : List zHd := [zk_39_1_2_h0, zk_39_1_2_h1]
def zk_39_1_2_or : zO_ := zor zk_39_2_2_o (zon)
theorem zk_39_1_2_oo (l : Launch) (X : zx_X) (φ : List z_C) (P : List Int → Prop) : zOk l X 2000000 φ P zk_39_1_2_or := zOk_or (zk_39_2_2_ok l X 2000000 φ P) (zOk_no l X 2000000 φ P)
theorem zk_39_1_2_r0 : zx1 2000000 (zfinC zk_39_1_2_al zk_39_1_2_h0.2.2.2.1) (zcutH zk_39_1_2_hs zk_39_1_2_h0 39 71) zk_39_1_2_or 6000 39 71 zk_39_1_2_h0.1 (zhS zk_39_1_2_h0) [] = true := by decide +kernel
theorem zk_39_1_2_r1 : zx1 2000000 (zfinC zk_39_1_2_al zk_39_1_2_h1.2.2.2.1) (zcutH zk_39_1_2_hs zk_39_1_2_h1 39 71) zk_39_1_2_or 6000 39 71 zk_39_1_2_h1.1 (zhS zk_39_1_2_h1) [] = true := by decide +kernel
theorem zk_39_1_2_c : zCon 39 71 zk_39_1_2_te [] zk_39_1_2_al := zCon_of (n := 6000) (hs := zk_39_1_2_hs) (lo := []) (c := (.ofNat 247)) (ws := []) (by decide) (by decide +kernel) zk_39_1_2_oo (List.mem_cons_self) (zAll_mem ⟨zk_39_1_2_r0, zk_39_1_2_r1, trivial⟩)
def zk_39_1_2_o : zO_ := zorcC 39 71 zk_39_1_2_te [] [] zk_39_1_2_al
theorem zk_39_1_2_ok (l : Launch) (X : zx_X) (XL : Nat) (φ : List z_C) (P : List Int → Prop) : zOk l X XL φ P zk_39_1_2_o := zOk_C zk_39_1_2_c (by decide +kernel) l X XL φ P
/-! readLevel -/
def zk_39_0_2_te : zA_T := ([], zHT, [(0, (2, (.ofNat 12))), (1, (0, (.ofNat 0))), (2, (0, (.ofNat 2)))], [], 0, 0)
def zk_39_0_2_al : List zAlt := [([], [], zHT, none)]
def zk_39_0_2_h0 : zHd := (0, zk_39_0_2_te, [], [], (.ofNat 247), [], [])
def zk_39_0_2_h1 : zHd := (34, ([((.ofNat 0), (.ofNat 120), zD0)], zHT, [(0, (2, (.ofNat 12))), (1, (0, (.ofNat 0))), (2, (0, (.ofNat 2))), (3, (0, (.ofNat 120))), (4, (1, (.ofNat 0)))], [], 0, 0), [(0, 4, 0)], [], (.ofNat 241), [(.ofNat 2)], [])
def zk_39_0_2_hs : List zHd := [zk_39_0_2_h0, zk_39_0_2_h1]
def zk_39_0_2_or : zO_ := zor zk_39_1_2_o (zon)
theorem zk_39_0_2_oo (l : Launch) (X : zx_X) (φ : List z_C) (P : List Int → Prop) : zOk l X 2000000 φ P zk_39_0_2_or := zOk_or (zk_39_1_2_ok l X 2000000 φ P) (zOk_no l X 2000000 φ P)
theorem zk_39_0_2_r0 : zx1 2000000 (zfinC zk_39_0_2_al zk_39_0_2_h0.2.2.2.1) (zcutH zk_39_0_2_hs zk_39_0_2_h0 39 73) zk_39_0_2_or 6000 39 73 zk_39_0_2_h0.1 (zhS zk_39_0_2_h0) [] = true := by decide +kernel
theorem zk_39_0_2_r1 : zx1 2000000 (zfinC zk_39_0_2_al zk_39_0_2_h1.2.2.2.1) (zcutH zk_39_0_2_hs zk_39_0_2_h1 39 73) zk_39_0_2_or 6000 39 73 zk_39_0_2_h1.1 (zhS zk_39_0_2_h1) [] = true := by decide +kernel
theorem zk_39_0_2_c : zCon 39 73 zk_39_0_2_te [] zk_39_0_2_al := zCon_of (n := 6000) (hs := zk_39_0_2_hs) (lo := []) (c := (.ofNat 247)) (ws := []) (by decide) (by decide +kernel) zk_39_0_2_oo (List.mem_cons_self) (zAll_mem ⟨zk_39_0_2_r0, zk_39_0_2_r1, trivial⟩)
def zk_39_0_2_o : zO_ := zorcC 39 73 zk_39_0_2_te [] [] zk_39_0_2_al
theorem zk_39_0_2_ok (l : Launch) (X : zx_X) (XL : Nat) (φ : List z_C) (P : List Int → Prop) : zOk l X XL φ P zk_39_0_2_o := zOk_C zk_39_0_2_c (by decide +kernel) l X XL φ P
