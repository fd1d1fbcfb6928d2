/-! PART 20.02: what methods do, readLevel. -/
/-! readLevel -/
def zk_39_3_5_te : zA_T := ([], zHT, [(0, (2, (.ofNat 12))), (1, (0, (.ofNat 3))), (2, (0, (.ofNat 5)))], [], 0, 0)
def zk_39_3_5_al : List zAlt := [([], [], zHT, none)]
def zk_39_3_5_h0 : zHd := (0, zk_39_3_5_te, [], [], (.ofNat 247), [], [])
def zk_39_3_5_h1 : zHd := (34, ([((.ofNat 0), (.ofNat 120), zD0)], zHT, [(0, (2, (.ofNat 12))), (1, (0, (.ofNat 3))), (2, (0, (.ofNat 5))), (3, (0, (.ofNat 120))), (4, (1, (.ofNat 0)))], [], 0, 0), [(0, 4, 0)], [], (.ofNat 241), [(.ofNat 2)], [])
def zk_39_3_5_hs : List zHd := [zk_39_3_5_h0, zk_39_3_5_h1]
def zk_39_3_5_or : zO_ := zor zk_39_4_5_o (zon)
theorem zk_39_3_5_oo (l : Launch) (X : zx_X) (φ : List z_C) (P : List Int → Prop) : zOk l X 2000000 φ P zk_39_3_5_or := zOk_or (zk_39_4_5_ok l X 2000000 φ P) (zOk_no l X 2000000 φ P)
theorem zk_39_3_5_r0 : zx1 2000000 (zfinC zk_39_3_5_al zk_39_3_5_h0.2.2.2.1) (zcutH zk_39_3_5_hs zk_39_3_5_h0 39 25) zk_39_3_5_or 6000 39 25 zk_39_3_5_h0.1 (zhS zk_39_3_5_h0) [] = true := by decide +kernel
theorem zk_39_3_5_r1 : zx1 2000000 (zfinC zk_39_3_5_al zk_39_3_5_h1.2.2.2.1) (zcutH zk_39_3_5_hs zk_39_3_5_h1 39 25) zk_39_3_5_or 6000 39 25 zk_39_3_5_h1.1 (zhS zk_39_3_5_h1) [] = true := by decide +kernel
theorem zk_39_3_5_c : zCon 39 25 zk_39_3_5_te [] zk_39_3_5_al := zCon_of (n := 6000) (hs := zk_39_3_5_hs) (lo := []) (c := (.ofNat 247)) (ws := []) (by decide) (by decide +kernel) zk_39_3_5_oo (List.mem_cons_self) (zAll_mem ⟨zk_39_3_5_r0, zk_39_3_5_r1, trivial⟩)
def zk_39_3_5_o : zO_ := zorcC 39 25 zk_39_3_5_te [] [] zk_39_3_5_al
theorem zk_39_3_5_ok (l : Launch) (X : zx_X) (XL : Nat) (φ : List z_C) (P : List Int → Prop) : zOk l X XL φ P zk_39_3_5_o := zOk_C zk_39_3_5_c (by decide +kernel) l X XL φ P
/-! readLevel -/
def zk_39_2_5_te : zA_T := ([], zHT, [(0, (2, (.ofNat 12))), (1, (0, (.ofNat 2))), (2, (0, (.ofNat 5)))], [], 0, 0)
def zk_39_2_5_al : List zAlt := [([], [], zHT, none)]
def zk_39_2_5_h0 : zHd := (0, zk_39_2_5_te, [], [], (.ofNat 9), [], [])
def zk_39_2_5_h1 : zHd := (34, ([((.ofNat 0), (.ofNat 1), zD0)], zHT, [(0, (2, (.ofNat 12))), (1, (0, (.ofNat 2))), (2, (0, (.ofNat 5))), (3, (0, (.ofNat 1))), (4, (1, (.ofNat 0)))], [], 0, 0), [(0, 4, 0)], [], (.ofNat 3), [(.ofNat 2)], [])
def zk_39_2_5_hs : List zHd := [zk_39_2_5_h0, zk_39_2_5_h1]
def zk_39_2_5_or : zO_ := zor zk_39_3_5_o (zon)
theorem zk_39_2_5_oo (l : Launch) (X : zx_X) (φ : List z_C) (P : List Int → Prop) : zOk l X 2000000 φ P zk_39_2_5_or := zOk_or (zk_39_3_5_ok l X 2000000 φ P) (zOk_no l X 2000000 φ P)
theorem zk_39_2_5_r0 : zx1 2000000 (zfinC zk_39_2_5_al zk_39_2_5_h0.2.2.2.1) (zcutH zk_39_2_5_hs zk_39_2_5_h0 39 27) zk_39_2_5_or 6000 39 27 zk_39_2_5_h0.1 (zhS zk_39_2_5_h0) [] = true := by decide +kernel
theorem zk_39_2_5_r1 : zx1 2000000 (zfinC zk_39_2_5_al zk_39_2_5_h1.2.2.2.1) (zcutH zk_39_2_5_hs zk_39_2_5_h1 39 27) zk_39_2_5_or 6000 39 27 zk_39_2_5_h1.1 (zhS zk_39_2_5_h1) [] = true := by decide +kernel
theorem zk_39_2_5_c : zCon 39 27 zk_39_2_5_te [] zk_39_2_5_al := zCon_of (n := 6000) (hs := zk_39_2_5_hs) (lo := []) (c := (.ofNat 9)) (ws := []) (by decide) (by decide +kernel) zk_39_2_5_oo (List.mem_cons_self) (zAll_mem ⟨zk_39_2_5_r0, zk_39_2_5_r1, trivial⟩)
def zk_39_2_5_o : zO_ := zorcC 39 27 zk_39_2_5_te [] [] zk_39_2_5_al
theorem zk_39_2_5_ok (l : Launch) (X : zx_X) (XL : Nat) (φ : List z_C) (P : List Int → Prop) : zOk l X XL φ P zk_39_2_5_o := zOk_C zk_39_2_5_c (by decide +kernel) l X XL φ P
/-! readLevel -/
def zk_39_1_5_te : zA_T := ([], zHT, [(0, (2, (.ofNat 12))), (1, (0, (.ofNat 1))), (2, (0, (.ofNat 5)))], [], 0, 0)
def zk_39_1_5_al : List zAlt := [([], [], zHT, none)]
def zk_39_1_5_h0 : zHd := (0, zk_39_1_5_te, [], [], (.ofNat 247), [], [])
def zk_39_1_5_h1 : zHd := (34, ([((.ofNat 0), (.ofNat 120), zD0)], zHT, [(0, (2, (.ofNat 12))), (1, (0, (.ofNat 1))), (2, (0, (.ofNat 5))), (3, (0, (.ofNat 120))), (4, (1, (.ofNat 0)))], [], 0, 0), [(0, 4, 0)], [], (.ofNat 241), [(.ofNat 2)], [])
def zk_39_1_5_hs : List zHd := [zk_39_1_5_h0, zk_39_1_5_h1]
def zk_39_1_5_or : zO_ := zor zk_39_2_5_o (zon)
theorem zk_39_1_5_oo (l : Launch) (X : zx_X) (φ : List z_C) (P : List Int → Prop) : zOk l X 2000000 φ P zk_39_1_5_or := zOk_or (zk_39_2_5_ok l X 2000000 φ P) (zOk_no l X 2000000 φ P)
theorem zk_39_1_5_r0 : zx1 2000000 (zfinC zk_39_1_5_al zk_39_1_5_h0.2.2.2.1) (zcutH zk_39_1_5_hs zk_39_1_5_h0 39 29) zk_39_1_5_or 6000 39 29 zk_39_1_5_h0.1 (zhS zk_39_1_5_h0) [] = true := by decide +kernel
theorem zk_39_1_5_r1 : zx1 2000000 (zfinC zk_39_1_5_al zk_39_1_5_h1.2.2.2.1) (zcutH zk_39_1_5_hs zk_39_1_5_h1 39 29) zk_39_1_5_or 6000 39 29 zk_39_1_5_h1.1 (zhS zk_39_1_5_h1) [] = true := by decide +kernel
theorem zk_39_1_5_c : zCon 39 29 zk_39_1_5_te [] zk_39_1_5_al := zCon_of (n := 6000) (hs := zk_39_1_5_hs) (lo := []) (c := (.ofNat 247)) (ws := []) (by decide) (by decide +kernel) zk_39_1_5_oo (List.mem_cons_self) (zAll_mem ⟨zk_39_1_5_r0, zk_39_1_5_r1, trivial⟩)
def zk_39_1_5_o : zO_ := zorcC 39 29 zk_39_1_5_te [] [] zk_39_1_5_al
theorem zk_39_1_5_ok (l : Launch) (X : zx_X) (XL : Nat) (φ : List z_C) (P : List Int → Prop) : zOk l X XL φ P zk_39_1_5_o := zOk_C zk_39_1_5_c (by decide +kernel) l X XL φ P
/-! readLevel -/
def zk_39_0_5_te : zA_T := ([], zHT, [(0, (2, (.ofNat 12))), (1, (0, (.ofNat 0))), (2, (0, (.ofNat 5)))], [], 0, 0)
def zk_39_0_5_al : List zAlt := [([], [], zHT, none)]
def zk_39_0_5_h0 : zHd := (0, zk_39_0_5_te, [], [], (.ofNat 247), [], [])
def zk_39_0_5_h1 : zHd := (34, ([((.ofNat 0), (.ofNat 120), zD0)], zHT, [(0, (2, (.ofNat 12))), (1, (0, (.ofNat 0))), (2, (0, (.ofNat 5))), (3, (0, (.ofNat 120))), (4, (1, (.ofNat 0)))], [], 0, 0), [(0, 4, 0)], [], (.ofNat 241), [(.ofNat 2)], [])
def zk_39_0_5_hs : List zHd := [zk_39_0_5_h0, zk_39_0_5_h1]
def zk_39_0_5_or : zO_ := zor zk_39_1_5_o (zon)
theorem zk_39_0_5_oo (l : Launch) (X : zx_X) (φ : List z_C) (P : List Int → Prop) : zOk l X 2000000 φ P zk_39_0_5_or := zOk_or (zk_39_1_5_ok l X 2000000 φ P) (zOk_no l X 2000000 φ P)
theorem zk_39_0_5_r0 : zx1 2000000 (zfinC zk_39_0_5_al zk_39_0_5_h0.2.2.2.1) (zcutH zk_39_0_5_hs zk_39_0_5_h0 39 31) zk_39_0_5_or 6000 39 31 zk_39_0_5_h0.1 (zhS zk_39_0_5_h0) [] = true := by decide +kernel
theorem zk_39_0_5_r1 : zx1 2000000 (zfinC zk_39_0_5_al zk_39_0_5_h1.2.2.2.1) (zcutH zk_39_0_5_hs zk_39_0_5_h1 39 31) zk_39_0_5_or 6000 39 31 zk_39_0_5_h1.1 (zhS zk_39_0_5_h1) [] = true := by decide +kernel
theorem zk_39_0_5_c : zCon 39 31 zk_39_0_5_te [] zk_39_0_5_al := zCon_of (n := 6000) (hs := zk_39_0_5_hs) (lo := []) (c := (.ofNat 247)) (ws := []) (by decide) (by decide +kernel) zk_39_0_5_oo (List.mem_cons_self) (zAll_mem ⟨zk_39_0_5_r0, zk_39_0_5_r1, trivial⟩)
def zk_39_0_5_o : zO_ := zorcC 39 31 zk_39_0_5_te [] [] zk_39_0_5_al
theorem zk_39_0_5_ok (l : Launch) (X : zx_X) (XL : Nat) (φ : List z_C) (P : List Int → Prop) : zOk l X XL φ P zk_39_0_5_o := zOk_C zk_39_0_5_c (by decide +kernel) l X XL φ P
