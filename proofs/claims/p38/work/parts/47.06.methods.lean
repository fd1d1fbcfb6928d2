/-! PART 20.06: what methods do, readLevel. -/
/-! readLevel -/
def zk_39_3_3_te : zA_T := ([], zHT, [(0, (2, (.ofNat 12))), (1, (0, (.ofNat 3))), (2, (0, (.ofNat 3)))], [], 0, 0)
def zk_39_3_3_al : List zAlt := [([], [], zHT, none)]
def zk_39_3_3_h0 : zHd := (0, zk_39_3_3_te, [], [], (.ofNat 247), [], [])
def zk_39_3_3_h1 : zHd := (34, ([((.ofNat 0), (.ofNat 120), zD0)], zHT, [(0, (2, (.ofNat 12))), (1, (0, (.ofNat 3))), (2, (0, (.ofNat 3))), (3, (0, (.ofNat 120))), (4, (1, (.ofNat 0)))], [], 0, 0), [(0, 4, 0)], [], (.ofNat 241), [(.ofNat 2)], [])
def zk_39_3_3_hs : List zHd := [zk_39_3_3_h0, zk_39_3_3_h1]
def zk_39_3_3_or : zO_ := zor zk_39_4_3_o (zon)
theorem zk_39_3_3_oo (l : Launch) (X : zx_X) (φ : List z_C) (P : List Int → Prop) : zOk l X 2000000 φ P zk_39_3_3_or := zOk_or (zk_39_4_3_ok l X 2000000 φ P) (zOk_no l X 2000000 φ P)
theorem zk_39_3_3_r0 : zx1 2000000 (zfinC zk_39_3_3_al zk_39_3_3_h0.2.2.2.1) (zcutH zk_39_3_3_hs zk_39_3_3_h0 39 53) zk_39_3_3_or 6000 39 53 zk_39_3_3_h0.1 (zhS zk_39_3_3_h0) [] = true := by decide +kernel
theorem zk_39_3_3_r1 : zx1 2000000 (zfinC zk_39_3_3_al zk_39_3_3_h1.2.2.2.1) (zcutH zk_39_3_3_hs zk_39_3_3_h1 39 53) zk_39_3_3_or 6000 39 53 zk_39_3_3_h1.1 (zhS zk_39_3_3_h1) [] = true := by decide +kernel
theorem zk_39_3_3_c : zCon 39 53 zk_39_3_3_te [] zk_39_3_3_al := zCon_of (n := 6000) (hs := zk_39_3_3_hs) (lo := []) (c := (.ofNat 247)) (ws := []) (by decide) (by decide +kernel) zk_39_3_3_oo (List.mem_cons_self) (zAll_mem ⟨zk_39_3_3_r0, zk_39_3_3_r1, trivial⟩)
def zk_39_3_3_o : zO_ := zorcC 39 53 zk_39_3_3_te [] [] zk_39_3_3_al
theorem zk_39_3_3_ok (l : Launch) (X : zx_X) (XL : Nat) (φ : List z_C) (P : List Int → Prop) : zOk l X XL φ P zk_39_3_3_o := zOk_C zk_39_3_3_c (by decide +kernel) l X XL φ P
/-! readLevel -/
def zk_39_2_3_te : zA_T := ([], zHT, [(0, (2, (.ofNat 12))), (1, (0, (.ofNat 2))), (2, (0, (.ofNat 3)))], [], 0, 0)
def zk_39_2_3_al : List zAlt := [([], [], zHT, none)]
def zk_39_2_3_h0 : zHd := (0, zk_39_2_3_te, [], [], (.ofNat 9), [], [])
def zk_39_2_3_h1 : zHd := (34, ([((.ofNat 0), (.ofNat 1), zD0)], zHT, [(0, (2, (.ofNat 12))), (1, (0, (.ofNat 2))), (2, (0, (.ofNat 3))), (3, (0, (.ofNat 1))), (4, (1, (.ofNat 0)))], [], 0, 0), [(0, 4, 0)], [], (.ofNat 3), [(.ofNat 2)], [])
def zk_39_2_3_hs : List zHd := [zk_39_2_3_h0, zk_39_2_3_h1]
def zk_39_2_3_or : zO_ := zor zk_39_3_3_o (zon)
theorem zk_39_2_3_oo (l : Launch) (X : zx_X) (φ : List z_C) (P : List Int → Prop) : zOk l X 2000000 φ P zk_39_2_3_or := zOk_or (zk_39_3_3_ok l X 2000000 φ P) (zOk_no l X 2000000 φ P)
theorem zk_39_2_3_r0 : zx1 2000000 (zfinC zk_39_2_3_al zk_39_2_3_h0.2.2.2.1) (zcutH zk_39_2_3_hs zk_39_2_3_h0 39 55) zk_39_2_3_or 6000 39 55 zk_39_2_3_h0.1 (zhS zk_39_2_3_h0) [] = true := by decide +kernel
theorem zk_39_2_3_r1 : zx1 2000000 (zfinC zk_39_2_3_al zk_39_2_3_h1.2.2.2.1) (zcutH zk_39_2_3_hs zk_39_2_3_h1 39 55) zk_39_2_3_or 6000 39 55 zk_39_2_3_h1.1 (zhS zk_39_2_3_h1) [] = true := by decide +kernel
theorem zk_39_2_3_c : zCon 39 55 zk_39_2_3_te [] zk_39_2_3_al := zCon_of (n := 6000) (hs := zk_39_2_3_hs) (lo := []) (c := (.ofNat 9)) (ws := []) (by decide) (by decide +kernel) zk_39_2_3_oo (List.mem_cons_self) (zAll_mem ⟨zk_39_2_3_r0, zk_39_2_3_r1, trivial⟩)
def zk_39_2_3_o : zO_ := zorcC 39 55 zk_39_2_3_te [] [] zk_39_2_3_al
theorem zk_39_2_3_ok (l : Launch) (X : zx_X) (XL : Nat) (φ : List z_C) (P : List Int → Prop) : zOk l X XL φ P zk_39_2_3_o := zOk_C zk_39_2_3_c (by decide +kernel) l X XL φ P
/-! readLevel -/
def zk_39_1_3_te : zA_T := ([], zHT, [(0, (2, (.ofNat 12))), (1, (0, (.ofNat 1))), (2, (0, (.ofNat 3)))], [], 0, 0)
def zk_39_1_3_al : List zAlt := [([], [], zHT, none)]
def zk_39_1_3_h0 : zHd := (0, zk_39_1_3_te, [], [], (.ofNat 247), [], [])
def zk_39_1_3_h1 : zHd := (34, ([((.ofNat 0), (.ofNat 120), zD0)], zHT, [(0, (2, (.ofNat 12))), (1, (0, (.ofNat 1))), (2, (0, (.ofNat 3))), (3, (0, (.ofNat 120))), (4, (1, (.ofNat 0)))], [], 0, 0), [(0, 4, 0)], [], (.ofNat 241), [(.ofNat 2)], [])
def zk_39_1_3_hs : List zHd := [zk_39_1_3_h0, zk_39_1_3_h1]
def zk_39_1_3_or : zO_ := zor zk_39_2_3_o (zon)
theorem zk_39_1_3_oo (l : Launch) (X : zx_X) (φ : List z_C) (P : List Int → Prop) : zOk l X 2000000 φ P zk_39_1_3_or := zOk_or (zk_39_2_3_ok l X 2000000 φ P) (zOk_no l X 2000000 φ P)
theorem zk_39_1_3_r0 : zx1 2000000 (zfinC zk_39_1_3_al zk_39_1_3_h0.2.2.2.1) (zcutH zk_39_1_3_hs zk_39_1_3_h0 39 57) zk_39_1_3_or 6000 39 57 zk_39_1_3_h0.1 (zhS zk_39_1_3_h0) [] = true := by decide +kernel
theorem zk_39_1_3_r1 : zx1 2000000 (zfinC zk_39_1_3_al zk_39_1_3_h1.2.2.2.1) (zcutH zk_39_1_3_hs zk_39_1_3_h1 39 57) zk_39_1_3_or 6000 39 57 zk_39_1_3_h1.1 (zhS zk_39_1_3_h1) [] = true := by decide +kernel
theorem zk_39_1_3_c : zCon 39 57 zk_39_1_3_te [] zk_39_1_3_al := zCon_of (n := 6000) (hs := zk_39_1_3_hs) (lo := []) (c := (.ofNat 247)) (ws := []) (by decide) (by decide +kernel) zk_39_1_3_oo (List.mem_cons_self) (zAll_mem ⟨zk_39_1_3_r0, zk_39_1_3_r1, trivial⟩)
def zk_39_1_3_o : zO_ := zorcC 39 57 zk_39_1_3_te [] [] zk_39_1_3_al
theorem zk_39_1_3_ok (l : Launch) (X : zx_X) (XL : Nat) (φ : List z_C) (P : List Int → Prop) : zOk l X XL φ P zk_39_1_3_o := zOk_C zk_39_1_3_c (by decide +kernel) l X XL φ P
/-! readLevel -/
def zk_39_0_3_te : zA_T := ([], zHT, [(0, (2, (.ofNat 12))), (1, (0, (.ofNat 0))), (2, (0, (.ofNat 3)))], [], 0, 0)
def zk_39_0_3_al : List zAlt := [([], [], zHT, none)]
def zk_39_0_3_h0 : zHd := (0, zk_39_0_3_te, [], [], (.ofNat 247), [], [])
def zk_39_0_3_h1 : zHd := (34, ([((.ofNat 0), (.ofNat 120), zD0)], zHT, [(0, (2, (.ofNat 12))), (1, (0, (.ofNat 0))), (2, (0, (.ofNat 3))), (3, (0, (.ofNat 120))), (4, (1, (.ofNat 0)))], [], 0, 0), [(0, 4, 0)], [], (.ofNat 241), [(.ofNat 2)], [])
def zk_39_0_3_hs : List zHd := [zk_39_0_3_h0, zk_39_0_3_h1]
def zk_39_0_3_or : zO_ := zor zk_39_1_3_o (zon)
theorem zk_39_0_3_oo (l : Launch) (X : zx_X) (φ : List z_C) (P : List Int → Prop) : zOk l X 2000000 φ P zk_39_0_3_or := zOk_or (zk_39_1_3_ok l X 2000000 φ P) (zOk_no l X 2000000 φ P)
theorem zk_39_0_3_r0 : zx1 2000000 (zfinC zk_39_0_3_al zk_39_0_3_h0.2.2.2.1) (zcutH zk_39_0_3_hs zk_39_0_3_h0 39 59) zk_39_0_3_or 6000 39 59 zk_39_0_3_h0.1 (zhS zk_39_0_3_h0) [] = true := by decide +kernel
theorem zk_39_0_3_r1 : zx1 2000000 (zfinC zk_39_0_3_al zk_39_0_3_h1.2.2.2.1) (zcutH zk_39_0_3_hs zk_39_0_3_h1 39 59) zk_39_0_3_or 6000 39 59 zk_39_0_3_h1.1 (zhS zk_39_0_3_h1) [] = true := by decide +kernel
theorem zk_39_0_3_c : zCon 39 59 zk_39_0_3_te [] zk_39_0_3_al := zCon_of (n := 6000) (hs := zk_39_0_3_hs) (lo := []) (c := (.ofNat 247)) (ws := []) (by decide) (by decide +kernel) zk_39_0_3_oo (List.mem_cons_self) (zAll_mem ⟨zk_39_0_3_r0, zk_39_0_3_r1, trivial⟩)
def zk_39_0_3_o : zO_ := zorcC 39 59 zk_39_0_3_te [] [] zk_39_0_3_al
theorem zk_39_0_3_ok (l : Launch) (X : zx_X) (XL : Nat) (φ : List z_C) (P : List Int → Prop) : zOk l X XL φ P zk_39_0_3_o := zOk_C zk_39_0_3_c (by decide +kernel) l X XL φ P
