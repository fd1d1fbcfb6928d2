/-! PART 20.01: what methods do, readLevel, readOperand. -/
/-! readLevel -/
def zk_39_3_4_te : zA_T := ([], (((zFr.set 9 zh_9).set 10 zh_10).set 11 zh_11), [(0, (2, (.ofNat 12))), (1, (0, (.ofNat 3))), (2, (0, (.ofNat 4)))], [], 0, 0)
def zk_39_3_4_al : List zAlt := [([], [], (((zFr.set 9 zh_9).set 10 zh_10).set 11 zh_11), none)]
def zk_39_3_4_h0 : zHd := (0, zk_39_3_4_te, [], [], (.ofNat 247), [], [])
def zk_39_3_4_h1 : zHd := (34, ([((.ofNat 0), (.ofNat 120), zD0)], (((zFr.set 9 zh_9).set 10 zh_10).set 11 zh_11), [(0, (2, (.ofNat 12))), (1, (0, (.ofNat 3))), (2, (0, (.ofNat 4))), (3, (0, (.ofNat 120))), (4, (1, (.ofNat 0)))], [], 0, 0), [(0, 4, 0)], [], (.ofNat 241), [(.ofNat 2)], [])
def zk_39_3_4_hs : List zHd := [zk_39_3_4_h0, zk_39_3_4_h1]
def zk_39_3_4_or : zO_ := zor zk_39_4_4_o (zon)
theorem zk_39_3_4_oo (l : Launch) (X : zx_X) (φ : List z_C) (P : List Int → Prop) : zOk l X 2000000 φ P zk_39_3_4_or := zOk_or (zk_39_4_4_ok l X 2000000 φ P) (zOk_no l X 2000000 φ P)
theorem zk_39_3_4_r0 : zx1 2000000 (zfinC zk_39_3_4_al zk_39_3_4_h0.2.2.2.1) (zcutH zk_39_3_4_hs zk_39_3_4_h0 39 39) zk_39_3_4_or 6000 39 39 zk_39_3_4_h0.1 (zhS zk_39_3_4_h0) [] = true := by decide +kernel
theorem zk_39_3_4_r1 : zx1 2000000 (zfinC zk_39_3_4_al zk_39_3_4_h1.2.2.2.1) (zcutH zk_39_3_4_hs zk_39_3_4_h1 39 39) zk_39_3_4_or 6000 39 39 zk_39_3_4_h1.1 (zhS zk_39_3_4_h1) [] = true := by decide +kernel
theorem zk_39_3_4_c : zCon 39 39 zk_39_3_4_te [] zk_39_3_4_al := zCon_of (n := 6000) (hs := zk_39_3_4_hs) (lo := []) (c := (.ofNat 247)) (ws := []) (by decide) (by decide +kernel) zk_39_3_4_oo (List.mem_cons_self) (zAll_mem ⟨zk_39_3_4_r0, zk_39_3_4_r1, trivial⟩)
def zk_39_3_4_o : zO_ := zorcF 39 39 zk_39_3_4_te [] [] zk_39_3_4_al [9, 10, 11] [9, 10, 11]
theorem zk_39_3_4_ok (l : Launch) (X : zx_X) (XL : Nat) (φ : List z_C) (P : List Int → Prop) : zOk l X XL φ P zk_39_3_4_o := zOk_F zk_39_3_4_c (by decide +kernel) l X XL φ P
/-! readLevel -/
def zk_39_2_4_te : zA_T := ([], (((zFr.set 9 zh_9).set 10 zh_10).set 11 zh_11), [(0, (2, (.ofNat 12))), (1, (0, (.ofNat 2))), (2, (0, (.ofNat 4)))], [], 0, 0)
def zk_39_2_4_al : List zAlt := [([], [], (((zFr.set 9 zh_9).set 10 zh_10).set 11 zh_11), none)]
def zk_39_2_4_h0 : zHd := (0, zk_39_2_4_te, [], [], (.ofNat 9), [], [])
def zk_39_2_4_h1 : zHd := (34, ([((.ofNat 0), (.ofNat 1), zD0)], (((zFr.set 9 zh_9).set 10 zh_10).set 11 zh_11), [(0, (2, (.ofNat 12))), (1, (0, (.ofNat 2))), (2, (0, (.ofNat 4))), (3, (0, (.ofNat 1))), (4, (1, (.ofNat 0)))], [], 0, 0), [(0, 4, 0)], [], (.ofNat 3), [(.ofNat 2)], [])
def zk_39_2_4_hs : List zHd := [zk_39_2_4_h0, zk_39_2_4_h1]
def zk_39_2_4_or : zO_ := zor zk_39_3_4_o (zon)
theorem zk_39_2_4_oo (l : Launch) (X : zx_X) (φ : List z_C) (P : List Int → Prop) : zOk l X 2000000 φ P zk_39_2_4_or := zOk_or (zk_39_3_4_ok l X 2000000 φ P) (zOk_no l X 2000000 φ P)
theorem zk_39_2_4_r0 : zx1 2000000 (zfinC zk_39_2_4_al zk_39_2_4_h0.2.2.2.1) (zcutH zk_39_2_4_hs zk_39_2_4_h0 39 41) zk_39_2_4_or 6000 39 41 zk_39_2_4_h0.1 (zhS zk_39_2_4_h0) [] = true := by decide +kernel
theorem zk_39_2_4_r1 : zx1 2000000 (zfinC zk_39_2_4_al zk_39_2_4_h1.2.2.2.1) (zcutH zk_39_2_4_hs zk_39_2_4_h1 39 41) zk_39_2_4_or 6000 39 41 zk_39_2_4_h1.1 (zhS zk_39_2_4_h1) [] = true := by decide +kernel
theorem zk_39_2_4_c : zCon 39 41 zk_39_2_4_te [] zk_39_2_4_al := zCon_of (n := 6000) (hs := zk_39_2_4_hs) (lo := []) (c := (.ofNat 9)) (ws := []) (by decide) (by decide +kernel) zk_39_2_4_oo (List.mem_cons_self) (zAll_mem ⟨zk_39_2_4_r0, zk_39_2_4_r1, trivial⟩)
def zk_39_2_4_o : zO_ := zorcF 39 41 zk_39_2_4_te [] [] zk_39_2_4_al [9, 10, 11] [9, 10, 11]
theorem zk_39_2_4_ok (l : Launch) (X : zx_X) (XL : Nat) (φ : List z_C) (P : List Int → Prop) : zOk l X XL φ P zk_39_2_4_o := zOk_F zk_39_2_4_c (by decide +kernel) l X XL φ P
/-! readLevel -/
def zk_39_1_4_te : zA_T := ([], (((zFr.set 9 zh_9).set 10 zh_10).set 11 zh_11), [(0, (2, (.ofNat 12))), (1, (0, (.ofNat 1))), (2, (0, (.ofNat 4)))], [], 0, 0)
def zk_39_1_4_al : List zAlt := [([], [], (((zFr.set 9 zh_9).set 10 zh_10).set 11 zh_11), none)]
def zk_39_1_4_h0 : zHd := (0, zk_39_1_4_te, [], [], (.ofNat 247), [], [])
def zk_39_1_4_h1 : zHd := (34, ([((.ofNat 0), (.ofNat 120), zD0)], (((zFr.set 9 zh_9).set 10 zh_10).set 11 zh_11), [(0, (2, (.ofNat 12))), (1, (0, (.ofNat 1))), (2, (0, (.ofNat 4))), (3, (0, (.ofNat 120))), (4, (1, (.ofNat 0)))], [], 0, 0), [(0, 4, 0)], [], (.ofNat 241), [(.ofNat 2)], [])
def zk_39_1_4_hs : List zHd := [zk_39_1_4_h0, zk_39_1_4_h1]
def zk_39_1_4_or : zO_ := zor zk_39_2_4_o (zon)
theorem zk_39_1_4_oo (l : Launch) (X : zx_X) (φ : List z_C) (P : List Int → Prop) : zOk l X 2000000 φ P zk_39_1_4_or := zOk_or (zk_39_2_4_ok l X 2000000 φ P) (zOk_no l X 2000000 φ P)
theorem zk_39_1_4_r0 : zx1 2000000 (zfinC zk_39_1_4_al zk_39_1_4_h0.2.2.2.1) (zcutH zk_39_1_4_hs zk_39_1_4_h0 39 43) zk_39_1_4_or 6000 39 43 zk_39_1_4_h0.1 (zhS zk_39_1_4_h0) [] = true := by decide +kernel
theorem zk_39_1_4_r1 : zx1 2000000 (zfinC zk_39_1_4_al zk_39_1_4_h1.2.2.2.1) (zcutH zk_39_1_4_hs zk_39_1_4_h1 39 43) zk_39_1_4_or 6000 39 43 zk_39_1_4_h1.1 (zhS zk_39_1_4_h1) [] = true := by decide +kernel
theorem zk_39_1_4_c : zCon 39 43 zk_39_1_4_te [] zk_39_1_4_al := zCon_of (n := 6000) (hs := zk_39_1_4_hs) (lo := []) (c := (.ofNat 247)) (ws := []) (by decide) (by decide +kernel) zk_39_1_4_oo (List.mem_cons_self) (zAll_mem ⟨zk_39_1_4_r0, zk_39_1_4_r1, trivial⟩)
def zk_39_1_4_o : zO_ := zorcF 39 43 zk_39_1_4_te [] [] zk_39_1_4_al [9, 10, 11] [9, 10, 11]
theorem zk_39_1_4_ok (l : Launch) (X : zx_X) (XL : Nat) (φ : List z_C) (P : List Int → Prop) : zOk l X XL φ P zk_39_1_4_o := zOk_F zk_39_1_4_c (by decide +kernel) l X XL φ P
/-! readLevel -/
def zk_39_0_4_te : zA_T := ([], (((zFr.set 9 zh_9).set 10 zh_10).set 11 zh_11), [(0, (2, (.ofNat 12))), (1, (0, (.ofNat 0))), (2, (0, (.ofNat 4)))], [], 0, 0)
def zk_39_0_4_al : List zAlt := [([], [], (((zFr.set 9 zh_9).set 10 zh_10).set 11 zh_11), none)]
def zk_39_0_4_h0 : zHd := (0, zk_39_0_4_te, [], [], (.ofNat 247), [], [])
def zk_39_0_4_h1 : zHd := (34, ([((.ofNat 0), (.ofNat 120), zD0)], (((zFr.set 9 zh_9).set 10 zh_10).set 11 zh_11), [(0, (2, (.ofNat 12))), (1, (0, (.ofNat 0))), (2, (0, (.ofNat 4))), (3, (0, (.ofNat 120))), (4, (1, (.ofNat 0)))], [], 0, 0), [(0, 4, 0)], [], (.ofNat 241), [(.ofNat 2)], [])
def zk_39_0_4_hs : List zHd := [zk_39_0_4_h0, zk_39_0_4_h1]
def zk_39_0_4_or : zO_ := zor zk_39_1_4_o (zon)
theorem zk_39_0_4_oo (l : Launch) (X : zx_X) (φ : List z_C) (P : List Int → Prop) : zOk l X 2000000 φ P zk_39_0_4_or := zOk_or (zk_39_1_4_ok l X 2000000 φ P) (zOk_no l X 2000000 φ P)
theorem zk_39_0_4_r0 : zx1 2000000 (zfinC zk_39_0_4_al zk_39_0_4_h0.2.2.2.1) (zcutH zk_39_0_4_hs zk_39_0_4_h0 39 45) zk_39_0_4_or 6000 39 45 zk_39_0_4_h0.1 (zhS zk_39_0_4_h0) [] = true := by decide +kernel
theorem zk_39_0_4_r1 : zx1 2000000 (zfinC zk_39_0_4_al zk_39_0_4_h1.2.2.2.1) (zcutH zk_39_0_4_hs zk_39_0_4_h1 39 45) zk_39_0_4_or 6000 39 45 zk_39_0_4_h1.1 (zhS zk_39_0_4_h1) [] = true := by decide +kernel
theorem zk_39_0_4_c : zCon 39 45 zk_39_0_4_te [] zk_39_0_4_al := zCon_of (n := 6000) (hs := zk_39_0_4_hs) (lo := []) (c := (.ofNat 247)) (ws := []) (by decide) (by decide +kernel) zk_39_0_4_oo (List.mem_cons_self) (zAll_mem ⟨zk_39_0_4_r0, zk_39_0_4_r1, trivial⟩)
def zk_39_0_4_o : zO_ := zorcF 39 45 zk_39_0_4_te [] [] zk_39_0_4_al [9, 10, 11] [9, 10, 11]
theorem zk_39_0_4_ok (l : Launch) (X : zx_X) (XL : Nat) (φ : List z_C) (P : List Int → Prop) : zOk l X XL φ P zk_39_0_4_o := zOk_F zk_39_0_4_c (by decide +kernel) l X XL φ P
/-! readOperand -/
def zk_40_3_te : zA_T := ([], (((zFr.set 9 zh_9).set 10 zh_10).set 11 zh_11), [(0, (2, (.ofNat 12))), (1, (0, (.ofNat 3)))], [], 0, 0)
def zk_40_3_al : List zAlt := [([], [], (((zFr.set 9 zh_9).set 10 zh_10).set 11 zh_11), none)]
def zk_40_3_h0 : zHd := (0, zk_40_3_te, [], [], (.ofNat 5), [], [])
def zk_40_3_hs : List zHd := [zk_40_3_h0]
def zk_40_3_or : zO_ := zor zk_46_o (zor zk_43_o (zor zk_40_4_o (zor zk_39_0_4_o (zon))))
theorem zk_40_3_oo (l : Launch) (X : zx_X) (φ : List z_C) (P : List Int → Prop) : zOk l X 2000000 φ P zk_40_3_or := zOk_or (zk_46_ok l X 2000000 φ P) (zOk_or (zk_43_ok l X 2000000 φ P) (zOk_or (zk_40_4_ok l X 2000000 φ P) (zOk_or (zk_39_0_4_ok l X 2000000 φ P) (zOk_no l X 2000000 φ P))))
theorem zk_40_3_r0 : zx1 2000000 (zfinC zk_40_3_al zk_40_3_h0.2.2.2.1) (zcutH zk_40_3_hs zk_40_3_h0 40 47) zk_40_3_or 6000 40 47 zk_40_3_h0.1 (zhS zk_40_3_h0) [] = true := by decide +kernel
theorem zk_40_3_c : zCon 40 47 zk_40_3_te [] zk_40_3_al := zCon_of (n := 6000) (hs := zk_40_3_hs) (lo := []) (c := (.ofNat 5)) (ws := []) (by decide) (by decide +kernel) zk_40_3_oo (List.mem_cons_self) (zAll_mem ⟨zk_40_3_r0, trivial⟩)
def zk_40_3_o : zO_ := zorcF 40 47 zk_40_3_te [] [] zk_40_3_al [9, 10, 11] [9, 10, 11]
theorem zk_40_3_ok (l : Launch) (X : zx_X) (XL : Nat) (φ : List z_C) (P : List Int → Prop) : zOk l X XL φ P zk_40_3_o := zOk_F zk_40_3_c (by decide +kernel) l X XL φ P
/-! readLevel -/
def zk_39_5_3_te : zA_T := ([], (((zFr.set 9 zh_9).set 10 zh_10).set 11 zh_11), [(0, (2, (.ofNat 12))), (1, (0, (.ofNat 5))), (2, (0, (.ofNat 3)))], [], 0, 0)
def zk_39_5_3_al : List zAlt := [([], [], (((zFr.set 9 zh_9).set 10 zh_10).set 11 zh_11), none)]
def zk_39_5_3_h0 : zHd := (0, zk_39_5_3_te, [], [], (.ofNat 5), [], [])
def zk_39_5_3_hs : List zHd := [zk_39_5_3_h0]
def zk_39_5_3_or : zO_ := zor zk_40_3_o (zon)
theorem zk_39_5_3_oo (l : Launch) (X : zx_X) (φ : List z_C) (P : List Int → Prop) : zOk l X 2000000 φ P zk_39_5_3_or := zOk_or (zk_40_3_ok l X 2000000 φ P) (zOk_no l X 2000000 φ P)
theorem zk_39_5_3_r0 : zx1 2000000 (zfinC zk_39_5_3_al zk_39_5_3_h0.2.2.2.1) (zcutH zk_39_5_3_hs zk_39_5_3_h0 39 49) zk_39_5_3_or 6000 39 49 zk_39_5_3_h0.1 (zhS zk_39_5_3_h0) [] = true := by decide +kernel
theorem zk_39_5_3_c : zCon 39 49 zk_39_5_3_te [] zk_39_5_3_al := zCon_of (n := 6000) (hs := zk_39_5_3_hs) (lo := []) (c := (.ofNat 5)) (ws := []) (by decide) (by decide +kernel) zk_39_5_3_oo (List.mem_cons_self) (zAll_mem ⟨zk_39_5_3_r0, trivial⟩)
def zk_39_5_3_o : zO_ := zorcF 39 49 zk_39_5_3_te [] [] zk_39_5_3_al [9, 10, 11] [9, 10, 11]
theorem zk_39_5_3_ok (l : Launch) (X : zx_X) (XL : Nat) (φ : List z_C) (P : List Int → Prop) : zOk l X XL φ P zk_39_5_3_o := zOk_F zk_39_5_3_c (by decide +kernel) l X XL φ P
/-! readLevel -/
def zk_39_4_3_te : zA_T := ([], (((zFr.set 9 zh_9).set 10 zh_10).set 11 zh_11), [(0, (2, (.ofNat 12))), (1, (0, (.ofNat 4))), (2, (0, (.ofNat 3)))], [], 0, 0)
def zk_39_4_3_al : List zAlt := [([], [], (((zFr.set 9 zh_9).set 10 zh_10).set 11 zh_11), none)]
def zk_39_4_3_h0 : zHd := (0, zk_39_4_3_te, [], [], (.ofNat 247), [], [])
def zk_39_4_3_h1 : zHd := (34, ([((.ofNat 0), (.ofNat 120), zD0)], (((zFr.set 9 zh_9).set 10 zh_10).set 11 zh_11), [(0, (2, (.ofNat 12))), (1, (0, (.ofNat 4))), (2, (0, (.ofNat 3))), (3, (0, (.ofNat 120))), (4, (1, (.ofNat 0)))], [], 0, 0), [(0, 4, 0)], [], (.ofNat 241), [(.ofNat 2)], [])
def zk_39_4_3_hs : List zHd := [zk_39_4_3_h0, zk_39_4_3_h1]
def zk_39_4_3_or : zO_ := zor zk_39_5_3_o (zon)
theorem zk_39_4_3_oo (l : Launch) (X : zx_X) (φ : List z_C) (P : List Int → Prop) : zOk l X 2000000 φ P zk_39_4_3_or := zOk_or (zk_39_5_3_ok l X 2000000 φ P) (zOk_no l X 2000000 φ P)
theorem zk_39_4_3_r0 : zx1 2000000 (zfinC zk_39_4_3_al zk_39_4_3_h0.2.2.2.1) (zcutH zk_39_4_3_hs zk_39_4_3_h0 39 51) zk_39_4_3_or 6000 39 51 zk_39_4_3_h0.1 (zhS zk_39_4_3_h0) [] = true := by decide +kernel
theorem zk_39_4_3_r1 : zx1 2000000 (zfinC zk_39_4_3_al zk_39_4_3_h1.2.2.2.1) (zcutH zk_39_4_3_hs zk_39_4_3_h1 39 51) zk_39_4_3_or 6000 39 51 zk_39_4_3_h1.1 (zhS zk_39_4_3_h1) [] = true := by decide +kernel
theorem zk_39_4_3_c : zCon 39 51 zk_39_4_3_te [] zk_39_4_3_al := zCon_of (n := 6000) (hs := zk_39_4_3_hs) (lo := []) (c := (.ofNat 247)) (ws := []) (by decide) (by decide +kernel) zk_39_4_3_oo (List.mem_cons_self) (zAll_mem ⟨zk_39_4_3_r0, zk_39_4_3_r1, trivial⟩)
def zk_39_4_3_o : zO_ := zorcF 39 51 zk_39_4_3_te [] [] zk_39_4_3_al [9, 10, 11] [9, 10, 11]
theorem zk_39_4_3_ok (l : Launch) (X : zx_X) (XL : Nat) (φ : List z_C) (P : List Int → Prop) : zOk l X XL φ P zk_39_4_3_o := zOk_F zk_39_4_3_c (by decide +kernel) l X XL φ P
/-! readLevel -/
def zk_39_3_3_te : zA_T := ([], (((zFr.set 9 zh_9).set 10 zh_10).set 11 zh_11), [(0, (2, (.ofNat 12))), (1, (0, (.ofNat 3))), (2, (0, (.ofNat 3)))], [], 0, 0)
def zk_39_3_3_al : List zAlt := [([], [], (((zFr.set 9 zh_9).set 10 zh_10).set 11 zh_11), none)]
def zk_39_3_3_h0 : zHd := (0, zk_39_3_3_te, [], [], (.ofNat 247), [], [])
def zk_39_3_3_h1 : zHd := (34, ([((.ofNat 0), (.ofNat 120), zD0)], (((zFr.set 9 zh_9).set 10 zh_10).set 11 zh_11), [(0, (2, (.ofNat 12))), (1, (0, (.ofNat 3))), (2, (0, (.ofNat 3))), (3, (0, (.ofNat 120))), (4, (1, (.ofNat 0)))], [], 0, 0), [(0, 4, 0)], [], (.ofNat 241), [(.ofNat 2)], [])
def zk_39_3_3_hs : List zHd := [zk_39_3_3_h0, zk_39_3_3_h1]
def zk_39_3_3_or : zO_ := zor zk_39_4_3_o (zon)
theorem zk_39_3_3_oo (l : Launch) (X : zx_X) (φ : List z_C) (P : List Int → Prop) : zOk l X 2000000 φ P zk_39_3_3_or := zOk_or (zk_39_4_3_ok l X 2000000 φ P) (zOk_no l X 2000000 φ P)
theorem zk_39_3_3_r0 : zx1 2000000 (zfinC zk_39_3_3_al zk_39_3_3_h0.2.2.2.1) (zcutH zk_39_3_3_hs zk_39_3_3_h0 39 53) zk_39_3_3_or 6000 39 53 zk_39_3_3_h0.1 (zhS zk_39_3_3_h0) [] = true := by decide +kernel
theorem zk_39_3_3_r1 : zx1 2000000 (zfinC zk_39_3_3_al zk_39_3_3_h1.2.2.2.1) (zcutH zk_39_3_3_hs zk_39_3_3_h1 39 53) zk_39_3_3_or 6000 39 53 zk_39_3_3_h1.1 (zhS zk_39_3_3_h1) [] = true := by decide +kernel
theorem zk_39_3_3_c : zCon 39 53 zk_39_3_3_te [] zk_39_3_3_al := zCon_of (n := 6000) (hs := zk_39_3_3_hs) (lo := []) (c := (.ofNat 247)) (ws := []) (by decide) (by decide +kernel) zk_39_3_3_oo (List.mem_cons_self) (zAll_mem ⟨zk_39_3_3_r0, zk_39_3_3_r1, trivial⟩)
def zk_39_3_3_o : zO_ := zorcF 39 53 zk_39_3_3_te [] [] zk_39_3_3_al [9, 10, 11] [9, 10, 11]
theorem zk_39_3_3_ok (l : Launch) (X : zx_X) (XL : Nat) (φ : List z_C) (P : List Int → Prop) : zOk l X XL φ P zk_39_3_3_o := zOk_F zk_39_3_3_c (by decide +kernel) l X XL φ P
/-! readLevel -/
def zk_39_2_3_te : zA_T := ([], (((zFr.set 9 zh_9).set 10 zh_10).set 11 zh_11), [(0, (2, (.ofNat 12))), (1, (0, (.ofNat 2))), (2, (0, (.ofNat 3)))], [], 0, 0)
def zk_39_2_3_al : List zAlt := [([], [], (((zFr.set 9 zh_9).set 10 zh_10).set 11 zh_11), none)]
def zk_39_2_3_h0 : zHd := (0, zk_39_2_3_te, [], [], (.ofNat 9), [], [])
def zk_39_2_3_h1 : zHd := (34, ([((.ofNat 0), (.ofNat 1), zD0)], (((zFr.set 9 zh_9).set 10 zh_10).set 11 zh_11), [(0, (2, (.ofNat 12))), (1, (0, (.ofNat 2))), (2, (0, (.ofNat 3))), (3, (0, (.ofNat 1))), (4, (1, (.ofNat 0)))], [], 0, 0), [(0, 4, 0)], [], (.ofNat 3), [(.ofNat 2)], [])
def zk_39_2_3_hs : List zHd := [zk_39_2_3_h0, zk_39_2_3_h1]
def zk_39_2_3_or : zO_ := zor zk_39_3_3_o (zon)
theorem zk_39_2_3_oo (l : Launch) (X : zx_X) (φ : List z_C) (P : List Int → Prop) : zOk l X 2000000 φ P zk_39_2_3_or := zOk_or (zk_39_3_3_ok l X 2000000 φ P) (zOk_no l X 2000000 φ P)
theorem zk_39_2_3_r0 : zx1 2000000 (zfinC zk_39_2_3_al zk_39_2_3_h0.2.2.2.1) (zcutH zk_39_2_3_hs zk_39_2_3_h0 39 55) zk_39_2_3_or 6000 39 55 zk_39_2_3_h0.1 (zhS zk_39_2_3_h0) [] = true := by decide +kernel
theorem zk_39_2_3_r1 : zx1 2000000 (zfinC zk_39_2_3_al zk_39_2_3_h1.2.2.2.1) (zcutH zk_39_2_3_hs zk_39_2_3_h1 39 55) zk_39_2_3_or 6000 39 55 zk_39_2_3_h1.1 (zhS zk_39_2_3_h1) [] = true := by decide +kernel
theorem zk_39_2_3_c : zCon 39 55 zk_39_2_3_te [] zk_39_2_3_al := zCon_of (n := 6000) (hs := zk_39_2_3_hs) (lo := []) (c := (.ofNat 9)) (ws := []) (by decide) (by decide +kernel) zk_39_2_3_oo (List.mem_cons_self) (zAll_mem ⟨zk_39_2_3_r0, zk_39_2_3_r1, trivial⟩)
def zk_39_2_3_o : zO_ := zorcF 39 55 zk_39_2_3_te [] [] zk_39_2_3_al [9, 10, 11] [9, 10, 11]
theorem zk_39_2_3_ok (l : Launch) (X : zx_X) (XL : Nat) (φ : List z_C) (P : List Int → Prop) : zOk l X XL φ P zk_39_2_3_o := zOk_F zk_39_2_3_c (by decide +kernel) l X XL φ P
/-! readLevel -/
def zk_39_1_3_te : zA_T := ([], (((zFr.set 9 zh_9).set 10 zh_10).set 11 zh_11), [(0, (2, (.ofNat 12))), (1, (0, (.ofNat 1))), (2, (0, (.ofNat 3)))], [], 0, 0)
def zk_39_1_3_al : List zAlt := [([], [], (((zFr.set 9 zh_9).set 10 zh_10).set 11 zh_11), none)]
def zk_39_1_3_h0 : zHd := (0, zk_39_1_3_te, [], [], (.ofNat 247), [], [])
def zk_39_1_3_h1 : zHd := (34, ([((.ofNat 0), (.ofNat 120), zD0)], (((zFr.set 9 zh_9).set 10 zh_10).set 11 zh_11), [(0, (2, (.ofNat 12))), (1, (0, (.ofNat 1))), (2, (0, (.ofNat 3))), (3, (0, (.ofNat 120))), (4, (1, (.ofNat 0)))], [], 0, 0), [(0, 4, 0)], [], (.ofNat 241), [(.ofNat 2)], [])
def zk_39_1_3_hs : List zHd := [zk_39_1_3_h0, zk_39_1_3_h1]
def zk_39_1_3_or : zO_ := zor zk_39_2_3_o (zon)
theorem zk_39_1_3_oo (l : Launch) (X : zx_X) (φ : List z_C) (P : List Int → Prop) : zOk l X 2000000 φ P zk_39_1_3_or := zOk_or (zk_39_2_3_ok l X 2000000 φ P) (zOk_no l X 2000000 φ P)
theorem zk_39_1_3_r0 : zx1 2000000 (zfinC zk_39_1_3_al zk_39_1_3_h0.2.2.2.1) (zcutH zk_39_1_3_hs zk_39_1_3_h0 39 57) zk_39_1_3_or 6000 39 57 zk_39_1_3_h0.1 (zhS zk_39_1_3_h0) [] = true := by decide +kernel
theorem zk_39_1_3_r1 : zx1 2000000 (zfinC zk_39_1_3_al zk_39_1_3_h1.2.2.2.1) (zcutH zk_39_1_3_hs zk_39_1_3_h1 39 57) zk_39_1_3_or 6000 39 57 zk_39_1_3_h1.1 (zhS zk_39_1_3_h1) [] = true := by decide +kernel
theorem zk_39_1_3_c : zCon 39 57 zk_39_1_3_te [] zk_39_1_3_al := zCon_of (n := 6000) (hs := zk_39_1_3_hs) (lo := []) (c := (.ofNat 247)) (ws := []) (by decide) (by decide +kernel) zk_39_1_3_oo (List.mem_cons_self) (zAll_mem ⟨zk_39_1_3_r0, zk_39_1_3_r1, trivial⟩)
def zk_39_1_3_o : zO_ := zorcF 39 57 zk_39_1_3_te [] [] zk_39_1_3_al [9, 10, 11] [9, 10, 11]
theorem zk_39_1_3_ok (l : Launch) (X : zx_X) (XL : Nat) (φ : List z_C) (P : List Int → Prop) : zOk l X XL φ P zk_39_1_3_o := zOk_F zk_39_1_3_c (by decide +kernel) l X XL φ P
/-! readLevel -/
def zk_39_0_3_te : zA_T := ([], (((zFr.set 9 zh_9).set 10 zh_10).set 11 zh_11), [(0, (2, (.ofNat 12))), (1, (0, (.ofNat 0))), (2, (0, (.ofNat 3)))], [], 0, 0)
def zk_39_0_3_al : List zAlt := [([], [], (((zFr.set 9 zh_9).set 10 zh_10).set 11 zh_11), none)]
def zk_39_0_3_h0 : zHd := (0, zk_39_0_3_te, [], [], (.ofNat 247), [], [])
def zk_39_0_3_h1 : zHd := (34, ([((.ofNat 0), (.ofNat 120), zD0)], (((zFr.set 9 zh_9).set 10 zh_10).set 11 zh_11), [(0, (2, (.ofNat 12))), (1, (0, (.ofNat 0))), (2, (0, (.ofNat 3))), (3, (0, (.ofNat 120))), (4, (1, (.ofNat 0)))], [], 0, 0), [(0, 4, 0)], [], (.ofNat 241), [(.ofNat 2)], [])
def zk_39_0_3_hs : List zHd := [zk_39_0_3_h0, zk_39_0_3_h1]
def zk_39_0_3_or : zO_ := zor zk_39_1_3_o (zon)
theorem zk_39_0_3_oo (l : Launch) (X : zx_X) (φ : List z_C) (P : List Int → Prop) : zOk l X 2000000 φ P zk_39_0_3_or := zOk_or (zk_39_1_3_ok l X 2000000 φ P) (zOk_no l X 2000000 φ P)
theorem zk_39_0_3_r0 : zx1 2000000 (zfinC zk_39_0_3_al zk_39_0_3_h0.2.2.2.1) (zcutH zk_39_0_3_hs zk_39_0_3_h0 39 59) zk_39_0_3_or 6000 39 59 zk_39_0_3_h0.1 (zhS zk_39_0_3_h0) [] = true := by decide +kernel
theorem zk_39_0_3_r1 : zx1 2000000 (zfinC zk_39_0_3_al zk_39_0_3_h1.2.2.2.1) (zcutH zk_39_0_3_hs zk_39_0_3_h1 39 59) zk_39_0_3_or 6000 39 59 zk_39_0_3_h1.1 (zhS zk_39_0_3_h1) [] = true := by decide +kernel
theorem zk_39_0_3_c : zCon 39 59 zk_39_0_3_te [] zk_39_0_3_al := zCon_of (n := 6000) (hs := zk_39_0_3_hs) (lo := []) (c := (.ofNat 247)) (ws := []) (by decide) (by decide +kernel) zk_39_0_3_oo (List.mem_cons_self) (zAll_mem ⟨zk_39_0_3_r0, zk_39_0_3_r1, trivial⟩)
def zk_39_0_3_o : zO_ := zorcF 39 59 zk_39_0_3_te [] [] zk_39_0_3_al [9, 10, 11] [9, 10, 11]
theorem zk_39_0_3_ok (l : Launch) (X : zx_X) (XL : Nat) (φ : List z_C) (P : List Int → Prop) : zOk l X XL φ P zk_39_0_3_o := zOk_F zk_39_0_3_c (by decide +kernel) l X XL φ P
/-! readOperand -/
def zk_40_2_te : zA_T := ([], (((zFr.set 9 zh_9).set 10 zh_10).set 11 zh_11), [(0, (2, (.ofNat 12))), (1, (0, (.ofNat 2)))], [], 0, 0)
def zk_40_2_al : List zAlt := [([], [], (((zFr.set 9 zh_9).set 10 zh_10).set 11 zh_11), none)]
def zk_40_2_h0 : zHd := (0, zk_40_2_te, [], [], (.ofNat 5), [], [])
def zk_40_2_hs : List zHd := [zk_40_2_h0]
def zk_40_2_or : zO_ := zor zk_46_o (zor zk_43_o (zor zk_40_3_o (zor zk_39_0_3_o (zon))))
theorem zk_40_2_oo (l : Launch) (X : zx_X) (φ : List z_C) (P : List Int → Prop) : zOk l X 2000000 φ P zk_40_2_or := zOk_or (zk_46_ok l X 2000000 φ P) (zOk_or (zk_43_ok l X 2000000 φ P) (zOk_or (zk_40_3_ok l X 2000000 φ P) (zOk_or (zk_39_0_3_ok l X 2000000 φ P) (zOk_no l X 2000000 φ P))))
theorem zk_40_2_r0 : zx1 2000000 (zfinC zk_40_2_al zk_40_2_h0.2.2.2.1) (zcutH zk_40_2_hs zk_40_2_h0 40 61) zk_40_2_or 6000 40 61 zk_40_2_h0.1 (zhS zk_40_2_h0) [] = true := by decide +kernel
theorem zk_40_2_c : zCon 40 61 zk_40_2_te [] zk_40_2_al := zCon_of (n := 6000) (hs := zk_40_2_hs) (lo := []) (c := (.ofNat 5)) (ws := []) (by decide) (by decide +kernel) zk_40_2_oo (List.mem_cons_self) (zAll_mem ⟨zk_40_2_r0, trivial⟩)
def zk_40_2_o : zO_ := zorcF 40 61 zk_40_2_te [] [] zk_40_2_al [9, 10, 11] [9, 10, 11]
theorem zk_40_2_ok (l : Launch) (X : zx_X) (XL : Nat) (φ : List z_C) (P : List Int → Prop) : zOk l X XL φ P zk_40_2_o := zOk_F zk_40_2_c (by decide +kernel) l X XL φ P
/-! readLevel -/
def zk_39_5_2_te : zA_T := ([], (((zFr.set 9 zh_9).set 10 zh_10).set 11 zh_11), [(0, (2, (.ofNat 12))), (1, (0, (.ofNat 5))), (2, (0, (.ofNat 2)))], [], 0, 0)
def zk_39_5_2_al : List zAlt := [([], [], (((zFr.set 9 zh_9).set 10 zh_10).set 11 zh_11), none)]
def zk_39_5_2_h0 : zHd := (0, zk_39_5_2_te, [], [], (.ofNat 5), [], [])
def zk_39_5_2_hs : List zHd := [zk_39_5_2_h0]
def zk_39_5_2_or : zO_ := zor zk_40_2_o (zon)
theorem zk_39_5_2_oo (l : Launch) (X : zx_X) (φ : List z_C) (P : List Int → Prop) : zOk l X 2000000 φ P zk_39_5_2_or := zOk_or (zk_40_2_ok l X 2000000 φ P) (zOk_no l X 2000000 φ P)
theorem zk_39_5_2_r0 : zx1 2000000 (zfinC zk_39_5_2_al zk_39_5_2_h0.2.2.2.1) (zcutH zk_39_5_2_hs zk_39_5_2_h0 39 63) zk_39_5_2_or 6000 39 63 zk_39_5_2_h0.1 (zhS zk_39_5_2_h0) [] = true := by decide +kernel
theorem zk_39_5_2_c : zCon 39 63 zk_39_5_2_te [] zk_39_5_2_al := zCon_of (n := 6000) (hs := zk_39_5_2_hs) (lo := []) (c := (.ofNat 5)) (ws := []) (by decide) (by decide +kernel) zk_39_5_2_oo (List.mem_cons_self) (zAll_mem ⟨zk_39_5_2_r0, trivial⟩)
def zk_39_5_2_o : zO_ := zorcF 39 63 zk_39_5_2_te [] [] zk_39_5_2_al [9, 10, 11] [9, 10, 11]
theorem zk_39_5_2_ok (l : Launch) (X : zx_X) (XL : Nat) (φ : List z_C) (P : List Int → Prop) : zOk l X XL φ P zk_39_5_2_o := zOk_F zk_39_5_2_c (by decide +kernel) l X XL φ P
/-! readLevel -/
def zk_39_4_2_te : zA_T := ([], (((zFr.set 9 zh_9).set 10 zh_10).set 11 zh_11), [(0, (2, (.ofNat 12))), (1, (0, (.ofNat 4))), (2, (0, (.ofNat 2)))], [], 0, 0)
def zk_39_4_2_al : List zAlt := [([], [], (((zFr.set 9 zh_9).set 10 zh_10).set 11 zh_11), none)]
def zk_39_4_2_h0 : zHd := (0, zk_39_4_2_te, [], [], (.ofNat 247), [], [])
def zk_39_4_2_h1 : zHd := (34, ([((.ofNat 0), (.ofNat 120), zD0)], (((zFr.set 9 zh_9).set 10 zh_10).set 11 zh_11), [(0, (2, (.ofNat 12))), (1, (0, (.ofNat 4))), (2, (0, (.ofNat 2))), (3, (0, (.ofNat 120))), (4, (1, (.ofNat 0)))], [], 0, 0), [(0, 4, 0)], [], (.ofNat 241), [(.ofNat 2)], [])
def zk_39_4_2_hs : List zHd := [zk_39_4_2_h0, zk_39_4_2_h1]
def zk_39_4_2_or : zO_ := zor zk_39_5_2_o (zon)
theorem zk_39_4_2_oo (l : Launch) (X : zx_X) (φ : List z_C) (P : List Int → Prop) : zOk l X 2000000 φ P zk_39_4_2_or := zOk_or (zk_39_5_2_ok l X 2000000 φ P) (zOk_no l X 2000000 φ P)
theorem zk_39_4_2_r0 : zx1 2000000 (zfinC zk_39_4_2_al zk_39_4_2_h0.2.2.2.1) (zcutH zk_39_4_2_hs zk_39_4_2_h0 39 65) zk_39_4_2_or 6000 39 65 zk_39_4_2_h0.1 (zhS zk_39_4_2_h0) [] = true := by decide +kernel
theorem zk_39_4_2_r1 : zx1 2000000 (zfinC zk_39_4_2_al zk_39_4_2_h1.2.2.2.1) (zcutH zk_39_4_2_hs zk_39_4_2_h1 39 65) zk_39_4_2_or 6000 39 65 zk_39_4_2_h1.1 (zhS zk_39_4_2_h1) [] = true := by decide +kernel
theorem zk_39_4_2_c : zCon 39 65 zk_39_4_2_te [] zk_39_4_2_al := zCon_of (n := 6000) (hs := zk_39_4_2_hs) (lo := []) (c := (.ofNat 247)) (ws := []) (by decide) (by decide +kernel) zk_39_4_2_oo (List.mem_cons_self) (zAll_mem ⟨zk_39_4_2_r0, zk_39_4_2_r1, trivial⟩)
def zk_39_4_2_o : zO_ := zorcF 39 65 zk_39_4_2_te [] [] zk_39_4_2_al [9, 10, 11] [9, 10, 11]
theorem zk_39_4_2_ok (l : Launch) (X : zx_X) (XL : Nat) (φ : List z_C) (P : List Int → Prop) : zOk l X XL φ P zk_39_4_2_o := zOk_F zk_39_4_2_c (by decide +kernel) l X XL φ P
/-! readLevel -/
def zk_39_3_2_te : zA_T := ([], (((zFr.set 9 zh_9).set 10 zh_10).set 11 zh_11), [(0, (2, (.ofNat 12))), (1, (0, (.ofNat 3))), (2, (0, (.ofNat 2)))], [], 0, 0)
def zk_39_3_2_al : List zAlt := [([], [], (((zFr.set 9 zh_9).set 10 zh_10).set 11 zh_11), none)]
def zk_39_3_2_h0 : zHd := (0, zk_39_3_2_te, [], [], (.ofNat 247), [], [])
def zk_39_3_2_h1 : zHd := (34, ([((.ofNat 0), (.ofNat 120), zD0)], (((zFr.set 9 zh_9).set 10 zh_10).set 11 zh_11), [(0, (2, (.ofNat 12))), (1, (0, (.ofNat 3))), (2, (0, (.ofNat 2))), (3, (0, (.ofNat 120))), (4, (1, (.ofNat 0)))], [], 0, 0), [(0, 4, 0)], [], (.ofNat 241), [(.ofNat 2)], [])
def zk_39_3_2_hs : List zHd := [zk_39_3_2_h0, zk_39_3_2_h1]
def zk_39_3_2_or : zO_ := zor zk_39_4_2_o (zon)
theorem zk_39_3_2_oo (l : Launch) (X : zx_X) (φ : List z_C) (P : List Int → Prop) : zOk l X 2000000 φ P zk_39_3_2_or := zOk_or (zk_39_4_2_ok l X 2000000 φ P) (zOk_no l X 2000000 φ P)
theorem zk_39_3_2_r0 : zx1 2000000 (zfinC zk_39_3_2_al zk_39_3_2_h0.2.2.2.1) (zcutH zk_39_3_2_hs zk_39_3_2_h0 39 67) zk_39_3_2_or 6000 39 67 zk_39_3_2_h0.1 (zhS zk_39_3_2_h0) [] = true := by decide +kernel
theorem zk_39_3_2_r1 : zx1 2000000 (zfinC zk_39_3_2_al zk_39_3_2_h1.2.2.2.1) (zcutH zk_39_3_2_hs zk_39_3_2_h1 39 67) zk_39_3_2_or 6000 39 67 zk_39_3_2_h1.1 (zhS zk_39_3_2_h1) [] = true := by decide +kernel
theorem zk_39_3_2_c : zCon 39 67 zk_39_3_2_te [] zk_39_3_2_al := zCon_of (n := 6000) (hs := zk_39_3_2_hs) (lo := []) (c := (.ofNat 247)) (ws := []) (by decide) (by decide +kernel) zk_39_3_2_oo (List.mem_cons_self) (zAll_mem ⟨zk_39_3_2_r0, zk_39_3_2_r1, trivial⟩)
def zk_39_3_2_o : zO_ := zorcF 39 67 zk_39_3_2_te [] [] zk_39_3_2_al [9, 10, 11] [9, 10, 11]
theorem zk_39_3_2_ok (l : Launch) (X : zx_X) (XL : Nat) (φ : List z_C) (P : List Int → Prop) : zOk l X XL φ P zk_39_3_2_o := zOk_F zk_39_3_2_c (by decide +kernel) l X XL φ P
/-! readLevel -/
def zk_39_2_2_te : zA_T := ([], (((zFr.set 9 zh_9).set 10 zh_10).set 11 zh_11), [(0, (2, (.ofNat 12))), (1, (0, (.ofNat 2))), (2, (0, (.ofNat 2)))], [], 0, 0)
def zk_39_2_2_al : List zAlt := [([], [], (((zFr.set 9 zh_9).set 10 zh_10).set 11 zh_11), none)]
def zk_39_2_2_h0 : zHd := (0, zk_39_2_2_te, [], [], (.ofNat 9), [], [])
def zk_39_2_2_h1 : zHd := (34, ([((.ofNat 0), (.ofNat 1), zD0)], (((zFr.set 9 zh_9).set 10 zh_10).set 11 zh_11), [(0, (2, (.ofNat 12))), (1, (0, (.ofNat 2))), (2, (0, (.ofNat 2))), (3, (0, (.ofNat 1))), (4, (1, (.ofNat 0)))], [], 0, 0), [(0, 4, 0)], [], (.ofNat 3), [(.ofNat 2)], [])
def zk_39_2_2_hs : List zHd := [zk_39_2_2_h0, zk_39_2_2_h1]
def zk_39_2_2_or : zO_ := zor zk_39_3_2_o (zon)
theorem zk_39_2_2_oo (l : Launch) (X : zx_X) (φ : List z_C) (P : List Int → Prop) : zOk l X 2000000 φ P zk_39_2_2_or := zOk_or (zk_39_3_2_ok l X 2000000 φ P) (zOk_no l X 2000000 φ P)
theorem zk_39_2_2_r0 : zx1 2000000 (zfinC zk_39_2_2_al zk_39_2_2_h0.2.2.2.1) (zcutH zk_39_2_2_hs zk_39_2_2_h0 39 69) zk_39_2_2_or 6000 39 69 zk_39_2_2_h0.1 (zhS zk_39_2_2_h0) [] = true := by decide +kernel
theorem zk_39_2_2_r1 : zx1 2000000 (zfinC zk_39_2_2_al zk_39_2_2_h1.2.2.2.1) (zcutH zk_39_2_2_hs zk_39_2_2_h1 39 69) zk_39_2_2_or 6000 39 69 zk_39_2_2_h1.1 (zhS zk_39_2_2_h1) [] = true := by decide +kernel
theorem zk_39_2_2_c : zCon 39 69 zk_39_2_2_te [] zk_39_2_2_al := zCon_of (n := 6000) (hs := zk_39_2_2_hs) (lo := []) (c := (.ofNat 9)) (ws := []) (by decide) (by decide +kernel) zk_39_2_2_oo (List.mem_cons_self) (zAll_mem ⟨zk_39_2_2_r0, zk_39_2_2_r1, trivial⟩)
def zk_39_2_2_o : zO_ := zorcF 39 69 zk_39_2_2_te [] [] zk_39_2_2_al [9, 10, 11] [9, 10, 11]
theorem zk_39_2_2_ok (l : Launch) (X : zx_X) (XL : Nat) (φ : List z_C) (P : List Int → Prop) : zOk l X XL φ P zk_39_2_2_o := zOk_F zk_39_2_2_c (by decide +kernel) l X XL φ P
/-! readLevel -/
def zk_39_1_2_te : zA_T := ([], (((zFr.set 9 zh_9).set 10 zh_10).set 11 zh_11), [(0, (2, (.ofNat 12))), (1, (0, (.ofNat 1))), (2, (0, (.ofNat 2)))], [], 0, 0)
def zk_39_1_2_al : List zAlt := [([], [], (((zFr.set 9 zh_9).set 10 zh_10).set 11 zh_11), none)]
def zk_39_1_2_h0 : zHd := (0, zk_39_1_2_te, [], [], (.ofNat 247), [], [])
def zk_39_1_2_h1 : zHd := (34, ([((.ofNat 0), (.ofNat 120), zD0)], (((zFr.set 9 zh_9).set 10 zh_10).set 11 zh_11), [(0, (2, (.ofNat 12))), (1, (0, (.ofNat 1))), (2, (0, (.ofNat 2))), (3, (0, (.ofNat 120))), (4, (1, (.ofNat 0)))], [], 0, 0), [(0, 4, 0)], [], (.ofNat 241), [(.ofNat 2)], [])
def zk_39_1_2_hs : List zHd := [zk_39_1_2_h0, zk_39_1_2_h1]
def zk_39_1_2_or : zO_ := zor zk_39_2_2_o (zon)
theorem zk_39_1_2_oo (l : Launch) (X : zx_X) (φ : List z_C) (P : List Int → Prop) : zOk l X 2000000 φ P zk_39_1_2_or := zOk_or (zk_39_2_2_ok l X 2000000 φ P) (zOk_no l X 2000000 φ P)
theorem zk_39_1_2_r0 : zx1 2000000 (zfinC zk_39_1_2_al zk_39_1_2_h0.2.2.2.1) (zcutH zk_39_1_2_hs zk_39_1_2_h0 39 71) zk_39_1_2_or 6000 39 71 zk_39_1_2_h0.1 (zhS zk_39_1_2_h0) [] = true := by decide +kernel
theorem zk_39_1_2_r1 : zx1 2000000 (zfinC zk_39_1_2_al zk_39_1_2_h1.2.2.2.1) (zcutH zk_39_1_2_hs zk_39_1_2_h1 39 71) zk_39_1_2_or 6000 39 71 zk_39_1_2_h1.1 (zhS zk_39_1_2_h1) [] = true := by decide +kernel
theorem zk_39_1_2_c : zCon 39 71 zk_39_1_2_te [] zk_39_1_2_al := zCon_of (n := 6000) (hs := zk_39_1_2_hs) (lo := []) (c := (.ofNat 247)) (ws := []) (by decide) (by decide +kernel) zk_39_1_2_oo (List.mem_cons_self) (zAll_mem ⟨zk_39_1_2_r0, zk_39_1_2_r1, trivial⟩)
def zk_39_1_2_o : zO_ := zorcF 39 71 zk_39_1_2_te [] [] zk_39_1_2_al [9, 10, 11] [9, 10, 11]
theorem zk_39_1_2_ok (l : Launch) (X : zx_X) (XL : Nat) (φ : List z_C) (P : List Int → Prop) : zOk l X XL φ P zk_39_1_2_o := zOk_F zk_39_1_2_c (by decide +kernel) l X XL φ P
/-! readLevel -/
def zk_39_0_2_te : zA_T := ([], (((zFr.set 9 zh_9).set 10 zh_10).set 11 zh_11), [(0, (2, (.ofNat 12))), (1, (0, (.ofNat 0))), (2, (0, (.ofNat 2)))], [], 0, 0)
def zk_39_0_2_al : List zAlt := [([], [], (((zFr.set 9 zh_9).set 10 zh_10).set 11 zh_11), none)]
def zk_39_0_2_h0 : zHd := (0, zk_39_0_2_te, [], [], (.ofNat 247), [], [])
def zk_39_0_2_h1 : zHd := (34, ([((.ofNat 0), (.ofNat 120), zD0)], (((zFr.set 9 zh_9).set 10 zh_10).set 11 zh_11), [(0, (2, (.ofNat 12))), (1, (0, (.ofNat 0))), (2, (0, (.ofNat 2))), (3, (0, (.ofNat 120))), (4, (1, (.ofNat 0)))], [], 0, 0), [(0, 4, 0)], [], (.ofNat 241), [(.ofNat 2)], [])
def zk_39_0_2_hs : List zHd := [zk_39_0_2_h0, zk_39_0_2_h1]
def zk_39_0_2_or : zO_ := zor zk_39_1_2_o (zon)
theorem zk_39_0_2_oo (l : Launch) (X : zx_X) (φ : List z_C) (P : List Int → Prop) : zOk l X 2000000 φ P zk_39_0_2_or := zOk_or (zk_39_1_2_ok l X 2000000 φ P) (zOk_no l X 2000000 φ P)
theorem zk_39_0_2_r0 : zx1 2000000 (zfinC zk_39_0_2_al zk_39_0_2_h0.2.2.2.1) (zcutH zk_39_0_2_hs zk_39_0_2_h0 39 73) zk_39_0_2_or 6000 39 73 zk_39_0_2_h0.1 (zhS zk_39_0_2_h0) [] = true := by decide +kernel
theorem zk_39_0_2_r1 : zx1 2000000 (zfinC zk_39_0_2_al zk_39_0_2_h1.2.2.2.1) (zcutH zk_39_0_2_hs zk_39_0_2_h1 39 73) zk_39_0_2_or 6000 39 73 zk_39_0_2_h1.1 (zhS zk_39_0_2_h1) [] = true := by decide +kernel
theorem zk_39_0_2_c : zCon 39 73 zk_39_0_2_te [] zk_39_0_2_al := zCon_of (n := 6000) (hs := zk_39_0_2_hs) (lo := []) (c := (.ofNat 247)) (ws := []) (by decide) (by decide +kernel) zk_39_0_2_oo (List.mem_cons_self) (zAll_mem ⟨zk_39_0_2_r0, zk_39_0_2_r1, trivial⟩)
def zk_39_0_2_o : zO_ := zorcF 39 73 zk_39_0_2_te [] [] zk_39_0_2_al [9, 10, 11] [9, 10, 11]
theorem zk_39_0_2_ok (l : Launch) (X : zx_X) (XL : Nat) (φ : List z_C) (P : List Int → Prop) : zOk l X XL φ P zk_39_0_2_o := zOk_F zk_39_0_2_c (by decide +kernel) l X XL φ P
/-! readOperand -/
def zk_40_1_te : zA_T := ([], (((zFr.set 9 zh_9).set 10 zh_10).set 11 zh_11), [(0, (2, (.ofNat 12))), (1, (0, (.ofNat 1)))], [], 0, 0)
def zk_40_1_al : List zAlt := [([], [], (((zFr.set 9 zh_9).set 10 zh_10).set 11 zh_11), none)]
def zk_40_1_h0 : zHd := (0, zk_40_1_te, [], [], (.ofNat 5), [], [])
def zk_40_1_hs : List zHd := [zk_40_1_h0]
def zk_40_1_or : zO_ := zor zk_46_o (zor zk_43_o (zor zk_40_2_o (zor zk_39_0_2_o (zon))))
theorem zk_40_1_oo (l : Launch) (X : zx_X) (φ : List z_C) (P : List Int → Prop) : zOk l X 2000000 φ P zk_40_1_or := zOk_or (zk_46_ok l X 2000000 φ P) (zOk_or (zk_43_ok l X 2000000 φ P) (zOk_or (zk_40_2_ok l X 2000000 φ P) (zOk_or (zk_39_0_2_ok l X 2000000 φ P) (zOk_no l X 2000000 φ P))))
theorem zk_40_1_r0 : zx1 2000000 (zfinC zk_40_1_al zk_40_1_h0.2.2.2.1) (zcutH zk_40_1_hs zk_40_1_h0 40 75) zk_40_1_or 6000 40 75 zk_40_1_h0.1 (zhS zk_40_1_h0) [] = true := by decide +kernel
theorem zk_40_1_c : zCon 40 75 zk_40_1_te [] zk_40_1_al := zCon_of (n := 6000) (hs := zk_40_1_hs) (lo := []) (c := (.ofNat 5)) (ws := []) (by decide) (by decide +kernel) zk_40_1_oo (List.mem_cons_self) (zAll_mem ⟨zk_40_1_r0, trivial⟩)
def zk_40_1_o : zO_ := zorcF 40 75 zk_40_1_te [] [] zk_40_1_al [9, 10, 11] [9, 10, 11]
theorem zk_40_1_ok (l : Launch) (X : zx_X) (XL : Nat) (φ : List z_C) (P : List Int → Prop) : zOk l X XL φ P zk_40_1_o := zOk_F zk_40_1_c (by decide +kernel) l X XL φ P
/-! readLevel -/
def zk_39_5_1_te : zA_T := ([], (((zFr.set 9 zh_9).set 10 zh_10).set 11 zh_11), [(0, (2, (.ofNat 12))), (1, (0, (.ofNat 5))), (2, (0, (.ofNat 1)))], [], 0, 0)
def zk_39_5_1_al : List zAlt := [([], [], (((zFr.set 9 zh_9).set 10 zh_10).set 11 zh_11), none)]
def zk_39_5_1_h0 : zHd := (0, zk_39_5_1_te, [], [], (.ofNat 5), [], [])
def zk_39_5_1_hs : List zHd := [zk_39_5_1_h0]
def zk_39_5_1_or : zO_ := zor zk_40_1_o (zon)
theorem zk_39_5_1_oo (l : Launch) (X : zx_X) (φ : List z_C) (P : List Int → Prop) : zOk l X 2000000 φ P zk_39_5_1_or := zOk_or (zk_40_1_ok l X 2000000 φ P) (zOk_no l X 2000000 φ P)
theorem zk_39_5_1_r0 : zx1 2000000 (zfinC zk_39_5_1_al zk_39_5_1_h0.2.2.2.1) (zcutH zk_39_5_1_hs zk_39_5_1_h0 39 77) zk_39_5_1_or 6000 39 77 zk_39_5_1_h0.1 (zhS zk_39_5_1_h0) [] = true := by decide +kernel
theorem zk_39_5_1_c : zCon 39 77 zk_39_5_1_te [] zk_39_5_1_al := zCon_of (n := 6000) (hs := zk_39_5_1_hs) (lo := []) (c := (.ofNat 5)) (ws := []) (by decide) (by decide +kernel) zk_39_5_1_oo (List.mem_cons_self) (zAll_mem ⟨zk_39_5_1_r0, trivial⟩)
def zk_39_5_1_o : zO_ := zorcF 39 77 zk_39_5_1_te [] [] zk_39_5_1_al [9, 10, 11] [9, 10, 11]
theorem zk_39_5_1_ok (l : Launch) (X : zx_X) (XL : Nat) (φ : List z_C) (P : List Int → Prop) : zOk l X XL φ P zk_39_5_1_o := zOk_F zk_39_5_1_c (by decide +kernel) l X XL φ P
/-! readLevel -/
def zk_39_4_1_te : zA_T := ([], (((zFr.set 9 zh_9).set 10 zh_10).set 11 zh_11), [(0, (2, (.ofNat 12))), (1, (0, (.ofNat 4))), (2, (0, (.ofNat 1)))], [], 0, 0)
def zk_39_4_1_al : List zAlt := [([], [], (((zFr.set 9 zh_9).set 10 zh_10).set 11 zh_11), none)]
def zk_39_4_1_h0 : zHd := (0, zk_39_4_1_te, [], [], (.ofNat 247), [], [])
def zk_39_4_1_h1 : zHd := (34, ([((.ofNat 0), (.ofNat 120), zD0)], (((zFr.set 9 zh_9).set 10 zh_10).set 11 zh_11), [(0, (2, (.ofNat 12))), (1, (0, (.ofNat 4))), (2, (0, (.ofNat 1))), (3, (0, (.ofNat 120))), (4, (1, (.ofNat 0)))], [], 0, 0), [(0, 4, 0)], [], (.ofNat 241), [(.ofNat 2)], [])
def zk_39_4_1_hs : List zHd := [zk_39_4_1_h0, zk_39_4_1_h1]
def zk_39_4_1_or : zO_ := zor zk_39_5_1_o (zon)
theorem zk_39_4_1_oo (l : Launch) (X : zx_X) (φ : List z_C) (P : List Int → Prop) : zOk l X 2000000 φ P zk_39_4_1_or := zOk_or (zk_39_5_1_ok l X 2000000 φ P) (zOk_no l X 2000000 φ P)
theorem zk_39_4_1_r0 : zx1 2000000 (zfinC zk_39_4_1_al zk_39_4_1_h0.2.2.2.1) (zcutH zk_39_4_1_hs zk_39_4_1_h0 39 79) zk_39_4_1_or 6000 39 79 zk_39_4_1_h0.1 (zhS zk_39_4_1_h0) [] = true := by decide +kernel
theorem zk_39_4_1_r1 : zx1 2000000 (zfinC zk_39_4_1_al zk_39_4_1_h1.2.2.2.1) (zcutH zk_39_4_1_hs zk_39_4_1_h1 39 79) zk_39_4_1_or 6000 39 79 zk_39_4_1_h1.1 (zhS zk_39_4_1_h1) [] = true := by decide +kernel
theorem zk_39_4_1_c : zCon 39 79 zk_39_4_1_te [] zk_39_4_1_al := zCon_of (n := 6000) (hs := zk_39_4_1_hs) (lo := []) (c := (.ofNat 247)) (ws := []) (by decide) (by decide +kernel) zk_39_4_1_oo (List.mem_cons_self) (zAll_mem ⟨zk_39_4_1_r0, zk_39_4_1_r1, trivial⟩)
def zk_39_4_1_o : zO_ := zorcF 39 79 zk_39_4_1_te [] [] zk_39_4_1_al [9, 10, 11] [9, 10, 11]
theorem zk_39_4_1_ok (l : Launch) (X : zx_X) (XL : Nat) (φ : List z_C) (P : List Int → Prop) : zOk l X XL φ P zk_39_4_1_o := zOk_F zk_39_4_1_c (by decide +kernel) l X XL φ P
/-! readLevel -/
def zk_39_3_1_te : zA_T := ([], (((zFr.set 9 zh_9).set 10 zh_10).set 11 zh_11), [(0, (2, (.ofNat 12))), (1, (0, (.ofNat 3))), (2, (0, (.ofNat 1)))], [], 0, 0)
def zk_39_3_1_al : List zAlt := [([], [], (((zFr.set 9 zh_9).set 10 zh_10).set 11 zh_11), none)]
def zk_39_3_1_h0 : zHd := (0, zk_39_3_1_te, [], [], (.ofNat 247), [], [])
def zk_39_3_1_h1 : zHd := (34, ([((.ofNat 0), (.ofNat 120), zD0)], (((zFr.set 9 zh_9).set 10 zh_10).set 11 zh_11), [(0, (2, (.ofNat 12))), (1, (0, (.ofNat 3))), (2, (0, (.ofNat 1))), (3, (0, (.ofNat 120))), (4, (1, (.ofNat 0)))], [], 0, 0), [(0, 4, 0)], [], (.ofNat 241), [(.ofNat 2)], [])
def zk_39_3_1_hs : List zHd := [zk_39_3_1_h0, zk_39_3_1_h1]
def zk_39_3_1_or : zO_ := zor zk_39_4_1_o (zon)
theorem zk_39_3_1_oo (l : Launch) (X : zx_X) (φ : List z_C) (P : List Int → Prop) : zOk l X 2000000 φ P zk_39_3_1_or := zOk_or (zk_39_4_1_ok l X 2000000 φ P) (zOk_no l X 2000000 φ P)
theorem zk_39_3_1_r0 : zx1 2000000 (zfinC zk_39_3_1_al zk_39_3_1_h0.2.2.2.1) (zcutH zk_39_3_1_hs zk_39_3_1_h0 39 81) zk_39_3_1_or 6000 39 81 zk_39_3_1_h0.1 (zhS zk_39_3_1_h0) [] = true := by decide +kernel
theorem zk_39_3_1_r1 : zx1 2000000 (zfinC zk_39_3_1_al zk_39_3_1_h1.2.2.2.1) (zcutH zk_39_3_1_hs zk_39_3_1_h1 39 81) zk_39_3_1_or 6000 39 81 zk_39_3_1_h1.1 (zhS zk_39_3_1_h1) [] = true := by decide +kernel
theorem zk_39_3_1_c : zCon 39 81 zk_39_3_1_te [] zk_39_3_1_al := zCon_of (n := 6000) (hs := zk_39_3_1_hs) (lo := []) (c := (.ofNat 247)) (ws := []) (by decide) (by decide +kernel) zk_39_3_1_oo (List.mem_cons_self) (zAll_mem ⟨zk_39_3_1_r0, zk_39_3_1_r1, trivial⟩)
def zk_39_3_1_o : zO_ := zorcF 39 81 zk_39_3_1_te [] [] zk_39_3_1_al [9, 10, 11] [9, 10, 11]
theorem zk_39_3_1_ok (l : Launch) (X : zx_X) (XL : Nat) (φ : List z_C) (P : List Int → Prop) : zOk l X XL φ P zk_39_3_1_o := zOk_F zk_39_3_1_c (by decide +kernel) l X XL φ P
/-! readLevel -/
def zk_39_2_1_te : zA_T := ([], (((zFr.set 9 zh_9).set 10 zh_10).set 11 zh_11), [(0, (2, (.ofNat 12))), (1, (0, (.ofNat 2))), (2, (0, (.ofNat 1)))], [], 0, 0)
def zk_39_2_1_al : List zAlt := [([], [], (((zFr.set 9 zh_9).set 10 zh_10).set 11 zh_11), none)]
def zk_39_2_1_h0 : zHd := (0, zk_39_2_1_te, [], [], (.ofNat 9), [], [])
def zk_39_2_1_h1 : zHd := (34, ([((.ofNat 0), (.ofNat 1), zD0)], (((zFr.set 9 zh_9).set 10 zh_10).set 11 zh_11), [(0, (2, (.ofNat 12))), (1, (0, (.ofNat 2))), (2, (0, (.ofNat 1))), (3, (0, (.ofNat 1))), (4, (1, (.ofNat 0)))], [], 0, 0), [(0, 4, 0)], [], (.ofNat 3), [(.ofNat 2)], [])
def zk_39_2_1_hs : List zHd := [zk_39_2_1_h0, zk_39_2_1_h1]
def zk_39_2_1_or : zO_ := zor zk_39_3_1_o (zon)
theorem zk_39_2_1_oo (l : Launch) (X : zx_X) (φ : List z_C) (P : List Int → Prop) : zOk l X 2000000 φ P zk_39_2_1_or := zOk_or (zk_39_3_1_ok l X 2000000 φ P) (zOk_no l X 2000000 φ P)
theorem zk_39_2_1_r0 : zx1 2000000 (zfinC zk_39_2_1_al zk_39_2_1_h0.2.2.2.1) (zcutH zk_39_2_1_hs zk_39_2_1_h0 39 83) zk_39_2_1_or 6000 39 83 zk_39_2_1_h0.1 (zhS zk_39_2_1_h0) [] = true := by decide +kernel
theorem zk_39_2_1_r1 : zx1 2000000 (zfinC zk_39_2_1_al zk_39_2_1_h1.2.2.2.1) (zcutH zk_39_2_1_hs zk_39_2_1_h1 39 83) zk_39_2_1_or 6000 39 83 zk_39_2_1_h1.1 (zhS zk_39_2_1_h1) [] = true := by decide +kernel
theorem zk_39_2_1_c : zCon 39 83 zk_39_2_1_te [] zk_39_2_1_al := zCon_of (n := 6000) (hs := zk_39_2_1_hs) (lo := []) (c := (.ofNat 9)) (ws := []) (by decide) (by decide +kernel) zk_39_2_1_oo (List.mem_cons_self) (zAll_mem ⟨zk_39_2_1_r0, zk_39_2_1_r1, trivial⟩)
def zk_39_2_1_o : zO_ := zorcF 39 83 zk_39_2_1_te [] [] zk_39_2_1_al [9, 10, 11] [9, 10, 11]
theorem zk_39_2_1_ok (l : Launch) (X : zx_X) (XL : Nat) (φ : List z_C) (P : List Int → Prop) : zOk l X XL φ P zk_39_2_1_o := zOk_F zk_39_2_1_c (by decide +kernel) l X XL φ P
/-! readLevel -/
def zk_39_1_1_te : zA_T := ([], (((zFr.set 9 zh_9).set 10 zh_10).set 11 zh_11), [(0, (2, (.ofNat 12))), (1, (0, (.ofNat 1))), (2, (0, (.ofNat 1)))], [], 0, 0)
def zk_39_1_1_al : List zAlt := [([], [], (((zFr.set 9 zh_9).set 10 zh_10).set 11 zh_11), none)]
def zk_39_1_1_h0 : zHd := (0, zk_39_1_1_te, [], [], (.ofNat 247), [], [])
def zk_39_1_1_h1 : zHd := (34, ([((.ofNat 0), (.ofNat 120), zD0)], (((zFr.set 9 zh_9).set 10 zh_10).set 11 zh_11), [(0, (2, (.ofNat 12))), (1, (0, (.ofNat 1))), (2, (0, (.ofNat 1))), (3, (0, (.ofNat 120))), (4, (1, (.ofNat 0)))], [], 0, 0), [(0, 4, 0)], [], (.ofNat 241), [(.ofNat 2)], [])
def zk_39_1_1_hs : List zHd := [zk_39_1_1_h0, zk_39_1_1_h1]
def zk_39_1_1_or : zO_ := zor zk_39_2_1_o (zon)
theorem zk_39_1_1_oo (l : Launch) (X : zx_X) (φ : List z_C) (P : List Int → Prop) : zOk l X 2000000 φ P zk_39_1_1_or := zOk_or (zk_39_2_1_ok l X 2000000 φ P) (zOk_no l X 2000000 φ P)
theorem zk_39_1_1_r0 : zx1 2000000 (zfinC zk_39_1_1_al zk_39_1_1_h0.2.2.2.1) (zcutH zk_39_1_1_hs zk_39_1_1_h0 39 85) zk_39_1_1_or 6000 39 85 zk_39_1_1_h0.1 (zhS zk_39_1_1_h0) [] = true := by decide +kernel
theorem zk_39_1_1_r1 : zx1 2000000 (zfinC zk_39_1_1_al zk_39_1_1_h1.2.2.2.1) (zcutH zk_39_1_1_hs zk_39_1_1_h1 39 85) zk_39_1_1_or 6000 39 85 zk_39_1_1_h1.1 (zhS zk_39_1_1_h1) [] = true := by decide +kernel
theorem zk_39_1_1_c : zCon 39 85 zk_39_1_1_te [] zk_39_1_1_al := zCon_of (n := 6000) (hs := zk_39_1_1_hs) (lo := []) (c := (.ofNat 247)) (ws := []) (by decide) (by decide +kernel) zk_39_1_1_oo (List.mem_cons_self) (zAll_mem ⟨zk_39_1_1_r0, zk_39_1_1_r1, trivial⟩)
def zk_39_1_1_o : zO_ := zorcF 39 85 zk_39_1_1_te [] [] zk_39_1_1_al [9, 10, 11] [9, 10, 11]
theorem zk_39_1_1_ok (l : Launch) (X : zx_X) (XL : Nat) (φ : List z_C) (P : List Int → Prop) : zOk l X XL φ P zk_39_1_1_o := zOk_F zk_39_1_1_c (by decide +kernel) l X XL φ P
/-! readLevel -/
def zk_39_0_1_te : zA_T := ([], (((zFr.set 9 zh_9).set 10 zh_10).set 11 zh_11), [(0, (2, (.ofNat 12))), (1, (0, (.ofNat 0))), (2, (0, (.ofNat 1)))], [], 0, 0)
def zk_39_0_1_al : List zAlt := [([], [], (((zFr.set 9 zh_9).set 10 zh_10).set 11 zh_11), none)]
def zk_39_0_1_h0 : zHd := (0, zk_39_0_1_te, [], [], (.ofNat 247), [], [])
def zk_39_0_1_h1 : zHd := (34, ([((.ofNat 0), (.ofNat 120), zD0)], (((zFr.set 9 zh_9).set 10 zh_10).set 11 zh_11), [(0, (2, (.ofNat 12))), (1, (0, (.ofNat 0))), (2, (0, (.ofNat 1))), (3, (0, (.ofNat 120))), (4, (1, (.ofNat 0)))], [], 0, 0), [(0, 4, 0)], [], (.ofNat 241), [(.ofNat 2)], [])
def zk_39_0_1_hs : List zHd := [zk_39_0_1_h0, zk_39_0_1_h1]
def zk_39_0_1_or : zO_ := zor zk_39_1_1_o (zon)
theorem zk_39_0_1_oo (l : Launch) (X : zx_X) (φ : List z_C) (P : List Int → Prop) : zOk l X 2000000 φ P zk_39_0_1_or := zOk_or (zk_39_1_1_ok l X 2000000 φ P) (zOk_no l X 2000000 φ P)
theorem zk_39_0_1_r0 : zx1 2000000 (zfinC zk_39_0_1_al zk_39_0_1_h0.2.2.2.1) (zcutH zk_39_0_1_hs zk_39_0_1_h0 39 87) zk_39_0_1_or 6000 39 87 zk_39_0_1_h0.1 (zhS zk_39_0_1_h0) [] = true := by decide +kernel
theorem zk_39_0_1_r1 : zx1 2000000 (zfinC zk_39_0_1_al zk_39_0_1_h1.2.2.2.1) (zcutH zk_39_0_1_hs zk_39_0_1_h1 39 87) zk_39_0_1_or 6000 39 87 zk_39_0_1_h1.1 (zhS zk_39_0_1_h1) [] = true := by decide +kernel
theorem zk_39_0_1_c : zCon 39 87 zk_39_0_1_te [] zk_39_0_1_al := zCon_of (n := 6000) (hs := zk_39_0_1_hs) (lo := []) (c := (.ofNat 247)) (ws := []) (by decide) (by decide +kernel) zk_39_0_1_oo (List.mem_cons_self) (zAll_mem ⟨zk_39_0_1_r0, zk_39_0_1_r1, trivial⟩)
def zk_39_0_1_o : zO_ := zorcF 39 87 zk_39_0_1_te [] [] zk_39_0_1_al [9, 10, 11] [9, 10, 11]
theorem zk_39_0_1_ok (l : Launch) (X : zx_X) (XL : Nat) (φ : List z_C) (P : List Int → Prop) : zOk l X XL φ P zk_39_0_1_o := zOk_F zk_39_0_1_c (by decide +kernel) l X XL φ P
