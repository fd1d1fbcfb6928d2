/-! PART 20.00: what methods do, bestChange, bestStruckFor, drawnDays, goesOnWith, inAll, leastViews, leastWith, nearest, nearestBoard, onMatter, readLevel, readNumber, readOperand, sumUpLeast, tellLaw, weigh, weighAllBoards, worked, worth. -/
/-! worked -/
def zk_70_te : zA_T := ([((.ofNat 1), (.ofNat 255), zD0), ((.negSucc 2147483647), (.ofNat 2147483647), zD0)], ((zFr.set 5 zh_5).set 7 zh_7), [(0, (2, (.ofNat 8))), (1, (1, (.ofNat 0))), (2, (1, (.ofNat 1)))], [], 0, 0)
def zk_70_al : List zAlt := [([((.negSucc 2147483647), (.ofNat 2147483647), none)], [(3, 0, 0)], ((zFr.set 5 zh_5).set 7 zh_7), some (1, (.ofNat 0)))]
def zk_70_h0 : zHd := (0, zk_70_te, [(0, 1, 0), (0, 2, 0)], [], (.ofNat 5), [(.ofNat 0), (.ofNat 0)], [])
def zk_70_hs : List zHd := [zk_70_h0]
def zk_70_or : zO_ := zon
theorem zk_70_oo (l : Launch) (X : zx_X) (φ : List z_C) (P : List Int → Prop) : zOk l X 2000000 φ P zk_70_or := zOk_no l X 2000000 φ P
theorem zk_70_r0 : zx1 2000000 (zfinC zk_70_al zk_70_h0.2.2.2.1) (zcutH zk_70_hs zk_70_h0 70 3) zk_70_or 6000 70 3 zk_70_h0.1 (zhS zk_70_h0) [] = true := by decide +kernel
theorem zk_70_c : zCon 70 3 zk_70_te [] zk_70_al := zCon_of (n := 6000) (hs := zk_70_hs) (lo := [(0, 1, 0), (0, 2, 0)]) (c := (.ofNat 5)) (ws := [(.ofNat 0), (.ofNat 0)]) (by decide) (by decide +kernel) zk_70_oo (List.mem_cons_self) (zAll_mem ⟨zk_70_r0, trivial⟩)
def zk_70_o : zO_ := zorcF 70 3 zk_70_te [(0, 1, 0), (0, 2, 0)] [] zk_70_al [5, 7] [5, 7]
theorem zk_70_ok (l : Launch) (X : zx_X) (XL : Nat) (φ : List z_C) (P : List Int → Prop) : zOk l X XL φ P zk_70_o := zOk_F zk_70_c (by decide +kernel) l X XL φ P
/-! worth -/
def zk_65_te : zA_T := ([], ((((zFr.set 5 zh_5).set 6 zh_6).set 7 zh_7).set 8 zh_8), [(0, (2, (.ofNat 8)))], [], 0, 0)
def zk_65_al : List zAlt := [([((.negSucc 2147483647), (.ofNat 2147483647), none)], [(3, 0, 0)], ((((zFr.set 5 zh_5).set 6 zh_6).set 7 zh_7).set 8 zh_8), some (1, (.ofNat 0)))]
def zk_65_h0 : zHd := (0, zk_65_te, [], [], (.ofNat 263), [], [])
def zk_65_h1 : zHd := (23, ([((.ofNat 0), (.ofNat 1), zD0), ((.ofNat 0), (.ofNat 128), zD0)], ((((zFr.set 5 zh_5).set 6 zh_6).set 7 zh_7).set 8 zh_8), [(0, (2, (.ofNat 8))), (1, (1, (.ofNat 0))), (2, (1, (.ofNat 1)))], [], 0, 0), [(0, 1, 0), (0, 2, 0)], [], (.ofNat 257), [(.ofNat 0), (.ofNat 2)], [])
def zk_65_hs : List zHd := [zk_65_h0, zk_65_h1]
def zk_65_or : zO_ := zor zk_70_o (zon)
theorem zk_65_oo (l : Launch) (X : zx_X) (φ : List z_C) (P : List Int → Prop) : zOk l X 2000000 φ P zk_65_or := zOk_or (zk_70_ok l X 2000000 φ P) (zOk_no l X 2000000 φ P)
theorem zk_65_r0 : zx1 2000000 (zfinC zk_65_al zk_65_h0.2.2.2.1) (zcutH zk_65_hs zk_65_h0 65 5) zk_65_or 6000 65 5 zk_65_h0.1 (zhS zk_65_h0) [] = true := by decide +kernel
theorem zk_65_r1 : zx1 2000000 (zfinC zk_65_al zk_65_h1.2.2.2.1) (zcutH zk_65_hs zk_65_h1 65 5) zk_65_or 6000 65 5 zk_65_h1.1 (zhS zk_65_h1) [] = true := by decide +kernel
theorem zk_65_c : zCon 65 5 zk_65_te [] zk_65_al := zCon_of (n := 6000) (hs := zk_65_hs) (lo := []) (c := (.ofNat 263)) (ws := []) (by decide) (by decide +kernel) zk_65_oo (List.mem_cons_self) (zAll_mem ⟨zk_65_r0, zk_65_r1, trivial⟩)
def zk_65_o : zO_ := zorcF 65 5 zk_65_te [] [] zk_65_al [5, 6, 7, 8] [5, 6, 7, 8]
theorem zk_65_ok (l : Launch) (X : zx_X) (XL : Nat) (φ : List z_C) (P : List Int → Prop) : zOk l X XL φ P zk_65_o := zOk_F zk_65_c (by decide +kernel) l X XL φ P
/-! nearest -/
def zk_61_te : zA_T := ([((.ofNat 0), (.ofNat 3), zD0), ((.ofNat 0), (.ofNat 15), zD0)], zFr, [(0, (1, (.ofNat 0))), (1, (1, (.ofNat 1)))], [], 0, 0)
def zk_61_al : List zAlt := [([((.negSucc 0), (.ofNat 3), none)], [(3, 0, 0)], zFr, some (1, (.ofNat 0)))]
def zk_61_h0 : zHd := (0, zk_61_te, [(0, 0, 0), (0, 1, 0)], [], (.ofNat 5), [(.ofNat 0), (.ofNat 0)], [])
def zk_61_hs : List zHd := [zk_61_h0]
def zk_61_or : zO_ := zon
theorem zk_61_oo (l : Launch) (X : zx_X) (φ : List z_C) (P : List Int → Prop) : zOk l X 2000000 φ P zk_61_or := zOk_no l X 2000000 φ P
theorem zk_61_r0 : zx1 2000000 (zfinC zk_61_al zk_61_h0.2.2.2.1) (zcutH zk_61_hs zk_61_h0 61 3) zk_61_or 6000 61 3 zk_61_h0.1 (zhS zk_61_h0) [] = true := by decide +kernel
theorem zk_61_c : zCon 61 3 zk_61_te [] zk_61_al := zCon_of (n := 6000) (hs := zk_61_hs) (lo := [(0, 0, 0), (0, 1, 0)]) (c := (.ofNat 5)) (ws := [(.ofNat 0), (.ofNat 0)]) (by decide) (by decide +kernel) zk_61_oo (List.mem_cons_self) (zAll_mem ⟨zk_61_r0, trivial⟩)
def zk_61_o : zO_ := zorcF 61 3 zk_61_te [(0, 0, 0), (0, 1, 0)] [] zk_61_al [] []
theorem zk_61_ok (l : Launch) (X : zx_X) (XL : Nat) (φ : List z_C) (P : List Int → Prop) : zOk l X XL φ P zk_61_o := zOk_F zk_61_c (by decide +kernel) l X XL φ P
/-! tellLaw -/
def zk_59_te : zA_T := ([((.ofNat 0), (.ofNat 7), zD0), ((.ofNat 0), (.ofNat 5), zD0), ((.ofNat 0), (.ofNat 15), zD0), ((.ofNat 0), (.ofNat 15), zD0)], (((((((zFr.set 1 zh_1).set 2 zh_2).set 3 zh_3).set 4 zh_4).set 5 zh_5).set 8 zh_8).set 12 zh_12), [(0, (2, (.ofNat 15))), (1, (1, (.ofNat 0))), (2, (1, (.ofNat 1))), (3, (1, (.ofNat 2))), (4, (1, (.ofNat 3)))], [], 0, 0)
def zk_59_al : List zAlt := [([], [], (((((((zFr.set 1 zh_1).set 2 zh_2).set 3 zh_3).set 4 zh_4).set 5 zh_5).set 8 zh_8).set 12 zh_12), none)]
def zk_59_h0 : zHd := (0, zk_59_te, [(0, 1, 0), (0, 2, 0), (0, 3, 0), (0, 4, 0)], [], (.ofNat 5), [(.ofNat 0), (.ofNat 0), (.ofNat 0), (.ofNat 0)], [])
def zk_59_hs : List zHd := [zk_59_h0]
def zk_59_or : zO_ := zor zk_61_o (zon)
theorem zk_59_oo (l : Launch) (X : zx_X) (φ : List z_C) (P : List Int → Prop) : zOk l X 2000000 φ P zk_59_or := zOk_or (zk_61_ok l X 2000000 φ P) (zOk_no l X 2000000 φ P)
theorem zk_59_r0 : zx1 2000000 (zfinC zk_59_al zk_59_h0.2.2.2.1) (zcutH zk_59_hs zk_59_h0 59 5) zk_59_or 6000 59 5 zk_59_h0.1 (zhS zk_59_h0) [] = true := by decide +kernel
theorem zk_59_c : zCon 59 5 zk_59_te [] zk_59_al := zCon_of (n := 6000) (hs := zk_59_hs) (lo := [(0, 1, 0), (0, 2, 0), (0, 3, 0), (0, 4, 0)]) (c := (.ofNat 5)) (ws := [(.ofNat 0), (.ofNat 0), (.ofNat 0), (.ofNat 0)]) (by decide) (by decide +kernel) zk_59_oo (List.mem_cons_self) (zAll_mem ⟨zk_59_r0, trivial⟩)
def zk_59_o : zO_ := zorcF 59 5 zk_59_te [(0, 1, 0), (0, 2, 0), (0, 3, 0), (0, 4, 0)] [] zk_59_al [1, 2, 3, 4, 5, 8, 12] [1, 5, 8, 12]
theorem zk_59_ok (l : Launch) (X : zx_X) (XL : Nat) (φ : List z_C) (P : List Int → Prop) : zOk l X XL φ P zk_59_o := zOk_F zk_59_c (by decide +kernel) l X XL φ P
/-! weigh -/
def zk_58_te : zA_T := ([((.ofNat 0), (.ofNat 5), zD0), ((.ofNat 0), (.ofNat 15), zD0), ((.ofNat 0), (.ofNat 15), zD0)], (((((((((zFr.set 1 zh_1).set 2 zh_2).set 3 zh_3).set 4 zh_4).set 5 zh_5).set 6 zh_6).set 7 zh_7).set 8 zh_8).set 12 zh_12), [(0, (2, (.ofNat 15))), (1, (1, (.ofNat 0))), (2, (1, (.ofNat 1))), (3, (1, (.ofNat 2)))], [], 0, 0)
def zk_58_al : List zAlt := [([((.negSucc 2147483647), (.ofNat 2147483647), none)], [(3, 0, 0)], (((((((((zFr.set 1 zh_1).set 2 zh_2).set 3 zh_3).set 4 zh_4).set 5 zh_5).set 6 zh_6).set 7 zh_7).set 8 zh_8).set 12 zh_12), some (1, (.ofNat 0)))]
def zk_58_h0 : zHd := (0, zk_58_te, [(0, 1, 0), (0, 2, 0), (0, 3, 0)], [], (.ofNat 23), [(.ofNat 0), (.ofNat 0), (.ofNat 0)], [])
def zk_58_h1 : zHd := (6, ([((.ofNat 0), (.ofNat 5), zD0), ((.ofNat 0), (.ofNat 15), zD0), ((.ofNat 0), (.ofNat 15), zD0), ((.negSucc 2147483647), (.ofNat 2147483647), zD0), ((.ofNat 0), (.ofNat 8), zD0)], (((((((((zFr.set 1 zh_1).set 2 zh_2).set 3 zh_3).set 4 zh_4).set 5 zh_5).set 6 zh_6).set 7 zh_7).set 8 zh_8).set 12 zh_12), [(0, (2, (.ofNat 15))), (1, (1, (.ofNat 0))), (2, (1, (.ofNat 1))), (3, (1, (.ofNat 2))), (4, (1, (.ofNat 3))), (5, (1, (.ofNat 4)))], [], 0, 0), [(0, 1, 0), (0, 2, 0), (0, 3, 0), (0, 4, 0), (0, 5, 0)], [], (.ofNat 17), [(.ofNat 0), (.ofNat 0), (.ofNat 0), (.ofNat 0), (.ofNat 2)], [])
def zk_58_hs : List zHd := [zk_58_h0, zk_58_h1]
def zk_58_or : zO_ := zor zk_65_o (zor zk_59_o (zon))
theorem zk_58_oo (l : Launch) (X : zx_X) (φ : List z_C) (P : List Int → Prop) : zOk l X 2000000 φ P zk_58_or := zOk_or (zk_65_ok l X 2000000 φ P) (zOk_or (zk_59_ok l X 2000000 φ P) (zOk_no l X 2000000 φ P))
theorem zk_58_r0 : zx1 2000000 (zfinC zk_58_al zk_58_h0.2.2.2.1) (zcutH zk_58_hs zk_58_h0 58 7) zk_58_or 6000 58 7 zk_58_h0.1 (zhS zk_58_h0) [] = true := by decide +kernel
theorem zk_58_r1 : zx1 2000000 (zfinC zk_58_al zk_58_h1.2.2.2.1) (zcutH zk_58_hs zk_58_h1 58 7) zk_58_or 6000 58 7 zk_58_h1.1 (zhS zk_58_h1) [] = true := by decide +kernel
theorem zk_58_c : zCon 58 7 zk_58_te [] zk_58_al := zCon_of (n := 6000) (hs := zk_58_hs) (lo := [(0, 1, 0), (0, 2, 0), (0, 3, 0)]) (c := (.ofNat 23)) (ws := [(.ofNat 0), (.ofNat 0), (.ofNat 0)]) (by decide) (by decide +kernel) zk_58_oo (List.mem_cons_self) (zAll_mem ⟨zk_58_r0, zk_58_r1, trivial⟩)
def zk_58_o : zO_ := zorcF 58 7 zk_58_te [(0, 1, 0), (0, 2, 0), (0, 3, 0)] [] zk_58_al [1, 2, 3, 4, 5, 6, 7, 8, 12] [1, 5, 6, 7, 8, 12]
theorem zk_58_ok (l : Launch) (X : zx_X) (XL : Nat) (φ : List z_C) (P : List Int → Prop) : zOk l X XL φ P zk_58_o := zOk_F zk_58_c (by decide +kernel) l X XL φ P
/-! onMatter -/
def zk_55_te : zA_T := ([((.ofNat 0), (.ofNat 5), zD0), ((.ofNat 0), (.ofNat 16777215), zD0), ((.negSucc 2147483647), (.ofNat 2147483647), zD0)], ((((((((((zFr.set 1 zh_1).set 2 zh_2).set 3 zh_3).set 4 zh_4).set 5 zh_5).set 6 zh_6).set 7 zh_7).set 8 zh_8).set 12 zh_12).set 13 zh_13), [(0, (2, (.ofNat 15))), (1, (1, (.ofNat 0))), (2, (1, (.ofNat 1))), (3, (1, (.ofNat 2)))], [], 0, 0)
def zk_55_al : List zAlt := [([((.negSucc 2147483647), (.ofNat 2147483647), none)], [(3, 0, 0)], ((((((((((zFr.set 1 zh_1).set 2 zh_2).set 3 zh_3).set 4 zh_4).set 5 zh_5).set 6 zh_6).set 7 zh_7).set 8 zh_8).set 12 zh_12).set 13 zh_13), some (1, (.ofNat 0)))]
def zk_55_h0 : zHd := (0, zk_55_te, [(0, 1, 0), (0, 2, 0), (0, 3, 0)], [], (.ofNat 5), [(.ofNat 0), (.ofNat 0), (.ofNat 0)], [])
def zk_55_hs : List zHd := [zk_55_h0]
def zk_55_or : zO_ := zor zk_58_o (zon)
theorem zk_55_oo (l : Launch) (X : zx_X) (φ : List z_C) (P : List Int → Prop) : zOk l X 2000000 φ P zk_55_or := zOk_or (zk_58_ok l X 2000000 φ P) (zOk_no l X 2000000 φ P)
theorem zk_55_r0 : zx1 2000000 (zfinC zk_55_al zk_55_h0.2.2.2.1) (zcutH zk_55_hs zk_55_h0 55 9) zk_55_or 6000 55 9 zk_55_h0.1 (zhS zk_55_h0) [] = true := by decide +kernel
theorem zk_55_c : zCon 55 9 zk_55_te [] zk_55_al := zCon_of (n := 6000) (hs := zk_55_hs) (lo := [(0, 1, 0), (0, 2, 0), (0, 3, 0)]) (c := (.ofNat 5)) (ws := [(.ofNat 0), (.ofNat 0), (.ofNat 0)]) (by decide) (by decide +kernel) zk_55_oo (List.mem_cons_self) (zAll_mem ⟨zk_55_r0, trivial⟩)
def zk_55_o : zO_ := zorcF 55 9 zk_55_te [(0, 1, 0), (0, 2, 0), (0, 3, 0)] [] zk_55_al [1, 2, 3, 4, 5, 6, 7, 8, 12, 13] [1, 5, 6, 7, 8, 12, 13]
theorem zk_55_ok (l : Launch) (X : zx_X) (XL : Nat) (φ : List z_C) (P : List Int → Prop) : zOk l X XL φ P zk_55_o := zOk_F zk_55_c (by decide +kernel) l X XL φ P
/-! inAll -/
def zk_54_te : zA_T := ([((.ofNat 0), (.ofNat 16777215), zD0), ((.negSucc 2147483647), (.ofNat 2147483647), zD0)], ((((((((((zFr.set 1 zh_1).set 2 zh_2).set 3 zh_3).set 4 zh_4).set 5 zh_5).set 6 zh_6).set 7 zh_7).set 8 zh_8).set 12 zh_12).set 13 zh_13), [(0, (2, (.ofNat 15))), (1, (1, (.ofNat 0))), (2, (1, (.ofNat 1)))], [], 0, 0)
def zk_54_al : List zAlt := [([((.negSucc 2147483647), (.ofNat 2147483647), none)], [(3, 0, 0)], ((((((((((zFr.set 1 zh_1).set 2 zh_2).set 3 zh_3).set 4 zh_4).set 5 zh_5).set 6 zh_6).set 7 zh_7).set 8 zh_8).set 12 zh_12).set 13 zh_13), some (1, (.ofNat 0)))]
def zk_54_h0 : zHd := (0, zk_54_te, [(0, 1, 0), (0, 2, 0)], [], (.ofNat 19), [(.ofNat 0), (.ofNat 0)], [])
def zk_54_h1 : zHd := (5, ([((.ofNat 0), (.ofNat 16777215), zD0), ((.negSucc 2147483647), (.ofNat 2147483647), zD0), ((.negSucc 2147483647), (.ofNat 2147483647), zD0), ((.ofNat 0), (.ofNat 6), zD0)], ((((((((((zFr.set 1 zh_1).set 2 zh_2).set 3 zh_3).set 4 zh_4).set 5 zh_5).set 6 zh_6).set 7 zh_7).set 8 zh_8).set 12 zh_12).set 13 zh_13), [(0, (2, (.ofNat 15))), (1, (1, (.ofNat 0))), (2, (1, (.ofNat 1))), (3, (1, (.ofNat 2))), (4, (1, (.ofNat 3)))], [], 0, 0), [(0, 1, 0), (0, 2, 0), (0, 3, 0), (0, 4, 0)], [], (.ofNat 13), [(.ofNat 0), (.ofNat 0), (.ofNat 0), (.ofNat 2)], [])
def zk_54_hs : List zHd := [zk_54_h0, zk_54_h1]
def zk_54_or : zO_ := zor zk_55_o (zon)
theorem zk_54_oo (l : Launch) (X : zx_X) (φ : List z_C) (P : List Int → Prop) : zOk l X 2000000 φ P zk_54_or := zOk_or (zk_55_ok l X 2000000 φ P) (zOk_no l X 2000000 φ P)
theorem zk_54_r0 : zx1 2000000 (zfinC zk_54_al zk_54_h0.2.2.2.1) (zcutH zk_54_hs zk_54_h0 54 11) zk_54_or 6000 54 11 zk_54_h0.1 (zhS zk_54_h0) [] = true := by decide +kernel
theorem zk_54_r1 : zx1 2000000 (zfinC zk_54_al zk_54_h1.2.2.2.1) (zcutH zk_54_hs zk_54_h1 54 11) zk_54_or 6000 54 11 zk_54_h1.1 (zhS zk_54_h1) [] = true := by decide +kernel
theorem zk_54_c : zCon 54 11 zk_54_te [] zk_54_al := zCon_of (n := 6000) (hs := zk_54_hs) (lo := [(0, 1, 0), (0, 2, 0)]) (c := (.ofNat 19)) (ws := [(.ofNat 0), (.ofNat 0)]) (by decide) (by decide +kernel) zk_54_oo (List.mem_cons_self) (zAll_mem ⟨zk_54_r0, zk_54_r1, trivial⟩)
def zk_54_o : zO_ := zorcF 54 11 zk_54_te [(0, 1, 0), (0, 2, 0)] [] zk_54_al [1, 2, 3, 4, 5, 6, 7, 8, 12, 13] [1, 5, 6, 7, 8, 12, 13]
theorem zk_54_ok (l : Launch) (X : zx_X) (XL : Nat) (φ : List z_C) (P : List Int → Prop) : zOk l X XL φ P zk_54_o := zOk_F zk_54_c (by decide +kernel) l X XL φ P
/-! leastWith -/
def zk_80_te : zA_T := ([((.ofNat 0), (.ofNat 5), zD0), ((.ofNat 0), (.ofNat 15), zD0), ((.negSucc 2147483647), (.ofNat 2147483647), zD0)], ((((zFr.set 1 zh_1).set 12 zh_12).set 13 zh_13).set 14 zh_14), [(0, (2, (.ofNat 15))), (1, (1, (.ofNat 0))), (2, (1, (.ofNat 1))), (3, (1, (.ofNat 2)))], [], 0, 0)
def zk_80_al : List zAlt := [([((.negSucc 2147483647), (.ofNat 2147483647), none)], [(3, 0, 0)], ((((zFr.set 1 zh_1).set 12 zh_12).set 13 zh_13).set 14 zh_14), some (1, (.ofNat 0)))]
def zk_80_h0 : zHd := (0, zk_80_te, [(0, 1, 0), (0, 2, 0), (0, 3, 0)], [], (.ofNat 5), [(.ofNat 0), (.ofNat 0), (.ofNat 0)], [])
def zk_80_hs : List zHd := [zk_80_h0]
def zk_80_or : zO_ := zon
theorem zk_80_oo (l : Launch) (X : zx_X) (φ : List z_C) (P : List Int → Prop) : zOk l X 2000000 φ P zk_80_or := zOk_no l X 2000000 φ P
theorem zk_80_r0 : zx1 2000000 (zfinC zk_80_al zk_80_h0.2.2.2.1) (zcutH zk_80_hs zk_80_h0 80 4) zk_80_or 6000 80 4 zk_80_h0.1 (zhS zk_80_h0) [] = true := by decide +kernel
theorem zk_80_c : zCon 80 4 zk_80_te [] zk_80_al := zCon_of (n := 6000) (hs := zk_80_hs) (lo := [(0, 1, 0), (0, 2, 0), (0, 3, 0)]) (c := (.ofNat 5)) (ws := [(.ofNat 0), (.ofNat 0), (.ofNat 0)]) (by decide) (by decide +kernel) zk_80_oo (List.mem_cons_self) (zAll_mem ⟨zk_80_r0, trivial⟩)
def zk_80_o : zO_ := zorcF 80 4 zk_80_te [(0, 1, 0), (0, 2, 0), (0, 3, 0)] [] zk_80_al [1, 12, 13, 14] [1, 12, 13, 14]
theorem zk_80_ok (l : Launch) (X : zx_X) (XL : Nat) (φ : List z_C) (P : List Int → Prop) : zOk l X XL φ P zk_80_o := zOk_F zk_80_c (by decide +kernel) l X XL φ P
/-! leastViews -/
def zk_79_te : zA_T := ([((.ofNat 0), (.ofNat 5), zD0), ((.negSucc 2147483647), (.ofNat 2147483647), zD0)], ((((zFr.set 1 zh_1).set 12 zh_12).set 13 zh_13).set 14 zh_14), [(0, (2, (.ofNat 15))), (1, (1, (.ofNat 0))), (2, (1, (.ofNat 1)))], [], 0, 0)
def zk_79_al : List zAlt := [([((.ofNat 0), (.ofNat 15), none)], [(3, 0, 0)], ((((zFr.set 1 zh_1).set 12 zh_12).set 13 zh_13).set 14 zh_14), some (1, (.ofNat 0)))]
def zk_79_h0 : zHd := (0, zk_79_te, [(0, 1, 0), (0, 2, 0)], [], (.ofNat 37), [(.ofNat 0), (.ofNat 0)], [])
def zk_79_h1 : zHd := (5, ([((.ofNat 0), (.ofNat 5), zD0), ((.negSucc 2147483647), (.ofNat 2147483647), zD0), ((.ofNat 0), (.ofNat 15), zD0), ((.ofNat 1), (.ofNat 16), zD0)], ((((zFr.set 1 zh_1).set 12 zh_12).set 13 zh_13).set 14 zh_14), [(0, (2, (.ofNat 15))), (1, (1, (.ofNat 0))), (2, (1, (.ofNat 1))), (3, (1, (.ofNat 2))), (4, (1, (.ofNat 3)))], [], 0, 0), [(0, 1, 0), (0, 2, 0), (0, 3, 0), (0, 4, 0)], [], (.ofNat 33), [(.ofNat 0), (.ofNat 0), (.ofNat 0), (.ofNat 2)], [])
def zk_79_hs : List zHd := [zk_79_h0, zk_79_h1]
def zk_79_or : zO_ := zor zk_80_o (zon)
theorem zk_79_oo (l : Launch) (X : zx_X) (φ : List z_C) (P : List Int → Prop) : zOk l X 2000000 φ P zk_79_or := zOk_or (zk_80_ok l X 2000000 φ P) (zOk_no l X 2000000 φ P)
theorem zk_79_r0 : zx1 2000000 (zfinC zk_79_al zk_79_h0.2.2.2.1) (zcutH zk_79_hs zk_79_h0 79 6) zk_79_or 6000 79 6 zk_79_h0.1 (zhS zk_79_h0) [] = true := by decide +kernel
theorem zk_79_r1 : zx1 2000000 (zfinC zk_79_al zk_79_h1.2.2.2.1) (zcutH zk_79_hs zk_79_h1 79 6) zk_79_or 6000 79 6 zk_79_h1.1 (zhS zk_79_h1) [] = true := by decide +kernel
theorem zk_79_c : zCon 79 6 zk_79_te [] zk_79_al := zCon_of (n := 6000) (hs := zk_79_hs) (lo := [(0, 1, 0), (0, 2, 0)]) (c := (.ofNat 37)) (ws := [(.ofNat 0), (.ofNat 0)]) (by decide) (by decide +kernel) zk_79_oo (List.mem_cons_self) (zAll_mem ⟨zk_79_r0, zk_79_r1, trivial⟩)
def zk_79_o : zO_ := zorcF 79 6 zk_79_te [(0, 1, 0), (0, 2, 0)] [] zk_79_al [1, 12, 13, 14] [1, 12, 13, 14]
theorem zk_79_ok (l : Launch) (X : zx_X) (XL : Nat) (φ : List z_C) (P : List Int → Prop) : zOk l X XL φ P zk_79_o := zOk_F zk_79_c (by decide +kernel) l X XL φ P
/-! sumUpLeast -/
def zk_78_te : zA_T := ([], ((((zFr.set 1 zh_1).set 12 zh_12).set 13 zh_13).set 14 zh_14), [(0, (2, (.ofNat 15)))], [], 0, 0)
def zk_78_al : List zAlt := [([], [], ((((zFr.set 1 zh_1).set 12 zh_12).set 13 zh_13).set 14 zh_14), none)]
def zk_78_h0 : zHd := (0, zk_78_te, [], [], (.ofNat 195), [], [])
def zk_78_h1 : zHd := (2, ([((.ofNat 0), (.ofNat 10), zD0)], ((((zFr.set 1 zh_1).set 12 zh_12).set 13 zh_13).set 14 zh_14), [(0, (2, (.ofNat 15))), (1, (1, (.ofNat 0)))], [], 0, 0), [(0, 1, 0)], [], (.ofNat 189), [(.ofNat 2)], [])
def zk_78_h2 : zHd := (23, ([((.ofNat 0), (.ofNat 6), zD0)], ((((zFr.set 1 zh_1).set 12 zh_12).set 13 zh_13).set 14 zh_14), [(0, (2, (.ofNat 15))), (1, (1, (.ofNat 0)))], [], 0, 0), [(0, 1, 0)], [], (.ofNat 167), [(.ofNat 24)], [])
def zk_78_h3 : zHd := (31, ([((.ofNat 0), (.ofNat 5), zD0), ((.ofNat 0), (.ofNat 10), zD0)], ((((zFr.set 1 zh_1).set 12 zh_12).set 13 zh_13).set 14 zh_14), [(0, (2, (.ofNat 15))), (1, (1, (.ofNat 0))), (2, (1, (.ofNat 1)))], [], 0, 0), [(0, 1, 0), (0, 2, 0)], [], (.ofNat 165), [(.ofNat 24), (.ofNat 2)], [])
def zk_78_hs : List zHd := [zk_78_h0, zk_78_h1, zk_78_h2, zk_78_h3]
def zk_78_or : zO_ := zor zk_80_o (zor zk_79_o (zon))
theorem zk_78_oo (l : Launch) (X : zx_X) (φ : List z_C) (P : List Int → Prop) : zOk l X 2000000 φ P zk_78_or := zOk_or (zk_80_ok l X 2000000 φ P) (zOk_or (zk_79_ok l X 2000000 φ P) (zOk_no l X 2000000 φ P))
theorem zk_78_r0 : zx1 2000000 (zfinC zk_78_al zk_78_h0.2.2.2.1) (zcutH zk_78_hs zk_78_h0 78 8) zk_78_or 6000 78 8 zk_78_h0.1 (zhS zk_78_h0) [] = true := by decide +kernel
theorem zk_78_r1 : zx1 2000000 (zfinC zk_78_al zk_78_h1.2.2.2.1) (zcutH zk_78_hs zk_78_h1 78 8) zk_78_or 6000 78 8 zk_78_h1.1 (zhS zk_78_h1) [] = true := by decide +kernel
theorem zk_78_r2 : zx1 2000000 (zfinC zk_78_al zk_78_h2.2.2.2.1) (zcutH zk_78_hs zk_78_h2 78 8) zk_78_or 6000 78 8 zk_78_h2.1 (zhS zk_78_h2) [] = true := by decide +kernel
theorem zk_78_r3 : zx1 2000000 (zfinC zk_78_al zk_78_h3.2.2.2.1) (zcutH zk_78_hs zk_78_h3 78 8) zk_78_or 6000 78 8 zk_78_h3.1 (zhS zk_78_h3) [] = true := by decide +kernel
theorem zk_78_c : zCon 78 8 zk_78_te [] zk_78_al := zCon_of (n := 6000) (hs := zk_78_hs) (lo := []) (c := (.ofNat 195)) (ws := []) (by decide) (by decide +kernel) zk_78_oo (List.mem_cons_self) (zAll_mem ⟨zk_78_r0, zk_78_r1, zk_78_r2, zk_78_r3, trivial⟩)
def zk_78_o : zO_ := zorcF 78 8 zk_78_te [] [] zk_78_al [1, 12, 13, 14] [1, 12, 13, 14]
theorem zk_78_ok (l : Launch) (X : zx_X) (XL : Nat) (φ : List z_C) (P : List Int → Prop) : zOk l X XL φ P zk_78_o := zOk_F zk_78_c (by decide +kernel) l X XL φ P
/-! weighAllBoards -/
def zk_77_te : zA_T := ([], (((((((((((zFr.set 1 zh_1).set 2 zh_2).set 3 zh_3).set 4 zh_4).set 5 zh_5).set 6 zh_6).set 7 zh_7).set 8 zh_8).set 12 zh_12).set 13 zh_13).set 14 zh_14), [(0, (2, (.ofNat 15)))], [], 0, 0)
def zk_77_al : List zAlt := [([], [], (((((((((((zFr.set 1 zh_1).set 2 zh_2).set 3 zh_3).set 4 zh_4).set 5 zh_5).set 6 zh_6).set 7 zh_7).set 8 zh_8).set 12 zh_12).set 13 zh_13).set 14 zh_14), none)]
def zk_77_h0 : zHd := (0, zk_77_te, [], [], (.ofNat 257), [], [])
def zk_77_h1 : zHd := (6, ([((.ofNat 0), (.ofNat 6), zD0)], (((((((((((zFr.set 1 zh_1).set 2 zh_2).set 3 zh_3).set 4 zh_4).set 5 zh_5).set 6 zh_6).set 7 zh_7).set 8 zh_8).set 12 zh_12).set 13 zh_13).set 14 zh_14), [(0, (2, (.ofNat 15))), (1, (1, (.ofNat 0)))], [], 0, 0), [(0, 1, 0)], [], (.ofNat 251), [(.ofNat 36)], [])
def zk_77_h2 : zHd := (14, ([((.ofNat 0), (.ofNat 5), zD0), ((.ofNat 0), (.ofNat 16), zD0)], (((((((((((zFr.set 1 zh_1).set 2 zh_2).set 3 zh_3).set 4 zh_4).set 5 zh_5).set 6 zh_6).set 7 zh_7).set 8 zh_8).set 12 zh_12).set 13 zh_13).set 14 zh_14), [(0, (2, (.ofNat 15))), (1, (1, (.ofNat 0))), (2, (1, (.ofNat 1)))], [], 0, 0), [(0, 1, 0), (0, 2, 0)], [], (.ofNat 249), [(.ofNat 36), (.ofNat 2)], [])
def zk_77_hs : List zHd := [zk_77_h0, zk_77_h1, zk_77_h2]
def zk_77_or : zO_ := zor zk_55_o (zor zk_78_o (zon))
theorem zk_77_oo (l : Launch) (X : zx_X) (φ : List z_C) (P : List Int → Prop) : zOk l X 2000000 φ P zk_77_or := zOk_or (zk_55_ok l X 2000000 φ P) (zOk_or (zk_78_ok l X 2000000 φ P) (zOk_no l X 2000000 φ P))
theorem zk_77_r0 : zx1 2000000 (zfinC zk_77_al zk_77_h0.2.2.2.1) (zcutH zk_77_hs zk_77_h0 77 11) zk_77_or 6000 77 11 zk_77_h0.1 (zhS zk_77_h0) [] = true := by decide +kernel
theorem zk_77_r1 : zx1 2000000 (zfinC zk_77_al zk_77_h1.2.2.2.1) (zcutH zk_77_hs zk_77_h1 77 11) zk_77_or 6000 77 11 zk_77_h1.1 (zhS zk_77_h1) [] = true := by decide +kernel
theorem zk_77_r2 : zx1 2000000 (zfinC zk_77_al zk_77_h2.2.2.2.1) (zcutH zk_77_hs zk_77_h2 77 11) zk_77_or 6000 77 11 zk_77_h2.1 (zhS zk_77_h2) [] = true := by decide +kernel
theorem zk_77_c : zCon 77 11 zk_77_te [] zk_77_al := zCon_of (n := 6000) (hs := zk_77_hs) (lo := []) (c := (.ofNat 257)) (ws := []) (by decide) (by decide +kernel) zk_77_oo (List.mem_cons_self) (zAll_mem ⟨zk_77_r0, zk_77_r1, zk_77_r2, trivial⟩)
def zk_77_o : zO_ := zorcF 77 11 zk_77_te [] [] zk_77_al [1, 2, 3, 4, 5, 6, 7, 8, 12, 13, 14] [1, 5, 6, 7, 8, 12, 13, 14]
theorem zk_77_ok (l : Launch) (X : zx_X) (XL : Nat) (φ : List z_C) (P : List Int → Prop) : zOk l X XL φ P zk_77_o := zOk_F zk_77_c (by decide +kernel) l X XL φ P
/-! nearestBoard -/
def zk_82_te : zA_T := ([], (((((((((((zFr.set 1 zh_1).set 2 zh_2).set 3 zh_3).set 4 zh_4).set 5 zh_5).set 6 zh_6).set 7 zh_7).set 8 zh_8).set 12 zh_12).set 13 zh_13).set 14 zh_14), [(0, (2, (.ofNat 15)))], [], 0, 0)
def zk_82_al : List zAlt := [([((.ofNat 0), (.ofNat 16777215), none)], [(3, 0, 0)], (((((((((((zFr.set 1 zh_1).set 2 zh_2).set 3 zh_3).set 4 zh_4).set 5 zh_5).set 6 zh_6).set 7 zh_7).set 8 zh_8).set 12 zh_12).set 13 zh_13).set 14 zh_14), some (1, (.ofNat 0)))]
def zk_82_h0 : zHd := (0, zk_82_te, [], [], (.ofNat 19), [], [])
def zk_82_h1 : zHd := (16, ([((.ofNat 0), (.ofNat 16777215), zD0), ((.negSucc 2147483647), (.ofNat 2147483647), zD0), ((.negSucc 0), (.ofNat 5), zD0)], (((((((((((zFr.set 1 zh_1).set 2 zh_2).set 3 zh_3).set 4 zh_4).set 5 zh_5).set 6 zh_6).set 7 zh_7).set 8 zh_8).set 12 zh_12).set 13 zh_13).set 14 zh_14), [(0, (2, (.ofNat 15))), (1, (1, (.ofNat 0))), (2, (1, (.ofNat 1))), (3, (1, (.ofNat 2)))], [], 0, 0), [(0, 1, 0), (0, 2, 0), (0, 3, 0)], [], (.ofNat 3), [(.ofNat 0), (.ofNat 0), (.negSucc 1)], [])
def zk_82_hs : List zHd := [zk_82_h0, zk_82_h1]
def zk_82_or : zO_ := zor zk_79_o (zor zk_77_o (zon))
theorem zk_82_oo (l : Launch) (X : zx_X) (φ : List z_C) (P : List Int → Prop) : zOk l X 2000000 φ P zk_82_or := zOk_or (zk_79_ok l X 2000000 φ P) (zOk_or (zk_77_ok l X 2000000 φ P) (zOk_no l X 2000000 φ P))
theorem zk_82_r0 : zx1 2000000 (zfinC zk_82_al zk_82_h0.2.2.2.1) (zcutH zk_82_hs zk_82_h0 82 13) zk_82_or 6000 82 13 zk_82_h0.1 (zhS zk_82_h0) [] = true := by decide +kernel
theorem zk_82_r1 : zx1 2000000 (zfinC zk_82_al zk_82_h1.2.2.2.1) (zcutH zk_82_hs zk_82_h1 82 13) zk_82_or 6000 82 13 zk_82_h1.1 (zhS zk_82_h1) [] = true := by decide +kernel
theorem zk_82_c : zCon 82 13 zk_82_te [] zk_82_al := zCon_of (n := 6000) (hs := zk_82_hs) (lo := []) (c := (.ofNat 19)) (ws := []) (by decide) (by decide +kernel) zk_82_oo (List.mem_cons_self) (zAll_mem ⟨zk_82_r0, zk_82_r1, trivial⟩)
def zk_82_o : zO_ := zorcF 82 13 zk_82_te [] [] zk_82_al [1, 2, 3, 4, 5, 6, 7, 8, 12, 13, 14] [1, 5, 6, 7, 8, 12, 13, 14]
theorem zk_82_ok (l : Launch) (X : zx_X) (XL : Nat) (φ : List z_C) (P : List Int → Prop) : zOk l X XL φ P zk_82_o := zOk_F zk_82_c (by decide +kernel) l X XL φ P
/-! bestStruckFor -/
def zk_85_te : zA_T := ([((.ofNat 0), (.ofNat 23), zD0)], ((((((((((zFr.set 1 zh_1).set 2 zh_2).set 3 zh_3).set 4 zh_4).set 5 zh_5).set 6 zh_6).set 7 zh_7).set 8 zh_8).set 12 zh_12).set 13 zh_13), [(0, (2, (.ofNat 15))), (1, (1, (.ofNat 0)))], [], 0, 0)
def zk_85_al : List zAlt := [([((.negSucc 0), (.ofNat 23), none)], [(3, 0, 0)], ((((((((((zFr.set 1 zh_1).set 2 zh_2).set 3 zh_3).set 4 zh_4).set 5 zh_5).set 6 zh_6).set 7 zh_7).set 8 zh_8).set 12 zh_12).set 13 zh_13), some (1, (.ofNat 0)))]
def zk_85_h0 : zHd := (0, zk_85_te, [(0, 1, 0)], [], (.ofNat 55), [(.ofNat 0)], [])
def zk_85_h1 : zHd := (11, ([((.ofNat 0), (.ofNat 23), zD0), ((.negSucc 0), (.ofNat 23), zD0), ((.negSucc 2147483647), (.ofNat 2147483647), zD0), ((.ofNat 0), (.ofNat 24), zD0)], ((((((((((zFr.set 1 zh_1).set 2 zh_2).set 3 zh_3).set 4 zh_4).set 5 zh_5).set 6 zh_6).set 7 zh_7).set 8 zh_8).set 12 zh_12).set 13 zh_13), [(0, (2, (.ofNat 15))), (1, (1, (.ofNat 0))), (2, (1, (.ofNat 1))), (3, (1, (.ofNat 2))), (4, (1, (.ofNat 3)))], [], 0, 0), [(0, 1, 0), (0, 2, 0), (0, 3, 0), (0, 4, 0)], [], (.ofNat 49), [(.ofNat 0), (.ofNat 0), (.ofNat 0), (.ofNat 2)], [])
def zk_85_hs : List zHd := [zk_85_h0, zk_85_h1]
def zk_85_or : zO_ := zor zk_54_o (zon)
theorem zk_85_oo (l : Launch) (X : zx_X) (φ : List z_C) (P : List Int → Prop) : zOk l X 2000000 φ P zk_85_or := zOk_or (zk_54_ok l X 2000000 φ P) (zOk_no l X 2000000 φ P)
theorem zk_85_r0 : zx1 2000000 (zfinC zk_85_al zk_85_h0.2.2.2.1) (zcutH zk_85_hs zk_85_h0 85 13) zk_85_or 6000 85 13 zk_85_h0.1 (zhS zk_85_h0) [] = true := by decide +kernel
theorem zk_85_r1 : zx1 2000000 (zfinC zk_85_al zk_85_h1.2.2.2.1) (zcutH zk_85_hs zk_85_h1 85 13) zk_85_or 6000 85 13 zk_85_h1.1 (zhS zk_85_h1) [] = true := by decide +kernel
theorem zk_85_c : zCon 85 13 zk_85_te [] zk_85_al := zCon_of (n := 6000) (hs := zk_85_hs) (lo := [(0, 1, 0)]) (c := (.ofNat 55)) (ws := [(.ofNat 0)]) (by decide) (by decide +kernel) zk_85_oo (List.mem_cons_self) (zAll_mem ⟨zk_85_r0, zk_85_r1, trivial⟩)
def zk_85_o : zO_ := zorcF 85 13 zk_85_te [(0, 1, 0)] [] zk_85_al [1, 2, 3, 4, 5, 6, 7, 8, 12, 13] [1, 5, 6, 7, 8, 12, 13]
theorem zk_85_ok (l : Launch) (X : zx_X) (XL : Nat) (φ : List z_C) (P : List Int → Prop) : zOk l X XL φ P zk_85_o := zOk_F zk_85_c (by decide +kernel) l X XL φ P
/-! bestChange -/
def zk_90_te : zA_T := ([], ((((((((((zFr.set 1 zh_1).set 2 zh_2).set 3 zh_3).set 4 zh_4).set 5 zh_5).set 6 zh_6).set 7 zh_7).set 8 zh_8).set 12 zh_12).set 13 zh_13), [(0, (2, (.ofNat 15)))], [], 0, 0)
def zk_90_al : List zAlt := [([((.negSucc 0), (.ofNat 23), none)], [(3, 0, 0)], ((((((((((zFr.set 1 zh_1).set 2 zh_2).set 3 zh_3).set 4 zh_4).set 5 zh_5).set 6 zh_6).set 7 zh_7).set 8 zh_8).set 12 zh_12).set 13 zh_13), some (1, (.ofNat 0)))]
def zk_90_h0 : zHd := (0, zk_90_te, [], [], (.ofNat 55), [], [])
def zk_90_h1 : zHd := (27, ([((.negSucc 0), (.ofNat 23), zD0), ((.negSucc 2147483647), (.ofNat 2147483647), zD0), ((.ofNat 0), (.ofNat 24), zD0)], ((((((((((zFr.set 1 zh_1).set 2 zh_2).set 3 zh_3).set 4 zh_4).set 5 zh_5).set 6 zh_6).set 7 zh_7).set 8 zh_8).set 12 zh_12).set 13 zh_13), [(0, (2, (.ofNat 15))), (1, (1, (.ofNat 0))), (2, (1, (.ofNat 1))), (3, (1, (.ofNat 2)))], [], 0, 0), [(0, 1, 0), (0, 2, 0), (0, 3, 0)], [], (.ofNat 49), [(.ofNat 0), (.ofNat 0), (.ofNat 2)], [])
def zk_90_hs : List zHd := [zk_90_h0, zk_90_h1]
def zk_90_or : zO_ := zor zk_54_o (zon)
theorem zk_90_oo (l : Launch) (X : zx_X) (φ : List z_C) (P : List Int → Prop) : zOk l X 2000000 φ P zk_90_or := zOk_or (zk_54_ok l X 2000000 φ P) (zOk_no l X 2000000 φ P)
theorem zk_90_r0 : zx1 2000000 (zfinC zk_90_al zk_90_h0.2.2.2.1) (zcutH zk_90_hs zk_90_h0 90 13) zk_90_or 6000 90 13 zk_90_h0.1 (zhS zk_90_h0) [] = true := by decide +kernel
theorem zk_90_r1 : zx1 2000000 (zfinC zk_90_al zk_90_h1.2.2.2.1) (zcutH zk_90_hs zk_90_h1 90 13) zk_90_or 6000 90 13 zk_90_h1.1 (zhS zk_90_h1) [] = true := by decide +kernel
theorem zk_90_c : zCon 90 13 zk_90_te [] zk_90_al := zCon_of (n := 6000) (hs := zk_90_hs) (lo := []) (c := (.ofNat 55)) (ws := []) (by decide) (by decide +kernel) zk_90_oo (List.mem_cons_self) (zAll_mem ⟨zk_90_r0, zk_90_r1, trivial⟩)
def zk_90_o : zO_ := zorcF 90 13 zk_90_te [] [] zk_90_al [1, 2, 3, 4, 5, 6, 7, 8, 12, 13] [1, 5, 6, 7, 8, 12, 13]
theorem zk_90_ok (l : Launch) (X : zx_X) (XL : Nat) (φ : List z_C) (P : List Int → Prop) : zOk l X XL φ P zk_90_o := zOk_F zk_90_c (by decide +kernel) l X XL φ P
/-! drawnDays -/
def zk_130_te : zA_T := ([((.negSucc 2147483647), (.ofNat 2147483647), zD0), ((.ofNat 1), (.ofNat 30), zD0), ((.ofNat 1), (.ofNat 30), zD0), ((.negSucc 0), (.ofNat 23), zD0)], ((((((((((zFr.set 1 zh_1).set 2 zh_2).set 3 zh_3).set 4 zh_4).set 5 zh_5).set 6 zh_6).set 7 zh_7).set 8 zh_8).set 12 zh_12).set 13 zh_13), [(0, (2, (.ofNat 15))), (1, (1, (.ofNat 0))), (2, (1, (.ofNat 1))), (3, (1, (.ofNat 2))), (4, (1, (.ofNat 3)))], [], 0, 0)
def zk_130_al : List zAlt := [([((.negSucc 2147483647), (.ofNat 2147483647), none)], [(3, 0, 0)], ((((((((((zFr.set 1 zh_1).set 2 zh_2).set 3 zh_3).set 4 zh_4).set 5 zh_5).set 6 zh_6).set 7 zh_7).set 8 zh_8).set 12 zh_12).set 13 zh_13), some (1, (.ofNat 0)))]
def zk_130_h0 : zHd := (0, zk_130_te, [(0, 1, 0), (0, 2, 0), (0, 3, 0), (0, 4, 0)], [], (.ofNat 1989), [(.ofNat 0), (.ofNat 0), (.ofNat 0), (.ofNat 0)], [])
def zk_130_h1 : zHd := (13, ([((.negSucc 2147483647), (.ofNat 2147483647), zD0), ((.ofNat 1), (.ofNat 30), zD0), ((.ofNat 1), (.ofNat 30), zD0), ((.negSucc 0), (.ofNat 23), zD0), ((.negSucc 2147483647), (.ofNat 2147483647), zD0), ((.negSucc 2147483647), (.ofNat 2147483647), zD0), ((.ofNat 0), (.ofNat 30), zD0)], ((((((((((zFr.set 1 zh_1).set 2 zh_2).set 3 zh_3).set 4 zh_4).set 5 zh_5).set 6 zh_6).set 7 zh_7).set 8 zh_8).set 12 zh_12).set 13 zh_13), [(0, (2, (.ofNat 15))), (1, (1, (.ofNat 0))), (2, (1, (.ofNat 1))), (3, (1, (.ofNat 2))), (4, (1, (.ofNat 3))), (5, (1, (.ofNat 4))), (6, (1, (.ofNat 5))), (7, (1, (.ofNat 6)))], [], 0, 0), [(0, 1, 0), (0, 2, 0), (0, 3, 0), (0, 4, 0), (0, 5, 0), (0, 6, 0), (0, 7, 0)], [], (.ofNat 1983), [(.ofNat 0), (.ofNat 0), (.ofNat 0), (.ofNat 0), (.ofNat 0), (.ofNat 0), (.ofNat 64)], [])
def zk_130_h2 : zHd := (40, ([((.negSucc 2147483647), (.ofNat 2147483647), zD0), ((.ofNat 1), (.ofNat 30), zD0), ((.ofNat 1), (.ofNat 30), zD0), ((.negSucc 0), (.ofNat 23), zD0), ((.negSucc 2147483647), (.ofNat 2147483647), zD0), ((.negSucc 2147483647), (.ofNat 2147483647), zD0), ((.ofNat 0), (.ofNat 29), zD0), ((.ofNat 0), (.ofNat 16777215), zD0), ((.ofNat 0), (.ofNat 16777215), zD0), ((.ofNat 0), (.ofNat 30), zD0)], ((((((((((zFr.set 1 zh_1).set 2 zh_2).set 3 zh_3).set 4 zh_4).set 5 zh_5).set 6 zh_6).set 7 zh_7).set 8 zh_8).set 12 zh_12).set 13 zh_13), [(0, (2, (.ofNat 15))), (1, (1, (.ofNat 0))), (2, (1, (.ofNat 1))), (3, (1, (.ofNat 2))), (4, (1, (.ofNat 3))), (5, (1, (.ofNat 4))), (6, (1, (.ofNat 5))), (7, (1, (.ofNat 6))), (8, (1, (.ofNat 7))), (9, (1, (.ofNat 8))), (10, (1, (.ofNat 9)))], [], 0, 0), [(0, 1, 0), (0, 2, 0), (0, 3, 0), (0, 4, 0), (0, 5, 0), (0, 6, 0), (0, 7, 0), (0, 8, 0), (0, 9, 0), (0, 10, 0)], [], (.ofNat 1981), [(.ofNat 0), (.ofNat 0), (.ofNat 0), (.ofNat 0), (.ofNat 0), (.ofNat 0), (.ofNat 64), (.ofNat 0), (.ofNat 0), (.ofNat 2)], [])
def zk_130_hs : List zHd := [zk_130_h0, zk_130_h1, zk_130_h2]
def zk_130_or : zO_ := zor zk_54_o (zon)
theorem zk_130_oo (l : Launch) (X : zx_X) (φ : List z_C) (P : List Int → Prop) : zOk l X 2000000 φ P zk_130_or := zOk_or (zk_54_ok l X 2000000 φ P) (zOk_no l X 2000000 φ P)
theorem zk_130_r0 : zx1 2000000 (zfinC zk_130_al zk_130_h0.2.2.2.1) (zcutH zk_130_hs zk_130_h0 130 13) zk_130_or 6000 130 13 zk_130_h0.1 (zhS zk_130_h0) [] = true := by decide +kernel
theorem zk_130_r1 : zx1 2000000 (zfinC zk_130_al zk_130_h1.2.2.2.1) (zcutH zk_130_hs zk_130_h1 130 13) zk_130_or 6000 130 13 zk_130_h1.1 (zhS zk_130_h1) [] = true := by decide +kernel
theorem zk_130_r2 : zx1 2000000 (zfinC zk_130_al zk_130_h2.2.2.2.1) (zcutH zk_130_hs zk_130_h2 130 13) zk_130_or 6000 130 13 zk_130_h2.1 (zhS zk_130_h2) [] = true := by decide +kernel
theorem zk_130_c : zCon 130 13 zk_130_te [] zk_130_al := zCon_of (n := 6000) (hs := zk_130_hs) (lo := [(0, 1, 0), (0, 2, 0), (0, 3, 0), (0, 4, 0)]) (c := (.ofNat 1989)) (ws := [(.ofNat 0), (.ofNat 0), (.ofNat 0), (.ofNat 0)]) (by decide) (by decide +kernel) zk_130_oo (List.mem_cons_self) (zAll_mem ⟨zk_130_r0, zk_130_r1, zk_130_r2, trivial⟩)
def zk_130_o : zO_ := zorcF 130 13 zk_130_te [(0, 1, 0), (0, 2, 0), (0, 3, 0), (0, 4, 0)] [] zk_130_al [1, 2, 3, 4, 5, 6, 7, 8, 12, 13] [1, 5, 6, 7, 8, 12, 13]
theorem zk_130_ok (l : Launch) (X : zx_X) (XL : Nat) (φ : List z_C) (P : List Int → Prop) : zOk l X XL φ P zk_130_o := zOk_F zk_130_c (by decide +kernel) l X XL φ P
/-! goesOnWith -/
def zk_46_te : zA_T := ([((.ofNat 0), (.ofNat 255), zD0)], ((zFr.set 9 zh_9).set 10 zh_10), [(0, (2, (.ofNat 12))), (1, (1, (.ofNat 0)))], [], 0, 0)
def zk_46_al : List zAlt := [([((.ofNat 0), (.ofNat 1), none)], [(3, 0, 0)], ((zFr.set 9 zh_9).set 10 zh_10), some (1, (.ofNat 0)))]
def zk_46_h0 : zHd := (0, zk_46_te, [(0, 1, 0)], [], (.ofNat 5), [(.ofNat 0)], [])
def zk_46_hs : List zHd := [zk_46_h0]
def zk_46_or : zO_ := zon
theorem zk_46_oo (l : Launch) (X : zx_X) (φ : List z_C) (P : List Int → Prop) : zOk l X 2000000 φ P zk_46_or := zOk_no l X 2000000 φ P
theorem zk_46_r0 : zx1 2000000 (zfinC zk_46_al zk_46_h0.2.2.2.1) (zcutH zk_46_hs zk_46_h0 46 3) zk_46_or 6000 46 3 zk_46_h0.1 (zhS zk_46_h0) [] = true := by decide +kernel
theorem zk_46_c : zCon 46 3 zk_46_te [] zk_46_al := zCon_of (n := 6000) (hs := zk_46_hs) (lo := [(0, 1, 0)]) (c := (.ofNat 5)) (ws := [(.ofNat 0)]) (by decide) (by decide +kernel) zk_46_oo (List.mem_cons_self) (zAll_mem ⟨zk_46_r0, trivial⟩)
def zk_46_o : zO_ := zorcF 46 3 zk_46_te [(0, 1, 0)] [] zk_46_al [9, 10] [9, 10]
theorem zk_46_ok (l : Launch) (X : zx_X) (XL : Nat) (φ : List z_C) (P : List Int → Prop) : zOk l X XL φ P zk_46_o := zOk_F zk_46_c (by decide +kernel) l X XL φ P
/-! readNumber -/
def zk_43_te : zA_T := ([], (((zFr.set 9 zh_9).set 10 zh_10).set 11 zh_11), [(0, (2, (.ofNat 12)))], [], 0, 0)
def zk_43_al : List zAlt := [([], [], (((zFr.set 9 zh_9).set 10 zh_10).set 11 zh_11), none)]
def zk_43_h0 : zHd := (0, zk_43_te, [], [], (.ofNat 5), [], [])
def zk_43_hs : List zHd := [zk_43_h0]
def zk_43_or : zO_ := zon
theorem zk_43_oo (l : Launch) (X : zx_X) (φ : List z_C) (P : List Int → Prop) : zOk l X 2000000 φ P zk_43_or := zOk_no l X 2000000 φ P
theorem zk_43_r0 : zx1 2000000 (zfinC zk_43_al zk_43_h0.2.2.2.1) (zcutH zk_43_hs zk_43_h0 43 3) zk_43_or 6000 43 3 zk_43_h0.1 (zhS zk_43_h0) [] = true := by decide +kernel
theorem zk_43_c : zCon 43 3 zk_43_te [] zk_43_al := zCon_of (n := 6000) (hs := zk_43_hs) (lo := []) (c := (.ofNat 5)) (ws := []) (by decide) (by decide +kernel) zk_43_oo (List.mem_cons_self) (zAll_mem ⟨zk_43_r0, trivial⟩)
def zk_43_o : zO_ := zorcF 43 3 zk_43_te [] [] zk_43_al [9, 10, 11] [9, 10, 11]
theorem zk_43_ok (l : Launch) (X : zx_X) (XL : Nat) (φ : List z_C) (P : List Int → Prop) : zOk l X XL φ P zk_43_o := zOk_F zk_43_c (by decide +kernel) l X XL φ P
/-! readOperand -/
def zk_40_6_te : zA_T := ([], (((zFr.set 9 zh_9).set 10 zh_10).set 11 zh_11), [(0, (2, (.ofNat 12))), (1, (0, (.ofNat 6)))], [], 0, 0)
def zk_40_6_al : List zAlt := [([], [], (((zFr.set 9 zh_9).set 10 zh_10).set 11 zh_11), none)]
def zk_40_6_h0 : zHd := (0, zk_40_6_te, [], [], (.ofNat 5), [], [])
def zk_40_6_hs : List zHd := [zk_40_6_h0]
def zk_40_6_or : zO_ := zor zk_43_o (zon)
theorem zk_40_6_oo (l : Launch) (X : zx_X) (φ : List z_C) (P : List Int → Prop) : zOk l X 2000000 φ P zk_40_6_or := zOk_or (zk_43_ok l X 2000000 φ P) (zOk_no l X 2000000 φ P)
theorem zk_40_6_r0 : zx1 2000000 (zfinC zk_40_6_al zk_40_6_h0.2.2.2.1) (zcutH zk_40_6_hs zk_40_6_h0 40 5) zk_40_6_or 6000 40 5 zk_40_6_h0.1 (zhS zk_40_6_h0) [] = true := by decide +kernel
theorem zk_40_6_c : zCon 40 5 zk_40_6_te [] zk_40_6_al := zCon_of (n := 6000) (hs := zk_40_6_hs) (lo := []) (c := (.ofNat 5)) (ws := []) (by decide) (by decide +kernel) zk_40_6_oo (List.mem_cons_self) (zAll_mem ⟨zk_40_6_r0, trivial⟩)
def zk_40_6_o : zO_ := zorcF 40 5 zk_40_6_te [] [] zk_40_6_al [9, 10, 11] [9, 10, 11]
theorem zk_40_6_ok (l : Launch) (X : zx_X) (XL : Nat) (φ : List z_C) (P : List Int → Prop) : zOk l X XL φ P zk_40_6_o := zOk_F zk_40_6_c (by decide +kernel) l X XL φ P
/-! readLevel -/
def zk_39_5_6_te : zA_T := ([], (((zFr.set 9 zh_9).set 10 zh_10).set 11 zh_11), [(0, (2, (.ofNat 12))), (1, (0, (.ofNat 5))), (2, (0, (.ofNat 6)))], [], 0, 0)
def zk_39_5_6_al : List zAlt := [([], [], (((zFr.set 9 zh_9).set 10 zh_10).set 11 zh_11), none)]
def zk_39_5_6_h0 : zHd := (0, zk_39_5_6_te, [], [], (.ofNat 5), [], [])
def zk_39_5_6_hs : List zHd := [zk_39_5_6_h0]
def zk_39_5_6_or : zO_ := zor zk_40_6_o (zon)
theorem zk_39_5_6_oo (l : Launch) (X : zx_X) (φ : List z_C) (P : List Int → Prop) : zOk l X 2000000 φ P zk_39_5_6_or := zOk_or (zk_40_6_ok l X 2000000 φ P) (zOk_no l X 2000000 φ P)
theorem zk_39_5_6_r0 : zx1 2000000 (zfinC zk_39_5_6_al zk_39_5_6_h0.2.2.2.1) (zcutH zk_39_5_6_hs zk_39_5_6_h0 39 7) zk_39_5_6_or 6000 39 7 zk_39_5_6_h0.1 (zhS zk_39_5_6_h0) [] = true := by decide +kernel
theorem zk_39_5_6_c : zCon 39 7 zk_39_5_6_te [] zk_39_5_6_al := zCon_of (n := 6000) (hs := zk_39_5_6_hs) (lo := []) (c := (.ofNat 5)) (ws := []) (by decide) (by decide +kernel) zk_39_5_6_oo (List.mem_cons_self) (zAll_mem ⟨zk_39_5_6_r0, trivial⟩)
def zk_39_5_6_o : zO_ := zorcF 39 7 zk_39_5_6_te [] [] zk_39_5_6_al [9, 10, 11] [9, 10, 11]
theorem zk_39_5_6_ok (l : Launch) (X : zx_X) (XL : Nat) (φ : List z_C) (P : List Int → Prop) : zOk l X XL φ P zk_39_5_6_o := zOk_F zk_39_5_6_c (by decide +kernel) l X XL φ P
/-! readLevel -/
def zk_39_4_6_te : zA_T := ([], (((zFr.set 9 zh_9).set 10 zh_10).set 11 zh_11), [(0, (2, (.ofNat 12))), (1, (0, (.ofNat 4))), (2, (0, (.ofNat 6)))], [], 0, 0)
def zk_39_4_6_al : List zAlt := [([], [], (((zFr.set 9 zh_9).set 10 zh_10).set 11 zh_11), none)]
def zk_39_4_6_h0 : zHd := (0, zk_39_4_6_te, [], [], (.ofNat 247), [], [])
def zk_39_4_6_h1 : zHd := (34, ([((.ofNat 0), (.ofNat 120), zD0)], (((zFr.set 9 zh_9).set 10 zh_10).set 11 zh_11), [(0, (2, (.ofNat 12))), (1, (0, (.ofNat 4))), (2, (0, (.ofNat 6))), (3, (0, (.ofNat 120))), (4, (1, (.ofNat 0)))], [], 0, 0), [(0, 4, 0)], [], (.ofNat 241), [(.ofNat 2)], [])
def zk_39_4_6_hs : List zHd := [zk_39_4_6_h0, zk_39_4_6_h1]
def zk_39_4_6_or : zO_ := zor zk_39_5_6_o (zon)
theorem zk_39_4_6_oo (l : Launch) (X : zx_X) (φ : List z_C) (P : List Int → Prop) : zOk l X 2000000 φ P zk_39_4_6_or := zOk_or (zk_39_5_6_ok l X 2000000 φ P) (zOk_no l X 2000000 φ P)
theorem zk_39_4_6_r0 : zx1 2000000 (zfinC zk_39_4_6_al zk_39_4_6_h0.2.2.2.1) (zcutH zk_39_4_6_hs zk_39_4_6_h0 39 9) zk_39_4_6_or 6000 39 9 zk_39_4_6_h0.1 (zhS zk_39_4_6_h0) [] = true := by decide +kernel
theorem zk_39_4_6_r1 : zx1 2000000 (zfinC zk_39_4_6_al zk_39_4_6_h1.2.2.2.1) (zcutH zk_39_4_6_hs zk_39_4_6_h1 39 9) zk_39_4_6_or 6000 39 9 zk_39_4_6_h1.1 (zhS zk_39_4_6_h1) [] = true := by decide +kernel
theorem zk_39_4_6_c : zCon 39 9 zk_39_4_6_te [] zk_39_4_6_al := zCon_of (n := 6000) (hs := zk_39_4_6_hs) (lo := []) (c := (.ofNat 247)) (ws := []) (by decide) (by decide +kernel) zk_39_4_6_oo (List.mem_cons_self) (zAll_mem ⟨zk_39_4_6_r0, zk_39_4_6_r1, trivial⟩)
def zk_39_4_6_o : zO_ := zorcF 39 9 zk_39_4_6_te [] [] zk_39_4_6_al [9, 10, 11] [9, 10, 11]
theorem zk_39_4_6_ok (l : Launch) (X : zx_X) (XL : Nat) (φ : List z_C) (P : List Int → Prop) : zOk l X XL φ P zk_39_4_6_o := zOk_F zk_39_4_6_c (by decide +kernel) l X XL φ P
/-! readLevel -/
def zk_39_3_6_te : zA_T := ([], (((zFr.set 9 zh_9).set 10 zh_10).set 11 zh_11), [(0, (2, (.ofNat 12))), (1, (0, (.ofNat 3))), (2, (0, (.ofNat 6)))], [], 0, 0)
def zk_39_3_6_al : List zAlt := [([], [], (((zFr.set 9 zh_9).set 10 zh_10).set 11 zh_11), none)]
def zk_39_3_6_h0 : zHd := (0, zk_39_3_6_te, [], [], (.ofNat 247), [], [])
def zk_39_3_6_h1 : zHd := (34, ([((.ofNat 0), (.ofNat 120), zD0)], (((zFr.set 9 zh_9).set 10 zh_10).set 11 zh_11), [(0, (2, (.ofNat 12))), (1, (0, (.ofNat 3))), (2, (0, (.ofNat 6))), (3, (0, (.ofNat 120))), (4, (1, (.ofNat 0)))], [], 0, 0), [(0, 4, 0)], [], (.ofNat 241), [(.ofNat 2)], [])
def zk_39_3_6_hs : List zHd := [zk_39_3_6_h0, zk_39_3_6_h1]
def zk_39_3_6_or : zO_ := zor zk_39_4_6_o (zon)
theorem zk_39_3_6_oo (l : Launch) (X : zx_X) (φ : List z_C) (P : List Int → Prop) : zOk l X 2000000 φ P zk_39_3_6_or := zOk_or (zk_39_4_6_ok l X 2000000 φ P) (zOk_no l X 2000000 φ P)
theorem zk_39_3_6_r0 : zx1 2000000 (zfinC zk_39_3_6_al zk_39_3_6_h0.2.2.2.1) (zcutH zk_39_3_6_hs zk_39_3_6_h0 39 11) zk_39_3_6_or 6000 39 11 zk_39_3_6_h0.1 (zhS zk_39_3_6_h0) [] = true := by decide +kernel
theorem zk_39_3_6_r1 : zx1 2000000 (zfinC zk_39_3_6_al zk_39_3_6_h1.2.2.2.1) (zcutH zk_39_3_6_hs zk_39_3_6_h1 39 11) zk_39_3_6_or 6000 39 11 zk_39_3_6_h1.1 (zhS zk_39_3_6_h1) [] = true := by decide +kernel
theorem zk_39_3_6_c : zCon 39 11 zk_39_3_6_te [] zk_39_3_6_al := zCon_of (n := 6000) (hs := zk_39_3_6_hs) (lo := []) (c := (.ofNat 247)) (ws := []) (by decide) (by decide +kernel) zk_39_3_6_oo (List.mem_cons_self) (zAll_mem ⟨zk_39_3_6_r0, zk_39_3_6_r1, trivial⟩)
def zk_39_3_6_o : zO_ := zorcF 39 11 zk_39_3_6_te [] [] zk_39_3_6_al [9, 10, 11] [9, 10, 11]
theorem zk_39_3_6_ok (l : Launch) (X : zx_X) (XL : Nat) (φ : List z_C) (P : List Int → Prop) : zOk l X XL φ P zk_39_3_6_o := zOk_F zk_39_3_6_c (by decide +kernel) l X XL φ P
/-! readLevel -/
def zk_39_2_6_te : zA_T := ([], (((zFr.set 9 zh_9).set 10 zh_10).set 11 zh_11), [(0, (2, (.ofNat 12))), (1, (0, (.ofNat 2))), (2, (0, (.ofNat 6)))], [], 0, 0)
def zk_39_2_6_al : List zAlt := [([], [], (((zFr.set 9 zh_9).set 10 zh_10).set 11 zh_11), none)]
def zk_39_2_6_h0 : zHd := (0, zk_39_2_6_te, [], [], (.ofNat 9), [], [])
def zk_39_2_6_h1 : zHd := (34, ([((.ofNat 0), (.ofNat 1), zD0)], (((zFr.set 9 zh_9).set 10 zh_10).set 11 zh_11), [(0, (2, (.ofNat 12))), (1, (0, (.ofNat 2))), (2, (0, (.ofNat 6))), (3, (0, (.ofNat 1))), (4, (1, (.ofNat 0)))], [], 0, 0), [(0, 4, 0)], [], (.ofNat 3), [(.ofNat 2)], [])
def zk_39_2_6_hs : List zHd := [zk_39_2_6_h0, zk_39_2_6_h1]
def zk_39_2_6_or : zO_ := zor zk_39_3_6_o (zon)
theorem zk_39_2_6_oo (l : Launch) (X : zx_X) (φ : List z_C) (P : List Int → Prop) : zOk l X 2000000 φ P zk_39_2_6_or := zOk_or (zk_39_3_6_ok l X 2000000 φ P) (zOk_no l X 2000000 φ P)
theorem zk_39_2_6_r0 : zx1 2000000 (zfinC zk_39_2_6_al zk_39_2_6_h0.2.2.2.1) (zcutH zk_39_2_6_hs zk_39_2_6_h0 39 13) zk_39_2_6_or 6000 39 13 zk_39_2_6_h0.1 (zhS zk_39_2_6_h0) [] = true := by decide +kernel
theorem zk_39_2_6_r1 : zx1 2000000 (zfinC zk_39_2_6_al zk_39_2_6_h1.2.2.2.1) (zcutH zk_39_2_6_hs zk_39_2_6_h1 39 13) zk_39_2_6_or 6000 39 13 zk_39_2_6_h1.1 (zhS zk_39_2_6_h1) [] = true := by decide +kernel
theorem zk_39_2_6_c : zCon 39 13 zk_39_2_6_te [] zk_39_2_6_al := zCon_of (n := 6000) (hs := zk_39_2_6_hs) (lo := []) (c := (.ofNat 9)) (ws := []) (by decide) (by decide +kernel) zk_39_2_6_oo (List.mem_cons_self) (zAll_mem ⟨zk_39_2_6_r0, zk_39_2_6_r1, trivial⟩)
def zk_39_2_6_o : zO_ := zorcF 39 13 zk_39_2_6_te [] [] zk_39_2_6_al [9, 10, 11] [9, 10, 11]
theorem zk_39_2_6_ok (l : Launch) (X : zx_X) (XL : Nat) (φ : List z_C) (P : List Int → Prop) : zOk l X XL φ P zk_39_2_6_o := zOk_F zk_39_2_6_c (by decide +kernel) l X XL φ P
/-! readLevel -/
def zk_39_1_6_te : zA_T := ([], (((zFr.set 9 zh_9).set 10 zh_10).set 11 zh_11), [(0, (2, (.ofNat 12))), (1, (0, (.ofNat 1))), (2, (0, (.ofNat 6)))], [], 0, 0)
def zk_39_1_6_al : List zAlt := [([], [], (((zFr.set 9 zh_9).set 10 zh_10).set 11 zh_11), none)]
def zk_39_1_6_h0 : zHd := (0, zk_39_1_6_te, [], [], (.ofNat 247), [], [])
def zk_39_1_6_h1 : zHd := (34, ([((.ofNat 0), (.ofNat 120), zD0)], (((zFr.set 9 zh_9).set 10 zh_10).set 11 zh_11), [(0, (2, (.ofNat 12))), (1, (0, (.ofNat 1))), (2, (0, (.ofNat 6))), (3, (0, (.ofNat 120))), (4, (1, (.ofNat 0)))], [], 0, 0), [(0, 4, 0)], [], (.ofNat 241), [(.ofNat 2)], [])
def zk_39_1_6_hs : List zHd := [zk_39_1_6_h0, zk_39_1_6_h1]
def zk_39_1_6_or : zO_ := zor zk_39_2_6_o (zon)
theorem zk_39_1_6_oo (l : Launch) (X : zx_X) (φ : List z_C) (P : List Int → Prop) : zOk l X 2000000 φ P zk_39_1_6_or := zOk_or (zk_39_2_6_ok l X 2000000 φ P) (zOk_no l X 2000000 φ P)
theorem zk_39_1_6_r0 : zx1 2000000 (zfinC zk_39_1_6_al zk_39_1_6_h0.2.2.2.1) (zcutH zk_39_1_6_hs zk_39_1_6_h0 39 15) zk_39_1_6_or 6000 39 15 zk_39_1_6_h0.1 (zhS zk_39_1_6_h0) [] = true := by decide +kernel
theorem zk_39_1_6_r1 : zx1 2000000 (zfinC zk_39_1_6_al zk_39_1_6_h1.2.2.2.1) (zcutH zk_39_1_6_hs zk_39_1_6_h1 39 15) zk_39_1_6_or 6000 39 15 zk_39_1_6_h1.1 (zhS zk_39_1_6_h1) [] = true := by decide +kernel
theorem zk_39_1_6_c : zCon 39 15 zk_39_1_6_te [] zk_39_1_6_al := zCon_of (n := 6000) (hs := zk_39_1_6_hs) (lo := []) (c := (.ofNat 247)) (ws := []) (by decide) (by decide +kernel) zk_39_1_6_oo (List.mem_cons_self) (zAll_mem ⟨zk_39_1_6_r0, zk_39_1_6_r1, trivial⟩)
def zk_39_1_6_o : zO_ := zorcF 39 15 zk_39_1_6_te [] [] zk_39_1_6_al [9, 10, 11] [9, 10, 11]
theorem zk_39_1_6_ok (l : Launch) (X : zx_X) (XL : Nat) (φ : List z_C) (P : List Int → Prop) : zOk l X XL φ P zk_39_1_6_o := zOk_F zk_39_1_6_c (by decide +kernel) l X XL φ P
/-! readLevel -/
def zk_39_0_6_te : zA_T := ([], (((zFr.set 9 zh_9).set 10 zh_10).set 11 zh_11), [(0, (2, (.ofNat 12))), (1, (0, (.ofNat 0))), (2, (0, (.ofNat 6)))], [], 0, 0)
def zk_39_0_6_al : List zAlt := [([], [], (((zFr.set 9 zh_9).set 10 zh_10).set 11 zh_11), none)]
def zk_39_0_6_h0 : zHd := (0, zk_39_0_6_te, [], [], (.ofNat 247), [], [])
def zk_39_0_6_h1 : zHd := (34, ([((.ofNat 0), (.ofNat 120), zD0)], (((zFr.set 9 zh_9).set 10 zh_10).set 11 zh_11), [(0, (2, (.ofNat 12))), (1, (0, (.ofNat 0))), (2, (0, (.ofNat 6))), (3, (0, (.ofNat 120))), (4, (1, (.ofNat 0)))], [], 0, 0), [(0, 4, 0)], [], (.ofNat 241), [(.ofNat 2)], [])
def zk_39_0_6_hs : List zHd := [zk_39_0_6_h0, zk_39_0_6_h1]
def zk_39_0_6_or : zO_ := zor zk_39_1_6_o (zon)
theorem zk_39_0_6_oo (l : Launch) (X : zx_X) (φ : List z_C) (P : List Int → Prop) : zOk l X 2000000 φ P zk_39_0_6_or := zOk_or (zk_39_1_6_ok l X 2000000 φ P) (zOk_no l X 2000000 φ P)
theorem zk_39_0_6_r0 : zx1 2000000 (zfinC zk_39_0_6_al zk_39_0_6_h0.2.2.2.1) (zcutH zk_39_0_6_hs zk_39_0_6_h0 39 17) zk_39_0_6_or 6000 39 17 zk_39_0_6_h0.1 (zhS zk_39_0_6_h0) [] = true := by decide +kernel
theorem zk_39_0_6_r1 : zx1 2000000 (zfinC zk_39_0_6_al zk_39_0_6_h1.2.2.2.1) (zcutH zk_39_0_6_hs zk_39_0_6_h1 39 17) zk_39_0_6_or 6000 39 17 zk_39_0_6_h1.1 (zhS zk_39_0_6_h1) [] = true := by decide +kernel
theorem zk_39_0_6_c : zCon 39 17 zk_39_0_6_te [] zk_39_0_6_al := zCon_of (n := 6000) (hs := zk_39_0_6_hs) (lo := []) (c := (.ofNat 247)) (ws := []) (by decide) (by decide +kernel) zk_39_0_6_oo (List.mem_cons_self) (zAll_mem ⟨zk_39_0_6_r0, zk_39_0_6_r1, trivial⟩)
def zk_39_0_6_o : zO_ := zorcF 39 17 zk_39_0_6_te [] [] zk_39_0_6_al [9, 10, 11] [9, 10, 11]
theorem zk_39_0_6_ok (l : Launch) (X : zx_X) (XL : Nat) (φ : List z_C) (P : List Int → Prop) : zOk l X XL φ P zk_39_0_6_o := zOk_F zk_39_0_6_c (by decide +kernel) l X XL φ P
/-! readOperand -/
def zk_40_5_te : zA_T := ([], (((zFr.set 9 zh_9).set 10 zh_10).set 11 zh_11), [(0, (2, (.ofNat 12))), (1, (0, (.ofNat 5)))], [], 0, 0)
def zk_40_5_al : List zAlt := [([], [], (((zFr.set 9 zh_9).set 10 zh_10).set 11 zh_11), none)]
def zk_40_5_h0 : zHd := (0, zk_40_5_te, [], [], (.ofNat 5), [], [])
def zk_40_5_hs : List zHd := [zk_40_5_h0]
def zk_40_5_or : zO_ := zor zk_46_o (zor zk_43_o (zor zk_40_6_o (zor zk_39_0_6_o (zon))))
theorem zk_40_5_oo (l : Launch) (X : zx_X) (φ : List z_C) (P : List Int → Prop) : zOk l X 2000000 φ P zk_40_5_or := zOk_or (zk_46_ok l X 2000000 φ P) (zOk_or (zk_43_ok l X 2000000 φ P) (zOk_or (zk_40_6_ok l X 2000000 φ P) (zOk_or (zk_39_0_6_ok l X 2000000 φ P) (zOk_no l X 2000000 φ P))))
theorem zk_40_5_r0 : zx1 2000000 (zfinC zk_40_5_al zk_40_5_h0.2.2.2.1) (zcutH zk_40_5_hs zk_40_5_h0 40 19) zk_40_5_or 6000 40 19 zk_40_5_h0.1 (zhS zk_40_5_h0) [] = true := by decide +kernel
theorem zk_40_5_c : zCon 40 19 zk_40_5_te [] zk_40_5_al := zCon_of (n := 6000) (hs := zk_40_5_hs) (lo := []) (c := (.ofNat 5)) (ws := []) (by decide) (by decide +kernel) zk_40_5_oo (List.mem_cons_self) (zAll_mem ⟨zk_40_5_r0, trivial⟩)
def zk_40_5_o : zO_ := zorcF 40 19 zk_40_5_te [] [] zk_40_5_al [9, 10, 11] [9, 10, 11]
theorem zk_40_5_ok (l : Launch) (X : zx_X) (XL : Nat) (φ : List z_C) (P : List Int → Prop) : zOk l X XL φ P zk_40_5_o := zOk_F zk_40_5_c (by decide +kernel) l X XL φ P
/-! readLevel -/
def zk_39_5_5_te : zA_T := ([], (((zFr.set 9 zh_9).set 10 zh_10).set 11 zh_11), [(0, (2, (.ofNat 12))), (1, (0, (.ofNat 5))), (2, (0, (.ofNat 5)))], [], 0, 0)
def zk_39_5_5_al : List zAlt := [([], [], (((zFr.set 9 zh_9).set 10 zh_10).set 11 zh_11), none)]
def zk_39_5_5_h0 : zHd := (0, zk_39_5_5_te, [], [], (.ofNat 5), [], [])
def zk_39_5_5_hs : List zHd := [zk_39_5_5_h0]
def zk_39_5_5_or : zO_ := zor zk_40_5_o (zon)
theorem zk_39_5_5_oo (l : Launch) (X : zx_X) (φ : List z_C) (P : List Int → Prop) : zOk l X 2000000 φ P zk_39_5_5_or := zOk_or (zk_40_5_ok l X 2000000 φ P) (zOk_no l X 2000000 φ P)
theorem zk_39_5_5_r0 : zx1 2000000 (zfinC zk_39_5_5_al zk_39_5_5_h0.2.2.2.1) (zcutH zk_39_5_5_hs zk_39_5_5_h0 39 21) zk_39_5_5_or 6000 39 21 zk_39_5_5_h0.1 (zhS zk_39_5_5_h0) [] = true := by decide +kernel
theorem zk_39_5_5_c : zCon 39 21 zk_39_5_5_te [] zk_39_5_5_al := zCon_of (n := 6000) (hs := zk_39_5_5_hs) (lo := []) (c := (.ofNat 5)) (ws := []) (by decide) (by decide +kernel) zk_39_5_5_oo (List.mem_cons_self) (zAll_mem ⟨zk_39_5_5_r0, trivial⟩)
def zk_39_5_5_o : zO_ := zorcF 39 21 zk_39_5_5_te [] [] zk_39_5_5_al [9, 10, 11] [9, 10, 11]
theorem zk_39_5_5_ok (l : Launch) (X : zx_X) (XL : Nat) (φ : List z_C) (P : List Int → Prop) : zOk l X XL φ P zk_39_5_5_o := zOk_F zk_39_5_5_c (by decide +kernel) l X XL φ P
/-! readLevel -/
def zk_39_4_5_te : zA_T := ([], (((zFr.set 9 zh_9).set 10 zh_10).set 11 zh_11), [(0, (2, (.ofNat 12))), (1, (0, (.ofNat 4))), (2, (0, (.ofNat 5)))], [], 0, 0)
def zk_39_4_5_al : List zAlt := [([], [], (((zFr.set 9 zh_9).set 10 zh_10).set 11 zh_11), none)]
def zk_39_4_5_h0 : zHd := (0, zk_39_4_5_te, [], [], (.ofNat 247), [], [])
def zk_39_4_5_h1 : zHd := (34, ([((.ofNat 0), (.ofNat 120), zD0)], (((zFr.set 9 zh_9).set 10 zh_10).set 11 zh_11), [(0, (2, (.ofNat 12))), (1, (0, (.ofNat 4))), (2, (0, (.ofNat 5))), (3, (0, (.ofNat 120))), (4, (1, (.ofNat 0)))], [], 0, 0), [(0, 4, 0)], [], (.ofNat 241), [(.ofNat 2)], [])
def zk_39_4_5_hs : List zHd := [zk_39_4_5_h0, zk_39_4_5_h1]
def zk_39_4_5_or : zO_ := zor zk_39_5_5_o (zon)
theorem zk_39_4_5_oo (l : Launch) (X : zx_X) (φ : List z_C) (P : List Int → Prop) : zOk l X 2000000 φ P zk_39_4_5_or := zOk_or (zk_39_5_5_ok l X 2000000 φ P) (zOk_no l X 2000000 φ P)
theorem zk_39_4_5_r0 : zx1 2000000 (zfinC zk_39_4_5_al zk_39_4_5_h0.2.2.2.1) (zcutH zk_39_4_5_hs zk_39_4_5_h0 39 23) zk_39_4_5_or 6000 39 23 zk_39_4_5_h0.1 (zhS zk_39_4_5_h0) [] = true := by decide +kernel
theorem zk_39_4_5_r1 : zx1 2000000 (zfinC zk_39_4_5_al zk_39_4_5_h1.2.2.2.1) (zcutH zk_39_4_5_hs zk_39_4_5_h1 39 23) zk_39_4_5_or 6000 39 23 zk_39_4_5_h1.1 (zhS zk_39_4_5_h1) [] = true := by decide +kernel
theorem zk_39_4_5_c : zCon 39 23 zk_39_4_5_te [] zk_39_4_5_al := zCon_of (n := 6000) (hs := zk_39_4_5_hs) (lo := []) (c := (.ofNat 247)) (ws := []) (by decide) (by decide +kernel) zk_39_4_5_oo (List.mem_cons_self) (zAll_mem ⟨zk_39_4_5_r0, zk_39_4_5_r1, trivial⟩)
def zk_39_4_5_o : zO_ := zorcF 39 23 zk_39_4_5_te [] [] zk_39_4_5_al [9, 10, 11] [9, 10, 11]
theorem zk_39_4_5_ok (l : Launch) (X : zx_X) (XL : Nat) (φ : List z_C) (P : List Int → Prop) : zOk l X XL φ P zk_39_4_5_o := zOk_F zk_39_4_5_c (by decide +kernel) l X XL φ P
/-! readLevel -/
def zk_39_3_5_te : zA_T := ([], (((zFr.set 9 zh_9).set 10 zh_10).set 11 zh_11), [(0, (2, (.ofNat 12))), (1, (0, (.ofNat 3))), (2, (0, (.ofNat 5)))], [], 0, 0)
def zk_39_3_5_al : List zAlt := [([], [], (((zFr.set 9 zh_9).set 10 zh_10).set 11 zh_11), none)]
def zk_39_3_5_h0 : zHd := (0, zk_39_3_5_te, [], [], (.ofNat 247), [], [])
def zk_39_3_5_h1 : zHd := (34, ([((.ofNat 0), (.ofNat 120), zD0)], (((zFr.set 9 zh_9).set 10 zh_10).set 11 zh_11), [(0, (2, (.ofNat 12))), (1, (0, (.ofNat 3))), (2, (0, (.ofNat 5))), (3, (0, (.ofNat 120))), (4, (1, (.ofNat 0)))], [], 0, 0), [(0, 4, 0)], [], (.ofNat 241), [(.ofNat 2)], [])
def zk_39_3_5_hs : List zHd := [zk_39_3_5_h0, zk_39_3_5_h1]
def zk_39_3_5_or : zO_ := zor zk_39_4_5_o (zon)
theorem zk_39_3_5_oo (l : Launch) (X : zx_X) (φ : List z_C) (P : List Int → Prop) : zOk l X 2000000 φ P zk_39_3_5_or := zOk_or (zk_39_4_5_ok l X 2000000 φ P) (zOk_no l X 2000000 φ P)
theorem zk_39_3_5_r0 : zx1 2000000 (zfinC zk_39_3_5_al zk_39_3_5_h0.2.2.2.1) (zcutH zk_39_3_5_hs zk_39_3_5_h0 39 25) zk_39_3_5_or 6000 39 25 zk_39_3_5_h0.1 (zhS zk_39_3_5_h0) [] = true := by decide +kernel
theorem zk_39_3_5_r1 : zx1 2000000 (zfinC zk_39_3_5_al zk_39_3_5_h1.2.2.2.1) (zcutH zk_39_3_5_hs zk_39_3_5_h1 39 25) zk_39_3_5_or 6000 39 25 zk_39_3_5_h1.1 (zhS zk_39_3_5_h1) [] = true := by decide +kernel
theorem zk_39_3_5_c : zCon 39 25 zk_39_3_5_te [] zk_39_3_5_al := zCon_of (n := 6000) (hs := zk_39_3_5_hs) (lo := []) (c := (.ofNat 247)) (ws := []) (by decide) (by decide +kernel) zk_39_3_5_oo (List.mem_cons_self) (zAll_mem ⟨zk_39_3_5_r0, zk_39_3_5_r1, trivial⟩)
def zk_39_3_5_o : zO_ := zorcF 39 25 zk_39_3_5_te [] [] zk_39_3_5_al [9, 10, 11] [9, 10, 11]
theorem zk_39_3_5_ok (l : Launch) (X : zx_X) (XL : Nat) (φ : List z_C) (P : List Int → Prop) : zOk l X XL φ P zk_39_3_5_o := zOk_F zk_39_3_5_c (by decide +kernel) l X XL φ P
/-! readLevel -/
def zk_39_2_5_te : zA_T := ([], (((zFr.set 9 zh_9).set 10 zh_10).set 11 zh_11), [(0, (2, (.ofNat 12))), (1, (0, (.ofNat 2))), (2, (0, (.ofNat 5)))], [], 0, 0)
def zk_39_2_5_al : List zAlt := [([], [], (((zFr.set 9 zh_9).set 10 zh_10).set 11 zh_11), none)]
def zk_39_2_5_h0 : zHd := (0, zk_39_2_5_te, [], [], (.ofNat 9), [], [])
def zk_39_2_5_h1 : zHd := (34, ([((.ofNat 0), (.ofNat 1), zD0)], (((zFr.set 9 zh_9).set 10 zh_10).set 11 zh_11), [(0, (2, (.ofNat 12))), (1, (0, (.ofNat 2))), (2, (0, (.ofNat 5))), (3, (0, (.ofNat 1))), (4, (1, (.ofNat 0)))], [], 0, 0), [(0, 4, 0)], [], (.ofNat 3), [(.ofNat 2)], [])
def zk_39_2_5_hs : List zHd := [zk_39_2_5_h0, zk_39_2_5_h1]
def zk_39_2_5_or : zO_ := zor zk_39_3_5_o (zon)
theorem zk_39_2_5_oo (l : Launch) (X : zx_X) (φ : List z_C) (P : List Int → Prop) : zOk l X 2000000 φ P zk_39_2_5_or := zOk_or (zk_39_3_5_ok l X 2000000 φ P) (zOk_no l X 2000000 φ P)
theorem zk_39_2_5_r0 : zx1 2000000 (zfinC zk_39_2_5_al zk_39_2_5_h0.2.2.2.1) (zcutH zk_39_2_5_hs zk_39_2_5_h0 39 27) zk_39_2_5_or 6000 39 27 zk_39_2_5_h0.1 (zhS zk_39_2_5_h0) [] = true := by decide +kernel
theorem zk_39_2_5_r1 : zx1 2000000 (zfinC zk_39_2_5_al zk_39_2_5_h1.2.2.2.1) (zcutH zk_39_2_5_hs zk_39_2_5_h1 39 27) zk_39_2_5_or 6000 39 27 zk_39_2_5_h1.1 (zhS zk_39_2_5_h1) [] = true := by decide +kernel
theorem zk_39_2_5_c : zCon 39 27 zk_39_2_5_te [] zk_39_2_5_al := zCon_of (n := 6000) (hs := zk_39_2_5_hs) (lo := []) (c := (.ofNat 9)) (ws := []) (by decide) (by decide +kernel) zk_39_2_5_oo (List.mem_cons_self) (zAll_mem ⟨zk_39_2_5_r0, zk_39_2_5_r1, trivial⟩)
def zk_39_2_5_o : zO_ := zorcF 39 27 zk_39_2_5_te [] [] zk_39_2_5_al [9, 10, 11] [9, 10, 11]
theorem zk_39_2_5_ok (l : Launch) (X : zx_X) (XL : Nat) (φ : List z_C) (P : List Int → Prop) : zOk l X XL φ P zk_39_2_5_o := zOk_F zk_39_2_5_c (by decide +kernel) l X XL φ P
/-! readLevel -/
def zk_39_1_5_te : zA_T := ([], (((zFr.set 9 zh_9).set 10 zh_10).set 11 zh_11), [(0, (2, (.ofNat 12))), (1, (0, (.ofNat 1))), (2, (0, (.ofNat 5)))], [], 0, 0)
def zk_39_1_5_al : List zAlt := [([], [], (((zFr.set 9 zh_9).set 10 zh_10).set 11 zh_11), none)]
def zk_39_1_5_h0 : zHd := (0, zk_39_1_5_te, [], [], (.ofNat 247), [], [])
def zk_39_1_5_h1 : zHd := (34, ([((.ofNat 0), (.ofNat 120), zD0)], (((zFr.set 9 zh_9).set 10 zh_10).set 11 zh_11), [(0, (2, (.ofNat 12))), (1, (0, (.ofNat 1))), (2, (0, (.ofNat 5))), (3, (0, (.ofNat 120))), (4, (1, (.ofNat 0)))], [], 0, 0), [(0, 4, 0)], [], (.ofNat 241), [(.ofNat 2)], [])
def zk_39_1_5_hs : List zHd := [zk_39_1_5_h0, zk_39_1_5_h1]
def zk_39_1_5_or : zO_ := zor zk_39_2_5_o (zon)
theorem zk_39_1_5_oo (l : Launch) (X : zx_X) (φ : List z_C) (P : List Int → Prop) : zOk l X 2000000 φ P zk_39_1_5_or := zOk_or (zk_39_2_5_ok l X 2000000 φ P) (zOk_no l X 2000000 φ P)
theorem zk_39_1_5_r0 : zx1 2000000 (zfinC zk_39_1_5_al zk_39_1_5_h0.2.2.2.1) (zcutH zk_39_1_5_hs zk_39_1_5_h0 39 29) zk_39_1_5_or 6000 39 29 zk_39_1_5_h0.1 (zhS zk_39_1_5_h0) [] = true := by decide +kernel
theorem zk_39_1_5_r1 : zx1 2000000 (zfinC zk_39_1_5_al zk_39_1_5_h1.2.2.2.1) (zcutH zk_39_1_5_hs zk_39_1_5_h1 39 29) zk_39_1_5_or 6000 39 29 zk_39_1_5_h1.1 (zhS zk_39_1_5_h1) [] = true := by decide +kernel
theorem zk_39_1_5_c : zCon 39 29 zk_39_1_5_te [] zk_39_1_5_al := zCon_of (n := 6000) (hs := zk_39_1_5_hs) (lo := []) (c := (.ofNat 247)) (ws := []) (by decide) (by decide +kernel) zk_39_1_5_oo (List.mem_cons_self) (zAll_mem ⟨zk_39_1_5_r0, zk_39_1_5_r1, trivial⟩)
def zk_39_1_5_o : zO_ := zorcF 39 29 zk_39_1_5_te [] [] zk_39_1_5_al [9, 10, 11] [9, 10, 11]
theorem zk_39_1_5_ok (l : Launch) (X : zx_X) (XL : Nat) (φ : List z_C) (P : List Int → Prop) : zOk l X XL φ P zk_39_1_5_o := zOk_F zk_39_1_5_c (by decide +kernel) l X XL φ P
/-! readLevel -/
def zk_39_0_5_te : zA_T := ([], (((zFr.set 9 zh_9).set 10 zh_10).set 11 zh_11), [(0, (2, (.ofNat 12))), (1, (0, (.ofNat 0))), (2, (0, (.ofNat 5)))], [], 0, 0)
def zk_39_0_5_al : List zAlt := [([], [], (((zFr.set 9 zh_9).set 10 zh_10).set 11 zh_11), none)]
def zk_39_0_5_h0 : zHd := (0, zk_39_0_5_te, [], [], (.ofNat 247), [], [])
def zk_39_0_5_h1 : zHd := (34, ([((.ofNat 0), (.ofNat 120), zD0)], (((zFr.set 9 zh_9).set 10 zh_10).set 11 zh_11), [(0, (2, (.ofNat 12))), (1, (0, (.ofNat 0))), (2, (0, (.ofNat 5))), (3, (0, (.ofNat 120))), (4, (1, (.ofNat 0)))], [], 0, 0), [(0, 4, 0)], [], (.ofNat 241), [(.ofNat 2)], [])
def zk_39_0_5_hs : List zHd := [zk_39_0_5_h0, zk_39_0_5_h1]
def zk_39_0_5_or : zO_ := zor zk_39_1_5_o (zon)
theorem zk_39_0_5_oo (l : Launch) (X : zx_X) (φ : List z_C) (P : List Int → Prop) : zOk l X 2000000 φ P zk_39_0_5_or := zOk_or (zk_39_1_5_ok l X 2000000 φ P) (zOk_no l X 2000000 φ P)
theorem zk_39_0_5_r0 : zx1 2000000 (zfinC zk_39_0_5_al zk_39_0_5_h0.2.2.2.1) (zcutH zk_39_0_5_hs zk_39_0_5_h0 39 31) zk_39_0_5_or 6000 39 31 zk_39_0_5_h0.1 (zhS zk_39_0_5_h0) [] = true := by decide +kernel
theorem zk_39_0_5_r1 : zx1 2000000 (zfinC zk_39_0_5_al zk_39_0_5_h1.2.2.2.1) (zcutH zk_39_0_5_hs zk_39_0_5_h1 39 31) zk_39_0_5_or 6000 39 31 zk_39_0_5_h1.1 (zhS zk_39_0_5_h1) [] = true := by decide +kernel
theorem zk_39_0_5_c : zCon 39 31 zk_39_0_5_te [] zk_39_0_5_al := zCon_of (n := 6000) (hs := zk_39_0_5_hs) (lo := []) (c := (.ofNat 247)) (ws := []) (by decide) (by decide +kernel) zk_39_0_5_oo (List.mem_cons_self) (zAll_mem ⟨zk_39_0_5_r0, zk_39_0_5_r1, trivial⟩)
def zk_39_0_5_o : zO_ := zorcF 39 31 zk_39_0_5_te [] [] zk_39_0_5_al [9, 10, 11] [9, 10, 11]
theorem zk_39_0_5_ok (l : Launch) (X : zx_X) (XL : Nat) (φ : List z_C) (P : List Int → Prop) : zOk l X XL φ P zk_39_0_5_o := zOk_F zk_39_0_5_c (by decide +kernel) l X XL φ P
/-! readOperand -/
def zk_40_4_te : zA_T := ([], (((zFr.set 9 zh_9).set 10 zh_10).set 11 zh_11), [(0, (2, (.ofNat 12))), (1, (0, (.ofNat 4)))], [], 0, 0)
def zk_40_4_al : List zAlt := [([], [], (((zFr.set 9 zh_9).set 10 zh_10).set 11 zh_11), none)]
def zk_40_4_h0 : zHd := (0, zk_40_4_te, [], [], (.ofNat 5), [], [])
def zk_40_4_hs : List zHd := [zk_40_4_h0]
def zk_40_4_or : zO_ := zor zk_46_o (zor zk_43_o (zor zk_40_5_o (zor zk_39_0_5_o (zon))))
theorem zk_40_4_oo (l : Launch) (X : zx_X) (φ : List z_C) (P : List Int → Prop) : zOk l X 2000000 φ P zk_40_4_or := zOk_or (zk_46_ok l X 2000000 φ P) (zOk_or (zk_43_ok l X 2000000 φ P) (zOk_or (zk_40_5_ok l X 2000000 φ P) (zOk_or (zk_39_0_5_ok l X 2000000 φ P) (zOk_no l X 2000000 φ P))))
theorem zk_40_4_r0 : zx1 2000000 (zfinC zk_40_4_al zk_40_4_h0.2.2.2.1) (zcutH zk_40_4_hs zk_40_4_h0 40 33) zk_40_4_or 6000 40 33 zk_40_4_h0.1 (zhS zk_40_4_h0) [] = true := by decide +kernel
theorem zk_40_4_c : zCon 40 33 zk_40_4_te [] zk_40_4_al := zCon_of (n := 6000) (hs := zk_40_4_hs) (lo := []) (c := (.ofNat 5)) (ws := []) (by decide) (by decide +kernel) zk_40_4_oo (List.mem_cons_self) (zAll_mem ⟨zk_40_4_r0, trivial⟩)
def zk_40_4_o : zO_ := zorcF 40 33 zk_40_4_te [] [] zk_40_4_al [9, 10, 11] [9, 10, 11]
theorem zk_40_4_ok (l : Launch) (X : zx_X) (XL : Nat) (φ : List z_C) (P : List Int → Prop) : zOk l X XL φ P zk_40_4_o := zOk_F zk_40_4_c (by decide +kernel) l X XL φ P
/-! readLevel -/
def zk_39_5_4_te : zA_T := ([], (((zFr.set 9 zh_9).set 10 zh_10).set 11 zh_11), [(0, (2, (.ofNat 12))), (1, (0, (.ofNat 5))), (2, (0, (.ofNat 4)))], [], 0, 0)
def zk_39_5_4_al : List zAlt := [([], [], (((zFr.set 9 zh_9).set 10 zh_10).set 11 zh_11), none)]
def zk_39_5_4_h0 : zHd := (0, zk_39_5_4_te, [], [], (.ofNat 5), [], [])
def zk_39_5_4_hs : List zHd := [zk_39_5_4_h0]
def zk_39_5_4_or : zO_ := zor zk_40_4_o (zon)
theorem zk_39_5_4_oo (l : Launch) (X : zx_X) (φ : List z_C) (P : List Int → Prop) : zOk l X 2000000 φ P zk_39_5_4_or := zOk_or (zk_40_4_ok l X 2000000 φ P) (zOk_no l X 2000000 φ P)
theorem zk_39_5_4_r0 : zx1 2000000 (zfinC zk_39_5_4_al zk_39_5_4_h0.2.2.2.1) (zcutH zk_39_5_4_hs zk_39_5_4_h0 39 35) zk_39_5_4_or 6000 39 35 zk_39_5_4_h0.1 (zhS zk_39_5_4_h0) [] = true := by decide +kernel
theorem zk_39_5_4_c : zCon 39 35 zk_39_5_4_te [] zk_39_5_4_al := zCon_of (n := 6000) (hs := zk_39_5_4_hs) (lo := []) (c := (.ofNat 5)) (ws := []) (by decide) (by decide +kernel) zk_39_5_4_oo (List.mem_cons_self) (zAll_mem ⟨zk_39_5_4_r0, trivial⟩)
def zk_39_5_4_o : zO_ := zorcF 39 35 zk_39_5_4_te [] [] zk_39_5_4_al [9, 10, 11] [9, 10, 11]
theorem zk_39_5_4_ok (l : Launch) (X : zx_X) (XL : Nat) (φ : List z_C) (P : List Int → Prop) : zOk l X XL φ P zk_39_5_4_o := zOk_F zk_39_5_4_c (by decide +kernel) l X XL φ P
/-! readLevel -/
def zk_39_4_4_te : zA_T := ([], (((zFr.set 9 zh_9).set 10 zh_10).set 11 zh_11), [(0, (2, (.ofNat 12))), (1, (0, (.ofNat 4))), (2, (0, (.ofNat 4)))], [], 0, 0)
def zk_39_4_4_al : List zAlt := [([], [], (((zFr.set 9 zh_9).set 10 zh_10).set 11 zh_11), none)]
def zk_39_4_4_h0 : zHd := (0, zk_39_4_4_te, [], [], (.ofNat 247), [], [])
def zk_39_4_4_h1 : zHd := (34, ([((.ofNat 0), (.ofNat 120), zD0)], (((zFr.set 9 zh_9).set 10 zh_10).set 11 zh_11), [(0, (2, (.ofNat 12))), (1, (0, (.ofNat 4))), (2, (0, (.ofNat 4))), (3, (0, (.ofNat 120))), (4, (1, (.ofNat 0)))], [], 0, 0), [(0, 4, 0)], [], (.ofNat 241), [(.ofNat 2)], [])
def zk_39_4_4_hs : List zHd := [zk_39_4_4_h0, zk_39_4_4_h1]
def zk_39_4_4_or : zO_ := zor zk_39_5_4_o (zon)
theorem zk_39_4_4_oo (l : Launch) (X : zx_X) (φ : List z_C) (P : List Int → Prop) : zOk l X 2000000 φ P zk_39_4_4_or := zOk_or (zk_39_5_4_ok l X 2000000 φ P) (zOk_no l X 2000000 φ P)
theorem zk_39_4_4_r0 : zx1 2000000 (zfinC zk_39_4_4_al zk_39_4_4_h0.2.2.2.1) (zcutH zk_39_4_4_hs zk_39_4_4_h0 39 37) zk_39_4_4_or 6000 39 37 zk_39_4_4_h0.1 (zhS zk_39_4_4_h0) [] = true := by decide +kernel
theorem zk_39_4_4_r1 : zx1 2000000 (zfinC zk_39_4_4_al zk_39_4_4_h1.2.2.2.1) (zcutH zk_39_4_4_hs zk_39_4_4_h1 39 37) zk_39_4_4_or 6000 39 37 zk_39_4_4_h1.1 (zhS zk_39_4_4_h1) [] = true := by decide +kernel
theorem zk_39_4_4_c : zCon 39 37 zk_39_4_4_te [] zk_39_4_4_al := zCon_of (n := 6000) (hs := zk_39_4_4_hs) (lo := []) (c := (.ofNat 247)) (ws := []) (by decide) (by decide +kernel) zk_39_4_4_oo (List.mem_cons_self) (zAll_mem ⟨zk_39_4_4_r0, zk_39_4_4_r1, trivial⟩)
def zk_39_4_4_o : zO_ := zorcF 39 37 zk_39_4_4_te [] [] zk_39_4_4_al [9, 10, 11] [9, 10, 11]
theorem zk_39_4_4_ok (l : Launch) (X : zx_X) (XL : Nat) (φ : List z_C) (P : List Int → Prop) : zOk l X XL φ P zk_39_4_4_o := zOk_F zk_39_4_4_c (by decide +kernel) l X XL φ P
