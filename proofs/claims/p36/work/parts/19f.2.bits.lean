/-! PART 25.2: bits of the numbers 0 to 15; the states of the search for the nearest board. -/
def zHB : zA_H := (zHT.set 52 (8, 52, 0, [], [])).set 53 (8, 53, 0, [], [])
def zk9_0_te : zA_T := ([], zHB, [(0, (0, 0))], [], 0, 0)
def zk9_0_al : List zAlt := [([], [], zHB, some (0, 0))]
def zk9_0_h : zHd := (0, zk9_0_te, [], [], 5, [], [])
theorem zk9_0_r : zx1 2000000 (zfinC zk9_0_al zk9_0_h.2.2.2.1) (zcutH [zk9_0_h] zk9_0_h 209 3) zon 6000 209 3 0 (zhS zk9_0_h) [] = true := by decide +kernel
theorem zk9_0_c : zCon 209 3 zk9_0_te [] zk9_0_al := zCon_of (n := 6000) (hs := [zk9_0_h]) (lo := []) (c := 5) (ws := []) (by decide) (by decide +kernel) (fun l X φ P => zOk_no l X 2000000 φ P) (List.mem_cons_self) (zAll_mem ⟨zk9_0_r, trivial⟩)
def zk9_0_o : zO_ := zorcC 209 3 zk9_0_te [] [] zk9_0_al
theorem zk9_0_ok (l : Launch) (X : zx_X) (XL : Nat) (φ : List z_C) (P : List Int → Prop) : zOk l X XL φ P zk9_0_o := zOk_C zk9_0_c (by decide +kernel) l X XL φ P
def zk9_1_te : zA_T := ([], zHB, [(0, (0, 1))], [], 0, 0)
def zk9_1_al : List zAlt := [([], [], zHB, some (0, 1))]
def zk9_1_h : zHd := (0, zk9_1_te, [], [], 5, [], [])
theorem zk9_1_r : zx1 2000000 (zfinC zk9_1_al zk9_1_h.2.2.2.1) (zcutH [zk9_1_h] zk9_1_h 209 3) zon 6000 209 3 0 (zhS zk9_1_h) [] = true := by decide +kernel
theorem zk9_1_c : zCon 209 3 zk9_1_te [] zk9_1_al := zCon_of (n := 6000) (hs := [zk9_1_h]) (lo := []) (c := 5) (ws := []) (by decide) (by decide +kernel) (fun l X φ P => zOk_no l X 2000000 φ P) (List.mem_cons_self) (zAll_mem ⟨zk9_1_r, trivial⟩)
def zk9_1_o : zO_ := zorcC 209 3 zk9_1_te [] [] zk9_1_al
theorem zk9_1_ok (l : Launch) (X : zx_X) (XL : Nat) (φ : List z_C) (P : List Int → Prop) : zOk l X XL φ P zk9_1_o := zOk_C zk9_1_c (by decide +kernel) l X XL φ P
def zk9_2_te : zA_T := ([], zHB, [(0, (0, 2))], [], 0, 0)
def zk9_2_al : List zAlt := [([], [], zHB, some (0, 1))]
def zk9_2_h : zHd := (0, zk9_2_te, [], [], 5, [], [])
theorem zk9_2_r : zx1 2000000 (zfinC zk9_2_al zk9_2_h.2.2.2.1) (zcutH [zk9_2_h] zk9_2_h 209 3) zon 6000 209 3 0 (zhS zk9_2_h) [] = true := by decide +kernel
theorem zk9_2_c : zCon 209 3 zk9_2_te [] zk9_2_al := zCon_of (n := 6000) (hs := [zk9_2_h]) (lo := []) (c := 5) (ws := []) (by decide) (by decide +kernel) (fun l X φ P => zOk_no l X 2000000 φ P) (List.mem_cons_self) (zAll_mem ⟨zk9_2_r, trivial⟩)
def zk9_2_o : zO_ := zorcC 209 3 zk9_2_te [] [] zk9_2_al
theorem zk9_2_ok (l : Launch) (X : zx_X) (XL : Nat) (φ : List z_C) (P : List Int → Prop) : zOk l X XL φ P zk9_2_o := zOk_C zk9_2_c (by decide +kernel) l X XL φ P
def zk9_3_te : zA_T := ([], zHB, [(0, (0, 3))], [], 0, 0)
def zk9_3_al : List zAlt := [([], [], zHB, some (0, 2))]
def zk9_3_h : zHd := (0, zk9_3_te, [], [], 5, [], [])
theorem zk9_3_r : zx1 2000000 (zfinC zk9_3_al zk9_3_h.2.2.2.1) (zcutH [zk9_3_h] zk9_3_h 209 3) zon 6000 209 3 0 (zhS zk9_3_h) [] = true := by decide +kernel
theorem zk9_3_c : zCon 209 3 zk9_3_te [] zk9_3_al := zCon_of (n := 6000) (hs := [zk9_3_h]) (lo := []) (c := 5) (ws := []) (by decide) (by decide +kernel) (fun l X φ P => zOk_no l X 2000000 φ P) (List.mem_cons_self) (zAll_mem ⟨zk9_3_r, trivial⟩)
def zk9_3_o : zO_ := zorcC 209 3 zk9_3_te [] [] zk9_3_al
theorem zk9_3_ok (l : Launch) (X : zx_X) (XL : Nat) (φ : List z_C) (P : List Int → Prop) : zOk l X XL φ P zk9_3_o := zOk_C zk9_3_c (by decide +kernel) l X XL φ P
def zk9_4_te : zA_T := ([], zHB, [(0, (0, 4))], [], 0, 0)
def zk9_4_al : List zAlt := [([], [], zHB, some (0, 1))]
def zk9_4_h : zHd := (0, zk9_4_te, [], [], 5, [], [])
theorem zk9_4_r : zx1 2000000 (zfinC zk9_4_al zk9_4_h.2.2.2.1) (zcutH [zk9_4_h] zk9_4_h 209 3) zon 6000 209 3 0 (zhS zk9_4_h) [] = true := by decide +kernel
theorem zk9_4_c : zCon 209 3 zk9_4_te [] zk9_4_al := zCon_of (n := 6000) (hs := [zk9_4_h]) (lo := []) (c := 5) (ws := []) (by decide) (by decide +kernel) (fun l X φ P => zOk_no l X 2000000 φ P) (List.mem_cons_self) (zAll_mem ⟨zk9_4_r, trivial⟩)
def zk9_4_o : zO_ := zorcC 209 3 zk9_4_te [] [] zk9_4_al
theorem zk9_4_ok (l : Launch) (X : zx_X) (XL : Nat) (φ : List z_C) (P : List Int → Prop) : zOk l X XL φ P zk9_4_o := zOk_C zk9_4_c (by decide +kernel) l X XL φ P
def zk9_5_te : zA_T := ([], zHB, [(0, (0, 5))], [], 0, 0)
def zk9_5_al : List zAlt := [([], [], zHB, some (0, 2))]
def zk9_5_h : zHd := (0, zk9_5_te, [], [], 5, [], [])
theorem zk9_5_r : zx1 2000000 (zfinC zk9_5_al zk9_5_h.2.2.2.1) (zcutH [zk9_5_h] zk9_5_h 209 3) zon 6000 209 3 0 (zhS zk9_5_h) [] = true := by decide +kernel
theorem zk9_5_c : zCon 209 3 zk9_5_te [] zk9_5_al := zCon_of (n := 6000) (hs := [zk9_5_h]) (lo := []) (c := 5) (ws := []) (by decide) (by decide +kernel) (fun l X φ P => zOk_no l X 2000000 φ P) (List.mem_cons_self) (zAll_mem ⟨zk9_5_r, trivial⟩)
def zk9_5_o : zO_ := zorcC 209 3 zk9_5_te [] [] zk9_5_al
theorem zk9_5_ok (l : Launch) (X : zx_X) (XL : Nat) (φ : List z_C) (P : List Int → Prop) : zOk l X XL φ P zk9_5_o := zOk_C zk9_5_c (by decide +kernel) l X XL φ P
def zk9_6_te : zA_T := ([], zHB, [(0, (0, 6))], [], 0, 0)
def zk9_6_al : List zAlt := [([], [], zHB, some (0, 2))]
def zk9_6_h : zHd := (0, zk9_6_te, [], [], 5, [], [])
theorem zk9_6_r : zx1 2000000 (zfinC zk9_6_al zk9_6_h.2.2.2.1) (zcutH [zk9_6_h] zk9_6_h 209 3) zon 6000 209 3 0 (zhS zk9_6_h) [] = true := by decide +kernel
theorem zk9_6_c : zCon 209 3 zk9_6_te [] zk9_6_al := zCon_of (n := 6000) (hs := [zk9_6_h]) (lo := []) (c := 5) (ws := []) (by decide) (by decide +kernel) (fun l X φ P => zOk_no l X 2000000 φ P) (List.mem_cons_self) (zAll_mem ⟨zk9_6_r, trivial⟩)
def zk9_6_o : zO_ := zorcC 209 3 zk9_6_te [] [] zk9_6_al
theorem zk9_6_ok (l : Launch) (X : zx_X) (XL : Nat) (φ : List z_C) (P : List Int → Prop) : zOk l X XL φ P zk9_6_o := zOk_C zk9_6_c (by decide +kernel) l X XL φ P
def zk9_7_te : zA_T := ([], zHB, [(0, (0, 7))], [], 0, 0)
def zk9_7_al : List zAlt := [([], [], zHB, some (0, 3))]
def zk9_7_h : zHd := (0, zk9_7_te, [], [], 5, [], [])
theorem zk9_7_r : zx1 2000000 (zfinC zk9_7_al zk9_7_h.2.2.2.1) (zcutH [zk9_7_h] zk9_7_h 209 3) zon 6000 209 3 0 (zhS zk9_7_h) [] = true := by decide +kernel
theorem zk9_7_c : zCon 209 3 zk9_7_te [] zk9_7_al := zCon_of (n := 6000) (hs := [zk9_7_h]) (lo := []) (c := 5) (ws := []) (by decide) (by decide +kernel) (fun l X φ P => zOk_no l X 2000000 φ P) (List.mem_cons_self) (zAll_mem ⟨zk9_7_r, trivial⟩)
def zk9_7_o : zO_ := zorcC 209 3 zk9_7_te [] [] zk9_7_al
theorem zk9_7_ok (l : Launch) (X : zx_X) (XL : Nat) (φ : List z_C) (P : List Int → Prop) : zOk l X XL φ P zk9_7_o := zOk_C zk9_7_c (by decide +kernel) l X XL φ P
def zk9_8_te : zA_T := ([], zHB, [(0, (0, 8))], [], 0, 0)
def zk9_8_al : List zAlt := [([], [], zHB, some (0, 1))]
def zk9_8_h : zHd := (0, zk9_8_te, [], [], 5, [], [])
theorem zk9_8_r : zx1 2000000 (zfinC zk9_8_al zk9_8_h.2.2.2.1) (zcutH [zk9_8_h] zk9_8_h 209 3) zon 6000 209 3 0 (zhS zk9_8_h) [] = true := by decide +kernel
theorem zk9_8_c : zCon 209 3 zk9_8_te [] zk9_8_al := zCon_of (n := 6000) (hs := [zk9_8_h]) (lo := []) (c := 5) (ws := []) (by decide) (by decide +kernel) (fun l X φ P => zOk_no l X 2000000 φ P) (List.mem_cons_self) (zAll_mem ⟨zk9_8_r, trivial⟩)
def zk9_8_o : zO_ := zorcC 209 3 zk9_8_te [] [] zk9_8_al
theorem zk9_8_ok (l : Launch) (X : zx_X) (XL : Nat) (φ : List z_C) (P : List Int → Prop) : zOk l X XL φ P zk9_8_o := zOk_C zk9_8_c (by decide +kernel) l X XL φ P
def zk9_9_te : zA_T := ([], zHB, [(0, (0, 9))], [], 0, 0)
def zk9_9_al : List zAlt := [([], [], zHB, some (0, 2))]
def zk9_9_h : zHd := (0, zk9_9_te, [], [], 5, [], [])
theorem zk9_9_r : zx1 2000000 (zfinC zk9_9_al zk9_9_h.2.2.2.1) (zcutH [zk9_9_h] zk9_9_h 209 3) zon 6000 209 3 0 (zhS zk9_9_h) [] = true := by decide +kernel
theorem zk9_9_c : zCon 209 3 zk9_9_te [] zk9_9_al := zCon_of (n := 6000) (hs := [zk9_9_h]) (lo := []) (c := 5) (ws := []) (by decide) (by decide +kernel) (fun l X φ P => zOk_no l X 2000000 φ P) (List.mem_cons_self) (zAll_mem ⟨zk9_9_r, trivial⟩)
def zk9_9_o : zO_ := zorcC 209 3 zk9_9_te [] [] zk9_9_al
theorem zk9_9_ok (l : Launch) (X : zx_X) (XL : Nat) (φ : List z_C) (P : List Int → Prop) : zOk l X XL φ P zk9_9_o := zOk_C zk9_9_c (by decide +kernel) l X XL φ P
def zk9_10_te : zA_T := ([], zHB, [(0, (0, 10))], [], 0, 0)
def zk9_10_al : List zAlt := [([], [], zHB, some (0, 2))]
def zk9_10_h : zHd := (0, zk9_10_te, [], [], 5, [], [])
theorem zk9_10_r : zx1 2000000 (zfinC zk9_10_al zk9_10_h.2.2.2.1) (zcutH [zk9_10_h] zk9_10_h 209 3) zon 6000 209 3 0 (zhS zk9_10_h) [] = true := by decide +kernel
theorem zk9_10_c : zCon 209 3 zk9_10_te [] zk9_10_al := zCon_of (n := 6000) (hs := [zk9_10_h]) (lo := []) (c := 5) (ws := []) (by decide) (by decide +kernel) (fun l X φ P => zOk_no l X 2000000 φ P) (List.mem_cons_self) (zAll_mem ⟨zk9_10_r, trivial⟩)
def zk9_10_o : zO_ := zorcC 209 3 zk9_10_te [] [] zk9_10_al
theorem zk9_10_ok (l : Launch) (X : zx_X) (XL : Nat) (φ : List z_C) (P : List Int → Prop) : zOk l X XL φ P zk9_10_o := zOk_C zk9_10_c (by decide +kernel) l X XL φ P
def zk9_11_te : zA_T := ([], zHB, [(0, (0, 11))], [], 0, 0)
def zk9_11_al : List zAlt := [([], [], zHB, some (0, 3))]
def zk9_11_h : zHd := (0, zk9_11_te, [], [], 5, [], [])
theorem zk9_11_r : zx1 2000000 (zfinC zk9_11_al zk9_11_h.2.2.2.1) (zcutH [zk9_11_h] zk9_11_h 209 3) zon 6000 209 3 0 (zhS zk9_11_h) [] = true := by decide +kernel
theorem zk9_11_c : zCon 209 3 zk9_11_te [] zk9_11_al := zCon_of (n := 6000) (hs := [zk9_11_h]) (lo := []) (c := 5) (ws := []) (by decide) (by decide +kernel) (fun l X φ P => zOk_no l X 2000000 φ P) (List.mem_cons_self) (zAll_mem ⟨zk9_11_r, trivial⟩)
def zk9_11_o : zO_ := zorcC 209 3 zk9_11_te [] [] zk9_11_al
theorem zk9_11_ok (l : Launch) (X : zx_X) (XL : Nat) (φ : List z_C) (P : List Int → Prop) : zOk l X XL φ P zk9_11_o := zOk_C zk9_11_c (by decide +kernel) l X XL φ P
def zk9_12_te : zA_T := ([], zHB, [(0, (0, 12))], [], 0, 0)
def zk9_12_al : List zAlt := [([], [], zHB, some (0, 2))]
def zk9_12_h : zHd := (0, zk9_12_te, [], [], 5, [], [])
theorem zk9_12_r : zx1 2000000 (zfinC zk9_12_al zk9_12_h.2.2.2.1) (zcutH [zk9_12_h] zk9_12_h 209 3) zon 6000 209 3 0 (zhS zk9_12_h) [] = true := by decide +kernel
theorem zk9_12_c : zCon 209 3 zk9_12_te [] zk9_12_al := zCon_of (n := 6000) (hs := [zk9_12_h]) (lo := []) (c := 5) (ws := []) (by decide) (by decide +kernel) (fun l X φ P => zOk_no l X 2000000 φ P) (List.mem_cons_self) (zAll_mem ⟨zk9_12_r, trivial⟩)
def zk9_12_o : zO_ := zorcC 209 3 zk9_12_te [] [] zk9_12_al
theorem zk9_12_ok (l : Launch) (X : zx_X) (XL : Nat) (φ : List z_C) (P : List Int → Prop) : zOk l X XL φ P zk9_12_o := zOk_C zk9_12_c (by decide +kernel) l X XL φ P
def zk9_13_te : zA_T := ([], zHB, [(0, (0, 13))], [], 0, 0)
def zk9_13_al : List zAlt := [([], [], zHB, some (0, 3))]
def zk9_13_h : zHd := (0, zk9_13_te, [], [], 5, [], [])
theorem zk9_13_r : zx1 2000000 (zfinC zk9_13_al zk9_13_h.2.2.2.1) (zcutH [zk9_13_h] zk9_13_h 209 3) zon 6000 209 3 0 (zhS zk9_13_h) [] = true := by decide +kernel
theorem zk9_13_c : zCon 209 3 zk9_13_te [] zk9_13_al := zCon_of (n := 6000) (hs := [zk9_13_h]) (lo := []) (c := 5) (ws := []) (by decide) (by decide +kernel) (fun l X φ P => zOk_no l X 2000000 φ P) (List.mem_cons_self) (zAll_mem ⟨zk9_13_r, trivial⟩)
def zk9_13_o : zO_ := zorcC 209 3 zk9_13_te [] [] zk9_13_al
theorem zk9_13_ok (l : Launch) (X : zx_X) (XL : Nat) (φ : List z_C) (P : List Int → Prop) : zOk l X XL φ P zk9_13_o := zOk_C zk9_13_c (by decide +kernel) l X XL φ P
def zk9_14_te : zA_T := ([], zHB, [(0, (0, 14))], [], 0, 0)
def zk9_14_al : List zAlt := [([], [], zHB, some (0, 3))]
def zk9_14_h : zHd := (0, zk9_14_te, [], [], 5, [], [])
theorem zk9_14_r : zx1 2000000 (zfinC zk9_14_al zk9_14_h.2.2.2.1) (zcutH [zk9_14_h] zk9_14_h 209 3) zon 6000 209 3 0 (zhS zk9_14_h) [] = true := by decide +kernel
theorem zk9_14_c : zCon 209 3 zk9_14_te [] zk9_14_al := zCon_of (n := 6000) (hs := [zk9_14_h]) (lo := []) (c := 5) (ws := []) (by decide) (by decide +kernel) (fun l X φ P => zOk_no l X 2000000 φ P) (List.mem_cons_self) (zAll_mem ⟨zk9_14_r, trivial⟩)
def zk9_14_o : zO_ := zorcC 209 3 zk9_14_te [] [] zk9_14_al
theorem zk9_14_ok (l : Launch) (X : zx_X) (XL : Nat) (φ : List z_C) (P : List Int → Prop) : zOk l X XL φ P zk9_14_o := zOk_C zk9_14_c (by decide +kernel) l X XL φ P
def zk9_15_te : zA_T := ([], zHB, [(0, (0, 15))], [], 0, 0)
def zk9_15_al : List zAlt := [([], [], zHB, some (0, 4))]
def zk9_15_h : zHd := (0, zk9_15_te, [], [], 5, [], [])
theorem zk9_15_r : zx1 2000000 (zfinC zk9_15_al zk9_15_h.2.2.2.1) (zcutH [zk9_15_h] zk9_15_h 209 3) zon 6000 209 3 0 (zhS zk9_15_h) [] = true := by decide +kernel
theorem zk9_15_c : zCon 209 3 zk9_15_te [] zk9_15_al := zCon_of (n := 6000) (hs := [zk9_15_h]) (lo := []) (c := 5) (ws := []) (by decide) (by decide +kernel) (fun l X φ P => zOk_no l X 2000000 φ P) (List.mem_cons_self) (zAll_mem ⟨zk9_15_r, trivial⟩)
def zk9_15_o : zO_ := zorcC 209 3 zk9_15_te [] [] zk9_15_al
theorem zk9_15_ok (l : Launch) (X : zx_X) (XL : Nat) (φ : List z_C) (P : List Int → Prop) : zOk l X XL φ P zk9_15_o := zOk_C zk9_15_c (by decide +kernel) l X XL φ P
def zbO : zO_ := zspl 209 0 (zor zk9_0_o (zor zk9_1_o (zor zk9_2_o (zor zk9_3_o (zor zk9_4_o (zor zk9_5_o (zor zk9_6_o (zor zk9_7_o (zor zk9_8_o (zor zk9_9_o (zor zk9_10_o (zor zk9_11_o (zor zk9_12_o (zor zk9_13_o (zor zk9_14_o (zk9_15_o))))))))))))))))
theorem zbO_ok (l : Launch) (X : zx_X) (XL : Nat) (φ : List z_C) (P : List Int → Prop) : zOk l X XL φ P zbO := zOk_spl (m0 := 209) (i := 0) (zOk_or (zk9_0_ok l X XL φ P) (zOk_or (zk9_1_ok l X XL φ P) (zOk_or (zk9_2_ok l X XL φ P) (zOk_or (zk9_3_ok l X XL φ P) (zOk_or (zk9_4_ok l X XL φ P) (zOk_or (zk9_5_ok l X XL φ P) (zOk_or (zk9_6_ok l X XL φ P) (zOk_or (zk9_7_ok l X XL φ P) (zOk_or (zk9_8_ok l X XL φ P) (zOk_or (zk9_9_ok l X XL φ P) (zOk_or (zk9_10_ok l X XL φ P) (zOk_or (zk9_11_ok l X XL φ P) (zOk_or (zk9_12_ok l X XL φ P) (zOk_or (zk9_13_ok l X XL φ P) (zOk_or (zk9_14_ok l X XL φ P) (zk9_15_ok l X XL φ P))))))))))))))))
