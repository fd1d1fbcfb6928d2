/-! PART 20.12: what methods do, best, board, byTurns, codesFor, cost, feed, firstWrong, fits, helps, ifLine, judge, law, lines, matters, minds, of, play, read, readLevel, readLine, viewsFor, win, writersOf. -/
/-! readLevel -/
def zk_39_3_0_te : zA_T := ([], zHT, [(0, (2, (.ofNat 12))), (1, (0, (.ofNat 3))), (2, (0, (.ofNat 0)))], [], 0, 0)
def zk_39_3_0_al : List zAlt := [([], [], zHT, none)]
def zk_39_3_0_h0 : zHd := (0, zk_39_3_0_te, [], [], (.ofNat 247), [], [])
def zk_39_3_0_h1 : zHd := (34, ([((.ofNat 0), (.ofNat 120), zD0)], zHT, [(0, (2, (.ofNat 12))), (1, (0, (.ofNat 3))), (2, (0, (.ofNat 0))), (3, (0, (.ofNat 120))), (4, (1, (.ofNat 0)))], [], 0, 0), [(0, 4, 0)], [], (.ofNat 241), [(.ofNat 2)], [])
def zk_39_3_0_hs : List zHd := [zk_39_3_0_h0, zk_39_3_0_h1]
def zk_39_3_0_or : zO_ := zor zk_39_4_0_o (zon)
theorem zk_39_3_0_oo (l : Launch) (X : zx_X) (φ : List z_C) (P : List Int → Prop) : zOk l X 2000000 φ P zk_39_3_0_or := zOk_or (zk_39_4_0_ok l X 2000000 φ P) (zOk_no l X 2000000 φ P)
theorem zk_39_3_0_r0 : zx1 2000000 (zfinC zk_39_3_0_al zk_39_3_0_h0.2.2.2.1) (zcutH zk_39_3_0_hs zk_39_3_0_h0 39 95) zk_39_3_0_or 6000 39 95 zk_39_3_0_h0.1 (zhS zk_39_3_0_h0) [] = true := by decide +kernel
theorem zk_39_3_0_r1 : zx1 2000000 (zfinC zk_39_3_0_al zk_39_3_0_h1.2.2.2.1) (zcutH zk_39_3_0_hs zk_39_3_0_h1 39 95) zk_39_3_0_or 6000 39 95 zk_39_3_0_h1.1 (zhS zk_39_3_0_h1) [] = true := by decide +kernel
theorem zk_39_3_0_c : zCon 39 95 zk_39_3_0_te [] zk_39_3_0_al := zCon_of (n := 6000) (hs := zk_39_3_0_hs) (lo := []) (c := (.ofNat 247)) (ws := []) (by decide) (by decide +kernel) zk_39_3_0_oo (List.mem_cons_self) (zAll_mem ⟨zk_39_3_0_r0, zk_39_3_0_r1, trivial⟩)
def zk_39_3_0_o : zO_ := zorcC 39 95 zk_39_3_0_te [] [] zk_39_3_0_al
theorem zk_39_3_0_ok (l : Launch) (X : zx_X) (XL : Nat) (φ : List z_C) (P : List Int → Prop) : zOk l X XL φ P zk_39_3_0_o := zOk_C zk_39_3_0_c (by decide +kernel) l X XL φ P
/-! readLevel -/
def zk_39_2_0_te : zA_T := ([], zHT, [(0, (2, (.ofNat 12))), (1, (0, (.ofNat 2))), (2, (0, (.ofNat 0)))], [], 0, 0)
def zk_39_2_0_al : List zAlt := [([], [], zHT, none)]
def zk_39_2_0_h0 : zHd := (0, zk_39_2_0_te, [], [], (.ofNat 9), [], [])
def zk_39_2_0_h1 : zHd := (34, ([((.ofNat 0), (.ofNat 1), zD0)], zHT, [(0, (2, (.ofNat 12))), (1, (0, (.ofNat 2))), (2, (0, (.ofNat 0))), (3, (0, (.ofNat 1))), (4, (1, (.ofNat 0)))], [], 0, 0), [(0, 4, 0)], [], (.ofNat 3), [(.ofNat 2)], [])
def zk_39_2_0_hs : List zHd := [zk_39_2_0_h0, zk_39_2_0_h1]
def zk_39_2_0_or : zO_ := zor zk_39_3_0_o (zon)
theorem zk_39_2_0_oo (l : Launch) (X : zx_X) (φ : List z_C) (P : List Int → Prop) : zOk l X 2000000 φ P zk_39_2_0_or := zOk_or (zk_39_3_0_ok l X 2000000 φ P) (zOk_no l X 2000000 φ P)
theorem zk_39_2_0_r0 : zx1 2000000 (zfinC zk_39_2_0_al zk_39_2_0_h0.2.2.2.1) (zcutH zk_39_2_0_hs zk_39_2_0_h0 39 97) zk_39_2_0_or 6000 39 97 zk_39_2_0_h0.1 (zhS zk_39_2_0_h0) [] = true := by decide +kernel
theorem zk_39_2_0_r1 : zx1 2000000 (zfinC zk_39_2_0_al zk_39_2_0_h1.2.2.2.1) (zcutH zk_39_2_0_hs zk_39_2_0_h1 39 97) zk_39_2_0_or 6000 39 97 zk_39_2_0_h1.1 (zhS zk_39_2_0_h1) [] = true := by decide +kernel
theorem zk_39_2_0_c : zCon 39 97 zk_39_2_0_te [] zk_39_2_0_al := zCon_of (n := 6000) (hs := zk_39_2_0_hs) (lo := []) (c := (.ofNat 9)) (ws := []) (by decide) (by decide +kernel) zk_39_2_0_oo (List.mem_cons_self) (zAll_mem ⟨zk_39_2_0_r0, zk_39_2_0_r1, trivial⟩)
def zk_39_2_0_o : zO_ := zorcC 39 97 zk_39_2_0_te [] [] zk_39_2_0_al
theorem zk_39_2_0_ok (l : Launch) (X : zx_X) (XL : Nat) (φ : List z_C) (P : List Int → Prop) : zOk l X XL φ P zk_39_2_0_o := zOk_C zk_39_2_0_c (by decide +kernel) l X XL φ P
/-! readLevel -/
def zk_39_1_0_te : zA_T := ([], zHT, [(0, (2, (.ofNat 12))), (1, (0, (.ofNat 1))), (2, (0, (.ofNat 0)))], [], 0, 0)
def zk_39_1_0_al : List zAlt := [([], [], zHT, none)]
def zk_39_1_0_h0 : zHd := (0, zk_39_1_0_te, [], [], (.ofNat 247), [], [])
def zk_39_1_0_h1 : zHd := (34, ([((.ofNat 0), (.ofNat 120), zD0)], zHT, [(0, (2, (.ofNat 12))), (1, (0, (.ofNat 1))), (2, (0, (.ofNat 0))), (3, (0, (.ofNat 120))), (4, (1, (.ofNat 0)))], [], 0, 0), [(0, 4, 0)], [], (.ofNat 241), [(.ofNat 2)], [])
def zk_39_1_0_hs : List zHd := [zk_39_1_0_h0, zk_39_1_0_h1]
def zk_39_1_0_or : zO_ := zor zk_39_2_0_o (zon)
theorem zk_39_1_0_oo (l : Launch) (X : zx_X) (φ : List z_C) (P : List Int → Prop) : zOk l X 2000000 φ P zk_39_1_0_or := zOk_or (zk_39_2_0_ok l X 2000000 φ P) (zOk_no l X 2000000 φ P)
theorem zk_39_1_0_r0 : zx1 2000000 (zfinC zk_39_1_0_al zk_39_1_0_h0.2.2.2.1) (zcutH zk_39_1_0_hs zk_39_1_0_h0 39 99) zk_39_1_0_or 6000 39 99 zk_39_1_0_h0.1 (zhS zk_39_1_0_h0) [] = true := by decide +kernel
theorem zk_39_1_0_r1 : zx1 2000000 (zfinC zk_39_1_0_al zk_39_1_0_h1.2.2.2.1) (zcutH zk_39_1_0_hs zk_39_1_0_h1 39 99) zk_39_1_0_or 6000 39 99 zk_39_1_0_h1.1 (zhS zk_39_1_0_h1) [] = true := by decide +kernel
theorem zk_39_1_0_c : zCon 39 99 zk_39_1_0_te [] zk_39_1_0_al := zCon_of (n := 6000) (hs := zk_39_1_0_hs) (lo := []) (c := (.ofNat 247)) (ws := []) (by decide) (by decide +kernel) zk_39_1_0_oo (List.mem_cons_self) (zAll_mem ⟨zk_39_1_0_r0, zk_39_1_0_r1, trivial⟩)
def zk_39_1_0_o : zO_ := zorcC 39 99 zk_39_1_0_te [] [] zk_39_1_0_al
theorem zk_39_1_0_ok (l : Launch) (X : zx_X) (XL : Nat) (φ : List z_C) (P : List Int → Prop) : zOk l X XL φ P zk_39_1_0_o := zOk_C zk_39_1_0_c (by decide +kernel) l X XL φ P
/-! readLevel -/
def zk_39_0_0_te : zA_T := ([], zHT, [(0, (2, (.ofNat 12))), (1, (0, (.ofNat 0))), (2, (0, (.ofNat 0)))], [], 0, 0)
def zk_39_0_0_al : List zAlt := [([], [], zHT, none)]
def zk_39_0_0_h0 : zHd := (0, zk_39_0_0_te, [], [], (.ofNat 247), [], [])
def zk_39_0_0_h1 : zHd := (34, ([((.ofNat 0), (.ofNat 120), zD0)], zHT, [(0, (2, (.ofNat 12))), (1, (0, (.ofNat 0))), (2, (0, (.ofNat 0))), (3, (0, (.ofNat 120))), (4, (1, (.ofNat 0)))], [], 0, 0), [(0, 4, 0)], [], (.ofNat 241), [(.ofNat 2)], [])
def zk_39_0_0_hs : List zHd := [zk_39_0_0_h0, zk_39_0_0_h1]
def zk_39_0_0_or : zO_ := zor zk_39_1_0_o (zon)
theorem zk_39_0_0_oo (l : Launch) (X : zx_X) (φ : List z_C) (P : List Int → Prop) : zOk l X 2000000 φ P zk_39_0_0_or := zOk_or (zk_39_1_0_ok l X 2000000 φ P) (zOk_no l X 2000000 φ P)
theorem zk_39_0_0_r0 : zx1 2000000 (zfinC zk_39_0_0_al zk_39_0_0_h0.2.2.2.1) (zcutH zk_39_0_0_hs zk_39_0_0_h0 39 101) zk_39_0_0_or 6000 39 101 zk_39_0_0_h0.1 (zhS zk_39_0_0_h0) [] = true := by decide +kernel
theorem zk_39_0_0_r1 : zx1 2000000 (zfinC zk_39_0_0_al zk_39_0_0_h1.2.2.2.1) (zcutH zk_39_0_0_hs zk_39_0_0_h1 39 101) zk_39_0_0_or 6000 39 101 zk_39_0_0_h1.1 (zhS zk_39_0_0_h1) [] = true := by decide +kernel
theorem zk_39_0_0_c : zCon 39 101 zk_39_0_0_te [] zk_39_0_0_al := zCon_of (n := 6000) (hs := zk_39_0_0_hs) (lo := []) (c := (.ofNat 247)) (ws := []) (by decide) (by decide +kernel) zk_39_0_0_oo (List.mem_cons_self) (zAll_mem ⟨zk_39_0_0_r0, zk_39_0_0_r1, trivial⟩)
def zk_39_0_0_o : zO_ := zorcC 39 101 zk_39_0_0_te [] [] zk_39_0_0_al
theorem zk_39_0_0_ok (l : Launch) (X : zx_X) (XL : Nat) (φ : List z_C) (P : List Int → Prop) : zOk l X XL φ P zk_39_0_0_o := zOk_C zk_39_0_0_c (by decide +kernel) l X XL φ P
/-! readLine -/
def zk_38_te : zA_T := ([], zHT, [(0, (2, (.ofNat 12)))], [], 0, 0)
def zk_38_al : List zAlt := [([], [], zHT, none)]
def zk_38_h0 : zHd := (0, zk_38_te, [], [], (.ofNat 5), [], [])
def zk_38_hs : List zHd := [zk_38_h0]
def zk_38_or : zO_ := zor zk_39_0_0_o (zon)
theorem zk_38_oo (l : Launch) (X : zx_X) (φ : List z_C) (P : List Int → Prop) : zOk l X 2000000 φ P zk_38_or := zOk_or (zk_39_0_0_ok l X 2000000 φ P) (zOk_no l X 2000000 φ P)
theorem zk_38_r0 : zx1 2000000 (zfinC zk_38_al zk_38_h0.2.2.2.1) (zcutH zk_38_hs zk_38_h0 38 103) zk_38_or 6000 38 103 zk_38_h0.1 (zhS zk_38_h0) [] = true := by decide +kernel
theorem zk_38_c : zCon 38 103 zk_38_te [] zk_38_al := zCon_of (n := 6000) (hs := zk_38_hs) (lo := []) (c := (.ofNat 5)) (ws := []) (by decide) (by decide +kernel) zk_38_oo (List.mem_cons_self) (zAll_mem ⟨zk_38_r0, trivial⟩)
def zk_38_o : zO_ := zorcC 38 103 zk_38_te [] [] zk_38_al
theorem zk_38_ok (l : Launch) (X : zx_X) (XL : Nat) (φ : List z_C) (P : List Int → Prop) : zOk l X XL φ P zk_38_o := zOk_C zk_38_c (by decide +kernel) l X XL φ P
/-! read -/
def zk_37_te : zA_T := ([], zHT, [(0, (2, (.ofNat 12)))], [], 0, 0)
def zk_37_al : List zAlt := [([((.negSucc 0), (.ofNat 120), none)], [(3, 0, 0)], zHT, some (1, (.ofNat 0)))]
def zk_37_h0 : zHd := (0, zk_37_te, [], [], (.ofNat 247), [], [])
def zk_37_h1 : zHd := (21, ([((.ofNat 0), (.ofNat 120), zD0)], zHT, [(0, (2, (.ofNat 12))), (1, (1, (.ofNat 0)))], [], 0, 0), [(0, 1, 0)], [], (.ofNat 241), [(.ofNat 2)], [])
def zk_37_hs : List zHd := [zk_37_h0, zk_37_h1]
def zk_37_or : zO_ := zor zk_38_o (zon)
theorem zk_37_oo (l : Launch) (X : zx_X) (φ : List z_C) (P : List Int → Prop) : zOk l X 2000000 φ P zk_37_or := zOk_or (zk_38_ok l X 2000000 φ P) (zOk_no l X 2000000 φ P)
theorem zk_37_r0 : zx1 2000000 (zfinC zk_37_al zk_37_h0.2.2.2.1) (zcutH zk_37_hs zk_37_h0 37 105) zk_37_or 6000 37 105 zk_37_h0.1 (zhS zk_37_h0) [] = true := by decide +kernel
theorem zk_37_r1 : zx1 2000000 (zfinC zk_37_al zk_37_h1.2.2.2.1) (zcutH zk_37_hs zk_37_h1 37 105) zk_37_or 6000 37 105 zk_37_h1.1 (zhS zk_37_h1) [] = true := by decide +kernel
theorem zk_37_c : zCon 37 105 zk_37_te [] zk_37_al := zCon_of (n := 6000) (hs := zk_37_hs) (lo := []) (c := (.ofNat 247)) (ws := []) (by decide) (by decide +kernel) zk_37_oo (List.mem_cons_self) (zAll_mem ⟨zk_37_r0, zk_37_r1, trivial⟩)
def zk_37_o : zO_ := zorcC 37 105 zk_37_te [] [] zk_37_al
theorem zk_37_ok (l : Launch) (X : zx_X) (XL : Nat) (φ : List z_C) (P : List Int → Prop) : zOk l X XL φ P zk_37_o := zOk_C zk_37_c (by decide +kernel) l X XL φ P
/-! of -/
def zk_31_te : zA_T := ([((.negSucc 2147483647), (.ofNat 2147483647), zD0), ((.negSucc 2147483647), (.ofNat 2147483647), zD0)], zHT, [(0, (2, (.ofNat 3))), (1, (1, (.ofNat 0))), (2, (1, (.ofNat 1)))], [], 0, 0)
def zk_31_al : List zAlt := [([((.negSucc 2147483647), (.ofNat 2147483647), none)], [(3, 0, 0)], zHT, some (1, (.ofNat 0)))]
def zk_31_h0 : zHd := (0, zk_31_te, [(0, 1, 0), (0, 2, 0)], [], (.ofNat 5), [(.ofNat 0), (.ofNat 0)], [])
def zk_31_hs : List zHd := [zk_31_h0]
def zk_31_or : zO_ := zon
theorem zk_31_oo (l : Launch) (X : zx_X) (φ : List z_C) (P : List Int → Prop) : zOk l X 2000000 φ P zk_31_or := zOk_no l X 2000000 φ P
theorem zk_31_r0 : zx1 2000000 (zfinC zk_31_al zk_31_h0.2.2.2.1) (zcutH zk_31_hs zk_31_h0 31 4) zk_31_or 6000 31 4 zk_31_h0.1 (zhS zk_31_h0) [] = true := by decide +kernel
theorem zk_31_c : zCon 31 4 zk_31_te [] zk_31_al := zCon_of (n := 6000) (hs := zk_31_hs) (lo := [(0, 1, 0), (0, 2, 0)]) (c := (.ofNat 5)) (ws := [(.ofNat 0), (.ofNat 0)]) (by decide) (by decide +kernel) zk_31_oo (List.mem_cons_self) (zAll_mem ⟨zk_31_r0, trivial⟩)
def zk_31_o : zO_ := zorcC 31 4 zk_31_te [(0, 1, 0), (0, 2, 0)] [] zk_31_al
theorem zk_31_ok (l : Launch) (X : zx_X) (XL : Nat) (φ : List z_C) (P : List Int → Prop) : zOk l X XL φ P zk_31_o := zOk_C zk_31_c (by decide +kernel) l X XL φ P
/-! feed -/
def zk_33_te : zA_T := ([((.negSucc 2147483647), (.ofNat 2147483647), zD0)], zHT, [(0, (2, (.ofNat 3))), (1, (1, (.ofNat 0)))], [], 0, 0)
def zk_33_al : List zAlt := [([((.negSucc 2), (.ofNat 120), none)], [(3, 0, 0)], zHT, some (1, (.ofNat 0)))]
def zk_33_h0 : zHd := (0, zk_33_te, [(0, 1, 0)], [], (.ofNat 5), [(.ofNat 0)], [])
def zk_33_hs : List zHd := [zk_33_h0]
def zk_33_or : zO_ := zon
theorem zk_33_oo (l : Launch) (X : zx_X) (φ : List z_C) (P : List Int → Prop) : zOk l X 2000000 φ P zk_33_or := zOk_no l X 2000000 φ P
theorem zk_33_r0 : zx1 2000000 (zfinC zk_33_al zk_33_h0.2.2.2.1) (zcutH zk_33_hs zk_33_h0 33 3) zk_33_or 6000 33 3 zk_33_h0.1 (zhS zk_33_h0) [] = true := by decide +kernel
theorem zk_33_c : zCon 33 3 zk_33_te [] zk_33_al := zCon_of (n := 6000) (hs := zk_33_hs) (lo := [(0, 1, 0)]) (c := (.ofNat 5)) (ws := [(.ofNat 0)]) (by decide) (by decide +kernel) zk_33_oo (List.mem_cons_self) (zAll_mem ⟨zk_33_r0, trivial⟩)
def zk_33_o : zO_ := zorcC 33 3 zk_33_te [(0, 1, 0)] [] zk_33_al
theorem zk_33_ok (l : Launch) (X : zx_X) (XL : Nat) (φ : List z_C) (P : List Int → Prop) : zOk l X XL φ P zk_33_o := zOk_C zk_33_c (by decide +kernel) l X XL φ P
/-! law -/
def zk_36_te : zA_T := ([], zHT, [(0, (2, (.ofNat 3)))], [], 0, 0)
def zk_36_al : List zAlt := [([((.negSucc 219), (.ofNat 1), none)], [(3, 0, 0)], zHT, some (1, (.ofNat 0)))]
def zk_36_h0 : zHd := (0, zk_36_te, [], [], (.ofNat 5), [], [])
def zk_36_hs : List zHd := [zk_36_h0]
def zk_36_or : zO_ := zor zk_37_o (zon)
theorem zk_36_oo (l : Launch) (X : zx_X) (φ : List z_C) (P : List Int → Prop) : zOk l X 2000000 φ P zk_36_or := zOk_or (zk_37_ok l X 2000000 φ P) (zOk_no l X 2000000 φ P)
theorem zk_36_r0 : zx1 2000000 (zfinC zk_36_al zk_36_h0.2.2.2.1) (zcutH zk_36_hs zk_36_h0 36 107) zk_36_or 6000 36 107 zk_36_h0.1 (zhS zk_36_h0) [] = true := by decide +kernel
theorem zk_36_c : zCon 36 107 zk_36_te [] zk_36_al := zCon_of (n := 6000) (hs := zk_36_hs) (lo := []) (c := (.ofNat 5)) (ws := []) (by decide) (by decide +kernel) zk_36_oo (List.mem_cons_self) (zAll_mem ⟨zk_36_r0, trivial⟩)
def zk_36_o : zO_ := zorcC 36 107 zk_36_te [] [] zk_36_al
theorem zk_36_ok (l : Launch) (X : zx_X) (XL : Nat) (φ : List z_C) (P : List Int → Prop) : zOk l X XL φ P zk_36_o := zOk_C zk_36_c (by decide +kernel) l X XL φ P
/-! minds -/
def zk_50_te : zA_T := ([((.negSucc 2147483647), (.ofNat 2147483647), zD0), ((.negSucc 2147483647), (.ofNat 2147483647), zD0)], zHT, [(0, (2, (.ofNat 3))), (1, (1, (.ofNat 0))), (2, (1, (.ofNat 1)))], [], 0, 0)
def zk_50_al : List zAlt := [([((.negSucc 2147483647), (.ofNat 2147483647), none)], [(3, 0, 0)], zHT, some (1, (.ofNat 0)))]
def zk_50_h0 : zHd := (0, zk_50_te, [(0, 1, 0), (0, 2, 0)], [], (.ofNat 5), [(.ofNat 0), (.ofNat 0)], [])
def zk_50_hs : List zHd := [zk_50_h0]
def zk_50_or : zO_ := zor zk_55_o (zor zk_54_o (zon))
theorem zk_50_oo (l : Launch) (X : zx_X) (φ : List z_C) (P : List Int → Prop) : zOk l X 2000000 φ P zk_50_or := zOk_or (zk_55_ok l X 2000000 φ P) (zOk_or (zk_54_ok l X 2000000 φ P) (zOk_no l X 2000000 φ P))
theorem zk_50_r0 : zx1 2000000 (zfinC zk_50_al zk_50_h0.2.2.2.1) (zcutH zk_50_hs zk_50_h0 50 13) zk_50_or 6000 50 13 zk_50_h0.1 (zhS zk_50_h0) [] = true := by decide +kernel
theorem zk_50_c : zCon 50 13 zk_50_te [] zk_50_al := zCon_of (n := 6000) (hs := zk_50_hs) (lo := [(0, 1, 0), (0, 2, 0)]) (c := (.ofNat 5)) (ws := [(.ofNat 0), (.ofNat 0)]) (by decide) (by decide +kernel) zk_50_oo (List.mem_cons_self) (zAll_mem ⟨zk_50_r0, trivial⟩)
def zk_50_o : zO_ := zorcC 50 13 zk_50_te [(0, 1, 0), (0, 2, 0)] [] zk_50_al
theorem zk_50_ok (l : Launch) (X : zx_X) (XL : Nat) (φ : List z_C) (P : List Int → Prop) : zOk l X XL φ P zk_50_o := zOk_C zk_50_c (by decide +kernel) l X XL φ P
/-! ifLine -/
def zk_72_te : zA_T := ([((.negSucc 2147483647), (.ofNat 2147483647), zD0)], zHT, [(0, (2, (.ofNat 3))), (1, (1, (.ofNat 0)))], [], 0, 0)
def zk_72_al : List zAlt := [([((.negSucc 2147483647), (.ofNat 2147483647), none)], [(3, 0, 0)], zHT, some (1, (.ofNat 0)))]
def zk_72_h0 : zHd := (0, zk_72_te, [(0, 1, 0)], [], (.ofNat 5), [(.ofNat 0)], [])
def zk_72_hs : List zHd := [zk_72_h0]
def zk_72_or : zO_ := zor zk_54_o (zon)
theorem zk_72_oo (l : Launch) (X : zx_X) (φ : List z_C) (P : List Int → Prop) : zOk l X 2000000 φ P zk_72_or := zOk_or (zk_54_ok l X 2000000 φ P) (zOk_no l X 2000000 φ P)
theorem zk_72_r0 : zx1 2000000 (zfinC zk_72_al zk_72_h0.2.2.2.1) (zcutH zk_72_hs zk_72_h0 72 14) zk_72_or 6000 72 14 zk_72_h0.1 (zhS zk_72_h0) [] = true := by decide +kernel
theorem zk_72_c : zCon 72 14 zk_72_te [] zk_72_al := zCon_of (n := 6000) (hs := zk_72_hs) (lo := [(0, 1, 0)]) (c := (.ofNat 5)) (ws := [(.ofNat 0)]) (by decide) (by decide +kernel) zk_72_oo (List.mem_cons_self) (zAll_mem ⟨zk_72_r0, trivial⟩)
def zk_72_o : zO_ := zorcC 72 14 zk_72_te [(0, 1, 0)] [] zk_72_al
theorem zk_72_ok (l : Launch) (X : zx_X) (XL : Nat) (φ : List z_C) (P : List Int → Prop) : zOk l X XL φ P zk_72_o := zOk_C zk_72_c (by decide +kernel) l X XL φ P
/-! board -/
def zk_75_te : zA_T := ([((.negSucc 2147483647), (.ofNat 2147483647), zD0)], zHT, [(0, (2, (.ofNat 3))), (1, (1, (.ofNat 0)))], [], 0, 0)
def zk_75_al : List zAlt := [([((.negSucc 2147483647), (.ofNat 2147483647), none)], [(3, 0, 0)], zHT, some (1, (.ofNat 0)))]
def zk_75_h0 : zHd := (0, zk_75_te, [(0, 1, 0)], [], (.ofNat 5), [(.ofNat 0)], [])
def zk_75_hs : List zHd := [zk_75_h0]
def zk_75_or : zO_ := zor zk_77_o (zor zk_82_o (zon))
theorem zk_75_oo (l : Launch) (X : zx_X) (φ : List z_C) (P : List Int → Prop) : zOk l X 2000000 φ P zk_75_or := zOk_or (zk_77_ok l X 2000000 φ P) (zOk_or (zk_82_ok l X 2000000 φ P) (zOk_no l X 2000000 φ P))
theorem zk_75_r0 : zx1 2000000 (zfinC zk_75_al zk_75_h0.2.2.2.1) (zcutH zk_75_hs zk_75_h0 75 15) zk_75_or 6000 75 15 zk_75_h0.1 (zhS zk_75_h0) [] = true := by decide +kernel
theorem zk_75_c : zCon 75 15 zk_75_te [] zk_75_al := zCon_of (n := 6000) (hs := zk_75_hs) (lo := [(0, 1, 0)]) (c := (.ofNat 5)) (ws := [(.ofNat 0)]) (by decide) (by decide +kernel) zk_75_oo (List.mem_cons_self) (zAll_mem ⟨zk_75_r0, trivial⟩)
def zk_75_o : zO_ := zorcC 75 15 zk_75_te [(0, 1, 0)] [] zk_75_al
theorem zk_75_ok (l : Launch) (X : zx_X) (XL : Nat) (φ : List z_C) (P : List Int → Prop) : zOk l X XL φ P zk_75_o := zOk_C zk_75_c (by decide +kernel) l X XL φ P
/-! cost -/
def zk_83_te : zA_T := ([((.negSucc 2147483647), (.ofNat 2147483647), zD0), ((.negSucc 2147483647), (.ofNat 2147483647), zD0)], zHT, [(0, (2, (.ofNat 3))), (1, (1, (.ofNat 0))), (2, (1, (.ofNat 1)))], [], 0, 0)
def zk_83_al : List zAlt := [([((.negSucc 2147483647), (.ofNat 2147483647), none)], [(3, 0, 0)], zHT, some (1, (.ofNat 0)))]
def zk_83_h0 : zHd := (0, zk_83_te, [(0, 1, 0), (0, 2, 0)], [], (.ofNat 5), [(.ofNat 0), (.ofNat 0)], [])
def zk_83_hs : List zHd := [zk_83_h0]
def zk_83_or : zO_ := zor zk_54_o (zor zk_85_o (zon))
theorem zk_83_oo (l : Launch) (X : zx_X) (φ : List z_C) (P : List Int → Prop) : zOk l X 2000000 φ P zk_83_or := zOk_or (zk_54_ok l X 2000000 φ P) (zOk_or (zk_85_ok l X 2000000 φ P) (zOk_no l X 2000000 φ P))
theorem zk_83_r0 : zx1 2000000 (zfinC zk_83_al zk_83_h0.2.2.2.1) (zcutH zk_83_hs zk_83_h0 83 15) zk_83_or 6000 83 15 zk_83_h0.1 (zhS zk_83_h0) [] = true := by decide +kernel
theorem zk_83_c : zCon 83 15 zk_83_te [] zk_83_al := zCon_of (n := 6000) (hs := zk_83_hs) (lo := [(0, 1, 0), (0, 2, 0)]) (c := (.ofNat 5)) (ws := [(.ofNat 0), (.ofNat 0)]) (by decide) (by decide +kernel) zk_83_oo (List.mem_cons_self) (zAll_mem ⟨zk_83_r0, trivial⟩)
def zk_83_o : zO_ := zorcC 83 15 zk_83_te [(0, 1, 0), (0, 2, 0)] [] zk_83_al
theorem zk_83_ok (l : Launch) (X : zx_X) (XL : Nat) (φ : List z_C) (P : List Int → Prop) : zOk l X XL φ P zk_83_o := zOk_C zk_83_c (by decide +kernel) l X XL φ P
/-! helps -/
def zk_89_te : zA_T := ([((.negSucc 2147483647), (.ofNat 2147483647), zD0)], zHT, [(0, (2, (.ofNat 3))), (1, (1, (.ofNat 0)))], [], 0, 0)
def zk_89_al : List zAlt := [([((.negSucc 2147483647), (.ofNat 2147483647), none)], [(3, 0, 0)], zHT, some (1, (.ofNat 0)))]
def zk_89_h0 : zHd := (0, zk_89_te, [(0, 1, 0)], [], (.ofNat 5), [(.ofNat 0)], [])
def zk_89_hs : List zHd := [zk_89_h0]
def zk_89_or : zO_ := zor zk_54_o (zor zk_90_o (zon))
theorem zk_89_oo (l : Launch) (X : zx_X) (φ : List z_C) (P : List Int → Prop) : zOk l X 2000000 φ P zk_89_or := zOk_or (zk_54_ok l X 2000000 φ P) (zOk_or (zk_90_ok l X 2000000 φ P) (zOk_no l X 2000000 φ P))
theorem zk_89_r0 : zx1 2000000 (zfinC zk_89_al zk_89_h0.2.2.2.1) (zcutH zk_89_hs zk_89_h0 89 15) zk_89_or 6000 89 15 zk_89_h0.1 (zhS zk_89_h0) [] = true := by decide +kernel
theorem zk_89_c : zCon 89 15 zk_89_te [] zk_89_al := zCon_of (n := 6000) (hs := zk_89_hs) (lo := [(0, 1, 0)]) (c := (.ofNat 5)) (ws := [(.ofNat 0)]) (by decide) (by decide +kernel) zk_89_oo (List.mem_cons_self) (zAll_mem ⟨zk_89_r0, trivial⟩)
def zk_89_o : zO_ := zorcC 89 15 zk_89_te [(0, 1, 0)] [] zk_89_al
theorem zk_89_ok (l : Launch) (X : zx_X) (XL : Nat) (φ : List z_C) (P : List Int → Prop) : zOk l X XL φ P zk_89_o := zOk_C zk_89_c (by decide +kernel) l X XL φ P
/-! lines -/
def zk_93_te : zA_T := ([((.negSucc 2147483647), (.ofNat 2147483647), zD0)], zHT, [(0, (2, (.ofNat 3))), (1, (1, (.ofNat 0)))], [], 0, 0)
def zk_93_al : List zAlt := [([((.negSucc 0), (.ofNat 16777215), none)], [(3, 0, 0)], zHT, some (1, (.ofNat 0)))]
def zk_93_h0 : zHd := (0, zk_93_te, [(0, 1, 0)], [], (.ofNat 5), [(.ofNat 0)], [])
def zk_93_hs : List zHd := [zk_93_h0]
def zk_93_or : zO_ := zor zk_94_o (zor zk_99_o (zon))
theorem zk_93_oo (l : Launch) (X : zx_X) (φ : List z_C) (P : List Int → Prop) : zOk l X 2000000 φ P zk_93_or := zOk_or (zk_94_ok l X 2000000 φ P) (zOk_or (zk_99_ok l X 2000000 φ P) (zOk_no l X 2000000 φ P))
theorem zk_93_r0 : zx1 2000000 (zfinC zk_93_al zk_93_h0.2.2.2.1) (zcutH zk_93_hs zk_93_h0 93 9) zk_93_or 6000 93 9 zk_93_h0.1 (zhS zk_93_h0) [] = true := by decide +kernel
theorem zk_93_c : zCon 93 9 zk_93_te [] zk_93_al := zCon_of (n := 6000) (hs := zk_93_hs) (lo := [(0, 1, 0)]) (c := (.ofNat 5)) (ws := [(.ofNat 0)]) (by decide) (by decide +kernel) zk_93_oo (List.mem_cons_self) (zAll_mem ⟨zk_93_r0, trivial⟩)
def zk_93_o : zO_ := zorcC 93 9 zk_93_te [(0, 1, 0)] [] zk_93_al
theorem zk_93_ok (l : Launch) (X : zx_X) (XL : Nat) (φ : List z_C) (P : List Int → Prop) : zOk l X XL φ P zk_93_o := zOk_C zk_93_c (by decide +kernel) l X XL φ P
/-! win -/
def zk_100_te : zA_T := ([((.negSucc 2147483647), (.ofNat 2147483647), zD0), ((.negSucc 2147483647), (.ofNat 2147483647), zD0)], zHT, [(0, (2, (.ofNat 3))), (1, (1, (.ofNat 0))), (2, (1, (.ofNat 1)))], [], 0, 0)
def zk_100_al : List zAlt := [([((.negSucc 1), (.ofNat 4096), none)], [(3, 0, 0)], zHT, some (1, (.ofNat 0)))]
def zk_100_h0 : zHd := (0, zk_100_te, [(0, 1, 0), (0, 2, 0)], [], (.ofNat 5), [(.ofNat 0), (.ofNat 0)], [])
def zk_100_hs : List zHd := [zk_100_h0]
def zk_100_or : zO_ := zor zk_101_o (zon)
theorem zk_100_oo (l : Launch) (X : zx_X) (φ : List z_C) (P : List Int → Prop) : zOk l X 2000000 φ P zk_100_or := zOk_or (zk_101_ok l X 2000000 φ P) (zOk_no l X 2000000 φ P)
theorem zk_100_r0 : zx1 2000000 (zfinC zk_100_al zk_100_h0.2.2.2.1) (zcutH zk_100_hs zk_100_h0 100 9) zk_100_or 6000 100 9 zk_100_h0.1 (zhS zk_100_h0) [] = true := by decide +kernel
theorem zk_100_c : zCon 100 9 zk_100_te [] zk_100_al := zCon_of (n := 6000) (hs := zk_100_hs) (lo := [(0, 1, 0), (0, 2, 0)]) (c := (.ofNat 5)) (ws := [(.ofNat 0), (.ofNat 0)]) (by decide) (by decide +kernel) zk_100_oo (List.mem_cons_self) (zAll_mem ⟨zk_100_r0, trivial⟩)
def zk_100_o : zO_ := zorcC 100 9 zk_100_te [(0, 1, 0), (0, 2, 0)] [] zk_100_al
theorem zk_100_ok (l : Launch) (X : zx_X) (XL : Nat) (φ : List z_C) (P : List Int → Prop) : zOk l X XL φ P zk_100_o := zOk_C zk_100_c (by decide +kernel) l X XL φ P
/-! matters -/
def zk_102_te : zA_T := ([((.negSucc 2147483647), (.ofNat 2147483647), zD0)], zHT, [(0, (2, (.ofNat 3))), (1, (1, (.ofNat 0)))], [], 0, 0)
def zk_102_al : List zAlt := [([((.negSucc 0), (.ofNat 511), none)], [(3, 0, 0)], zHT, some (1, (.ofNat 0)))]
def zk_102_h0 : zHd := (0, zk_102_te, [(0, 1, 0)], [], (.ofNat 19), [(.ofNat 0)], [])
def zk_102_h1 : zHd := (15, ([((.ofNat 0), (.ofNat 2), zD0), ((.ofNat 0), (.ofNat 511), zD0), ((.ofNat 0), (.ofNat 6), zD0)], zHT, [(0, (2, (.ofNat 3))), (1, (1, (.ofNat 0))), (2, (1, (.ofNat 1))), (3, (1, (.ofNat 2)))], [], 0, 0), [(0, 1, 0), (0, 2, 0), (0, 3, 0)], [], (.ofNat 13), [(.ofNat 0), (.ofNat 0), (.ofNat 2)], [])
def zk_102_hs : List zHd := [zk_102_h0, zk_102_h1]
def zk_102_or : zO_ := zon
theorem zk_102_oo (l : Launch) (X : zx_X) (φ : List z_C) (P : List Int → Prop) : zOk l X 2000000 φ P zk_102_or := zOk_no l X 2000000 φ P
theorem zk_102_r0 : zx1 2000000 (zfinC zk_102_al zk_102_h0.2.2.2.1) (zcutH zk_102_hs zk_102_h0 102 3) zk_102_or 6000 102 3 zk_102_h0.1 (zhS zk_102_h0) [] = true := by decide +kernel
theorem zk_102_r1 : zx1 2000000 (zfinC zk_102_al zk_102_h1.2.2.2.1) (zcutH zk_102_hs zk_102_h1 102 3) zk_102_or 6000 102 3 zk_102_h1.1 (zhS zk_102_h1) [] = true := by decide +kernel
theorem zk_102_c : zCon 102 3 zk_102_te [] zk_102_al := zCon_of (n := 6000) (hs := zk_102_hs) (lo := [(0, 1, 0)]) (c := (.ofNat 19)) (ws := [(.ofNat 0)]) (by decide) (by decide +kernel) zk_102_oo (List.mem_cons_self) (zAll_mem ⟨zk_102_r0, zk_102_r1, trivial⟩)
def zk_102_o : zO_ := zorcC 102 3 zk_102_te [(0, 1, 0)] [] zk_102_al
theorem zk_102_ok (l : Launch) (X : zx_X) (XL : Nat) (φ : List z_C) (P : List Int → Prop) : zOk l X XL φ P zk_102_o := zOk_C zk_102_c (by decide +kernel) l X XL φ P
/-! best -/
def zk_105_0_te : zA_T := ([((.ofNat 0), (.ofNat 16777215), zD0), ((.negSucc 2147483647), (.ofNat 2147483647), zD0), ((.negSucc 2147483647), (.ofNat 2147483647), zD0)], zHT, [(0, (2, (.ofNat 18))), (1, (0, (.ofNat 0))), (2, (1, (.ofNat 0))), (3, (1, (.ofNat 1))), (4, (1, (.ofNat 2)))], [], 0, 0)
def zk_105_0_al : List zAlt := [([((.negSucc 2147483647), (.ofNat 2147483647), none)], [(3, 0, 0)], zHT, some (1, (.ofNat 0)))]
def zk_105_0_h0 : zHd := (0, zk_105_0_te, [(0, 2, 0), (0, 3, 0), (0, 4, 0)], [], (.ofNat 5), [(.ofNat 0), (.ofNat 0), (.ofNat 0)], [])
def zk_105_0_hs : List zHd := [zk_105_0_h0]
def zk_105_0_or : zO_ := zon
theorem zk_105_0_oo (l : Launch) (X : zx_X) (φ : List z_C) (P : List Int → Prop) : zOk l X 2000000 φ P zk_105_0_or := zOk_no l X 2000000 φ P
theorem zk_105_0_r0 : zx1 2000000 (zfinC zk_105_0_al zk_105_0_h0.2.2.2.1) (zcutH zk_105_0_hs zk_105_0_h0 105 2) zk_105_0_or 6000 105 2 zk_105_0_h0.1 (zhS zk_105_0_h0) [] = true := by decide +kernel
theorem zk_105_0_c : zCon 105 2 zk_105_0_te [] zk_105_0_al := zCon_of (n := 6000) (hs := zk_105_0_hs) (lo := [(0, 2, 0), (0, 3, 0), (0, 4, 0)]) (c := (.ofNat 5)) (ws := [(.ofNat 0), (.ofNat 0), (.ofNat 0)]) (by decide) (by decide +kernel) zk_105_0_oo (List.mem_cons_self) (zAll_mem ⟨zk_105_0_r0, trivial⟩)
def zk_105_0_o : zO_ := zorcC 105 2 zk_105_0_te [(0, 2, 0), (0, 3, 0), (0, 4, 0)] [] zk_105_0_al
theorem zk_105_0_ok (l : Launch) (X : zx_X) (XL : Nat) (φ : List z_C) (P : List Int → Prop) : zOk l X XL φ P zk_105_0_o := zOk_C zk_105_0_c (by decide +kernel) l X XL φ P
/-! best -/
def zk_105_1_te : zA_T := ([((.ofNat 0), (.ofNat 1), zD0), ((.ofNat 0), (.ofNat 16777215), zD0), ((.negSucc 2147483647), (.ofNat 2147483647), zD0), ((.negSucc 2147483647), (.ofNat 2147483647), zD0)], zHT, [(0, (2, (.ofNat 18))), (1, (1, (.ofNat 0))), (2, (1, (.ofNat 1))), (3, (1, (.ofNat 2))), (4, (1, (.ofNat 3)))], [], 0, 0)
def zk_105_1_al : List zAlt := [([((.negSucc 2147483647), (.ofNat 2147483647), none)], [(3, 0, 0)], zHT, some (1, (.ofNat 0)))]
def zk_105_1_h0 : zHd := (0, zk_105_1_te, [(0, 1, 0), (0, 2, 0), (0, 3, 0), (0, 4, 0)], [], (.ofNat 57), [(.ofNat 0), (.ofNat 0), (.ofNat 0), (.ofNat 0)], [])
def zk_105_1_h1 : zHd := (55, ([((.ofNat 0), (.ofNat 16777215), zD0), ((.negSucc 2147483647), (.ofNat 2147483647), zD0), ((.negSucc 2147483647), (.ofNat 2147483647), zD0), ((.ofNat 0), (.ofNat 1), zD0), ((.ofNat 0), (.ofNat 1), zD0), ((.negSucc 0), (.ofNat 24), zD0), ((.negSucc 2147483647), (.ofNat 2147483647), zD0), ((.ofNat 0), (.ofNat 25), zD0)], zHT, [(0, (2, (.ofNat 18))), (1, (0, (.ofNat 1))), (2, (1, (.ofNat 0))), (3, (1, (.ofNat 1))), (4, (1, (.ofNat 2))), (5, (1, (.ofNat 3))), (6, (1, (.ofNat 4))), (7, (1, (.ofNat 5))), (8, (1, (.ofNat 6))), (9, (1, (.ofNat 7)))], [], 0, 0), [(0, 2, 0), (0, 3, 0), (0, 4, 0), (0, 5, 0), (0, 6, 0), (0, 7, 0), (0, 8, 0), (0, 9, 0)], [], (.ofNat 51), [(.ofNat 0), (.ofNat 0), (.ofNat 0), (.ofNat 0), (.ofNat 0), (.ofNat 0), (.ofNat 0), (.ofNat 2)], [])
def zk_105_1_hs : List zHd := [zk_105_1_h0, zk_105_1_h1]
def zk_105_1_or : zO_ := zor zk_55_o (zor zk_105_0_o (zon))
theorem zk_105_1_oo (l : Launch) (X : zx_X) (φ : List z_C) (P : List Int → Prop) : zOk l X 2000000 φ P zk_105_1_or := zOk_or (zk_55_ok l X 2000000 φ P) (zOk_or (zk_105_0_ok l X 2000000 φ P) (zOk_no l X 2000000 φ P))
theorem zk_105_1_r0 : zx1 2000000 (zfinC zk_105_1_al zk_105_1_h0.2.2.2.1) (zcutH zk_105_1_hs zk_105_1_h0 105 11) zk_105_1_or 6000 105 11 zk_105_1_h0.1 (zhS zk_105_1_h0) [] = true := by decide +kernel
theorem zk_105_1_r1 : zx1 2000000 (zfinC zk_105_1_al zk_105_1_h1.2.2.2.1) (zcutH zk_105_1_hs zk_105_1_h1 105 11) zk_105_1_or 6000 105 11 zk_105_1_h1.1 (zhS zk_105_1_h1) [] = true := by decide +kernel
theorem zk_105_1_c : zCon 105 11 zk_105_1_te [] zk_105_1_al := zCon_of (n := 6000) (hs := zk_105_1_hs) (lo := [(0, 1, 0), (0, 2, 0), (0, 3, 0), (0, 4, 0)]) (c := (.ofNat 57)) (ws := [(.ofNat 0), (.ofNat 0), (.ofNat 0), (.ofNat 0)]) (by decide) (by decide +kernel) zk_105_1_oo (List.mem_cons_self) (zAll_mem ⟨zk_105_1_r0, zk_105_1_r1, trivial⟩)
def zk_105_1_o : zO_ := zorcC 105 11 zk_105_1_te [(0, 1, 0), (0, 2, 0), (0, 3, 0), (0, 4, 0)] [] zk_105_1_al
theorem zk_105_1_ok (l : Launch) (X : zx_X) (XL : Nat) (φ : List z_C) (P : List Int → Prop) : zOk l X XL φ P zk_105_1_o := zOk_C zk_105_1_c (by decide +kernel) l X XL φ P
/-! best -/
def zk_105_2_te : zA_T := ([((.ofNat 0), (.ofNat 2), zD0), ((.ofNat 0), (.ofNat 16777215), zD0), ((.negSucc 2147483647), (.ofNat 2147483647), zD0), ((.negSucc 2147483647), (.ofNat 2147483647), zD0)], zHT, [(0, (2, (.ofNat 18))), (1, (1, (.ofNat 0))), (2, (1, (.ofNat 1))), (3, (1, (.ofNat 2))), (4, (1, (.ofNat 3)))], [], 0, 0)
def zk_105_2_al : List zAlt := [([((.negSucc 2147483647), (.ofNat 2147483647), none)], [(3, 0, 0)], zHT, some (1, (.ofNat 0)))]
def zk_105_2_h0 : zHd := (0, zk_105_2_te, [(0, 1, 0), (0, 2, 0), (0, 3, 0), (0, 4, 0)], [], (.ofNat 57), [(.ofNat 0), (.ofNat 0), (.ofNat 0), (.ofNat 0)], [])
def zk_105_2_h1 : zHd := (55, ([((.ofNat 1), (.ofNat 2), zD0), ((.ofNat 0), (.ofNat 16777215), zD0), ((.negSucc 2147483647), (.ofNat 2147483647), zD0), ((.negSucc 2147483647), (.ofNat 2147483647), zD0), ((.ofNat 0), (.ofNat 1), zD0), ((.ofNat 0), (.ofNat 1), zD0), ((.negSucc 0), (.ofNat 24), zD0), ((.negSucc 2147483647), (.ofNat 2147483647), zD0), ((.ofNat 0), (.ofNat 25), zD0)], zHT, [(0, (2, (.ofNat 18))), (1, (1, (.ofNat 0))), (2, (1, (.ofNat 1))), (3, (1, (.ofNat 2))), (4, (1, (.ofNat 3))), (5, (1, (.ofNat 4))), (6, (1, (.ofNat 5))), (7, (1, (.ofNat 6))), (8, (1, (.ofNat 7))), (9, (1, (.ofNat 8)))], [], 0, 0), [(0, 1, 0), (0, 2, 0), (0, 3, 0), (0, 4, 0), (0, 5, 0), (0, 6, 0), (0, 7, 0), (0, 8, 0), (0, 9, 0)], [], (.ofNat 51), [(.ofNat 0), (.ofNat 0), (.ofNat 0), (.ofNat 0), (.ofNat 0), (.ofNat 0), (.ofNat 0), (.ofNat 0), (.ofNat 2)], [])
def zk_105_2_hs : List zHd := [zk_105_2_h0, zk_105_2_h1]
def zk_105_2_or : zO_ := zor zk_55_o (zor zk_105_1_o (zon))
theorem zk_105_2_oo (l : Launch) (X : zx_X) (φ : List z_C) (P : List Int → Prop) : zOk l X 2000000 φ P zk_105_2_or := zOk_or (zk_55_ok l X 2000000 φ P) (zOk_or (zk_105_1_ok l X 2000000 φ P) (zOk_no l X 2000000 φ P))
theorem zk_105_2_r0 : zx1 2000000 (zfinC zk_105_2_al zk_105_2_h0.2.2.2.1) (zcutH zk_105_2_hs zk_105_2_h0 105 13) zk_105_2_or 6000 105 13 zk_105_2_h0.1 (zhS zk_105_2_h0) [] = true := by decide +kernel
theorem zk_105_2_r1 : zx1 2000000 (zfinC zk_105_2_al zk_105_2_h1.2.2.2.1) (zcutH zk_105_2_hs zk_105_2_h1 105 13) zk_105_2_or 6000 105 13 zk_105_2_h1.1 (zhS zk_105_2_h1) [] = true := by decide +kernel
theorem zk_105_2_c : zCon 105 13 zk_105_2_te [] zk_105_2_al := zCon_of (n := 6000) (hs := zk_105_2_hs) (lo := [(0, 1, 0), (0, 2, 0), (0, 3, 0), (0, 4, 0)]) (c := (.ofNat 57)) (ws := [(.ofNat 0), (.ofNat 0), (.ofNat 0), (.ofNat 0)]) (by decide) (by decide +kernel) zk_105_2_oo (List.mem_cons_self) (zAll_mem ⟨zk_105_2_r0, zk_105_2_r1, trivial⟩)
def zk_105_2_o : zO_ := zorcC 105 13 zk_105_2_te [(0, 1, 0), (0, 2, 0), (0, 3, 0), (0, 4, 0)] [] zk_105_2_al
theorem zk_105_2_ok (l : Launch) (X : zx_X) (XL : Nat) (φ : List z_C) (P : List Int → Prop) : zOk l X XL φ P zk_105_2_o := zOk_C zk_105_2_c (by decide +kernel) l X XL φ P
/-! best -/
def zk_105_3_te : zA_T := ([((.ofNat 0), (.ofNat 3), zD0), ((.ofNat 0), (.ofNat 16777215), zD0), ((.negSucc 2147483647), (.ofNat 2147483647), zD0), ((.negSucc 2147483647), (.ofNat 2147483647), zD0)], zHT, [(0, (2, (.ofNat 18))), (1, (1, (.ofNat 0))), (2, (1, (.ofNat 1))), (3, (1, (.ofNat 2))), (4, (1, (.ofNat 3)))], [], 0, 0)
def zk_105_3_al : List zAlt := [([((.negSucc 2147483647), (.ofNat 2147483647), none)], [(3, 0, 0)], zHT, some (1, (.ofNat 0)))]
def zk_105_3_h0 : zHd := (0, zk_105_3_te, [(0, 1, 0), (0, 2, 0), (0, 3, 0), (0, 4, 0)], [], (.ofNat 57), [(.ofNat 0), (.ofNat 0), (.ofNat 0), (.ofNat 0)], [])
def zk_105_3_h1 : zHd := (55, ([((.ofNat 1), (.ofNat 3), zD0), ((.ofNat 0), (.ofNat 16777215), zD0), ((.negSucc 2147483647), (.ofNat 2147483647), zD0), ((.negSucc 2147483647), (.ofNat 2147483647), zD0), ((.ofNat 0), (.ofNat 1), zD0), ((.ofNat 0), (.ofNat 1), zD0), ((.negSucc 0), (.ofNat 24), zD0), ((.negSucc 2147483647), (.ofNat 2147483647), zD0), ((.ofNat 0), (.ofNat 25), zD0)], zHT, [(0, (2, (.ofNat 18))), (1, (1, (.ofNat 0))), (2, (1, (.ofNat 1))), (3, (1, (.ofNat 2))), (4, (1, (.ofNat 3))), (5, (1, (.ofNat 4))), (6, (1, (.ofNat 5))), (7, (1, (.ofNat 6))), (8, (1, (.ofNat 7))), (9, (1, (.ofNat 8)))], [], 0, 0), [(0, 1, 0), (0, 2, 0), (0, 3, 0), (0, 4, 0), (0, 5, 0), (0, 6, 0), (0, 7, 0), (0, 8, 0), (0, 9, 0)], [], (.ofNat 51), [(.ofNat 0), (.ofNat 0), (.ofNat 0), (.ofNat 0), (.ofNat 0), (.ofNat 0), (.ofNat 0), (.ofNat 0), (.ofNat 2)], [])
def zk_105_3_hs : List zHd := [zk_105_3_h0, zk_105_3_h1]
def zk_105_3_or : zO_ := zor zk_55_o (zor zk_105_2_o (zon))
theorem zk_105_3_oo (l : Launch) (X : zx_X) (φ : List z_C) (P : List Int → Prop) : zOk l X 2000000 φ P zk_105_3_or := zOk_or (zk_55_ok l X 2000000 φ P) (zOk_or (zk_105_2_ok l X 2000000 φ P) (zOk_no l X 2000000 φ P))
theorem zk_105_3_r0 : zx1 2000000 (zfinC zk_105_3_al zk_105_3_h0.2.2.2.1) (zcutH zk_105_3_hs zk_105_3_h0 105 15) zk_105_3_or 6000 105 15 zk_105_3_h0.1 (zhS zk_105_3_h0) [] = true := by decide +kernel
theorem zk_105_3_r1 : zx1 2000000 (zfinC zk_105_3_al zk_105_3_h1.2.2.2.1) (zcutH zk_105_3_hs zk_105_3_h1 105 15) zk_105_3_or 6000 105 15 zk_105_3_h1.1 (zhS zk_105_3_h1) [] = true := by decide +kernel
theorem zk_105_3_c : zCon 105 15 zk_105_3_te [] zk_105_3_al := zCon_of (n := 6000) (hs := zk_105_3_hs) (lo := [(0, 1, 0), (0, 2, 0), (0, 3, 0), (0, 4, 0)]) (c := (.ofNat 57)) (ws := [(.ofNat 0), (.ofNat 0), (.ofNat 0), (.ofNat 0)]) (by decide) (by decide +kernel) zk_105_3_oo (List.mem_cons_self) (zAll_mem ⟨zk_105_3_r0, zk_105_3_r1, trivial⟩)
def zk_105_3_o : zO_ := zorcC 105 15 zk_105_3_te [(0, 1, 0), (0, 2, 0), (0, 3, 0), (0, 4, 0)] [] zk_105_3_al
theorem zk_105_3_ok (l : Launch) (X : zx_X) (XL : Nat) (φ : List z_C) (P : List Int → Prop) : zOk l X XL φ P zk_105_3_o := zOk_C zk_105_3_c (by decide +kernel) l X XL φ P
/-! play -/
def zk_104_te : zA_T := ([((.ofNat 0), (.ofNat 7), zD0), ((.ofNat 0), (.ofNat 7), zD0), ((.ofNat 1), (.ofNat 3), zD0)], zHT, [(0, (2, (.ofNat 18))), (1, (1, (.ofNat 0))), (2, (1, (.ofNat 1))), (3, (1, (.ofNat 2)))], [], 0, 0)
def zk_104_al : List zAlt := [([((.negSucc 2147483647), (.ofNat 2147483647), none)], [(3, 0, 0)], zHT, some (1, (.ofNat 0)))]
def zk_104_h0 : zHd := (0, zk_104_te, [(0, 1, 0), (0, 2, 0), (0, 3, 0)], [], (.ofNat 5), [(.ofNat 0), (.ofNat 0), (.ofNat 0)], [])
def zk_104_hs : List zHd := [zk_104_h0]
def zk_104_or : zO_ := zor zk_54_o (zor zk_105_3_o (zon))
theorem zk_104_oo (l : Launch) (X : zx_X) (φ : List z_C) (P : List Int → Prop) : zOk l X 2000000 φ P zk_104_or := zOk_or (zk_54_ok l X 2000000 φ P) (zOk_or (zk_105_3_ok l X 2000000 φ P) (zOk_no l X 2000000 φ P))
theorem zk_104_r0 : zx1 2000000 (zfinC zk_104_al zk_104_h0.2.2.2.1) (zcutH zk_104_hs zk_104_h0 104 17) zk_104_or 6000 104 17 zk_104_h0.1 (zhS zk_104_h0) [] = true := by decide +kernel
theorem zk_104_c : zCon 104 17 zk_104_te [] zk_104_al := zCon_of (n := 6000) (hs := zk_104_hs) (lo := [(0, 1, 0), (0, 2, 0), (0, 3, 0)]) (c := (.ofNat 5)) (ws := [(.ofNat 0), (.ofNat 0), (.ofNat 0)]) (by decide) (by decide +kernel) zk_104_oo (List.mem_cons_self) (zAll_mem ⟨zk_104_r0, trivial⟩)
def zk_104_o : zO_ := zorcC 104 17 zk_104_te [(0, 1, 0), (0, 2, 0), (0, 3, 0)] [] zk_104_al
theorem zk_104_ok (l : Launch) (X : zx_X) (XL : Nat) (φ : List z_C) (P : List Int → Prop) : zOk l X XL φ P zk_104_o := zOk_C zk_104_c (by decide +kernel) l X XL φ P
/-! byTurns -/
def zk_103_te : zA_T := ([((.negSucc 2147483647), (.ofNat 2147483647), zD0), ((.negSucc 2147483647), (.ofNat 2147483647), zD0)], zHT, [(0, (2, (.ofNat 3))), (1, (1, (.ofNat 0))), (2, (1, (.ofNat 1)))], [], 0, 0)
def zk_103_al : List zAlt := [([((.negSucc 2147483647), (.ofNat 2147483647), none)], [(3, 0, 0)], zHT, some (1, (.ofNat 0)))]
def zk_103_h0 : zHd := (0, zk_103_te, [(0, 1, 0), (0, 2, 0)], [], (.ofNat 5), [(.ofNat 0), (.ofNat 0)], [])
def zk_103_hs : List zHd := [zk_103_h0]
def zk_103_or : zO_ := zor zk_104_o (zon)
theorem zk_103_oo (l : Launch) (X : zx_X) (φ : List z_C) (P : List Int → Prop) : zOk l X 2000000 φ P zk_103_or := zOk_or (zk_104_ok l X 2000000 φ P) (zOk_no l X 2000000 φ P)
theorem zk_103_r0 : zx1 2000000 (zfinC zk_103_al zk_103_h0.2.2.2.1) (zcutH zk_103_hs zk_103_h0 103 19) zk_103_or 6000 103 19 zk_103_h0.1 (zhS zk_103_h0) [] = true := by decide +kernel
theorem zk_103_c : zCon 103 19 zk_103_te [] zk_103_al := zCon_of (n := 6000) (hs := zk_103_hs) (lo := [(0, 1, 0), (0, 2, 0)]) (c := (.ofNat 5)) (ws := [(.ofNat 0), (.ofNat 0)]) (by decide) (by decide +kernel) zk_103_oo (List.mem_cons_self) (zAll_mem ⟨zk_103_r0, trivial⟩)
def zk_103_o : zO_ := zorcC 103 19 zk_103_te [(0, 1, 0), (0, 2, 0)] [] zk_103_al
theorem zk_103_ok (l : Launch) (X : zx_X) (XL : Nat) (φ : List z_C) (P : List Int → Prop) : zOk l X XL φ P zk_103_o := zOk_C zk_103_c (by decide +kernel) l X XL φ P
/-! firstWrong -/
def zk_108_0_te : zA_T := ([((.negSucc 2147483647), (.ofNat 2147483647), zD0)], zHT, [(0, (2, (.ofNat 34))), (1, (1, (.ofNat 0)))], [], 0, 0)
def zk_108_0_al : List zAlt := [([((.negSucc 1), (.ofNat 29), none)], [(3, 0, 0)], zHT, some (1, (.ofNat 0)))]
def zk_108_0_h0 : zHd := (0, zk_108_0_te, [(0, 1, 0)], [], (.ofNat 67), [(.ofNat 0)], [])
def zk_108_0_h1 : zHd := (2, ([((.negSucc 2147483647), (.ofNat 2147483647), zD0), ((.ofNat 0), (.ofNat 30), zD0)], zHT, [(0, (2, (.ofNat 34))), (1, (1, (.ofNat 0))), (2, (1, (.ofNat 1)))], [], 0, 0), [(0, 1, 0), (0, 2, 0)], [], (.ofNat 61), [(.ofNat 0), (.ofNat 2)], [])
def zk_108_0_hs : List zHd := [zk_108_0_h0, zk_108_0_h1]
def zk_108_0_or : zO_ := zon
theorem zk_108_0_oo (l : Launch) (X : zx_X) (φ : List z_C) (P : List Int → Prop) : zOk l X 2000000 φ P zk_108_0_or := zOk_no l X 2000000 φ P
theorem zk_108_0_r0 : zx1 2000000 (zfinC zk_108_0_al zk_108_0_h0.2.2.2.1) (zcutH zk_108_0_hs zk_108_0_h0 108 5) zk_108_0_or 6000 108 5 zk_108_0_h0.1 (zhS zk_108_0_h0) [] = true := by decide +kernel
theorem zk_108_0_r1 : zx1 2000000 (zfinC zk_108_0_al zk_108_0_h1.2.2.2.1) (zcutH zk_108_0_hs zk_108_0_h1 108 5) zk_108_0_or 6000 108 5 zk_108_0_h1.1 (zhS zk_108_0_h1) [] = true := by decide +kernel
theorem zk_108_0_c : zCon 108 5 zk_108_0_te [] zk_108_0_al := zCon_of (n := 6000) (hs := zk_108_0_hs) (lo := [(0, 1, 0)]) (c := (.ofNat 67)) (ws := [(.ofNat 0)]) (by decide) (by decide +kernel) zk_108_0_oo (List.mem_cons_self) (zAll_mem ⟨zk_108_0_r0, zk_108_0_r1, trivial⟩)
def zk_108_0_o : zO_ := zorcC 108 5 zk_108_0_te [(0, 1, 0)] [] zk_108_0_al
theorem zk_108_0_ok (l : Launch) (X : zx_X) (XL : Nat) (φ : List z_C) (P : List Int → Prop) : zOk l X XL φ P zk_108_0_o := zOk_C zk_108_0_c (by decide +kernel) l X XL φ P
/-! fits -/
def zk_114_0_te : zA_T := ([((.ofNat 0), (.ofNat 5), zD0), ((.ofNat 0), (.ofNat 3), zD0)], zHT, [(0, (2, (.ofNat 34))), (1, (1, (.ofNat 0))), (2, (1, (.ofNat 1)))], [], 0, 0)
def zk_114_0_al : List zAlt := [([((.ofNat 0), (.ofNat 1), none)], [(3, 0, 0)], zHT, some (1, (.ofNat 0)))]
def zk_114_0_h0 : zHd := (0, zk_114_0_te, [(0, 1, 0), (0, 2, 0)], [], (.ofNat 67), [(.ofNat 0), (.ofNat 0)], [])
def zk_114_0_h1 : zHd := (5, ([((.ofNat 0), (.ofNat 5), zD0), ((.ofNat 0), (.ofNat 3), zD0), ((.ofNat 0), (.ofNat 1), zD0), ((.ofNat 0), (.ofNat 30), zD0)], zHT, [(0, (2, (.ofNat 34))), (1, (1, (.ofNat 0))), (2, (1, (.ofNat 1))), (3, (1, (.ofNat 2))), (4, (1, (.ofNat 3)))], [], 0, 0), [(0, 1, 0), (0, 2, 0), (0, 3, 0), (0, 4, 0)], [], (.ofNat 61), [(.ofNat 0), (.ofNat 0), (.ofNat 0), (.ofNat 2)], [])
def zk_114_0_hs : List zHd := [zk_114_0_h0, zk_114_0_h1]
def zk_114_0_or : zO_ := zon
theorem zk_114_0_oo (l : Launch) (X : zx_X) (φ : List z_C) (P : List Int → Prop) : zOk l X 2000000 φ P zk_114_0_or := zOk_no l X 2000000 φ P
theorem zk_114_0_r0 : zx1 2000000 (zfinC zk_114_0_al zk_114_0_h0.2.2.2.1) (zcutH zk_114_0_hs zk_114_0_h0 114 5) zk_114_0_or 6000 114 5 zk_114_0_h0.1 (zhS zk_114_0_h0) [] = true := by decide +kernel
theorem zk_114_0_r1 : zx1 2000000 (zfinC zk_114_0_al zk_114_0_h1.2.2.2.1) (zcutH zk_114_0_hs zk_114_0_h1 114 5) zk_114_0_or 6000 114 5 zk_114_0_h1.1 (zhS zk_114_0_h1) [] = true := by decide +kernel
theorem zk_114_0_c : zCon 114 5 zk_114_0_te [] zk_114_0_al := zCon_of (n := 6000) (hs := zk_114_0_hs) (lo := [(0, 1, 0), (0, 2, 0)]) (c := (.ofNat 67)) (ws := [(.ofNat 0), (.ofNat 0)]) (by decide) (by decide +kernel) zk_114_0_oo (List.mem_cons_self) (zAll_mem ⟨zk_114_0_r0, zk_114_0_r1, trivial⟩)
def zk_114_0_o : zO_ := zorcC 114 5 zk_114_0_te [(0, 1, 0), (0, 2, 0)] [] zk_114_0_al
theorem zk_114_0_ok (l : Launch) (X : zx_X) (XL : Nat) (φ : List z_C) (P : List Int → Prop) : zOk l X XL φ P zk_114_0_o := zOk_C zk_114_0_c (by decide +kernel) l X XL φ P
/-! viewsFor -/
def zk_113_0_te : zA_T := ([((.ofNat 0), (.ofNat 5), zD0)], zHT, [(0, (2, (.ofNat 34))), (1, (1, (.ofNat 0)))], [], 0, 0)
def zk_113_0_al : List zAlt := [([((.ofNat 0), (.ofNat 15), none)], [(3, 0, 0)], zHT, some (1, (.ofNat 0)))]
def zk_113_0_h0 : zHd := (0, zk_113_0_te, [(0, 1, 0)], [], (.ofNat 15), [(.ofNat 0)], [])
def zk_113_0_h1 : zHd := (4, ([((.ofNat 0), (.ofNat 5), zD0), ((.ofNat 0), (.ofNat 15), zD0), ((.ofNat 0), (.ofNat 4), zD0)], zHT, [(0, (2, (.ofNat 34))), (1, (1, (.ofNat 0))), (2, (1, (.ofNat 1))), (3, (1, (.ofNat 2)))], [], 0, 0), [(0, 1, 0), (0, 2, 0), (0, 3, 0)], [], (.ofNat 9), [(.ofNat 0), (.ofNat 0), (.ofNat 2)], [])
def zk_113_0_hs : List zHd := [zk_113_0_h0, zk_113_0_h1]
def zk_113_0_or : zO_ := zor zk_114_0_o (zon)
theorem zk_113_0_oo (l : Launch) (X : zx_X) (φ : List z_C) (P : List Int → Prop) : zOk l X 2000000 φ P zk_113_0_or := zOk_or (zk_114_0_ok l X 2000000 φ P) (zOk_no l X 2000000 φ P)
theorem zk_113_0_r0 : zx1 2000000 (zfinC zk_113_0_al zk_113_0_h0.2.2.2.1) (zcutH zk_113_0_hs zk_113_0_h0 113 7) zk_113_0_or 6000 113 7 zk_113_0_h0.1 (zhS zk_113_0_h0) [] = true := by decide +kernel
theorem zk_113_0_r1 : zx1 2000000 (zfinC zk_113_0_al zk_113_0_h1.2.2.2.1) (zcutH zk_113_0_hs zk_113_0_h1 113 7) zk_113_0_or 6000 113 7 zk_113_0_h1.1 (zhS zk_113_0_h1) [] = true := by decide +kernel
theorem zk_113_0_c : zCon 113 7 zk_113_0_te [] zk_113_0_al := zCon_of (n := 6000) (hs := zk_113_0_hs) (lo := [(0, 1, 0)]) (c := (.ofNat 15)) (ws := [(.ofNat 0)]) (by decide) (by decide +kernel) zk_113_0_oo (List.mem_cons_self) (zAll_mem ⟨zk_113_0_r0, zk_113_0_r1, trivial⟩)
def zk_113_0_o : zO_ := zorcC 113 7 zk_113_0_te [(0, 1, 0)] [] zk_113_0_al
theorem zk_113_0_ok (l : Launch) (X : zx_X) (XL : Nat) (φ : List z_C) (P : List Int → Prop) : zOk l X XL φ P zk_113_0_o := zOk_C zk_113_0_c (by decide +kernel) l X XL φ P
/-! codesFor -/
def zk_118_0_te : zA_T := ([], zHT, [(0, (2, (.ofNat 34)))], [], 0, 0)
def zk_118_0_al : List zAlt := [([((.negSucc 2147483647), (.ofNat 2147483647), none)], [(3, 0, 0)], zHT, some (1, (.ofNat 0)))]
def zk_118_0_h0 : zHd := (0, zk_118_0_te, [], [], (.ofNat 81), [], [])
def zk_118_0_h1 : zHd := (4, ([((.ofNat 0), (.ofNat 1), zD0), ((.ofNat 0), (.ofNat 30), zD0)], zHT, [(0, (2, (.ofNat 34))), (1, (1, (.ofNat 0))), (2, (1, (.ofNat 1)))], [], 0, 0), [(0, 1, 0), (0, 2, 0)], [], (.ofNat 75), [(.ofNat 0), (.ofNat 2)], [])
def zk_118_0_h2 : zHd := (35, ([((.negSucc 2147483647), (.ofNat 2147483647), zD0), ((.ofNat 0), (.ofNat 6), zD0)], zHT, [(0, (2, (.ofNat 34))), (1, (1, (.ofNat 0))), (2, (1, (.ofNat 1)))], [], 0, 0), [(0, 1, 0), (0, 2, 0)], [], (.ofNat 13), [(.ofNat 0), (.ofNat 2)], [])
def zk_118_0_hs : List zHd := [zk_118_0_h0, zk_118_0_h1, zk_118_0_h2]
def zk_118_0_or : zO_ := zor zk_113_0_o (zon)
theorem zk_118_0_oo (l : Launch) (X : zx_X) (φ : List z_C) (P : List Int → Prop) : zOk l X 2000000 φ P zk_118_0_or := zOk_or (zk_113_0_ok l X 2000000 φ P) (zOk_no l X 2000000 φ P)
theorem zk_118_0_r0 : zx1 2000000 (zfinC zk_118_0_al zk_118_0_h0.2.2.2.1) (zcutH zk_118_0_hs zk_118_0_h0 118 9) zk_118_0_or 6000 118 9 zk_118_0_h0.1 (zhS zk_118_0_h0) [] = true := by decide +kernel
theorem zk_118_0_r1 : zx1 2000000 (zfinC zk_118_0_al zk_118_0_h1.2.2.2.1) (zcutH zk_118_0_hs zk_118_0_h1 118 9) zk_118_0_or 6000 118 9 zk_118_0_h1.1 (zhS zk_118_0_h1) [] = true := by decide +kernel
theorem zk_118_0_r2 : zx1 2000000 (zfinC zk_118_0_al zk_118_0_h2.2.2.2.1) (zcutH zk_118_0_hs zk_118_0_h2 118 9) zk_118_0_or 6000 118 9 zk_118_0_h2.1 (zhS zk_118_0_h2) [] = true := by decide +kernel
theorem zk_118_0_c : zCon 118 9 zk_118_0_te [] zk_118_0_al := zCon_of (n := 6000) (hs := zk_118_0_hs) (lo := []) (c := (.ofNat 81)) (ws := []) (by decide) (by decide +kernel) zk_118_0_oo (List.mem_cons_self) (zAll_mem ⟨zk_118_0_r0, zk_118_0_r1, zk_118_0_r2, trivial⟩)
def zk_118_0_o : zO_ := zorcC 118 9 zk_118_0_te [] [] zk_118_0_al
theorem zk_118_0_ok (l : Launch) (X : zx_X) (XL : Nat) (φ : List z_C) (P : List Int → Prop) : zOk l X XL φ P zk_118_0_o := zOk_C zk_118_0_c (by decide +kernel) l X XL φ P
/-! writersOf -/
def zk_117_0_te : zA_T := ([], zHT, [(0, (2, (.ofNat 3))), (1, (2, (.ofNat 34)))], [], 0, 0)
def zk_117_0_al : List zAlt := [([((.ofNat 0), (.ofNat 511), none)], [(3, 0, 0)], zHT, some (1, (.ofNat 0)))]
def zk_117_0_h0 : zHd := (0, zk_117_0_te, [], [], (.ofNat 23), [], [])
def zk_117_0_h1 : zHd := (4, ([((.ofNat 0), (.ofNat 511), zD0), ((.ofNat 0), (.ofNat 8), zD0)], zHT, [(0, (2, (.ofNat 3))), (1, (2, (.ofNat 34))), (2, (1, (.ofNat 0))), (3, (1, (.ofNat 1)))], [], 0, 0), [(0, 2, 0), (0, 3, 0)], [], (.ofNat 17), [(.ofNat 0), (.ofNat 2)], [])
def zk_117_0_hs : List zHd := [zk_117_0_h0, zk_117_0_h1]
def zk_117_0_or : zO_ := zor zk_108_0_o (zon)
theorem zk_117_0_oo (l : Launch) (X : zx_X) (φ : List z_C) (P : List Int → Prop) : zOk l X 2000000 φ P zk_117_0_or := zOk_or (zk_108_0_ok l X 2000000 φ P) (zOk_no l X 2000000 φ P)
theorem zk_117_0_r0 : zx1 2000000 (zfinC zk_117_0_al zk_117_0_h0.2.2.2.1) (zcutH zk_117_0_hs zk_117_0_h0 117 7) zk_117_0_or 6000 117 7 zk_117_0_h0.1 (zhS zk_117_0_h0) [] = true := by decide +kernel
theorem zk_117_0_r1 : zx1 2000000 (zfinC zk_117_0_al zk_117_0_h1.2.2.2.1) (zcutH zk_117_0_hs zk_117_0_h1 117 7) zk_117_0_or 6000 117 7 zk_117_0_h1.1 (zhS zk_117_0_h1) [] = true := by decide +kernel
theorem zk_117_0_c : zCon 117 7 zk_117_0_te [] zk_117_0_al := zCon_of (n := 6000) (hs := zk_117_0_hs) (lo := []) (c := (.ofNat 23)) (ws := []) (by decide) (by decide +kernel) zk_117_0_oo (List.mem_cons_self) (zAll_mem ⟨zk_117_0_r0, zk_117_0_r1, trivial⟩)
def zk_117_0_o : zO_ := zorcC 117 7 zk_117_0_te [] [] zk_117_0_al
theorem zk_117_0_ok (l : Launch) (X : zx_X) (XL : Nat) (φ : List z_C) (P : List Int → Prop) : zOk l X XL φ P zk_117_0_o := zOk_C zk_117_0_c (by decide +kernel) l X XL φ P
/-! firstWrong -/
def zk_108_1_te : zA_T := ([((.negSucc 2147483647), (.ofNat 2147483647), zD0)], zHT, [(0, (2, (.ofNat 36))), (1, (1, (.ofNat 0)))], [], 0, 0)
def zk_108_1_al : List zAlt := [([((.negSucc 1), (.ofNat 29), none)], [(3, 0, 0)], zHT, some (1, (.ofNat 0)))]
def zk_108_1_h0 : zHd := (0, zk_108_1_te, [(0, 1, 0)], [], (.ofNat 67), [(.ofNat 0)], [])
def zk_108_1_h1 : zHd := (2, ([((.negSucc 2147483647), (.ofNat 2147483647), zD0), ((.ofNat 0), (.ofNat 30), zD0)], zHT, [(0, (2, (.ofNat 36))), (1, (1, (.ofNat 0))), (2, (1, (.ofNat 1)))], [], 0, 0), [(0, 1, 0), (0, 2, 0)], [], (.ofNat 61), [(.ofNat 0), (.ofNat 2)], [])
def zk_108_1_hs : List zHd := [zk_108_1_h0, zk_108_1_h1]
def zk_108_1_or : zO_ := zon
theorem zk_108_1_oo (l : Launch) (X : zx_X) (φ : List z_C) (P : List Int → Prop) : zOk l X 2000000 φ P zk_108_1_or := zOk_no l X 2000000 φ P
theorem zk_108_1_r0 : zx1 2000000 (zfinC zk_108_1_al zk_108_1_h0.2.2.2.1) (zcutH zk_108_1_hs zk_108_1_h0 108 5) zk_108_1_or 6000 108 5 zk_108_1_h0.1 (zhS zk_108_1_h0) [] = true := by decide +kernel
theorem zk_108_1_r1 : zx1 2000000 (zfinC zk_108_1_al zk_108_1_h1.2.2.2.1) (zcutH zk_108_1_hs zk_108_1_h1 108 5) zk_108_1_or 6000 108 5 zk_108_1_h1.1 (zhS zk_108_1_h1) [] = true := by decide +kernel
theorem zk_108_1_c : zCon 108 5 zk_108_1_te [] zk_108_1_al := zCon_of (n := 6000) (hs := zk_108_1_hs) (lo := [(0, 1, 0)]) (c := (.ofNat 67)) (ws := [(.ofNat 0)]) (by decide) (by decide +kernel) zk_108_1_oo (List.mem_cons_self) (zAll_mem ⟨zk_108_1_r0, zk_108_1_r1, trivial⟩)
def zk_108_1_o : zO_ := zorcC 108 5 zk_108_1_te [(0, 1, 0)] [] zk_108_1_al
theorem zk_108_1_ok (l : Launch) (X : zx_X) (XL : Nat) (φ : List z_C) (P : List Int → Prop) : zOk l X XL φ P zk_108_1_o := zOk_C zk_108_1_c (by decide +kernel) l X XL φ P
/-! fits -/
def zk_114_1_te : zA_T := ([((.ofNat 0), (.ofNat 5), zD0), ((.ofNat 0), (.ofNat 3), zD0)], zHT, [(0, (2, (.ofNat 36))), (1, (1, (.ofNat 0))), (2, (1, (.ofNat 1)))], [], 0, 0)
def zk_114_1_al : List zAlt := [([((.ofNat 0), (.ofNat 1), none)], [(3, 0, 0)], zHT, some (1, (.ofNat 0)))]
def zk_114_1_h0 : zHd := (0, zk_114_1_te, [(0, 1, 0), (0, 2, 0)], [], (.ofNat 67), [(.ofNat 0), (.ofNat 0)], [])
def zk_114_1_h1 : zHd := (5, ([((.ofNat 0), (.ofNat 5), zD0), ((.ofNat 0), (.ofNat 3), zD0), ((.ofNat 0), (.ofNat 1), zD0), ((.ofNat 0), (.ofNat 30), zD0)], zHT, [(0, (2, (.ofNat 36))), (1, (1, (.ofNat 0))), (2, (1, (.ofNat 1))), (3, (1, (.ofNat 2))), (4, (1, (.ofNat 3)))], [], 0, 0), [(0, 1, 0), (0, 2, 0), (0, 3, 0), (0, 4, 0)], [], (.ofNat 61), [(.ofNat 0), (.ofNat 0), (.ofNat 0), (.ofNat 2)], [])
def zk_114_1_hs : List zHd := [zk_114_1_h0, zk_114_1_h1]
def zk_114_1_or : zO_ := zon
theorem zk_114_1_oo (l : Launch) (X : zx_X) (φ : List z_C) (P : List Int → Prop) : zOk l X 2000000 φ P zk_114_1_or := zOk_no l X 2000000 φ P
theorem zk_114_1_r0 : zx1 2000000 (zfinC zk_114_1_al zk_114_1_h0.2.2.2.1) (zcutH zk_114_1_hs zk_114_1_h0 114 5) zk_114_1_or 6000 114 5 zk_114_1_h0.1 (zhS zk_114_1_h0) [] = true := by decide +kernel
theorem zk_114_1_r1 : zx1 2000000 (zfinC zk_114_1_al zk_114_1_h1.2.2.2.1) (zcutH zk_114_1_hs zk_114_1_h1 114 5) zk_114_1_or 6000 114 5 zk_114_1_h1.1 (zhS zk_114_1_h1) [] = true := by decide +kernel
theorem zk_114_1_c : zCon 114 5 zk_114_1_te [] zk_114_1_al := zCon_of (n := 6000) (hs := zk_114_1_hs) (lo := [(0, 1, 0), (0, 2, 0)]) (c := (.ofNat 67)) (ws := [(.ofNat 0), (.ofNat 0)]) (by decide) (by decide +kernel) zk_114_1_oo (List.mem_cons_self) (zAll_mem ⟨zk_114_1_r0, zk_114_1_r1, trivial⟩)
def zk_114_1_o : zO_ := zorcC 114 5 zk_114_1_te [(0, 1, 0), (0, 2, 0)] [] zk_114_1_al
theorem zk_114_1_ok (l : Launch) (X : zx_X) (XL : Nat) (φ : List z_C) (P : List Int → Prop) : zOk l X XL φ P zk_114_1_o := zOk_C zk_114_1_c (by decide +kernel) l X XL φ P
/-! viewsFor -/
def zk_113_1_te : zA_T := ([((.ofNat 0), (.ofNat 5), zD0)], zHT, [(0, (2, (.ofNat 36))), (1, (1, (.ofNat 0)))], [], 0, 0)
def zk_113_1_al : List zAlt := [([((.ofNat 0), (.ofNat 15), none)], [(3, 0, 0)], zHT, some (1, (.ofNat 0)))]
def zk_113_1_h0 : zHd := (0, zk_113_1_te, [(0, 1, 0)], [], (.ofNat 15), [(.ofNat 0)], [])
def zk_113_1_h1 : zHd := (4, ([((.ofNat 0), (.ofNat 5), zD0), ((.ofNat 0), (.ofNat 15), zD0), ((.ofNat 0), (.ofNat 4), zD0)], zHT, [(0, (2, (.ofNat 36))), (1, (1, (.ofNat 0))), (2, (1, (.ofNat 1))), (3, (1, (.ofNat 2)))], [], 0, 0), [(0, 1, 0), (0, 2, 0), (0, 3, 0)], [], (.ofNat 9), [(.ofNat 0), (.ofNat 0), (.ofNat 2)], [])
def zk_113_1_hs : List zHd := [zk_113_1_h0, zk_113_1_h1]
def zk_113_1_or : zO_ := zor zk_114_1_o (zon)
theorem zk_113_1_oo (l : Launch) (X : zx_X) (φ : List z_C) (P : List Int → Prop) : zOk l X 2000000 φ P zk_113_1_or := zOk_or (zk_114_1_ok l X 2000000 φ P) (zOk_no l X 2000000 φ P)
theorem zk_113_1_r0 : zx1 2000000 (zfinC zk_113_1_al zk_113_1_h0.2.2.2.1) (zcutH zk_113_1_hs zk_113_1_h0 113 7) zk_113_1_or 6000 113 7 zk_113_1_h0.1 (zhS zk_113_1_h0) [] = true := by decide +kernel
theorem zk_113_1_r1 : zx1 2000000 (zfinC zk_113_1_al zk_113_1_h1.2.2.2.1) (zcutH zk_113_1_hs zk_113_1_h1 113 7) zk_113_1_or 6000 113 7 zk_113_1_h1.1 (zhS zk_113_1_h1) [] = true := by decide +kernel
theorem zk_113_1_c : zCon 113 7 zk_113_1_te [] zk_113_1_al := zCon_of (n := 6000) (hs := zk_113_1_hs) (lo := [(0, 1, 0)]) (c := (.ofNat 15)) (ws := [(.ofNat 0)]) (by decide) (by decide +kernel) zk_113_1_oo (List.mem_cons_self) (zAll_mem ⟨zk_113_1_r0, zk_113_1_r1, trivial⟩)
def zk_113_1_o : zO_ := zorcC 113 7 zk_113_1_te [(0, 1, 0)] [] zk_113_1_al
theorem zk_113_1_ok (l : Launch) (X : zx_X) (XL : Nat) (φ : List z_C) (P : List Int → Prop) : zOk l X XL φ P zk_113_1_o := zOk_C zk_113_1_c (by decide +kernel) l X XL φ P
/-! codesFor -/
def zk_118_1_te : zA_T := ([], zHT, [(0, (2, (.ofNat 36)))], [], 0, 0)
def zk_118_1_al : List zAlt := [([((.negSucc 2147483647), (.ofNat 2147483647), none)], [(3, 0, 0)], zHT, some (1, (.ofNat 0)))]
def zk_118_1_h0 : zHd := (0, zk_118_1_te, [], [], (.ofNat 81), [], [])
def zk_118_1_h1 : zHd := (4, ([((.ofNat 0), (.ofNat 1), zD0), ((.ofNat 0), (.ofNat 30), zD0)], zHT, [(0, (2, (.ofNat 36))), (1, (1, (.ofNat 0))), (2, (1, (.ofNat 1)))], [], 0, 0), [(0, 1, 0), (0, 2, 0)], [], (.ofNat 75), [(.ofNat 0), (.ofNat 2)], [])
def zk_118_1_h2 : zHd := (35, ([((.negSucc 2147483647), (.ofNat 2147483647), zD0), ((.ofNat 0), (.ofNat 6), zD0)], zHT, [(0, (2, (.ofNat 36))), (1, (1, (.ofNat 0))), (2, (1, (.ofNat 1)))], [], 0, 0), [(0, 1, 0), (0, 2, 0)], [], (.ofNat 13), [(.ofNat 0), (.ofNat 2)], [])
def zk_118_1_hs : List zHd := [zk_118_1_h0, zk_118_1_h1, zk_118_1_h2]
def zk_118_1_or : zO_ := zor zk_113_1_o (zon)
theorem zk_118_1_oo (l : Launch) (X : zx_X) (φ : List z_C) (P : List Int → Prop) : zOk l X 2000000 φ P zk_118_1_or := zOk_or (zk_113_1_ok l X 2000000 φ P) (zOk_no l X 2000000 φ P)
theorem zk_118_1_r0 : zx1 2000000 (zfinC zk_118_1_al zk_118_1_h0.2.2.2.1) (zcutH zk_118_1_hs zk_118_1_h0 118 9) zk_118_1_or 6000 118 9 zk_118_1_h0.1 (zhS zk_118_1_h0) [] = true := by decide +kernel
theorem zk_118_1_r1 : zx1 2000000 (zfinC zk_118_1_al zk_118_1_h1.2.2.2.1) (zcutH zk_118_1_hs zk_118_1_h1 118 9) zk_118_1_or 6000 118 9 zk_118_1_h1.1 (zhS zk_118_1_h1) [] = true := by decide +kernel
theorem zk_118_1_r2 : zx1 2000000 (zfinC zk_118_1_al zk_118_1_h2.2.2.2.1) (zcutH zk_118_1_hs zk_118_1_h2 118 9) zk_118_1_or 6000 118 9 zk_118_1_h2.1 (zhS zk_118_1_h2) [] = true := by decide +kernel
theorem zk_118_1_c : zCon 118 9 zk_118_1_te [] zk_118_1_al := zCon_of (n := 6000) (hs := zk_118_1_hs) (lo := []) (c := (.ofNat 81)) (ws := []) (by decide) (by decide +kernel) zk_118_1_oo (List.mem_cons_self) (zAll_mem ⟨zk_118_1_r0, zk_118_1_r1, zk_118_1_r2, trivial⟩)
def zk_118_1_o : zO_ := zorcC 118 9 zk_118_1_te [] [] zk_118_1_al
theorem zk_118_1_ok (l : Launch) (X : zx_X) (XL : Nat) (φ : List z_C) (P : List Int → Prop) : zOk l X XL φ P zk_118_1_o := zOk_C zk_118_1_c (by decide +kernel) l X XL φ P
/-! writersOf -/
def zk_117_1_te : zA_T := ([], zHT, [(0, (2, (.ofNat 3))), (1, (2, (.ofNat 36)))], [], 0, 0)
def zk_117_1_al : List zAlt := [([((.ofNat 0), (.ofNat 511), none)], [(3, 0, 0)], zHT, some (1, (.ofNat 0)))]
def zk_117_1_h0 : zHd := (0, zk_117_1_te, [], [], (.ofNat 23), [], [])
def zk_117_1_h1 : zHd := (4, ([((.ofNat 0), (.ofNat 511), zD0), ((.ofNat 0), (.ofNat 8), zD0)], zHT, [(0, (2, (.ofNat 3))), (1, (2, (.ofNat 36))), (2, (1, (.ofNat 0))), (3, (1, (.ofNat 1)))], [], 0, 0), [(0, 2, 0), (0, 3, 0)], [], (.ofNat 17), [(.ofNat 0), (.ofNat 2)], [])
def zk_117_1_hs : List zHd := [zk_117_1_h0, zk_117_1_h1]
def zk_117_1_or : zO_ := zor zk_108_1_o (zon)
theorem zk_117_1_oo (l : Launch) (X : zx_X) (φ : List z_C) (P : List Int → Prop) : zOk l X 2000000 φ P zk_117_1_or := zOk_or (zk_108_1_ok l X 2000000 φ P) (zOk_no l X 2000000 φ P)
theorem zk_117_1_r0 : zx1 2000000 (zfinC zk_117_1_al zk_117_1_h0.2.2.2.1) (zcutH zk_117_1_hs zk_117_1_h0 117 7) zk_117_1_or 6000 117 7 zk_117_1_h0.1 (zhS zk_117_1_h0) [] = true := by decide +kernel
theorem zk_117_1_r1 : zx1 2000000 (zfinC zk_117_1_al zk_117_1_h1.2.2.2.1) (zcutH zk_117_1_hs zk_117_1_h1 117 7) zk_117_1_or 6000 117 7 zk_117_1_h1.1 (zhS zk_117_1_h1) [] = true := by decide +kernel
theorem zk_117_1_c : zCon 117 7 zk_117_1_te [] zk_117_1_al := zCon_of (n := 6000) (hs := zk_117_1_hs) (lo := []) (c := (.ofNat 23)) (ws := []) (by decide) (by decide +kernel) zk_117_1_oo (List.mem_cons_self) (zAll_mem ⟨zk_117_1_r0, zk_117_1_r1, trivial⟩)
def zk_117_1_o : zO_ := zorcC 117 7 zk_117_1_te [] [] zk_117_1_al
theorem zk_117_1_ok (l : Launch) (X : zx_X) (XL : Nat) (φ : List z_C) (P : List Int → Prop) : zOk l X XL φ P zk_117_1_o := zOk_C zk_117_1_c (by decide +kernel) l X XL φ P
/-! firstWrong -/
def zk_108_2_te : zA_T := ([((.negSucc 2147483647), (.ofNat 2147483647), zD0)], zHT, [(0, (2, (.ofNat 38))), (1, (1, (.ofNat 0)))], [], 0, 0)
def zk_108_2_al : List zAlt := [([((.negSucc 1), (.ofNat 29), none)], [(3, 0, 0)], zHT, some (1, (.ofNat 0)))]
def zk_108_2_h0 : zHd := (0, zk_108_2_te, [(0, 1, 0)], [], (.ofNat 67), [(.ofNat 0)], [])
def zk_108_2_h1 : zHd := (2, ([((.negSucc 2147483647), (.ofNat 2147483647), zD0), ((.ofNat 0), (.ofNat 30), zD0)], zHT, [(0, (2, (.ofNat 38))), (1, (1, (.ofNat 0))), (2, (1, (.ofNat 1)))], [], 0, 0), [(0, 1, 0), (0, 2, 0)], [], (.ofNat 61), [(.ofNat 0), (.ofNat 2)], [])
def zk_108_2_hs : List zHd := [zk_108_2_h0, zk_108_2_h1]
def zk_108_2_or : zO_ := zon
theorem zk_108_2_oo (l : Launch) (X : zx_X) (φ : List z_C) (P : List Int → Prop) : zOk l X 2000000 φ P zk_108_2_or := zOk_no l X 2000000 φ P
theorem zk_108_2_r0 : zx1 2000000 (zfinC zk_108_2_al zk_108_2_h0.2.2.2.1) (zcutH zk_108_2_hs zk_108_2_h0 108 5) zk_108_2_or 6000 108 5 zk_108_2_h0.1 (zhS zk_108_2_h0) [] = true := by decide +kernel
theorem zk_108_2_r1 : zx1 2000000 (zfinC zk_108_2_al zk_108_2_h1.2.2.2.1) (zcutH zk_108_2_hs zk_108_2_h1 108 5) zk_108_2_or 6000 108 5 zk_108_2_h1.1 (zhS zk_108_2_h1) [] = true := by decide +kernel
theorem zk_108_2_c : zCon 108 5 zk_108_2_te [] zk_108_2_al := zCon_of (n := 6000) (hs := zk_108_2_hs) (lo := [(0, 1, 0)]) (c := (.ofNat 67)) (ws := [(.ofNat 0)]) (by decide) (by decide +kernel) zk_108_2_oo (List.mem_cons_self) (zAll_mem ⟨zk_108_2_r0, zk_108_2_r1, trivial⟩)
def zk_108_2_o : zO_ := zorcC 108 5 zk_108_2_te [(0, 1, 0)] [] zk_108_2_al
theorem zk_108_2_ok (l : Launch) (X : zx_X) (XL : Nat) (φ : List z_C) (P : List Int → Prop) : zOk l X XL φ P zk_108_2_o := zOk_C zk_108_2_c (by decide +kernel) l X XL φ P
/-! fits -/
def zk_114_2_te : zA_T := ([((.ofNat 0), (.ofNat 5), zD0), ((.ofNat 0), (.ofNat 3), zD0)], zHT, [(0, (2, (.ofNat 38))), (1, (1, (.ofNat 0))), (2, (1, (.ofNat 1)))], [], 0, 0)
def zk_114_2_al : List zAlt := [([((.ofNat 0), (.ofNat 1), none)], [(3, 0, 0)], zHT, some (1, (.ofNat 0)))]
def zk_114_2_h0 : zHd := (0, zk_114_2_te, [(0, 1, 0), (0, 2, 0)], [], (.ofNat 67), [(.ofNat 0), (.ofNat 0)], [])
def zk_114_2_h1 : zHd := (5, ([((.ofNat 0), (.ofNat 5), zD0), ((.ofNat 0), (.ofNat 3), zD0), ((.ofNat 0), (.ofNat 1), zD0), ((.ofNat 0), (.ofNat 30), zD0)], zHT, [(0, (2, (.ofNat 38))), (1, (1, (.ofNat 0))), (2, (1, (.ofNat 1))), (3, (1, (.ofNat 2))), (4, (1, (.ofNat 3)))], [], 0, 0), [(0, 1, 0), (0, 2, 0), (0, 3, 0), (0, 4, 0)], [], (.ofNat 61), [(.ofNat 0), (.ofNat 0), (.ofNat 0), (.ofNat 2)], [])
def zk_114_2_hs : List zHd := [zk_114_2_h0, zk_114_2_h1]
def zk_114_2_or : zO_ := zon
theorem zk_114_2_oo (l : Launch) (X : zx_X) (φ : List z_C) (P : List Int → Prop) : zOk l X 2000000 φ P zk_114_2_or := zOk_no l X 2000000 φ P
theorem zk_114_2_r0 : zx1 2000000 (zfinC zk_114_2_al zk_114_2_h0.2.2.2.1) (zcutH zk_114_2_hs zk_114_2_h0 114 5) zk_114_2_or 6000 114 5 zk_114_2_h0.1 (zhS zk_114_2_h0) [] = true := by decide +kernel
theorem zk_114_2_r1 : zx1 2000000 (zfinC zk_114_2_al zk_114_2_h1.2.2.2.1) (zcutH zk_114_2_hs zk_114_2_h1 114 5) zk_114_2_or 6000 114 5 zk_114_2_h1.1 (zhS zk_114_2_h1) [] = true := by decide +kernel
theorem zk_114_2_c : zCon 114 5 zk_114_2_te [] zk_114_2_al := zCon_of (n := 6000) (hs := zk_114_2_hs) (lo := [(0, 1, 0), (0, 2, 0)]) (c := (.ofNat 67)) (ws := [(.ofNat 0), (.ofNat 0)]) (by decide) (by decide +kernel) zk_114_2_oo (List.mem_cons_self) (zAll_mem ⟨zk_114_2_r0, zk_114_2_r1, trivial⟩)
def zk_114_2_o : zO_ := zorcC 114 5 zk_114_2_te [(0, 1, 0), (0, 2, 0)] [] zk_114_2_al
theorem zk_114_2_ok (l : Launch) (X : zx_X) (XL : Nat) (φ : List z_C) (P : List Int → Prop) : zOk l X XL φ P zk_114_2_o := zOk_C zk_114_2_c (by decide +kernel) l X XL φ P
/-! viewsFor -/
def zk_113_2_te : zA_T := ([((.ofNat 0), (.ofNat 5), zD0)], zHT, [(0, (2, (.ofNat 38))), (1, (1, (.ofNat 0)))], [], 0, 0)
def zk_113_2_al : List zAlt := [([((.ofNat 0), (.ofNat 15), none)], [(3, 0, 0)], zHT, some (1, (.ofNat 0)))]
def zk_113_2_h0 : zHd := (0, zk_113_2_te, [(0, 1, 0)], [], (.ofNat 15), [(.ofNat 0)], [])
def zk_113_2_h1 : zHd := (4, ([((.ofNat 0), (.ofNat 5), zD0), ((.ofNat 0), (.ofNat 15), zD0), ((.ofNat 0), (.ofNat 4), zD0)], zHT, [(0, (2, (.ofNat 38))), (1, (1, (.ofNat 0))), (2, (1, (.ofNat 1))), (3, (1, (.ofNat 2)))], [], 0, 0), [(0, 1, 0), (0, 2, 0), (0, 3, 0)], [], (.ofNat 9), [(.ofNat 0), (.ofNat 0), (.ofNat 2)], [])
def zk_113_2_hs : List zHd := [zk_113_2_h0, zk_113_2_h1]
def zk_113_2_or : zO_ := zor zk_114_2_o (zon)
theorem zk_113_2_oo (l : Launch) (X : zx_X) (φ : List z_C) (P : List Int → Prop) : zOk l X 2000000 φ P zk_113_2_or := zOk_or (zk_114_2_ok l X 2000000 φ P) (zOk_no l X 2000000 φ P)
theorem zk_113_2_r0 : zx1 2000000 (zfinC zk_113_2_al zk_113_2_h0.2.2.2.1) (zcutH zk_113_2_hs zk_113_2_h0 113 7) zk_113_2_or 6000 113 7 zk_113_2_h0.1 (zhS zk_113_2_h0) [] = true := by decide +kernel
theorem zk_113_2_r1 : zx1 2000000 (zfinC zk_113_2_al zk_113_2_h1.2.2.2.1) (zcutH zk_113_2_hs zk_113_2_h1 113 7) zk_113_2_or 6000 113 7 zk_113_2_h1.1 (zhS zk_113_2_h1) [] = true := by decide +kernel
theorem zk_113_2_c : zCon 113 7 zk_113_2_te [] zk_113_2_al := zCon_of (n := 6000) (hs := zk_113_2_hs) (lo := [(0, 1, 0)]) (c := (.ofNat 15)) (ws := [(.ofNat 0)]) (by decide) (by decide +kernel) zk_113_2_oo (List.mem_cons_self) (zAll_mem ⟨zk_113_2_r0, zk_113_2_r1, trivial⟩)
def zk_113_2_o : zO_ := zorcC 113 7 zk_113_2_te [(0, 1, 0)] [] zk_113_2_al
theorem zk_113_2_ok (l : Launch) (X : zx_X) (XL : Nat) (φ : List z_C) (P : List Int → Prop) : zOk l X XL φ P zk_113_2_o := zOk_C zk_113_2_c (by decide +kernel) l X XL φ P
/-! codesFor -/
def zk_118_2_te : zA_T := ([], zHT, [(0, (2, (.ofNat 38)))], [], 0, 0)
def zk_118_2_al : List zAlt := [([((.negSucc 2147483647), (.ofNat 2147483647), none)], [(3, 0, 0)], zHT, some (1, (.ofNat 0)))]
def zk_118_2_h0 : zHd := (0, zk_118_2_te, [], [], (.ofNat 81), [], [])
def zk_118_2_h1 : zHd := (4, ([((.ofNat 0), (.ofNat 1), zD0), ((.ofNat 0), (.ofNat 30), zD0)], zHT, [(0, (2, (.ofNat 38))), (1, (1, (.ofNat 0))), (2, (1, (.ofNat 1)))], [], 0, 0), [(0, 1, 0), (0, 2, 0)], [], (.ofNat 75), [(.ofNat 0), (.ofNat 2)], [])
def zk_118_2_h2 : zHd := (35, ([((.negSucc 2147483647), (.ofNat 2147483647), zD0), ((.ofNat 0), (.ofNat 6), zD0)], zHT, [(0, (2, (.ofNat 38))), (1, (1, (.ofNat 0))), (2, (1, (.ofNat 1)))], [], 0, 0), [(0, 1, 0), (0, 2, 0)], [], (.ofNat 13), [(.ofNat 0), (.ofNat 2)], [])
def zk_118_2_hs : List zHd := [zk_118_2_h0, zk_118_2_h1, zk_118_2_h2]
def zk_118_2_or : zO_ := zor zk_113_2_o (zon)
theorem zk_118_2_oo (l : Launch) (X : zx_X) (φ : List z_C) (P : List Int → Prop) : zOk l X 2000000 φ P zk_118_2_or := zOk_or (zk_113_2_ok l X 2000000 φ P) (zOk_no l X 2000000 φ P)
theorem zk_118_2_r0 : zx1 2000000 (zfinC zk_118_2_al zk_118_2_h0.2.2.2.1) (zcutH zk_118_2_hs zk_118_2_h0 118 9) zk_118_2_or 6000 118 9 zk_118_2_h0.1 (zhS zk_118_2_h0) [] = true := by decide +kernel
theorem zk_118_2_r1 : zx1 2000000 (zfinC zk_118_2_al zk_118_2_h1.2.2.2.1) (zcutH zk_118_2_hs zk_118_2_h1 118 9) zk_118_2_or 6000 118 9 zk_118_2_h1.1 (zhS zk_118_2_h1) [] = true := by decide +kernel
theorem zk_118_2_r2 : zx1 2000000 (zfinC zk_118_2_al zk_118_2_h2.2.2.2.1) (zcutH zk_118_2_hs zk_118_2_h2 118 9) zk_118_2_or 6000 118 9 zk_118_2_h2.1 (zhS zk_118_2_h2) [] = true := by decide +kernel
theorem zk_118_2_c : zCon 118 9 zk_118_2_te [] zk_118_2_al := zCon_of (n := 6000) (hs := zk_118_2_hs) (lo := []) (c := (.ofNat 81)) (ws := []) (by decide) (by decide +kernel) zk_118_2_oo (List.mem_cons_self) (zAll_mem ⟨zk_118_2_r0, zk_118_2_r1, zk_118_2_r2, trivial⟩)
def zk_118_2_o : zO_ := zorcC 118 9 zk_118_2_te [] [] zk_118_2_al
theorem zk_118_2_ok (l : Launch) (X : zx_X) (XL : Nat) (φ : List z_C) (P : List Int → Prop) : zOk l X XL φ P zk_118_2_o := zOk_C zk_118_2_c (by decide +kernel) l X XL φ P
/-! writersOf -/
def zk_117_2_te : zA_T := ([], zHT, [(0, (2, (.ofNat 3))), (1, (2, (.ofNat 38)))], [], 0, 0)
def zk_117_2_al : List zAlt := [([((.ofNat 0), (.ofNat 511), none)], [(3, 0, 0)], zHT, some (1, (.ofNat 0)))]
def zk_117_2_h0 : zHd := (0, zk_117_2_te, [], [], (.ofNat 23), [], [])
def zk_117_2_h1 : zHd := (4, ([((.ofNat 0), (.ofNat 511), zD0), ((.ofNat 0), (.ofNat 8), zD0)], zHT, [(0, (2, (.ofNat 3))), (1, (2, (.ofNat 38))), (2, (1, (.ofNat 0))), (3, (1, (.ofNat 1)))], [], 0, 0), [(0, 2, 0), (0, 3, 0)], [], (.ofNat 17), [(.ofNat 0), (.ofNat 2)], [])
def zk_117_2_hs : List zHd := [zk_117_2_h0, zk_117_2_h1]
def zk_117_2_or : zO_ := zor zk_108_2_o (zon)
theorem zk_117_2_oo (l : Launch) (X : zx_X) (φ : List z_C) (P : List Int → Prop) : zOk l X 2000000 φ P zk_117_2_or := zOk_or (zk_108_2_ok l X 2000000 φ P) (zOk_no l X 2000000 φ P)
theorem zk_117_2_r0 : zx1 2000000 (zfinC zk_117_2_al zk_117_2_h0.2.2.2.1) (zcutH zk_117_2_hs zk_117_2_h0 117 7) zk_117_2_or 6000 117 7 zk_117_2_h0.1 (zhS zk_117_2_h0) [] = true := by decide +kernel
theorem zk_117_2_r1 : zx1 2000000 (zfinC zk_117_2_al zk_117_2_h1.2.2.2.1) (zcutH zk_117_2_hs zk_117_2_h1 117 7) zk_117_2_or 6000 117 7 zk_117_2_h1.1 (zhS zk_117_2_h1) [] = true := by decide +kernel
theorem zk_117_2_c : zCon 117 7 zk_117_2_te [] zk_117_2_al := zCon_of (n := 6000) (hs := zk_117_2_hs) (lo := []) (c := (.ofNat 23)) (ws := []) (by decide) (by decide +kernel) zk_117_2_oo (List.mem_cons_self) (zAll_mem ⟨zk_117_2_r0, zk_117_2_r1, trivial⟩)
def zk_117_2_o : zO_ := zorcC 117 7 zk_117_2_te [] [] zk_117_2_al
theorem zk_117_2_ok (l : Launch) (X : zx_X) (XL : Nat) (φ : List z_C) (P : List Int → Prop) : zOk l X XL φ P zk_117_2_o := zOk_C zk_117_2_c (by decide +kernel) l X XL φ P
/-! firstWrong -/
def zk_108_3_te : zA_T := ([((.negSucc 2147483647), (.ofNat 2147483647), zD0)], zHT, [(0, (2, (.ofNat 40))), (1, (1, (.ofNat 0)))], [], 0, 0)
def zk_108_3_al : List zAlt := [([((.negSucc 1), (.ofNat 29), none)], [(3, 0, 0)], zHT, some (1, (.ofNat 0)))]
def zk_108_3_h0 : zHd := (0, zk_108_3_te, [(0, 1, 0)], [], (.ofNat 67), [(.ofNat 0)], [])
def zk_108_3_h1 : zHd := (2, ([((.negSucc 2147483647), (.ofNat 2147483647), zD0), ((.ofNat 0), (.ofNat 30), zD0)], zHT, [(0, (2, (.ofNat 40))), (1, (1, (.ofNat 0))), (2, (1, (.ofNat 1)))], [], 0, 0), [(0, 1, 0), (0, 2, 0)], [], (.ofNat 61), [(.ofNat 0), (.ofNat 2)], [])
def zk_108_3_hs : List zHd := [zk_108_3_h0, zk_108_3_h1]
def zk_108_3_or : zO_ := zon
theorem zk_108_3_oo (l : Launch) (X : zx_X) (φ : List z_C) (P : List Int → Prop) : zOk l X 2000000 φ P zk_108_3_or := zOk_no l X 2000000 φ P
theorem zk_108_3_r0 : zx1 2000000 (zfinC zk_108_3_al zk_108_3_h0.2.2.2.1) (zcutH zk_108_3_hs zk_108_3_h0 108 5) zk_108_3_or 6000 108 5 zk_108_3_h0.1 (zhS zk_108_3_h0) [] = true := by decide +kernel
theorem zk_108_3_r1 : zx1 2000000 (zfinC zk_108_3_al zk_108_3_h1.2.2.2.1) (zcutH zk_108_3_hs zk_108_3_h1 108 5) zk_108_3_or 6000 108 5 zk_108_3_h1.1 (zhS zk_108_3_h1) [] = true := by decide +kernel
theorem zk_108_3_c : zCon 108 5 zk_108_3_te [] zk_108_3_al := zCon_of (n := 6000) (hs := zk_108_3_hs) (lo := [(0, 1, 0)]) (c := (.ofNat 67)) (ws := [(.ofNat 0)]) (by decide) (by decide +kernel) zk_108_3_oo (List.mem_cons_self) (zAll_mem ⟨zk_108_3_r0, zk_108_3_r1, trivial⟩)
def zk_108_3_o : zO_ := zorcC 108 5 zk_108_3_te [(0, 1, 0)] [] zk_108_3_al
theorem zk_108_3_ok (l : Launch) (X : zx_X) (XL : Nat) (φ : List z_C) (P : List Int → Prop) : zOk l X XL φ P zk_108_3_o := zOk_C zk_108_3_c (by decide +kernel) l X XL φ P
/-! fits -/
def zk_114_3_te : zA_T := ([((.ofNat 0), (.ofNat 5), zD0), ((.ofNat 0), (.ofNat 3), zD0)], zHT, [(0, (2, (.ofNat 40))), (1, (1, (.ofNat 0))), (2, (1, (.ofNat 1)))], [], 0, 0)
def zk_114_3_al : List zAlt := [([((.ofNat 0), (.ofNat 1), none)], [(3, 0, 0)], zHT, some (1, (.ofNat 0)))]
def zk_114_3_h0 : zHd := (0, zk_114_3_te, [(0, 1, 0), (0, 2, 0)], [], (.ofNat 67), [(.ofNat 0), (.ofNat 0)], [])
def zk_114_3_h1 : zHd := (5, ([((.ofNat 0), (.ofNat 5), zD0), ((.ofNat 0), (.ofNat 3), zD0), ((.ofNat 0), (.ofNat 1), zD0), ((.ofNat 0), (.ofNat 30), zD0)], zHT, [(0, (2, (.ofNat 40))), (1, (1, (.ofNat 0))), (2, (1, (.ofNat 1))), (3, (1, (.ofNat 2))), (4, (1, (.ofNat 3)))], [], 0, 0), [(0, 1, 0), (0, 2, 0), (0, 3, 0), (0, 4, 0)], [], (.ofNat 61), [(.ofNat 0), (.ofNat 0), (.ofNat 0), (.ofNat 2)], [])
def zk_114_3_hs : List zHd := [zk_114_3_h0, zk_114_3_h1]
def zk_114_3_or : zO_ := zon
theorem zk_114_3_oo (l : Launch) (X : zx_X) (φ : List z_C) (P : List Int → Prop) : zOk l X 2000000 φ P zk_114_3_or := zOk_no l X 2000000 φ P
theorem zk_114_3_r0 : zx1 2000000 (zfinC zk_114_3_al zk_114_3_h0.2.2.2.1) (zcutH zk_114_3_hs zk_114_3_h0 114 5) zk_114_3_or 6000 114 5 zk_114_3_h0.1 (zhS zk_114_3_h0) [] = true := by decide +kernel
theorem zk_114_3_r1 : zx1 2000000 (zfinC zk_114_3_al zk_114_3_h1.2.2.2.1) (zcutH zk_114_3_hs zk_114_3_h1 114 5) zk_114_3_or 6000 114 5 zk_114_3_h1.1 (zhS zk_114_3_h1) [] = true := by decide +kernel
theorem zk_114_3_c : zCon 114 5 zk_114_3_te [] zk_114_3_al := zCon_of (n := 6000) (hs := zk_114_3_hs) (lo := [(0, 1, 0), (0, 2, 0)]) (c := (.ofNat 67)) (ws := [(.ofNat 0), (.ofNat 0)]) (by decide) (by decide +kernel) zk_114_3_oo (List.mem_cons_self) (zAll_mem ⟨zk_114_3_r0, zk_114_3_r1, trivial⟩)
def zk_114_3_o : zO_ := zorcC 114 5 zk_114_3_te [(0, 1, 0), (0, 2, 0)] [] zk_114_3_al
theorem zk_114_3_ok (l : Launch) (X : zx_X) (XL : Nat) (φ : List z_C) (P : List Int → Prop) : zOk l X XL φ P zk_114_3_o := zOk_C zk_114_3_c (by decide +kernel) l X XL φ P
/-! viewsFor -/
def zk_113_3_te : zA_T := ([((.ofNat 0), (.ofNat 5), zD0)], zHT, [(0, (2, (.ofNat 40))), (1, (1, (.ofNat 0)))], [], 0, 0)
def zk_113_3_al : List zAlt := [([((.ofNat 0), (.ofNat 15), none)], [(3, 0, 0)], zHT, some (1, (.ofNat 0)))]
def zk_113_3_h0 : zHd := (0, zk_113_3_te, [(0, 1, 0)], [], (.ofNat 15), [(.ofNat 0)], [])
def zk_113_3_h1 : zHd := (4, ([((.ofNat 0), (.ofNat 5), zD0), ((.ofNat 0), (.ofNat 15), zD0), ((.ofNat 0), (.ofNat 4), zD0)], zHT, [(0, (2, (.ofNat 40))), (1, (1, (.ofNat 0))), (2, (1, (.ofNat 1))), (3, (1, (.ofNat 2)))], [], 0, 0), [(0, 1, 0), (0, 2, 0), (0, 3, 0)], [], (.ofNat 9), [(.ofNat 0), (.ofNat 0), (.ofNat 2)], [])
def zk_113_3_hs : List zHd := [zk_113_3_h0, zk_113_3_h1]
def zk_113_3_or : zO_ := zor zk_114_3_o (zon)
theorem zk_113_3_oo (l : Launch) (X : zx_X) (φ : List z_C) (P : List Int → Prop) : zOk l X 2000000 φ P zk_113_3_or := zOk_or (zk_114_3_ok l X 2000000 φ P) (zOk_no l X 2000000 φ P)
theorem zk_113_3_r0 : zx1 2000000 (zfinC zk_113_3_al zk_113_3_h0.2.2.2.1) (zcutH zk_113_3_hs zk_113_3_h0 113 7) zk_113_3_or 6000 113 7 zk_113_3_h0.1 (zhS zk_113_3_h0) [] = true := by decide +kernel
theorem zk_113_3_r1 : zx1 2000000 (zfinC zk_113_3_al zk_113_3_h1.2.2.2.1) (zcutH zk_113_3_hs zk_113_3_h1 113 7) zk_113_3_or 6000 113 7 zk_113_3_h1.1 (zhS zk_113_3_h1) [] = true := by decide +kernel
theorem zk_113_3_c : zCon 113 7 zk_113_3_te [] zk_113_3_al := zCon_of (n := 6000) (hs := zk_113_3_hs) (lo := [(0, 1, 0)]) (c := (.ofNat 15)) (ws := [(.ofNat 0)]) (by decide) (by decide +kernel) zk_113_3_oo (List.mem_cons_self) (zAll_mem ⟨zk_113_3_r0, zk_113_3_r1, trivial⟩)
def zk_113_3_o : zO_ := zorcC 113 7 zk_113_3_te [(0, 1, 0)] [] zk_113_3_al
theorem zk_113_3_ok (l : Launch) (X : zx_X) (XL : Nat) (φ : List z_C) (P : List Int → Prop) : zOk l X XL φ P zk_113_3_o := zOk_C zk_113_3_c (by decide +kernel) l X XL φ P
/-! codesFor -/
def zk_118_3_te : zA_T := ([], zHT, [(0, (2, (.ofNat 40)))], [], 0, 0)
def zk_118_3_al : List zAlt := [([((.negSucc 2147483647), (.ofNat 2147483647), none)], [(3, 0, 0)], zHT, some (1, (.ofNat 0)))]
def zk_118_3_h0 : zHd := (0, zk_118_3_te, [], [], (.ofNat 81), [], [])
def zk_118_3_h1 : zHd := (4, ([((.ofNat 0), (.ofNat 1), zD0), ((.ofNat 0), (.ofNat 30), zD0)], zHT, [(0, (2, (.ofNat 40))), (1, (1, (.ofNat 0))), (2, (1, (.ofNat 1)))], [], 0, 0), [(0, 1, 0), (0, 2, 0)], [], (.ofNat 75), [(.ofNat 0), (.ofNat 2)], [])
def zk_118_3_h2 : zHd := (35, ([((.negSucc 2147483647), (.ofNat 2147483647), zD0), ((.ofNat 0), (.ofNat 6), zD0)], zHT, [(0, (2, (.ofNat 40))), (1, (1, (.ofNat 0))), (2, (1, (.ofNat 1)))], [], 0, 0), [(0, 1, 0), (0, 2, 0)], [], (.ofNat 13), [(.ofNat 0), (.ofNat 2)], [])
def zk_118_3_hs : List zHd := [zk_118_3_h0, zk_118_3_h1, zk_118_3_h2]
def zk_118_3_or : zO_ := zor zk_113_3_o (zon)
theorem zk_118_3_oo (l : Launch) (X : zx_X) (φ : List z_C) (P : List Int → Prop) : zOk l X 2000000 φ P zk_118_3_or := zOk_or (zk_113_3_ok l X 2000000 φ P) (zOk_no l X 2000000 φ P)
theorem zk_118_3_r0 : zx1 2000000 (zfinC zk_118_3_al zk_118_3_h0.2.2.2.1) (zcutH zk_118_3_hs zk_118_3_h0 118 9) zk_118_3_or 6000 118 9 zk_118_3_h0.1 (zhS zk_118_3_h0) [] = true := by decide +kernel
theorem zk_118_3_r1 : zx1 2000000 (zfinC zk_118_3_al zk_118_3_h1.2.2.2.1) (zcutH zk_118_3_hs zk_118_3_h1 118 9) zk_118_3_or 6000 118 9 zk_118_3_h1.1 (zhS zk_118_3_h1) [] = true := by decide +kernel
theorem zk_118_3_r2 : zx1 2000000 (zfinC zk_118_3_al zk_118_3_h2.2.2.2.1) (zcutH zk_118_3_hs zk_118_3_h2 118 9) zk_118_3_or 6000 118 9 zk_118_3_h2.1 (zhS zk_118_3_h2) [] = true := by decide +kernel
theorem zk_118_3_c : zCon 118 9 zk_118_3_te [] zk_118_3_al := zCon_of (n := 6000) (hs := zk_118_3_hs) (lo := []) (c := (.ofNat 81)) (ws := []) (by decide) (by decide +kernel) zk_118_3_oo (List.mem_cons_self) (zAll_mem ⟨zk_118_3_r0, zk_118_3_r1, zk_118_3_r2, trivial⟩)
def zk_118_3_o : zO_ := zorcC 118 9 zk_118_3_te [] [] zk_118_3_al
theorem zk_118_3_ok (l : Launch) (X : zx_X) (XL : Nat) (φ : List z_C) (P : List Int → Prop) : zOk l X XL φ P zk_118_3_o := zOk_C zk_118_3_c (by decide +kernel) l X XL φ P
/-! writersOf -/
def zk_117_3_te : zA_T := ([], zHT, [(0, (2, (.ofNat 3))), (1, (2, (.ofNat 40)))], [], 0, 0)
def zk_117_3_al : List zAlt := [([((.ofNat 0), (.ofNat 511), none)], [(3, 0, 0)], zHT, some (1, (.ofNat 0)))]
def zk_117_3_h0 : zHd := (0, zk_117_3_te, [], [], (.ofNat 23), [], [])
def zk_117_3_h1 : zHd := (4, ([((.ofNat 0), (.ofNat 511), zD0), ((.ofNat 0), (.ofNat 8), zD0)], zHT, [(0, (2, (.ofNat 3))), (1, (2, (.ofNat 40))), (2, (1, (.ofNat 0))), (3, (1, (.ofNat 1)))], [], 0, 0), [(0, 2, 0), (0, 3, 0)], [], (.ofNat 17), [(.ofNat 0), (.ofNat 2)], [])
def zk_117_3_hs : List zHd := [zk_117_3_h0, zk_117_3_h1]
def zk_117_3_or : zO_ := zor zk_108_3_o (zon)
theorem zk_117_3_oo (l : Launch) (X : zx_X) (φ : List z_C) (P : List Int → Prop) : zOk l X 2000000 φ P zk_117_3_or := zOk_or (zk_108_3_ok l X 2000000 φ P) (zOk_no l X 2000000 φ P)
theorem zk_117_3_r0 : zx1 2000000 (zfinC zk_117_3_al zk_117_3_h0.2.2.2.1) (zcutH zk_117_3_hs zk_117_3_h0 117 7) zk_117_3_or 6000 117 7 zk_117_3_h0.1 (zhS zk_117_3_h0) [] = true := by decide +kernel
theorem zk_117_3_r1 : zx1 2000000 (zfinC zk_117_3_al zk_117_3_h1.2.2.2.1) (zcutH zk_117_3_hs zk_117_3_h1 117 7) zk_117_3_or 6000 117 7 zk_117_3_h1.1 (zhS zk_117_3_h1) [] = true := by decide +kernel
theorem zk_117_3_c : zCon 117 7 zk_117_3_te [] zk_117_3_al := zCon_of (n := 6000) (hs := zk_117_3_hs) (lo := []) (c := (.ofNat 23)) (ws := []) (by decide) (by decide +kernel) zk_117_3_oo (List.mem_cons_self) (zAll_mem ⟨zk_117_3_r0, zk_117_3_r1, trivial⟩)
def zk_117_3_o : zO_ := zorcC 117 7 zk_117_3_te [] [] zk_117_3_al
theorem zk_117_3_ok (l : Launch) (X : zx_X) (XL : Nat) (φ : List z_C) (P : List Int → Prop) : zOk l X XL φ P zk_117_3_o := zOk_C zk_117_3_c (by decide +kernel) l X XL φ P
/-! firstWrong -/
def zk_108_4_te : zA_T := ([((.negSucc 2147483647), (.ofNat 2147483647), zD0)], zHT, [(0, (2, (.ofNat 42))), (1, (1, (.ofNat 0)))], [], 0, 0)
def zk_108_4_al : List zAlt := [([((.negSucc 1), (.ofNat 29), none)], [(3, 0, 0)], zHT, some (1, (.ofNat 0)))]
def zk_108_4_h0 : zHd := (0, zk_108_4_te, [(0, 1, 0)], [], (.ofNat 67), [(.ofNat 0)], [])
def zk_108_4_h1 : zHd := (2, ([((.negSucc 2147483647), (.ofNat 2147483647), zD0), ((.ofNat 0), (.ofNat 30), zD0)], zHT, [(0, (2, (.ofNat 42))), (1, (1, (.ofNat 0))), (2, (1, (.ofNat 1)))], [], 0, 0), [(0, 1, 0), (0, 2, 0)], [], (.ofNat 61), [(.ofNat 0), (.ofNat 2)], [])
def zk_108_4_hs : List zHd := [zk_108_4_h0, zk_108_4_h1]
def zk_108_4_or : zO_ := zon
theorem zk_108_4_oo (l : Launch) (X : zx_X) (φ : List z_C) (P : List Int → Prop) : zOk l X 2000000 φ P zk_108_4_or := zOk_no l X 2000000 φ P
theorem zk_108_4_r0 : zx1 2000000 (zfinC zk_108_4_al zk_108_4_h0.2.2.2.1) (zcutH zk_108_4_hs zk_108_4_h0 108 5) zk_108_4_or 6000 108 5 zk_108_4_h0.1 (zhS zk_108_4_h0) [] = true := by decide +kernel
theorem zk_108_4_r1 : zx1 2000000 (zfinC zk_108_4_al zk_108_4_h1.2.2.2.1) (zcutH zk_108_4_hs zk_108_4_h1 108 5) zk_108_4_or 6000 108 5 zk_108_4_h1.1 (zhS zk_108_4_h1) [] = true := by decide +kernel
theorem zk_108_4_c : zCon 108 5 zk_108_4_te [] zk_108_4_al := zCon_of (n := 6000) (hs := zk_108_4_hs) (lo := [(0, 1, 0)]) (c := (.ofNat 67)) (ws := [(.ofNat 0)]) (by decide) (by decide +kernel) zk_108_4_oo (List.mem_cons_self) (zAll_mem ⟨zk_108_4_r0, zk_108_4_r1, trivial⟩)
def zk_108_4_o : zO_ := zorcC 108 5 zk_108_4_te [(0, 1, 0)] [] zk_108_4_al
theorem zk_108_4_ok (l : Launch) (X : zx_X) (XL : Nat) (φ : List z_C) (P : List Int → Prop) : zOk l X XL φ P zk_108_4_o := zOk_C zk_108_4_c (by decide +kernel) l X XL φ P
/-! fits -/
def zk_114_4_te : zA_T := ([((.ofNat 0), (.ofNat 5), zD0), ((.ofNat 0), (.ofNat 3), zD0)], zHT, [(0, (2, (.ofNat 42))), (1, (1, (.ofNat 0))), (2, (1, (.ofNat 1)))], [], 0, 0)
def zk_114_4_al : List zAlt := [([((.ofNat 0), (.ofNat 1), none)], [(3, 0, 0)], zHT, some (1, (.ofNat 0)))]
def zk_114_4_h0 : zHd := (0, zk_114_4_te, [(0, 1, 0), (0, 2, 0)], [], (.ofNat 67), [(.ofNat 0), (.ofNat 0)], [])
def zk_114_4_h1 : zHd := (5, ([((.ofNat 0), (.ofNat 5), zD0), ((.ofNat 0), (.ofNat 3), zD0), ((.ofNat 0), (.ofNat 1), zD0), ((.ofNat 0), (.ofNat 30), zD0)], zHT, [(0, (2, (.ofNat 42))), (1, (1, (.ofNat 0))), (2, (1, (.ofNat 1))), (3, (1, (.ofNat 2))), (4, (1, (.ofNat 3)))], [], 0, 0), [(0, 1, 0), (0, 2, 0), (0, 3, 0), (0, 4, 0)], [], (.ofNat 61), [(.ofNat 0), (.ofNat 0), (.ofNat 0), (.ofNat 2)], [])
def zk_114_4_hs : List zHd := [zk_114_4_h0, zk_114_4_h1]
def zk_114_4_or : zO_ := zon
theorem zk_114_4_oo (l : Launch) (X : zx_X) (φ : List z_C) (P : List Int → Prop) : zOk l X 2000000 φ P zk_114_4_or := zOk_no l X 2000000 φ P
theorem zk_114_4_r0 : zx1 2000000 (zfinC zk_114_4_al zk_114_4_h0.2.2.2.1) (zcutH zk_114_4_hs zk_114_4_h0 114 5) zk_114_4_or 6000 114 5 zk_114_4_h0.1 (zhS zk_114_4_h0) [] = true := by decide +kernel
theorem zk_114_4_r1 : zx1 2000000 (zfinC zk_114_4_al zk_114_4_h1.2.2.2.1) (zcutH zk_114_4_hs zk_114_4_h1 114 5) zk_114_4_or 6000 114 5 zk_114_4_h1.1 (zhS zk_114_4_h1) [] = true := by decide +kernel
theorem zk_114_4_c : zCon 114 5 zk_114_4_te [] zk_114_4_al := zCon_of (n := 6000) (hs := zk_114_4_hs) (lo := [(0, 1, 0), (0, 2, 0)]) (c := (.ofNat 67)) (ws := [(.ofNat 0), (.ofNat 0)]) (by decide) (by decide +kernel) zk_114_4_oo (List.mem_cons_self) (zAll_mem ⟨zk_114_4_r0, zk_114_4_r1, trivial⟩)
def zk_114_4_o : zO_ := zorcC 114 5 zk_114_4_te [(0, 1, 0), (0, 2, 0)] [] zk_114_4_al
theorem zk_114_4_ok (l : Launch) (X : zx_X) (XL : Nat) (φ : List z_C) (P : List Int → Prop) : zOk l X XL φ P zk_114_4_o := zOk_C zk_114_4_c (by decide +kernel) l X XL φ P
/-! viewsFor -/
def zk_113_4_te : zA_T := ([((.ofNat 0), (.ofNat 5), zD0)], zHT, [(0, (2, (.ofNat 42))), (1, (1, (.ofNat 0)))], [], 0, 0)
def zk_113_4_al : List zAlt := [([((.ofNat 0), (.ofNat 15), none)], [(3, 0, 0)], zHT, some (1, (.ofNat 0)))]
def zk_113_4_h0 : zHd := (0, zk_113_4_te, [(0, 1, 0)], [], (.ofNat 15), [(.ofNat 0)], [])
def zk_113_4_h1 : zHd := (4, ([((.ofNat 0), (.ofNat 5), zD0), ((.ofNat 0), (.ofNat 15), zD0), ((.ofNat 0), (.ofNat 4), zD0)], zHT, [(0, (2, (.ofNat 42))), (1, (1, (.ofNat 0))), (2, (1, (.ofNat 1))), (3, (1, (.ofNat 2)))], [], 0, 0), [(0, 1, 0), (0, 2, 0), (0, 3, 0)], [], (.ofNat 9), [(.ofNat 0), (.ofNat 0), (.ofNat 2)], [])
def zk_113_4_hs : List zHd := [zk_113_4_h0, zk_113_4_h1]
def zk_113_4_or : zO_ := zor zk_114_4_o (zon)
theorem zk_113_4_oo (l : Launch) (X : zx_X) (φ : List z_C) (P : List Int → Prop) : zOk l X 2000000 φ P zk_113_4_or := zOk_or (zk_114_4_ok l X 2000000 φ P) (zOk_no l X 2000000 φ P)
theorem zk_113_4_r0 : zx1 2000000 (zfinC zk_113_4_al zk_113_4_h0.2.2.2.1) (zcutH zk_113_4_hs zk_113_4_h0 113 7) zk_113_4_or 6000 113 7 zk_113_4_h0.1 (zhS zk_113_4_h0) [] = true := by decide +kernel
theorem zk_113_4_r1 : zx1 2000000 (zfinC zk_113_4_al zk_113_4_h1.2.2.2.1) (zcutH zk_113_4_hs zk_113_4_h1 113 7) zk_113_4_or 6000 113 7 zk_113_4_h1.1 (zhS zk_113_4_h1) [] = true := by decide +kernel
theorem zk_113_4_c : zCon 113 7 zk_113_4_te [] zk_113_4_al := zCon_of (n := 6000) (hs := zk_113_4_hs) (lo := [(0, 1, 0)]) (c := (.ofNat 15)) (ws := [(.ofNat 0)]) (by decide) (by decide +kernel) zk_113_4_oo (List.mem_cons_self) (zAll_mem ⟨zk_113_4_r0, zk_113_4_r1, trivial⟩)
def zk_113_4_o : zO_ := zorcC 113 7 zk_113_4_te [(0, 1, 0)] [] zk_113_4_al
theorem zk_113_4_ok (l : Launch) (X : zx_X) (XL : Nat) (φ : List z_C) (P : List Int → Prop) : zOk l X XL φ P zk_113_4_o := zOk_C zk_113_4_c (by decide +kernel) l X XL φ P
/-! codesFor -/
def zk_118_4_te : zA_T := ([], zHT, [(0, (2, (.ofNat 42)))], [], 0, 0)
def zk_118_4_al : List zAlt := [([((.negSucc 2147483647), (.ofNat 2147483647), none)], [(3, 0, 0)], zHT, some (1, (.ofNat 0)))]
def zk_118_4_h0 : zHd := (0, zk_118_4_te, [], [], (.ofNat 81), [], [])
def zk_118_4_h1 : zHd := (4, ([((.ofNat 0), (.ofNat 1), zD0), ((.ofNat 0), (.ofNat 30), zD0)], zHT, [(0, (2, (.ofNat 42))), (1, (1, (.ofNat 0))), (2, (1, (.ofNat 1)))], [], 0, 0), [(0, 1, 0), (0, 2, 0)], [], (.ofNat 75), [(.ofNat 0), (.ofNat 2)], [])
def zk_118_4_h2 : zHd := (35, ([((.negSucc 2147483647), (.ofNat 2147483647), zD0), ((.ofNat 0), (.ofNat 6), zD0)], zHT, [(0, (2, (.ofNat 42))), (1, (1, (.ofNat 0))), (2, (1, (.ofNat 1)))], [], 0, 0), [(0, 1, 0), (0, 2, 0)], [], (.ofNat 13), [(.ofNat 0), (.ofNat 2)], [])
def zk_118_4_hs : List zHd := [zk_118_4_h0, zk_118_4_h1, zk_118_4_h2]
def zk_118_4_or : zO_ := zor zk_113_4_o (zon)
theorem zk_118_4_oo (l : Launch) (X : zx_X) (φ : List z_C) (P : List Int → Prop) : zOk l X 2000000 φ P zk_118_4_or := zOk_or (zk_113_4_ok l X 2000000 φ P) (zOk_no l X 2000000 φ P)
theorem zk_118_4_r0 : zx1 2000000 (zfinC zk_118_4_al zk_118_4_h0.2.2.2.1) (zcutH zk_118_4_hs zk_118_4_h0 118 9) zk_118_4_or 6000 118 9 zk_118_4_h0.1 (zhS zk_118_4_h0) [] = true := by decide +kernel
theorem zk_118_4_r1 : zx1 2000000 (zfinC zk_118_4_al zk_118_4_h1.2.2.2.1) (zcutH zk_118_4_hs zk_118_4_h1 118 9) zk_118_4_or 6000 118 9 zk_118_4_h1.1 (zhS zk_118_4_h1) [] = true := by decide +kernel
theorem zk_118_4_r2 : zx1 2000000 (zfinC zk_118_4_al zk_118_4_h2.2.2.2.1) (zcutH zk_118_4_hs zk_118_4_h2 118 9) zk_118_4_or 6000 118 9 zk_118_4_h2.1 (zhS zk_118_4_h2) [] = true := by decide +kernel
theorem zk_118_4_c : zCon 118 9 zk_118_4_te [] zk_118_4_al := zCon_of (n := 6000) (hs := zk_118_4_hs) (lo := []) (c := (.ofNat 81)) (ws := []) (by decide) (by decide +kernel) zk_118_4_oo (List.mem_cons_self) (zAll_mem ⟨zk_118_4_r0, zk_118_4_r1, zk_118_4_r2, trivial⟩)
def zk_118_4_o : zO_ := zorcC 118 9 zk_118_4_te [] [] zk_118_4_al
theorem zk_118_4_ok (l : Launch) (X : zx_X) (XL : Nat) (φ : List z_C) (P : List Int → Prop) : zOk l X XL φ P zk_118_4_o := zOk_C zk_118_4_c (by decide +kernel) l X XL φ P
/-! writersOf -/
def zk_117_4_te : zA_T := ([], zHT, [(0, (2, (.ofNat 3))), (1, (2, (.ofNat 42)))], [], 0, 0)
def zk_117_4_al : List zAlt := [([((.ofNat 0), (.ofNat 511), none)], [(3, 0, 0)], zHT, some (1, (.ofNat 0)))]
def zk_117_4_h0 : zHd := (0, zk_117_4_te, [], [], (.ofNat 23), [], [])
def zk_117_4_h1 : zHd := (4, ([((.ofNat 0), (.ofNat 511), zD0), ((.ofNat 0), (.ofNat 8), zD0)], zHT, [(0, (2, (.ofNat 3))), (1, (2, (.ofNat 42))), (2, (1, (.ofNat 0))), (3, (1, (.ofNat 1)))], [], 0, 0), [(0, 2, 0), (0, 3, 0)], [], (.ofNat 17), [(.ofNat 0), (.ofNat 2)], [])
def zk_117_4_hs : List zHd := [zk_117_4_h0, zk_117_4_h1]
def zk_117_4_or : zO_ := zor zk_108_4_o (zon)
theorem zk_117_4_oo (l : Launch) (X : zx_X) (φ : List z_C) (P : List Int → Prop) : zOk l X 2000000 φ P zk_117_4_or := zOk_or (zk_108_4_ok l X 2000000 φ P) (zOk_no l X 2000000 φ P)
theorem zk_117_4_r0 : zx1 2000000 (zfinC zk_117_4_al zk_117_4_h0.2.2.2.1) (zcutH zk_117_4_hs zk_117_4_h0 117 7) zk_117_4_or 6000 117 7 zk_117_4_h0.1 (zhS zk_117_4_h0) [] = true := by decide +kernel
theorem zk_117_4_r1 : zx1 2000000 (zfinC zk_117_4_al zk_117_4_h1.2.2.2.1) (zcutH zk_117_4_hs zk_117_4_h1 117 7) zk_117_4_or 6000 117 7 zk_117_4_h1.1 (zhS zk_117_4_h1) [] = true := by decide +kernel
theorem zk_117_4_c : zCon 117 7 zk_117_4_te [] zk_117_4_al := zCon_of (n := 6000) (hs := zk_117_4_hs) (lo := []) (c := (.ofNat 23)) (ws := []) (by decide) (by decide +kernel) zk_117_4_oo (List.mem_cons_self) (zAll_mem ⟨zk_117_4_r0, zk_117_4_r1, trivial⟩)
def zk_117_4_o : zO_ := zorcC 117 7 zk_117_4_te [] [] zk_117_4_al
theorem zk_117_4_ok (l : Launch) (X : zx_X) (XL : Nat) (φ : List z_C) (P : List Int → Prop) : zOk l X XL φ P zk_117_4_o := zOk_C zk_117_4_c (by decide +kernel) l X XL φ P
/-! firstWrong -/
def zk_108_5_te : zA_T := ([((.negSucc 2147483647), (.ofNat 2147483647), zD0)], zHT, [(0, (2, (.ofNat 44))), (1, (1, (.ofNat 0)))], [], 0, 0)
def zk_108_5_al : List zAlt := [([((.negSucc 1), (.ofNat 29), none)], [(3, 0, 0)], zHT, some (1, (.ofNat 0)))]
def zk_108_5_h0 : zHd := (0, zk_108_5_te, [(0, 1, 0)], [], (.ofNat 67), [(.ofNat 0)], [])
def zk_108_5_h1 : zHd := (2, ([((.negSucc 2147483647), (.ofNat 2147483647), zD0), ((.ofNat 0), (.ofNat 30), zD0)], zHT, [(0, (2, (.ofNat 44))), (1, (1, (.ofNat 0))), (2, (1, (.ofNat 1)))], [], 0, 0), [(0, 1, 0), (0, 2, 0)], [], (.ofNat 61), [(.ofNat 0), (.ofNat 2)], [])
def zk_108_5_hs : List zHd := [zk_108_5_h0, zk_108_5_h1]
def zk_108_5_or : zO_ := zon
theorem zk_108_5_oo (l : Launch) (X : zx_X) (φ : List z_C) (P : List Int → Prop) : zOk l X 2000000 φ P zk_108_5_or := zOk_no l X 2000000 φ P
theorem zk_108_5_r0 : zx1 2000000 (zfinC zk_108_5_al zk_108_5_h0.2.2.2.1) (zcutH zk_108_5_hs zk_108_5_h0 108 5) zk_108_5_or 6000 108 5 zk_108_5_h0.1 (zhS zk_108_5_h0) [] = true := by decide +kernel
theorem zk_108_5_r1 : zx1 2000000 (zfinC zk_108_5_al zk_108_5_h1.2.2.2.1) (zcutH zk_108_5_hs zk_108_5_h1 108 5) zk_108_5_or 6000 108 5 zk_108_5_h1.1 (zhS zk_108_5_h1) [] = true := by decide +kernel
theorem zk_108_5_c : zCon 108 5 zk_108_5_te [] zk_108_5_al := zCon_of (n := 6000) (hs := zk_108_5_hs) (lo := [(0, 1, 0)]) (c := (.ofNat 67)) (ws := [(.ofNat 0)]) (by decide) (by decide +kernel) zk_108_5_oo (List.mem_cons_self) (zAll_mem ⟨zk_108_5_r0, zk_108_5_r1, trivial⟩)
def zk_108_5_o : zO_ := zorcC 108 5 zk_108_5_te [(0, 1, 0)] [] zk_108_5_al
theorem zk_108_5_ok (l : Launch) (X : zx_X) (XL : Nat) (φ : List z_C) (P : List Int → Prop) : zOk l X XL φ P zk_108_5_o := zOk_C zk_108_5_c (by decide +kernel) l X XL φ P
/-! fits -/
def zk_114_5_te : zA_T := ([((.ofNat 0), (.ofNat 5), zD0), ((.ofNat 0), (.ofNat 3), zD0)], zHT, [(0, (2, (.ofNat 44))), (1, (1, (.ofNat 0))), (2, (1, (.ofNat 1)))], [], 0, 0)
def zk_114_5_al : List zAlt := [([((.ofNat 0), (.ofNat 1), none)], [(3, 0, 0)], zHT, some (1, (.ofNat 0)))]
def zk_114_5_h0 : zHd := (0, zk_114_5_te, [(0, 1, 0), (0, 2, 0)], [], (.ofNat 67), [(.ofNat 0), (.ofNat 0)], [])
def zk_114_5_h1 : zHd := (5, ([((.ofNat 0), (.ofNat 5), zD0), ((.ofNat 0), (.ofNat 3), zD0), ((.ofNat 0), (.ofNat 1), zD0), ((.ofNat 0), (.ofNat 30), zD0)], zHT, [(0, (2, (.ofNat 44))), (1, (1, (.ofNat 0))), (2, (1, (.ofNat 1))), (3, (1, (.ofNat 2))), (4, (1, (.ofNat 3)))], [], 0, 0), [(0, 1, 0), (0, 2, 0), (0, 3, 0), (0, 4, 0)], [], (.ofNat 61), [(.ofNat 0), (.ofNat 0), (.ofNat 0), (.ofNat 2)], [])
def zk_114_5_hs : List zHd := [zk_114_5_h0, zk_114_5_h1]
def zk_114_5_or : zO_ := zon
theorem zk_114_5_oo (l : Launch) (X : zx_X) (φ : List z_C) (P : List Int → Prop) : zOk l X 2000000 φ P zk_114_5_or := zOk_no l X 2000000 φ P
theorem zk_114_5_r0 : zx1 2000000 (zfinC zk_114_5_al zk_114_5_h0.2.2.2.1) (zcutH zk_114_5_hs zk_114_5_h0 114 5) zk_114_5_or 6000 114 5 zk_114_5_h0.1 (zhS zk_114_5_h0) [] = true := by decide +kernel
theorem zk_114_5_r1 : zx1 2000000 (zfinC zk_114_5_al zk_114_5_h1.2.2.2.1) (zcutH zk_114_5_hs zk_114_5_h1 114 5) zk_114_5_or 6000 114 5 zk_114_5_h1.1 (zhS zk_114_5_h1) [] = true := by decide +kernel
theorem zk_114_5_c : zCon 114 5 zk_114_5_te [] zk_114_5_al := zCon_of (n := 6000) (hs := zk_114_5_hs) (lo := [(0, 1, 0), (0, 2, 0)]) (c := (.ofNat 67)) (ws := [(.ofNat 0), (.ofNat 0)]) (by decide) (by decide +kernel) zk_114_5_oo (List.mem_cons_self) (zAll_mem ⟨zk_114_5_r0, zk_114_5_r1, trivial⟩)
def zk_114_5_o : zO_ := zorcC 114 5 zk_114_5_te [(0, 1, 0), (0, 2, 0)] [] zk_114_5_al
theorem zk_114_5_ok (l : Launch) (X : zx_X) (XL : Nat) (φ : List z_C) (P : List Int → Prop) : zOk l X XL φ P zk_114_5_o := zOk_C zk_114_5_c (by decide +kernel) l X XL φ P
/-! viewsFor -/
def zk_113_5_te : zA_T := ([((.ofNat 0), (.ofNat 5), zD0)], zHT, [(0, (2, (.ofNat 44))), (1, (1, (.ofNat 0)))], [], 0, 0)
def zk_113_5_al : List zAlt := [([((.ofNat 0), (.ofNat 15), none)], [(3, 0, 0)], zHT, some (1, (.ofNat 0)))]
def zk_113_5_h0 : zHd := (0, zk_113_5_te, [(0, 1, 0)], [], (.ofNat 15), [(.ofNat 0)], [])
def zk_113_5_h1 : zHd := (4, ([((.ofNat 0), (.ofNat 5), zD0), ((.ofNat 0), (.ofNat 15), zD0), ((.ofNat 0), (.ofNat 4), zD0)], zHT, [(0, (2, (.ofNat 44))), (1, (1, (.ofNat 0))), (2, (1, (.ofNat 1))), (3, (1, (.ofNat 2)))], [], 0, 0), [(0, 1, 0), (0, 2, 0), (0, 3, 0)], [], (.ofNat 9), [(.ofNat 0), (.ofNat 0), (.ofNat 2)], [])
def zk_113_5_hs : List zHd := [zk_113_5_h0, zk_113_5_h1]
def zk_113_5_or : zO_ := zor zk_114_5_o (zon)
theorem zk_113_5_oo (l : Launch) (X : zx_X) (φ : List z_C) (P : List Int → Prop) : zOk l X 2000000 φ P zk_113_5_or := zOk_or (zk_114_5_ok l X 2000000 φ P) (zOk_no l X 2000000 φ P)
theorem zk_113_5_r0 : zx1 2000000 (zfinC zk_113_5_al zk_113_5_h0.2.2.2.1) (zcutH zk_113_5_hs zk_113_5_h0 113 7) zk_113_5_or 6000 113 7 zk_113_5_h0.1 (zhS zk_113_5_h0) [] = true := by decide +kernel
theorem zk_113_5_r1 : zx1 2000000 (zfinC zk_113_5_al zk_113_5_h1.2.2.2.1) (zcutH zk_113_5_hs zk_113_5_h1 113 7) zk_113_5_or 6000 113 7 zk_113_5_h1.1 (zhS zk_113_5_h1) [] = true := by decide +kernel
theorem zk_113_5_c : zCon 113 7 zk_113_5_te [] zk_113_5_al := zCon_of (n := 6000) (hs := zk_113_5_hs) (lo := [(0, 1, 0)]) (c := (.ofNat 15)) (ws := [(.ofNat 0)]) (by decide) (by decide +kernel) zk_113_5_oo (List.mem_cons_self) (zAll_mem ⟨zk_113_5_r0, zk_113_5_r1, trivial⟩)
def zk_113_5_o : zO_ := zorcC 113 7 zk_113_5_te [(0, 1, 0)] [] zk_113_5_al
theorem zk_113_5_ok (l : Launch) (X : zx_X) (XL : Nat) (φ : List z_C) (P : List Int → Prop) : zOk l X XL φ P zk_113_5_o := zOk_C zk_113_5_c (by decide +kernel) l X XL φ P
/-! codesFor -/
def zk_118_5_te : zA_T := ([], zHT, [(0, (2, (.ofNat 44)))], [], 0, 0)
def zk_118_5_al : List zAlt := [([((.negSucc 2147483647), (.ofNat 2147483647), none)], [(3, 0, 0)], zHT, some (1, (.ofNat 0)))]
def zk_118_5_h0 : zHd := (0, zk_118_5_te, [], [], (.ofNat 81), [], [])
def zk_118_5_h1 : zHd := (4, ([((.ofNat 0), (.ofNat 1), zD0), ((.ofNat 0), (.ofNat 30), zD0)], zHT, [(0, (2, (.ofNat 44))), (1, (1, (.ofNat 0))), (2, (1, (.ofNat 1)))], [], 0, 0), [(0, 1, 0), (0, 2, 0)], [], (.ofNat 75), [(.ofNat 0), (.ofNat 2)], [])
def zk_118_5_h2 : zHd := (35, ([((.negSucc 2147483647), (.ofNat 2147483647), zD0), ((.ofNat 0), (.ofNat 6), zD0)], zHT, [(0, (2, (.ofNat 44))), (1, (1, (.ofNat 0))), (2, (1, (.ofNat 1)))], [], 0, 0), [(0, 1, 0), (0, 2, 0)], [], (.ofNat 13), [(.ofNat 0), (.ofNat 2)], [])
def zk_118_5_hs : List zHd := [zk_118_5_h0, zk_118_5_h1, zk_118_5_h2]
def zk_118_5_or : zO_ := zor zk_113_5_o (zon)
theorem zk_118_5_oo (l : Launch) (X : zx_X) (φ : List z_C) (P : List Int → Prop) : zOk l X 2000000 φ P zk_118_5_or := zOk_or (zk_113_5_ok l X 2000000 φ P) (zOk_no l X 2000000 φ P)
theorem zk_118_5_r0 : zx1 2000000 (zfinC zk_118_5_al zk_118_5_h0.2.2.2.1) (zcutH zk_118_5_hs zk_118_5_h0 118 9) zk_118_5_or 6000 118 9 zk_118_5_h0.1 (zhS zk_118_5_h0) [] = true := by decide +kernel
theorem zk_118_5_r1 : zx1 2000000 (zfinC zk_118_5_al zk_118_5_h1.2.2.2.1) (zcutH zk_118_5_hs zk_118_5_h1 118 9) zk_118_5_or 6000 118 9 zk_118_5_h1.1 (zhS zk_118_5_h1) [] = true := by decide +kernel
theorem zk_118_5_r2 : zx1 2000000 (zfinC zk_118_5_al zk_118_5_h2.2.2.2.1) (zcutH zk_118_5_hs zk_118_5_h2 118 9) zk_118_5_or 6000 118 9 zk_118_5_h2.1 (zhS zk_118_5_h2) [] = true := by decide +kernel
theorem zk_118_5_c : zCon 118 9 zk_118_5_te [] zk_118_5_al := zCon_of (n := 6000) (hs := zk_118_5_hs) (lo := []) (c := (.ofNat 81)) (ws := []) (by decide) (by decide +kernel) zk_118_5_oo (List.mem_cons_self) (zAll_mem ⟨zk_118_5_r0, zk_118_5_r1, zk_118_5_r2, trivial⟩)
def zk_118_5_o : zO_ := zorcC 118 9 zk_118_5_te [] [] zk_118_5_al
theorem zk_118_5_ok (l : Launch) (X : zx_X) (XL : Nat) (φ : List z_C) (P : List Int → Prop) : zOk l X XL φ P zk_118_5_o := zOk_C zk_118_5_c (by decide +kernel) l X XL φ P
/-! writersOf -/
def zk_117_5_te : zA_T := ([], zHT, [(0, (2, (.ofNat 3))), (1, (2, (.ofNat 44)))], [], 0, 0)
def zk_117_5_al : List zAlt := [([((.ofNat 0), (.ofNat 511), none)], [(3, 0, 0)], zHT, some (1, (.ofNat 0)))]
def zk_117_5_h0 : zHd := (0, zk_117_5_te, [], [], (.ofNat 23), [], [])
def zk_117_5_h1 : zHd := (4, ([((.ofNat 0), (.ofNat 511), zD0), ((.ofNat 0), (.ofNat 8), zD0)], zHT, [(0, (2, (.ofNat 3))), (1, (2, (.ofNat 44))), (2, (1, (.ofNat 0))), (3, (1, (.ofNat 1)))], [], 0, 0), [(0, 2, 0), (0, 3, 0)], [], (.ofNat 17), [(.ofNat 0), (.ofNat 2)], [])
def zk_117_5_hs : List zHd := [zk_117_5_h0, zk_117_5_h1]
def zk_117_5_or : zO_ := zor zk_108_5_o (zon)
theorem zk_117_5_oo (l : Launch) (X : zx_X) (φ : List z_C) (P : List Int → Prop) : zOk l X 2000000 φ P zk_117_5_or := zOk_or (zk_108_5_ok l X 2000000 φ P) (zOk_no l X 2000000 φ P)
theorem zk_117_5_r0 : zx1 2000000 (zfinC zk_117_5_al zk_117_5_h0.2.2.2.1) (zcutH zk_117_5_hs zk_117_5_h0 117 7) zk_117_5_or 6000 117 7 zk_117_5_h0.1 (zhS zk_117_5_h0) [] = true := by decide +kernel
theorem zk_117_5_r1 : zx1 2000000 (zfinC zk_117_5_al zk_117_5_h1.2.2.2.1) (zcutH zk_117_5_hs zk_117_5_h1 117 7) zk_117_5_or 6000 117 7 zk_117_5_h1.1 (zhS zk_117_5_h1) [] = true := by decide +kernel
theorem zk_117_5_c : zCon 117 7 zk_117_5_te [] zk_117_5_al := zCon_of (n := 6000) (hs := zk_117_5_hs) (lo := []) (c := (.ofNat 23)) (ws := []) (by decide) (by decide +kernel) zk_117_5_oo (List.mem_cons_self) (zAll_mem ⟨zk_117_5_r0, zk_117_5_r1, trivial⟩)
def zk_117_5_o : zO_ := zorcC 117 7 zk_117_5_te [] [] zk_117_5_al
theorem zk_117_5_ok (l : Launch) (X : zx_X) (XL : Nat) (φ : List z_C) (P : List Int → Prop) : zOk l X XL φ P zk_117_5_o := zOk_C zk_117_5_c (by decide +kernel) l X XL φ P
/-! judge -/
def zk_106_te : zA_T := ([((.negSucc 2147483647), (.ofNat 2147483647), zD0), ((.negSucc 2147483647), (.ofNat 2147483647), zD0)], zHT, [(0, (2, (.ofNat 3))), (1, (1, (.ofNat 0))), (2, (1, (.ofNat 1)))], [], 0, 0)
def zk_106_al : List zAlt := [([((.negSucc 11), (.ofNat 29), none)], [(3, 0, 0)], zHT, some (1, (.ofNat 0)))]
def zk_106_h0 : zHd := (0, zk_106_te, [(0, 1, 0), (0, 2, 0)], [], (.ofNat 5), [(.ofNat 0), (.ofNat 0)], [])
def zk_106_hs : List zHd := [zk_106_h0]
def zk_106_or : zO_ := zor zk_108_0_o (zor zk_108_1_o (zor zk_108_2_o (zor zk_108_3_o (zor zk_108_4_o (zor zk_108_5_o (zon))))))
theorem zk_106_oo (l : Launch) (X : zx_X) (φ : List z_C) (P : List Int → Prop) : zOk l X 2000000 φ P zk_106_or := zOk_or (zk_108_0_ok l X 2000000 φ P) (zOk_or (zk_108_1_ok l X 2000000 φ P) (zOk_or (zk_108_2_ok l X 2000000 φ P) (zOk_or (zk_108_3_ok l X 2000000 φ P) (zOk_or (zk_108_4_ok l X 2000000 φ P) (zOk_or (zk_108_5_ok l X 2000000 φ P) (zOk_no l X 2000000 φ P))))))
theorem zk_106_r0 : zx1 2000000 (zfinC zk_106_al zk_106_h0.2.2.2.1) (zcutH zk_106_hs zk_106_h0 106 7) zk_106_or 6000 106 7 zk_106_h0.1 (zhS zk_106_h0) [] = true := by decide +kernel
theorem zk_106_c : zCon 106 7 zk_106_te [] zk_106_al := zCon_of (n := 6000) (hs := zk_106_hs) (lo := [(0, 1, 0), (0, 2, 0)]) (c := (.ofNat 5)) (ws := [(.ofNat 0), (.ofNat 0)]) (by decide) (by decide +kernel) zk_106_oo (List.mem_cons_self) (zAll_mem ⟨zk_106_r0, trivial⟩)
def zk_106_o : zO_ := zorcC 106 7 zk_106_te [(0, 1, 0), (0, 2, 0)] [] zk_106_al
theorem zk_106_ok (l : Launch) (X : zx_X) (XL : Nat) (φ : List z_C) (P : List Int → Prop) : zOk l X XL φ P zk_106_o := zOk_C zk_106_c (by decide +kernel) l X XL φ P
