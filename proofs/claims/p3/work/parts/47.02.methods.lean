/-! PART 20.02: what methods do, best, board, byTurns, cost, drawn, feed, helps, ifLine, law, minds, play, read, readLevel, readLine, readOperand, run. -/
/-! readOperand -/
def zk_40_0_te : zA_T := ([], zHT, [(0, (2, (.ofNat 12))), (1, (0, (.ofNat 0)))], [], 0, 0)
def zk_40_0_al : List zAlt := [([], [], zHT, none)]
def zk_40_0_h0 : zHd := (0, zk_40_0_te, [], [], (.ofNat 5), [], [])
def zk_40_0_hs : List zHd := [zk_40_0_h0]
def zk_40_0_or : zO_ := zor zk_46_o (zor zk_43_o (zor zk_40_1_o (zor zk_39_0_1_o (zon))))
theorem zk_40_0_oo (l : Launch) (X : zx_X) (φ : List z_C) (P : List Int → Prop) : zOk l X 2000000 φ P zk_40_0_or := zOk_or (zk_46_ok l X 2000000 φ P) (zOk_or (zk_43_ok l X 2000000 φ P) (zOk_or (zk_40_1_ok l X 2000000 φ P) (zOk_or (zk_39_0_1_ok l X 2000000 φ P) (zOk_no l X 2000000 φ P))))
theorem zk_40_0_r0 : zx1 2000000 (zfinC zk_40_0_al zk_40_0_h0.2.2.2.1) (zcutH zk_40_0_hs zk_40_0_h0 40 89) zk_40_0_or 6000 40 89 zk_40_0_h0.1 (zhS zk_40_0_h0) [] = true := by decide +kernel
theorem zk_40_0_c : zCon 40 89 zk_40_0_te [] zk_40_0_al := zCon_of (n := 6000) (hs := zk_40_0_hs) (lo := []) (c := (.ofNat 5)) (ws := []) (by decide) (by decide +kernel) zk_40_0_oo (List.mem_cons_self) (zAll_mem ⟨zk_40_0_r0, trivial⟩)
def zk_40_0_o : zO_ := zorcC 40 89 zk_40_0_te [] [] zk_40_0_al
theorem zk_40_0_ok (l : Launch) (X : zx_X) (XL : Nat) (φ : List z_C) (P : List Int → Prop) : zOk l X XL φ P zk_40_0_o := zOk_C zk_40_0_c (by decide +kernel) l X XL φ P
/-! readLevel -/
def zk_39_5_0_te : zA_T := ([], zHT, [(0, (2, (.ofNat 12))), (1, (0, (.ofNat 5))), (2, (0, (.ofNat 0)))], [], 0, 0)
def zk_39_5_0_al : List zAlt := [([], [], zHT, none)]
def zk_39_5_0_h0 : zHd := (0, zk_39_5_0_te, [], [], (.ofNat 5), [], [])
def zk_39_5_0_hs : List zHd := [zk_39_5_0_h0]
def zk_39_5_0_or : zO_ := zor zk_40_0_o (zon)
theorem zk_39_5_0_oo (l : Launch) (X : zx_X) (φ : List z_C) (P : List Int → Prop) : zOk l X 2000000 φ P zk_39_5_0_or := zOk_or (zk_40_0_ok l X 2000000 φ P) (zOk_no l X 2000000 φ P)
theorem zk_39_5_0_r0 : zx1 2000000 (zfinC zk_39_5_0_al zk_39_5_0_h0.2.2.2.1) (zcutH zk_39_5_0_hs zk_39_5_0_h0 39 91) zk_39_5_0_or 6000 39 91 zk_39_5_0_h0.1 (zhS zk_39_5_0_h0) [] = true := by decide +kernel
theorem zk_39_5_0_c : zCon 39 91 zk_39_5_0_te [] zk_39_5_0_al := zCon_of (n := 6000) (hs := zk_39_5_0_hs) (lo := []) (c := (.ofNat 5)) (ws := []) (by decide) (by decide +kernel) zk_39_5_0_oo (List.mem_cons_self) (zAll_mem ⟨zk_39_5_0_r0, trivial⟩)
def zk_39_5_0_o : zO_ := zorcC 39 91 zk_39_5_0_te [] [] zk_39_5_0_al
theorem zk_39_5_0_ok (l : Launch) (X : zx_X) (XL : Nat) (φ : List z_C) (P : List Int → Prop) : zOk l X XL φ P zk_39_5_0_o := zOk_C zk_39_5_0_c (by decide +kernel) l X XL φ P
/-! readLevel -/
def zk_39_4_0_te : zA_T := ([], zHT, [(0, (2, (.ofNat 12))), (1, (0, (.ofNat 4))), (2, (0, (.ofNat 0)))], [], 0, 0)
def zk_39_4_0_al : List zAlt := [([], [], zHT, none)]
def zk_39_4_0_h0 : zHd := (0, zk_39_4_0_te, [], [], (.ofNat 247), [], [])
def zk_39_4_0_h1 : zHd := (34, ([((.ofNat 0), (.ofNat 120), zD0)], zHT, [(0, (2, (.ofNat 12))), (1, (0, (.ofNat 4))), (2, (0, (.ofNat 0))), (3, (0, (.ofNat 120))), (4, (1, (.ofNat 0)))], [], 0, 0), [(0, 4, 0)], [], (.ofNat 241), [(.ofNat 2)], [])
def zk_39_4_0_hs : List zHd := [zk_39_4_0_h0, zk_39_4_0_h1]
def zk_39_4_0_or : zO_ := zor zk_39_5_0_o (zon)
theorem zk_39_4_0_oo (l : Launch) (X : zx_X) (φ : List z_C) (P : List Int → Prop) : zOk l X 2000000 φ P zk_39_4_0_or := zOk_or (zk_39_5_0_ok l X 2000000 φ P) (zOk_no l X 2000000 φ P)
theorem zk_39_4_0_r0 : zx1 2000000 (zfinC zk_39_4_0_al zk_39_4_0_h0.2.2.2.1) (zcutH zk_39_4_0_hs zk_39_4_0_h0 39 93) zk_39_4_0_or 6000 39 93 zk_39_4_0_h0.1 (zhS zk_39_4_0_h0) [] = true := by decide +kernel
theorem zk_39_4_0_r1 : zx1 2000000 (zfinC zk_39_4_0_al zk_39_4_0_h1.2.2.2.1) (zcutH zk_39_4_0_hs zk_39_4_0_h1 39 93) zk_39_4_0_or 6000 39 93 zk_39_4_0_h1.1 (zhS zk_39_4_0_h1) [] = true := by decide +kernel
theorem zk_39_4_0_c : zCon 39 93 zk_39_4_0_te [] zk_39_4_0_al := zCon_of (n := 6000) (hs := zk_39_4_0_hs) (lo := []) (c := (.ofNat 247)) (ws := []) (by decide) (by decide +kernel) zk_39_4_0_oo (List.mem_cons_self) (zAll_mem ⟨zk_39_4_0_r0, zk_39_4_0_r1, trivial⟩)
def zk_39_4_0_o : zO_ := zorcC 39 93 zk_39_4_0_te [] [] zk_39_4_0_al
theorem zk_39_4_0_ok (l : Launch) (X : zx_X) (XL : Nat) (φ : List z_C) (P : List Int → Prop) : zOk l X XL φ P zk_39_4_0_o := zOk_C zk_39_4_0_c (by decide +kernel) l X XL φ P
/-! readLevel -/
def zk_39_3_0_te : zA_T := ([], zHT, [(0, (2, (.ofNat 12))), (1, (0, (.ofNat 3))), (2, (0, (.ofNat 0)))], [], 0, 0)
def zk_39_3_0_al : List zAlt := [([], [], zHT, none)]
def zk_39_3_0_h0 : zHd := (0, zk_39_3_0_te, [], [], (.ofNat 247), [], [])
def zk_39_3_0_h1 : zHd := (34, ([((.ofNat 0), (.ofNat 120), zD0)], zHT, [(0, (2, (.ofNat 12))), (1, (0, (.ofNat 3))), (2, (0, (.ofNat 0))), (3, (0, (.ofNat 120))), (4, (1, (.ofNat 0)))], [], 0, 0), [(0, 4, 0)], [], (.ofNat 241), [(.ofNat 2)], [])
def zk_39_3_0_hs : List zHd := [zk_39_3_0_h0, zk_39_3_0_h1]
def zk_39_3_0_or : zO_ := zor zk_39_4_0_o (zon)
theorem zk_39_3_0_oo (l : Launch) (X : zx_X) (φ : List z_C) (P : List Int → Prop) : zOk l X 2000000 φ P zk_39_3_0_or := zOk_or (zk_39_4_0_ok l X 2000000 φ P) (zOk_no l X 2000000 φ P)
theorem zk_39_3_0_r0 : zx1 2000000 (zfinC zk_39_3_0_al zk_39_3_0_h0.2.2.2.1) (zcutH zk_39_3_0_hs zk_39_3_0_h0 39 95) zk_39_3_0_or 6000 39 95 zk_39_3_0_h0.1 (zhS zk_39_3_0_h0) [] = true := by decide +kernel
theorem zk_39_3_0_r1 : zx1 2000000 (zfinC zk_39_3_0_al zk_39_3_0_h1.2.2.2.1) (zcutH zk_39_3_0_hs zk_39_3_0_h1 39 95) zk_39_3_0_or 6000 39 95 zk_39_3_0_h1.1 (zhS zk_39_3_0_h1) [] = true := by decide +kernel
theorem zk_39_3_0_c : zCon 39 95 zk_39_3_0_te [] zk_39_3_0_al := zCon_of (n := 6000) (hs := zk_39_3_0_hs) (lo := []) (c := (.ofNat 247)) (ws := []) (by decide) (by decide +kernel) zk_39_3_0_oo (List.mem_cons_self) (zAll_mem ⟨zk_39_3_0_r0, zk_39_3_0_r1, trivial⟩)
def zk_39_3_0_o : zO_ := zorcC 39 95 zk_39_3_0_te [] [] zk_39_3_0_al
theorem zk_39_3_0_ok (l : Launch) (X : zx_X) (XL : Nat) (φ : List z_C) (P : List Int → Prop) : zOk l X XL φ P zk_39_3_0_o := zOk_C zk_39_3_0_c (by decide +kernel) l X XL φ P
/-! readLevel -/
def zk_39_2_0_te : zA_T := ([], zHT, [(0, (2, (.ofNat 12))), (1, (0, (.ofNat 2))), (2, (0, (.ofNat 0)))], [], 0, 0)
def zk_39_2_0_al : List zAlt := [([], [], zHT, none)]
def zk_39_2_0_h0 : zHd := (0, zk_39_2_0_te, [], [], (.ofNat 9), [], [])
def zk_39_2_0_h1 : zHd := (34, ([((.ofNat 0), (.ofNat 1), zD0)], zHT, [(0, (2, (.ofNat 12))), (1, (0, (.ofNat 2))), (2, (0, (.ofNat 0))), (3, (0, (.ofNat 1))), (4, (1, (.ofNat 0)))], [], 0, 0), [(0, 4, 0)], [], (.ofNat 3), [(.ofNat 2)], [])
def zk_39_2_0_hs : List zHd := [zk_39_2_0_h0, zk_39_2_0_h1]
def zk_39_2_0_or : zO_ := zor zk_39_3_0_o (zon)
theorem zk_39_2_0_oo (l : Launch) (X : zx_X) (φ : List z_C) (P : List Int → Prop) : zOk l X 2000000 φ P zk_39_2_0_or := zOk_or (zk_39_3_0_ok l X 2000000 φ P) (zOk_no l X 2000000 φ P)
theorem zk_39_2_0_r0 : zx1 2000000 (zfinC zk_39_2_0_al zk_39_2_0_h0.2.2.2.1) (zcutH zk_39_2_0_hs zk_39_2_0_h0 39 97) zk_39_2_0_or 6000 39 97 zk_39_2_0_h0.1 (zhS zk_39_2_0_h0) [] = true := by decide +kernel
theorem zk_39_2_0_r1 : zx1 2000000 (zfinC zk_39_2_0_al zk_39_2_0_h1.2.2.2.1) (zcutH zk_39_2_0_hs zk_39_2_0_h1 39 97) zk_39_2_0_or 6000 39 97 zk_39_2_0_h1.1 (zhS zk_39_2_0_h1) [] = true := by decide +kernel
theorem zk_39_2_0_c : zCon 39 97 zk_39_2_0_te [] zk_39_2_0_al := zCon_of (n := 6000) (hs := zk_39_2_0_hs) (lo := []) (c := (.ofNat 9)) (ws := []) (by decide) (by decide +kernel) zk_39_2_0_oo (List.mem_cons_self) (zAll_mem ⟨zk_39_2_0_r0, zk_39_2_0_r1, trivial⟩)
def zk_39_2_0_o : zO_ := zorcC 39 97 zk_39_2_0_te [] [] zk_39_2_0_al
theorem zk_39_2_0_ok (l : Launch) (X : zx_X) (XL : Nat) (φ : List z_C) (P : List Int → Prop) : zOk l X XL φ P zk_39_2_0_o := zOk_C zk_39_2_0_c (by decide +kernel) l X XL φ P
/-! readLevel -/
def zk_39_1_0_te : zA_T := ([], zHT, [(0, (2, (.ofNat 12))), (1, (0, (.ofNat 1))), (2, (0, (.ofNat 0)))], [], 0, 0)
def zk_39_1_0_al : List zAlt := [([], [], zHT, none)]
def zk_39_1_0_h0 : zHd := (0, zk_39_1_0_te, [], [], (.ofNat 247), [], [])
def zk_39_1_0_h1 : zHd := (34, ([((.ofNat 0), (.ofNat 120), zD0)], zHT, [(0, (2, (.ofNat 12))), (1, (0, (.ofNat 1))), (2, (0, (.ofNat 0))), (3, (0, (.ofNat 120))), (4, (1, (.ofNat 0)))], [], 0, 0), [(0, 4, 0)], [], (.ofNat 241), [(.ofNat 2)], [])
def zk_39_1_0_hs : List zHd := [zk_39_1_0_h0, zk_39_1_0_h1]
def zk_39_1_0_or : zO_ := zor zk_39_2_0_o (zon)
theorem zk_39_1_0_oo (l : Launch) (X : zx_X) (φ : List z_C) (P : List Int → Prop) : zOk l X 2000000 φ P zk_39_1_0_or := zOk_or (zk_39_2_0_ok l X 2000000 φ P) (zOk_no l X 2000000 φ P)
theorem zk_39_1_0_r0 : zx1 2000000 (zfinC zk_39_1_0_al zk_39_1_0_h0.2.2.2.1) (zcutH zk_39_1_0_hs zk_39_1_0_h0 39 99) zk_39_1_0_or 6000 39 99 zk_39_1_0_h0.1 (zhS zk_39_1_0_h0) [] = true := by decide +kernel
theorem zk_39_1_0_r1 : zx1 2000000 (zfinC zk_39_1_0_al zk_39_1_0_h1.2.2.2.1) (zcutH zk_39_1_0_hs zk_39_1_0_h1 39 99) zk_39_1_0_or 6000 39 99 zk_39_1_0_h1.1 (zhS zk_39_1_0_h1) [] = true := by decide +kernel
theorem zk_39_1_0_c : zCon 39 99 zk_39_1_0_te [] zk_39_1_0_al := zCon_of (n := 6000) (hs := zk_39_1_0_hs) (lo := []) (c := (.ofNat 247)) (ws := []) (by decide) (by decide +kernel) zk_39_1_0_oo (List.mem_cons_self) (zAll_mem ⟨zk_39_1_0_r0, zk_39_1_0_r1, trivial⟩)
def zk_39_1_0_o : zO_ := zorcC 39 99 zk_39_1_0_te [] [] zk_39_1_0_al
theorem zk_39_1_0_ok (l : Launch) (X : zx_X) (XL : Nat) (φ : List z_C) (P : List Int → Prop) : zOk l X XL φ P zk_39_1_0_o := zOk_C zk_39_1_0_c (by decide +kernel) l X XL φ P
/-! readLevel -/
def zk_39_0_0_te : zA_T := ([], zHT, [(0, (2, (.ofNat 12))), (1, (0, (.ofNat 0))), (2, (0, (.ofNat 0)))], [], 0, 0)
def zk_39_0_0_al : List zAlt := [([], [], zHT, none)]
def zk_39_0_0_h0 : zHd := (0, zk_39_0_0_te, [], [], (.ofNat 247), [], [])
def zk_39_0_0_h1 : zHd := (34, ([((.ofNat 0), (.ofNat 120), zD0)], zHT, [(0, (2, (.ofNat 12))), (1, (0, (.ofNat 0))), (2, (0, (.ofNat 0))), (3, (0, (.ofNat 120))), (4, (1, (.ofNat 0)))], [], 0, 0), [(0, 4, 0)], [], (.ofNat 241), [(.ofNat 2)], [])
def zk_39_0_0_hs : List zHd := [zk_39_0_0_h0, zk_39_0_0_h1]
def zk_39_0_0_or : zO_ := zor zk_39_1_0_o (zon)
theorem zk_39_0_0_oo (l : Launch) (X : zx_X) (φ : List z_C) (P : List Int → Prop) : zOk l X 2000000 φ P zk_39_0_0_or := zOk_or (zk_39_1_0_ok l X 2000000 φ P) (zOk_no l X 2000000 φ P)
theorem zk_39_0_0_r0 : zx1 2000000 (zfinC zk_39_0_0_al zk_39_0_0_h0.2.2.2.1) (zcutH zk_39_0_0_hs zk_39_0_0_h0 39 101) zk_39_0_0_or 6000 39 101 zk_39_0_0_h0.1 (zhS zk_39_0_0_h0) [] = true := by decide +kernel
theorem zk_39_0_0_r1 : zx1 2000000 (zfinC zk_39_0_0_al zk_39_0_0_h1.2.2.2.1) (zcutH zk_39_0_0_hs zk_39_0_0_h1 39 101) zk_39_0_0_or 6000 39 101 zk_39_0_0_h1.1 (zhS zk_39_0_0_h1) [] = true := by decide +kernel
theorem zk_39_0_0_c : zCon 39 101 zk_39_0_0_te [] zk_39_0_0_al := zCon_of (n := 6000) (hs := zk_39_0_0_hs) (lo := []) (c := (.ofNat 247)) (ws := []) (by decide) (by decide +kernel) zk_39_0_0_oo (List.mem_cons_self) (zAll_mem ⟨zk_39_0_0_r0, zk_39_0_0_r1, trivial⟩)
def zk_39_0_0_o : zO_ := zorcC 39 101 zk_39_0_0_te [] [] zk_39_0_0_al
theorem zk_39_0_0_ok (l : Launch) (X : zx_X) (XL : Nat) (φ : List z_C) (P : List Int → Prop) : zOk l X XL φ P zk_39_0_0_o := zOk_C zk_39_0_0_c (by decide +kernel) l X XL φ P
/-! readLine -/
def zk_38_te : zA_T := ([], zHT, [(0, (2, (.ofNat 12)))], [], 0, 0)
def zk_38_al : List zAlt := [([], [], zHT, none)]
def zk_38_h0 : zHd := (0, zk_38_te, [], [], (.ofNat 5), [], [])
def zk_38_hs : List zHd := [zk_38_h0]
def zk_38_or : zO_ := zor zk_46_o (zor zk_39_0_0_o (zon))
theorem zk_38_oo (l : Launch) (X : zx_X) (φ : List z_C) (P : List Int → Prop) : zOk l X 2000000 φ P zk_38_or := zOk_or (zk_46_ok l X 2000000 φ P) (zOk_or (zk_39_0_0_ok l X 2000000 φ P) (zOk_no l X 2000000 φ P))
theorem zk_38_r0 : zx1 2000000 (zfinC zk_38_al zk_38_h0.2.2.2.1) (zcutH zk_38_hs zk_38_h0 38 103) zk_38_or 6000 38 103 zk_38_h0.1 (zhS zk_38_h0) [] = true := by decide +kernel
theorem zk_38_c : zCon 38 103 zk_38_te [] zk_38_al := zCon_of (n := 6000) (hs := zk_38_hs) (lo := []) (c := (.ofNat 5)) (ws := []) (by decide) (by decide +kernel) zk_38_oo (List.mem_cons_self) (zAll_mem ⟨zk_38_r0, trivial⟩)
def zk_38_o : zO_ := zorcC 38 103 zk_38_te [] [] zk_38_al
theorem zk_38_ok (l : Launch) (X : zx_X) (XL : Nat) (φ : List z_C) (P : List Int → Prop) : zOk l X XL φ P zk_38_o := zOk_C zk_38_c (by decide +kernel) l X XL φ P
/-! read -/
def zk_37_te : zA_T := ([], zHT, [(0, (2, (.ofNat 12)))], [], 0, 0)
def zk_37_al : List zAlt := [([((.negSucc 0), (.ofNat 120), none)], [(3, 0, 0)], zHT, some (1, (.ofNat 0)))]
def zk_37_h0 : zHd := (0, zk_37_te, [], [], (.ofNat 247), [], [])
def zk_37_h1 : zHd := (21, ([((.ofNat 0), (.ofNat 120), zD0)], zHT, [(0, (2, (.ofNat 12))), (1, (1, (.ofNat 0)))], [], 0, 0), [(0, 1, 0)], [], (.ofNat 241), [(.ofNat 2)], [])
def zk_37_hs : List zHd := [zk_37_h0, zk_37_h1]
def zk_37_or : zO_ := zor zk_46_o (zor zk_38_o (zon))
theorem zk_37_oo (l : Launch) (X : zx_X) (φ : List z_C) (P : List Int → Prop) : zOk l X 2000000 φ P zk_37_or := zOk_or (zk_46_ok l X 2000000 φ P) (zOk_or (zk_38_ok l X 2000000 φ P) (zOk_no l X 2000000 φ P))
theorem zk_37_r0 : zx1 2000000 (zfinC zk_37_al zk_37_h0.2.2.2.1) (zcutH zk_37_hs zk_37_h0 37 105) zk_37_or 6000 37 105 zk_37_h0.1 (zhS zk_37_h0) [] = true := by decide +kernel
theorem zk_37_r1 : zx1 2000000 (zfinC zk_37_al zk_37_h1.2.2.2.1) (zcutH zk_37_hs zk_37_h1 37 105) zk_37_or 6000 37 105 zk_37_h1.1 (zhS zk_37_h1) [] = true := by decide +kernel
theorem zk_37_c : zCon 37 105 zk_37_te [] zk_37_al := zCon_of (n := 6000) (hs := zk_37_hs) (lo := []) (c := (.ofNat 247)) (ws := []) (by decide) (by decide +kernel) zk_37_oo (List.mem_cons_self) (zAll_mem ⟨zk_37_r0, zk_37_r1, trivial⟩)
def zk_37_o : zO_ := zorcC 37 105 zk_37_te [] [] zk_37_al
theorem zk_37_ok (l : Launch) (X : zx_X) (XL : Nat) (φ : List z_C) (P : List Int → Prop) : zOk l X XL φ P zk_37_o := zOk_C zk_37_c (by decide +kernel) l X XL φ P
/-! feed -/
def zk_33_te : zA_T := ([((.negSucc 2147483647), (.ofNat 2147483647), zD0)], zHT, [(0, (2, (.ofNat 3))), (1, (1, (.ofNat 0)))], [], 0, 0)
def zk_33_al : List zAlt := [([((.negSucc 2), (.ofNat 120), none)], [(3, 0, 0)], zHT, some (1, (.ofNat 0)))]
def zk_33_h0 : zHd := (0, zk_33_te, [(0, 1, 0)], [], (.ofNat 5), [(.ofNat 0)], [])
def zk_33_hs : List zHd := [zk_33_h0]
def zk_33_or : zO_ := zon
theorem zk_33_oo (l : Launch) (X : zx_X) (φ : List z_C) (P : List Int → Prop) : zOk l X 2000000 φ P zk_33_or := zOk_no l X 2000000 φ P
theorem zk_33_r0 : zx1 2000000 (zfinC zk_33_al zk_33_h0.2.2.2.1) (zcutH zk_33_hs zk_33_h0 33 3) zk_33_or 6000 33 3 zk_33_h0.1 (zhS zk_33_h0) [] = true := by decide +kernel
theorem zk_33_c : zCon 33 3 zk_33_te [] zk_33_al := zCon_of (n := 6000) (hs := zk_33_hs) (lo := [(0, 1, 0)]) (c := (.ofNat 5)) (ws := [(.ofNat 0)]) (by decide) (by decide +kernel) zk_33_oo (List.mem_cons_self) (zAll_mem ⟨zk_33_r0, trivial⟩)
def zk_33_o : zO_ := zorcC 33 3 zk_33_te [(0, 1, 0)] [] zk_33_al
theorem zk_33_ok (l : Launch) (X : zx_X) (XL : Nat) (φ : List z_C) (P : List Int → Prop) : zOk l X XL φ P zk_33_o := zOk_C zk_33_c (by decide +kernel) l X XL φ P
/-! law -/
def zk_36_te : zA_T := ([], zHT, [(0, (2, (.ofNat 3)))], [], 0, 0)
def zk_36_al : List zAlt := [([((.negSucc 219), (.ofNat 1), none)], [(3, 0, 0)], zHT, some (1, (.ofNat 0)))]
def zk_36_h0 : zHd := (0, zk_36_te, [], [], (.ofNat 5), [], [])
def zk_36_hs : List zHd := [zk_36_h0]
def zk_36_or : zO_ := zor zk_37_o (zon)
theorem zk_36_oo (l : Launch) (X : zx_X) (φ : List z_C) (P : List Int → Prop) : zOk l X 2000000 φ P zk_36_or := zOk_or (zk_37_ok l X 2000000 φ P) (zOk_no l X 2000000 φ P)
theorem zk_36_r0 : zx1 2000000 (zfinC zk_36_al zk_36_h0.2.2.2.1) (zcutH zk_36_hs zk_36_h0 36 107) zk_36_or 6000 36 107 zk_36_h0.1 (zhS zk_36_h0) [] = true := by decide +kernel
theorem zk_36_c : zCon 36 107 zk_36_te [] zk_36_al := zCon_of (n := 6000) (hs := zk_36_hs) (lo := []) (c := (.ofNat 5)) (ws := []) (by decide) (by decide +kernel) zk_36_oo (List.mem_cons_self) (zAll_mem ⟨zk_36_r0, trivial⟩)
def zk_36_o : zO_ := zorcC 36 107 zk_36_te [] [] zk_36_al
theorem zk_36_ok (l : Launch) (X : zx_X) (XL : Nat) (φ : List z_C) (P : List Int → Prop) : zOk l X XL φ P zk_36_o := zOk_C zk_36_c (by decide +kernel) l X XL φ P
/-! minds -/
def zk_50_te : zA_T := ([((.negSucc 2147483647), (.ofNat 2147483647), zD0), ((.negSucc 2147483647), (.ofNat 2147483647), zD0)], zHT, [(0, (2, (.ofNat 3))), (1, (1, (.ofNat 0))), (2, (1, (.ofNat 1)))], [], 0, 0)
def zk_50_al : List zAlt := [([((.negSucc 2147483647), (.ofNat 2147483647), none)], [(3, 0, 0)], zHT, some (1, (.ofNat 0)))]
def zk_50_h0 : zHd := (0, zk_50_te, [(0, 1, 0), (0, 2, 0)], [], (.ofNat 5), [(.ofNat 0), (.ofNat 0)], [])
def zk_50_hs : List zHd := [zk_50_h0]
def zk_50_or : zO_ := zor zk_55_o (zor zk_54_o (zon))
theorem zk_50_oo (l : Launch) (X : zx_X) (φ : List z_C) (P : List Int → Prop) : zOk l X 2000000 φ P zk_50_or := zOk_or (zk_55_ok l X 2000000 φ P) (zOk_or (zk_54_ok l X 2000000 φ P) (zOk_no l X 2000000 φ P))
theorem zk_50_r0 : zx1 2000000 (zfinC zk_50_al zk_50_h0.2.2.2.1) (zcutH zk_50_hs zk_50_h0 50 13) zk_50_or 6000 50 13 zk_50_h0.1 (zhS zk_50_h0) [] = true := by decide +kernel
theorem zk_50_c : zCon 50 13 zk_50_te [] zk_50_al := zCon_of (n := 6000) (hs := zk_50_hs) (lo := [(0, 1, 0), (0, 2, 0)]) (c := (.ofNat 5)) (ws := [(.ofNat 0), (.ofNat 0)]) (by decide) (by decide +kernel) zk_50_oo (List.mem_cons_self) (zAll_mem ⟨zk_50_r0, trivial⟩)
def zk_50_o : zO_ := zorcC 50 13 zk_50_te [(0, 1, 0), (0, 2, 0)] [] zk_50_al
theorem zk_50_ok (l : Launch) (X : zx_X) (XL : Nat) (φ : List z_C) (P : List Int → Prop) : zOk l X XL φ P zk_50_o := zOk_C zk_50_c (by decide +kernel) l X XL φ P
/-! ifLine -/
def zk_72_te : zA_T := ([((.negSucc 2147483647), (.ofNat 2147483647), zD0)], zHT, [(0, (2, (.ofNat 3))), (1, (1, (.ofNat 0)))], [], 0, 0)
def zk_72_al : List zAlt := [([((.negSucc 2147483647), (.ofNat 2147483647), none)], [(3, 0, 0)], zHT, some (1, (.ofNat 0)))]
def zk_72_h0 : zHd := (0, zk_72_te, [(0, 1, 0)], [], (.ofNat 5), [(.ofNat 0)], [])
def zk_72_hs : List zHd := [zk_72_h0]
def zk_72_or : zO_ := zor zk_54_o (zon)
theorem zk_72_oo (l : Launch) (X : zx_X) (φ : List z_C) (P : List Int → Prop) : zOk l X 2000000 φ P zk_72_or := zOk_or (zk_54_ok l X 2000000 φ P) (zOk_no l X 2000000 φ P)
theorem zk_72_r0 : zx1 2000000 (zfinC zk_72_al zk_72_h0.2.2.2.1) (zcutH zk_72_hs zk_72_h0 72 14) zk_72_or 6000 72 14 zk_72_h0.1 (zhS zk_72_h0) [] = true := by decide +kernel
theorem zk_72_c : zCon 72 14 zk_72_te [] zk_72_al := zCon_of (n := 6000) (hs := zk_72_hs) (lo := [(0, 1, 0)]) (c := (.ofNat 5)) (ws := [(.ofNat 0)]) (by decide) (by decide +kernel) zk_72_oo (List.mem_cons_self) (zAll_mem ⟨zk_72_r0, trivial⟩)
def zk_72_o : zO_ := zorcC 72 14 zk_72_te [(0, 1, 0)] [] zk_72_al
theorem zk_72_ok (l : Launch) (X : zx_X) (XL : Nat) (φ : List z_C) (P : List Int → Prop) : zOk l X XL φ P zk_72_o := zOk_C zk_72_c (by decide +kernel) l X XL φ P
/-! board -/
def zk_75_te : zA_T := ([((.negSucc 2147483647), (.ofNat 2147483647), zD0)], zHT, [(0, (2, (.ofNat 3))), (1, (1, (.ofNat 0)))], [], 0, 0)
def zk_75_al : List zAlt := [([((.negSucc 2147483647), (.ofNat 2147483647), none)], [(3, 0, 0)], zHT, some (1, (.ofNat 0)))]
def zk_75_h0 : zHd := (0, zk_75_te, [(0, 1, 0)], [], (.ofNat 5), [(.ofNat 0)], [])
def zk_75_hs : List zHd := [zk_75_h0]
def zk_75_or : zO_ := zor zk_77_o (zor zk_82_o (zon))
theorem zk_75_oo (l : Launch) (X : zx_X) (φ : List z_C) (P : List Int → Prop) : zOk l X 2000000 φ P zk_75_or := zOk_or (zk_77_ok l X 2000000 φ P) (zOk_or (zk_82_ok l X 2000000 φ P) (zOk_no l X 2000000 φ P))
theorem zk_75_r0 : zx1 2000000 (zfinC zk_75_al zk_75_h0.2.2.2.1) (zcutH zk_75_hs zk_75_h0 75 15) zk_75_or 6000 75 15 zk_75_h0.1 (zhS zk_75_h0) [] = true := by decide +kernel
theorem zk_75_c : zCon 75 15 zk_75_te [] zk_75_al := zCon_of (n := 6000) (hs := zk_75_hs) (lo := [(0, 1, 0)]) (c := (.ofNat 5)) (ws := [(.ofNat 0)]) (by decide) (by decide +kernel) zk_75_oo (List.mem_cons_self) (zAll_mem ⟨zk_75_r0, trivial⟩)
def zk_75_o : zO_ := zorcC 75 15 zk_75_te [(0, 1, 0)] [] zk_75_al
theorem zk_75_ok (l : Launch) (X : zx_X) (XL : Nat) (φ : List z_C) (P : List Int → Prop) : zOk l X XL φ P zk_75_o := zOk_C zk_75_c (by decide +kernel) l X XL φ P
/-! cost -/
def zk_83_te : zA_T := ([((.negSucc 2147483647), (.ofNat 2147483647), zD0), ((.negSucc 2147483647), (.ofNat 2147483647), zD0)], zHT, [(0, (2, (.ofNat 3))), (1, (1, (.ofNat 0))), (2, (1, (.ofNat 1)))], [], 0, 0)
def zk_83_al : List zAlt := [([((.negSucc 2147483647), (.ofNat 2147483647), none)], [(3, 0, 0)], zHT, some (1, (.ofNat 0)))]
def zk_83_h0 : zHd := (0, zk_83_te, [(0, 1, 0), (0, 2, 0)], [], (.ofNat 5), [(.ofNat 0), (.ofNat 0)], [])
def zk_83_hs : List zHd := [zk_83_h0]
def zk_83_or : zO_ := zor zk_54_o (zor zk_85_o (zon))
theorem zk_83_oo (l : Launch) (X : zx_X) (φ : List z_C) (P : List Int → Prop) : zOk l X 2000000 φ P zk_83_or := zOk_or (zk_54_ok l X 2000000 φ P) (zOk_or (zk_85_ok l X 2000000 φ P) (zOk_no l X 2000000 φ P))
theorem zk_83_r0 : zx1 2000000 (zfinC zk_83_al zk_83_h0.2.2.2.1) (zcutH zk_83_hs zk_83_h0 83 15) zk_83_or 6000 83 15 zk_83_h0.1 (zhS zk_83_h0) [] = true := by decide +kernel
theorem zk_83_c : zCon 83 15 zk_83_te [] zk_83_al := zCon_of (n := 6000) (hs := zk_83_hs) (lo := [(0, 1, 0), (0, 2, 0)]) (c := (.ofNat 5)) (ws := [(.ofNat 0), (.ofNat 0)]) (by decide) (by decide +kernel) zk_83_oo (List.mem_cons_self) (zAll_mem ⟨zk_83_r0, trivial⟩)
def zk_83_o : zO_ := zorcC 83 15 zk_83_te [(0, 1, 0), (0, 2, 0)] [] zk_83_al
theorem zk_83_ok (l : Launch) (X : zx_X) (XL : Nat) (φ : List z_C) (P : List Int → Prop) : zOk l X XL φ P zk_83_o := zOk_C zk_83_c (by decide +kernel) l X XL φ P
/-! helps -/
def zk_89_te : zA_T := ([((.negSucc 2147483647), (.ofNat 2147483647), zD0)], zHT, [(0, (2, (.ofNat 3))), (1, (1, (.ofNat 0)))], [], 0, 0)
def zk_89_al : List zAlt := [([((.negSucc 2147483647), (.ofNat 2147483647), none)], [(3, 0, 0)], zHT, some (1, (.ofNat 0)))]
def zk_89_h0 : zHd := (0, zk_89_te, [(0, 1, 0)], [], (.ofNat 5), [(.ofNat 0)], [])
def zk_89_hs : List zHd := [zk_89_h0]
def zk_89_or : zO_ := zor zk_54_o (zor zk_90_o (zon))
theorem zk_89_oo (l : Launch) (X : zx_X) (φ : List z_C) (P : List Int → Prop) : zOk l X 2000000 φ P zk_89_or := zOk_or (zk_54_ok l X 2000000 φ P) (zOk_or (zk_90_ok l X 2000000 φ P) (zOk_no l X 2000000 φ P))
theorem zk_89_r0 : zx1 2000000 (zfinC zk_89_al zk_89_h0.2.2.2.1) (zcutH zk_89_hs zk_89_h0 89 15) zk_89_or 6000 89 15 zk_89_h0.1 (zhS zk_89_h0) [] = true := by decide +kernel
theorem zk_89_c : zCon 89 15 zk_89_te [] zk_89_al := zCon_of (n := 6000) (hs := zk_89_hs) (lo := [(0, 1, 0)]) (c := (.ofNat 5)) (ws := [(.ofNat 0)]) (by decide) (by decide +kernel) zk_89_oo (List.mem_cons_self) (zAll_mem ⟨zk_89_r0, trivial⟩)
def zk_89_o : zO_ := zorcC 89 15 zk_89_te [(0, 1, 0)] [] zk_89_al
theorem zk_89_ok (l : Launch) (X : zx_X) (XL : Nat) (φ : List z_C) (P : List Int → Prop) : zOk l X XL φ P zk_89_o := zOk_C zk_89_c (by decide +kernel) l X XL φ P
/-! best -/
def zk_105_0_te : zA_T := ([((.ofNat 0), (.ofNat 16777215), zD0), ((.negSucc 2147483647), (.ofNat 2147483647), zD0), ((.negSucc 2147483647), (.ofNat 2147483647), zD0)], zHT, [(0, (2, (.ofNat 18))), (1, (0, (.ofNat 0))), (2, (1, (.ofNat 0))), (3, (1, (.ofNat 1))), (4, (1, (.ofNat 2)))], [], 0, 0)
def zk_105_0_al : List zAlt := [([((.negSucc 2147483647), (.ofNat 2147483647), none)], [(3, 0, 0)], zHT, some (1, (.ofNat 0)))]
def zk_105_0_h0 : zHd := (0, zk_105_0_te, [(0, 2, 0), (0, 3, 0), (0, 4, 0)], [], (.ofNat 5), [(.ofNat 0), (.ofNat 0), (.ofNat 0)], [])
def zk_105_0_hs : List zHd := [zk_105_0_h0]
def zk_105_0_or : zO_ := zon
theorem zk_105_0_oo (l : Launch) (X : zx_X) (φ : List z_C) (P : List Int → Prop) : zOk l X 2000000 φ P zk_105_0_or := zOk_no l X 2000000 φ P
theorem zk_105_0_r0 : zx1 2000000 (zfinC zk_105_0_al zk_105_0_h0.2.2.2.1) (zcutH zk_105_0_hs zk_105_0_h0 105 2) zk_105_0_or 6000 105 2 zk_105_0_h0.1 (zhS zk_105_0_h0) [] = true := by decide +kernel
theorem zk_105_0_c : zCon 105 2 zk_105_0_te [] zk_105_0_al := zCon_of (n := 6000) (hs := zk_105_0_hs) (lo := [(0, 2, 0), (0, 3, 0), (0, 4, 0)]) (c := (.ofNat 5)) (ws := [(.ofNat 0), (.ofNat 0), (.ofNat 0)]) (by decide) (by decide +kernel) zk_105_0_oo (List.mem_cons_self) (zAll_mem ⟨zk_105_0_r0, trivial⟩)
def zk_105_0_o : zO_ := zorcC 105 2 zk_105_0_te [(0, 2, 0), (0, 3, 0), (0, 4, 0)] [] zk_105_0_al
theorem zk_105_0_ok (l : Launch) (X : zx_X) (XL : Nat) (φ : List z_C) (P : List Int → Prop) : zOk l X XL φ P zk_105_0_o := zOk_C zk_105_0_c (by decide +kernel) l X XL φ P
/-! best -/
def zk_105_1_te : zA_T := ([((.ofNat 0), (.ofNat 1), zD0), ((.ofNat 0), (.ofNat 16777215), zD0), ((.negSucc 2147483647), (.ofNat 2147483647), zD0), ((.negSucc 2147483647), (.ofNat 2147483647), zD0)], zHT, [(0, (2, (.ofNat 18))), (1, (1, (.ofNat 0))), (2, (1, (.ofNat 1))), (3, (1, (.ofNat 2))), (4, (1, (.ofNat 3)))], [], 0, 0)
def zk_105_1_al : List zAlt := [([((.negSucc 2147483647), (.ofNat 2147483647), none)], [(3, 0, 0)], zHT, some (1, (.ofNat 0)))]
def zk_105_1_h0 : zHd := (0, zk_105_1_te, [(0, 1, 0), (0, 2, 0), (0, 3, 0), (0, 4, 0)], [], (.ofNat 57), [(.ofNat 0), (.ofNat 0), (.ofNat 0), (.ofNat 0)], [])
def zk_105_1_h1 : zHd := (55, ([((.ofNat 0), (.ofNat 16777215), zD0), ((.negSucc 2147483647), (.ofNat 2147483647), zD0), ((.negSucc 2147483647), (.ofNat 2147483647), zD0), ((.ofNat 0), (.ofNat 1), zD0), ((.ofNat 0), (.ofNat 1), zD0), ((.negSucc 0), (.ofNat 24), zD0), ((.negSucc 2147483647), (.ofNat 2147483647), zD0), ((.ofNat 0), (.ofNat 25), zD0)], zHT, [(0, (2, (.ofNat 18))), (1, (0, (.ofNat 1))), (2, (1, (.ofNat 0))), (3, (1, (.ofNat 1))), (4, (1, (.ofNat 2))), (5, (1, (.ofNat 3))), (6, (1, (.ofNat 4))), (7, (1, (.ofNat 5))), (8, (1, (.ofNat 6))), (9, (1, (.ofNat 7)))], [], 0, 0), [(0, 2, 0), (0, 3, 0), (0, 4, 0), (0, 5, 0), (0, 6, 0), (0, 7, 0), (0, 8, 0), (0, 9, 0)], [], (.ofNat 51), [(.ofNat 0), (.ofNat 0), (.ofNat 0), (.ofNat 0), (.ofNat 0), (.ofNat 0), (.ofNat 0), (.ofNat 2)], [])
def zk_105_1_hs : List zHd := [zk_105_1_h0, zk_105_1_h1]
def zk_105_1_or : zO_ := zor zk_55_o (zor zk_105_0_o (zon))
theorem zk_105_1_oo (l : Launch) (X : zx_X) (φ : List z_C) (P : List Int → Prop) : zOk l X 2000000 φ P zk_105_1_or := zOk_or (zk_55_ok l X 2000000 φ P) (zOk_or (zk_105_0_ok l X 2000000 φ P) (zOk_no l X 2000000 φ P))
theorem zk_105_1_r0 : zx1 2000000 (zfinC zk_105_1_al zk_105_1_h0.2.2.2.1) (zcutH zk_105_1_hs zk_105_1_h0 105 11) zk_105_1_or 6000 105 11 zk_105_1_h0.1 (zhS zk_105_1_h0) [] = true := by decide +kernel
theorem zk_105_1_r1 : zx1 2000000 (zfinC zk_105_1_al zk_105_1_h1.2.2.2.1) (zcutH zk_105_1_hs zk_105_1_h1 105 11) zk_105_1_or 6000 105 11 zk_105_1_h1.1 (zhS zk_105_1_h1) [] = true := by decide +kernel
theorem zk_105_1_c : zCon 105 11 zk_105_1_te [] zk_105_1_al := zCon_of (n := 6000) (hs := zk_105_1_hs) (lo := [(0, 1, 0), (0, 2, 0), (0, 3, 0), (0, 4, 0)]) (c := (.ofNat 57)) (ws := [(.ofNat 0), (.ofNat 0), (.ofNat 0), (.ofNat 0)]) (by decide) (by decide +kernel) zk_105_1_oo (List.mem_cons_self) (zAll_mem ⟨zk_105_1_r0, zk_105_1_r1, trivial⟩)
def zk_105_1_o : zO_ := zorcC 105 11 zk_105_1_te [(0, 1, 0), (0, 2, 0), (0, 3, 0), (0, 4, 0)] [] zk_105_1_al
theorem zk_105_1_ok (l : Launch) (X : zx_X) (XL : Nat) (φ : List z_C) (P : List Int → Prop) : zOk l X XL φ P zk_105_1_o := zOk_C zk_105_1_c (by decide +kernel) l X XL φ P
/-! best -/
def zk_105_2_te : zA_T := ([((.ofNat 0), (.ofNat 2), zD0), ((.ofNat 0), (.ofNat 16777215), zD0), ((.negSucc 2147483647), (.ofNat 2147483647), zD0), ((.negSucc 2147483647), (.ofNat 2147483647), zD0)], zHT, [(0, (2, (.ofNat 18))), (1, (1, (.ofNat 0))), (2, (1, (.ofNat 1))), (3, (1, (.ofNat 2))), (4, (1, (.ofNat 3)))], [], 0, 0)
def zk_105_2_al : List zAlt := [([((.negSucc 2147483647), (.ofNat 2147483647), none)], [(3, 0, 0)], zHT, some (1, (.ofNat 0)))]
def zk_105_2_h0 : zHd := (0, zk_105_2_te, [(0, 1, 0), (0, 2, 0), (0, 3, 0), (0, 4, 0)], [], (.ofNat 57), [(.ofNat 0), (.ofNat 0), (.ofNat 0), (.ofNat 0)], [])
def zk_105_2_h1 : zHd := (55, ([((.ofNat 1), (.ofNat 2), zD0), ((.ofNat 0), (.ofNat 16777215), zD0), ((.negSucc 2147483647), (.ofNat 2147483647), zD0), ((.negSucc 2147483647), (.ofNat 2147483647), zD0), ((.ofNat 0), (.ofNat 1), zD0), ((.ofNat 0), (.ofNat 1), zD0), ((.negSucc 0), (.ofNat 24), zD0), ((.negSucc 2147483647), (.ofNat 2147483647), zD0), ((.ofNat 0), (.ofNat 25), zD0)], zHT, [(0, (2, (.ofNat 18))), (1, (1, (.ofNat 0))), (2, (1, (.ofNat 1))), (3, (1, (.ofNat 2))), (4, (1, (.ofNat 3))), (5, (1, (.ofNat 4))), (6, (1, (.ofNat 5))), (7, (1, (.ofNat 6))), (8, (1, (.ofNat 7))), (9, (1, (.ofNat 8)))], [], 0, 0), [(0, 1, 0), (0, 2, 0), (0, 3, 0), (0, 4, 0), (0, 5, 0), (0, 6, 0), (0, 7, 0), (0, 8, 0), (0, 9, 0)], [], (.ofNat 51), [(.ofNat 0), (.ofNat 0), (.ofNat 0), (.ofNat 0), (.ofNat 0), (.ofNat 0), (.ofNat 0), (.ofNat 0), (.ofNat 2)], [])
def zk_105_2_hs : List zHd := [zk_105_2_h0, zk_105_2_h1]
def zk_105_2_or : zO_ := zor zk_55_o (zor zk_105_1_o (zon))
theorem zk_105_2_oo (l : Launch) (X : zx_X) (φ : List z_C) (P : List Int → Prop) : zOk l X 2000000 φ P zk_105_2_or := zOk_or (zk_55_ok l X 2000000 φ P) (zOk_or (zk_105_1_ok l X 2000000 φ P) (zOk_no l X 2000000 φ P))
theorem zk_105_2_r0 : zx1 2000000 (zfinC zk_105_2_al zk_105_2_h0.2.2.2.1) (zcutH zk_105_2_hs zk_105_2_h0 105 13) zk_105_2_or 6000 105 13 zk_105_2_h0.1 (zhS zk_105_2_h0) [] = true := by decide +kernel
theorem zk_105_2_r1 : zx1 2000000 (zfinC zk_105_2_al zk_105_2_h1.2.2.2.1) (zcutH zk_105_2_hs zk_105_2_h1 105 13) zk_105_2_or 6000 105 13 zk_105_2_h1.1 (zhS zk_105_2_h1) [] = true := by decide +kernel
theorem zk_105_2_c : zCon 105 13 zk_105_2_te [] zk_105_2_al := zCon_of (n := 6000) (hs := zk_105_2_hs) (lo := [(0, 1, 0), (0, 2, 0), (0, 3, 0), (0, 4, 0)]) (c := (.ofNat 57)) (ws := [(.ofNat 0), (.ofNat 0), (.ofNat 0), (.ofNat 0)]) (by decide) (by decide +kernel) zk_105_2_oo (List.mem_cons_self) (zAll_mem ⟨zk_105_2_r0, zk_105_2_r1, trivial⟩)
def zk_105_2_o : zO_ := zorcC 105 13 zk_105_2_te [(0, 1, 0), (0, 2, 0), (0, 3, 0), (0, 4, 0)] [] zk_105_2_al
theorem zk_105_2_ok (l : Launch) (X : zx_X) (XL : Nat) (φ : List z_C) (P : List Int → Prop) : zOk l X XL φ P zk_105_2_o := zOk_C zk_105_2_c (by decide +kernel) l X XL φ P
/-! best -/
def zk_105_3_te : zA_T := ([((.ofNat 0), (.ofNat 3), zD0), ((.ofNat 0), (.ofNat 16777215), zD0), ((.negSucc 2147483647), (.ofNat 2147483647), zD0), ((.negSucc 2147483647), (.ofNat 2147483647), zD0)], zHT, [(0, (2, (.ofNat 18))), (1, (1, (.ofNat 0))), (2, (1, (.ofNat 1))), (3, (1, (.ofNat 2))), (4, (1, (.ofNat 3)))], [], 0, 0)
def zk_105_3_al : List zAlt := [([((.negSucc 2147483647), (.ofNat 2147483647), none)], [(3, 0, 0)], zHT, some (1, (.ofNat 0)))]
def zk_105_3_h0 : zHd := (0, zk_105_3_te, [(0, 1, 0), (0, 2, 0), (0, 3, 0), (0, 4, 0)], [], (.ofNat 57), [(.ofNat 0), (.ofNat 0), (.ofNat 0), (.ofNat 0)], [])
def zk_105_3_h1 : zHd := (55, ([((.ofNat 1), (.ofNat 3), zD0), ((.ofNat 0), (.ofNat 16777215), zD0), ((.negSucc 2147483647), (.ofNat 2147483647), zD0), ((.negSucc 2147483647), (.ofNat 2147483647), zD0), ((.ofNat 0), (.ofNat 1), zD0), ((.ofNat 0), (.ofNat 1), zD0), ((.negSucc 0), (.ofNat 24), zD0), ((.negSucc 2147483647), (.ofNat 2147483647), zD0), ((.ofNat 0), (.ofNat 25), zD0)], zHT, [(0, (2, (.ofNat 18))), (1, (1, (.ofNat 0))), (2, (1, (.ofNat 1))), (3, (1, (.ofNat 2))), (4, (1, (.ofNat 3))), (5, (1, (.ofNat 4))), (6, (1, (.ofNat 5))), (7, (1, (.ofNat 6))), (8, (1, (.ofNat 7))), (9, (1, (.ofNat 8)))], [], 0, 0), [(0, 1, 0), (0, 2, 0), (0, 3, 0), (0, 4, 0), (0, 5, 0), (0, 6, 0), (0, 7, 0), (0, 8, 0), (0, 9, 0)], [], (.ofNat 51), [(.ofNat 0), (.ofNat 0), (.ofNat 0), (.ofNat 0), (.ofNat 0), (.ofNat 0), (.ofNat 0), (.ofNat 0), (.ofNat 2)], [])
def zk_105_3_hs : List zHd := [zk_105_3_h0, zk_105_3_h1]
def zk_105_3_or : zO_ := zor zk_55_o (zor zk_105_2_o (zon))
theorem zk_105_3_oo (l : Launch) (X : zx_X) (φ : List z_C) (P : List Int → Prop) : zOk l X 2000000 φ P zk_105_3_or := zOk_or (zk_55_ok l X 2000000 φ P) (zOk_or (zk_105_2_ok l X 2000000 φ P) (zOk_no l X 2000000 φ P))
theorem zk_105_3_r0 : zx1 2000000 (zfinC zk_105_3_al zk_105_3_h0.2.2.2.1) (zcutH zk_105_3_hs zk_105_3_h0 105 15) zk_105_3_or 6000 105 15 zk_105_3_h0.1 (zhS zk_105_3_h0) [] = true := by decide +kernel
theorem zk_105_3_r1 : zx1 2000000 (zfinC zk_105_3_al zk_105_3_h1.2.2.2.1) (zcutH zk_105_3_hs zk_105_3_h1 105 15) zk_105_3_or 6000 105 15 zk_105_3_h1.1 (zhS zk_105_3_h1) [] = true := by decide +kernel
theorem zk_105_3_c : zCon 105 15 zk_105_3_te [] zk_105_3_al := zCon_of (n := 6000) (hs := zk_105_3_hs) (lo := [(0, 1, 0), (0, 2, 0), (0, 3, 0), (0, 4, 0)]) (c := (.ofNat 57)) (ws := [(.ofNat 0), (.ofNat 0), (.ofNat 0), (.ofNat 0)]) (by decide) (by decide +kernel) zk_105_3_oo (List.mem_cons_self) (zAll_mem ⟨zk_105_3_r0, zk_105_3_r1, trivial⟩)
def zk_105_3_o : zO_ := zorcC 105 15 zk_105_3_te [(0, 1, 0), (0, 2, 0), (0, 3, 0), (0, 4, 0)] [] zk_105_3_al
theorem zk_105_3_ok (l : Launch) (X : zx_X) (XL : Nat) (φ : List z_C) (P : List Int → Prop) : zOk l X XL φ P zk_105_3_o := zOk_C zk_105_3_c (by decide +kernel) l X XL φ P
/-! play -/
def zk_104_te : zA_T := ([((.ofNat 0), (.ofNat 7), zD0), ((.ofNat 0), (.ofNat 7), zD0), ((.ofNat 1), (.ofNat 3), zD0)], zHT, [(0, (2, (.ofNat 18))), (1, (1, (.ofNat 0))), (2, (1, (.ofNat 1))), (3, (1, (.ofNat 2)))], [], 0, 0)
def zk_104_al : List zAlt := [([((.negSucc 2147483647), (.ofNat 2147483647), none)], [(3, 0, 0)], zHT, some (1, (.ofNat 0)))]
def zk_104_h0 : zHd := (0, zk_104_te, [(0, 1, 0), (0, 2, 0), (0, 3, 0)], [], (.ofNat 5), [(.ofNat 0), (.ofNat 0), (.ofNat 0)], [])
def zk_104_hs : List zHd := [zk_104_h0]
def zk_104_or : zO_ := zor zk_54_o (zor zk_105_3_o (zon))
theorem zk_104_oo (l : Launch) (X : zx_X) (φ : List z_C) (P : List Int → Prop) : zOk l X 2000000 φ P zk_104_or := zOk_or (zk_54_ok l X 2000000 φ P) (zOk_or (zk_105_3_ok l X 2000000 φ P) (zOk_no l X 2000000 φ P))
theorem zk_104_r0 : zx1 2000000 (zfinC zk_104_al zk_104_h0.2.2.2.1) (zcutH zk_104_hs zk_104_h0 104 17) zk_104_or 6000 104 17 zk_104_h0.1 (zhS zk_104_h0) [] = true := by decide +kernel
theorem zk_104_c : zCon 104 17 zk_104_te [] zk_104_al := zCon_of (n := 6000) (hs := zk_104_hs) (lo := [(0, 1, 0), (0, 2, 0), (0, 3, 0)]) (c := (.ofNat 5)) (ws := [(.ofNat 0), (.ofNat 0), (.ofNat 0)]) (by decide) (by decide +kernel) zk_104_oo (List.mem_cons_self) (zAll_mem ⟨zk_104_r0, trivial⟩)
def zk_104_o : zO_ := zorcC 104 17 zk_104_te [(0, 1, 0), (0, 2, 0), (0, 3, 0)] [] zk_104_al
theorem zk_104_ok (l : Launch) (X : zx_X) (XL : Nat) (φ : List z_C) (P : List Int → Prop) : zOk l X XL φ P zk_104_o := zOk_C zk_104_c (by decide +kernel) l X XL φ P
/-! byTurns -/
def zk_103_te : zA_T := ([((.negSucc 2147483647), (.ofNat 2147483647), zD0), ((.negSucc 2147483647), (.ofNat 2147483647), zD0)], zHT, [(0, (2, (.ofNat 3))), (1, (1, (.ofNat 0))), (2, (1, (.ofNat 1)))], [], 0, 0)
def zk_103_al : List zAlt := [([((.negSucc 2147483647), (.ofNat 2147483647), none)], [(3, 0, 0)], zHT, some (1, (.ofNat 0)))]
def zk_103_h0 : zHd := (0, zk_103_te, [(0, 1, 0), (0, 2, 0)], [], (.ofNat 5), [(.ofNat 0), (.ofNat 0)], [])
def zk_103_hs : List zHd := [zk_103_h0]
def zk_103_or : zO_ := zor zk_104_o (zon)
theorem zk_103_oo (l : Launch) (X : zx_X) (φ : List z_C) (P : List Int → Prop) : zOk l X 2000000 φ P zk_103_or := zOk_or (zk_104_ok l X 2000000 φ P) (zOk_no l X 2000000 φ P)
theorem zk_103_r0 : zx1 2000000 (zfinC zk_103_al zk_103_h0.2.2.2.1) (zcutH zk_103_hs zk_103_h0 103 19) zk_103_or 6000 103 19 zk_103_h0.1 (zhS zk_103_h0) [] = true := by decide +kernel
theorem zk_103_c : zCon 103 19 zk_103_te [] zk_103_al := zCon_of (n := 6000) (hs := zk_103_hs) (lo := [(0, 1, 0), (0, 2, 0)]) (c := (.ofNat 5)) (ws := [(.ofNat 0), (.ofNat 0)]) (by decide) (by decide +kernel) zk_103_oo (List.mem_cons_self) (zAll_mem ⟨zk_103_r0, trivial⟩)
def zk_103_o : zO_ := zorcC 103 19 zk_103_te [(0, 1, 0), (0, 2, 0)] [] zk_103_al
theorem zk_103_ok (l : Launch) (X : zx_X) (XL : Nat) (φ : List z_C) (P : List Int → Prop) : zOk l X XL φ P zk_103_o := zOk_C zk_103_c (by decide +kernel) l X XL φ P
/-! drawn -/
def zk_129_te : zA_T := ([((.negSucc 2147483647), (.ofNat 2147483647), zD0), ((.negSucc 2147483647), (.ofNat 2147483647), zD0), ((.negSucc 2147483647), (.ofNat 2147483647), zD0)], zHT, [(0, (2, (.ofNat 3))), (1, (1, (.ofNat 0))), (2, (1, (.ofNat 1))), (3, (1, (.ofNat 2)))], [], 0, 0)
def zk_129_al : List zAlt := [([((.negSucc 2147483647), (.ofNat 2147483647), none)], [(3, 0, 0)], zHT, some (1, (.ofNat 0)))]
def zk_129_h0 : zHd := (0, zk_129_te, [(0, 1, 0), (0, 2, 0), (0, 3, 0)], [], (.ofNat 5), [(.ofNat 0), (.ofNat 0), (.ofNat 0)], [])
def zk_129_hs : List zHd := [zk_129_h0]
def zk_129_or : zO_ := zor zk_130_o (zon)
theorem zk_129_oo (l : Launch) (X : zx_X) (φ : List z_C) (P : List Int → Prop) : zOk l X 2000000 φ P zk_129_or := zOk_or (zk_130_ok l X 2000000 φ P) (zOk_no l X 2000000 φ P)
theorem zk_129_r0 : zx1 2000000 (zfinC zk_129_al zk_129_h0.2.2.2.1) (zcutH zk_129_hs zk_129_h0 129 15) zk_129_or 6000 129 15 zk_129_h0.1 (zhS zk_129_h0) [] = true := by decide +kernel
theorem zk_129_c : zCon 129 15 zk_129_te [] zk_129_al := zCon_of (n := 6000) (hs := zk_129_hs) (lo := [(0, 1, 0), (0, 2, 0), (0, 3, 0)]) (c := (.ofNat 5)) (ws := [(.ofNat 0), (.ofNat 0), (.ofNat 0)]) (by decide) (by decide +kernel) zk_129_oo (List.mem_cons_self) (zAll_mem ⟨zk_129_r0, trivial⟩)
def zk_129_o : zO_ := zorcC 129 15 zk_129_te [(0, 1, 0), (0, 2, 0), (0, 3, 0)] [] zk_129_al
theorem zk_129_ok (l : Launch) (X : zx_X) (XL : Nat) (φ : List z_C) (P : List Int → Prop) : zOk l X XL φ P zk_129_o := zOk_C zk_129_c (by decide +kernel) l X XL φ P
/-! run -/
def zk_155_0_0_100_te : zA_T := ([((.ofNat 0), (.ofNat 103), zD0), ((.ofNat 0), (.ofNat 49), zD0), ((.negSucc 2147483647), (.ofNat 2147483647), zD0), ((.ofNat 0), (.ofNat 40), zD0)], (zHT.set 27 (0, 9, 0, [(2, (.ofNat 31)), (2, (.ofNat 32)), (6, (.ofNat 433791696896)), (1, (.ofNat 0))], [(2, (8, (.ofNat 27)))])), [(0, (2, (.ofNat 30))), (1, (1, (.ofNat 1))), (2, (0, (.ofNat 0))), (3, (0, (.ofNat 0))), (4, (1, (.ofNat 2))), (5, (1, (.ofNat 3)))], [], 0, 0)
def zk_155_0_0_100_al : List zAlt := [([((.ofNat 0), (.ofNat 104), none), ((.negSucc 2147483647), (.ofNat 2147483647), none)], [(1, 27, 3), (3, 0, 0)], (zHT.set 27 (0, 9, 0, [(2, (.ofNat 31)), (2, (.ofNat 32)), (6, (.ofNat 433791696896)), (1, (.ofNat 0))], [(2, (8, (.ofNat 27)))])), some (1, (.ofNat 1)))]
def zk_155_0_0_100_h0 : zHd := (0, zk_155_0_0_100_te, [(1, 27, 3), (0, 1, 0), (0, 4, 0), (0, 5, 0)], [], (.ofNat 5), [(.ofNat 0), (.ofNat 0), (.ofNat 0), (.ofNat 0)], [])
def zk_155_0_0_100_hs : List zHd := [zk_155_0_0_100_h0]
def zk_155_0_0_100_or : zO_ := zon
theorem zk_155_0_0_100_oo (l : Launch) (X : zx_X) (φ : List z_C) (P : List Int → Prop) : zOk l X 2000000 φ P zk_155_0_0_100_or := zOk_no l X 2000000 φ P
theorem zk_155_0_0_100_r0 : zx1 2000000 (zfinC zk_155_0_0_100_al zk_155_0_0_100_h0.2.2.2.1) (zcutH zk_155_0_0_100_hs zk_155_0_0_100_h0 155 3) zk_155_0_0_100_or 6000 155 3 zk_155_0_0_100_h0.1 (zhS zk_155_0_0_100_h0) [] = true := by decide +kernel
theorem zk_155_0_0_100_c : zCon 155 3 zk_155_0_0_100_te [] zk_155_0_0_100_al := zCon_of (n := 6000) (hs := zk_155_0_0_100_hs) (lo := [(1, 27, 3), (0, 1, 0), (0, 4, 0), (0, 5, 0)]) (c := (.ofNat 5)) (ws := [(.ofNat 0), (.ofNat 0), (.ofNat 0), (.ofNat 0)]) (by decide) (by decide +kernel) zk_155_0_0_100_oo (List.mem_cons_self) (zAll_mem ⟨zk_155_0_0_100_r0, trivial⟩)
def zk_155_0_0_100_o : zO_ := zorcC 155 3 zk_155_0_0_100_te [(1, 27, 3), (0, 1, 0), (0, 4, 0), (0, 5, 0)] [] zk_155_0_0_100_al
theorem zk_155_0_0_100_ok (l : Launch) (X : zx_X) (XL : Nat) (φ : List z_C) (P : List Int → Prop) : zOk l X XL φ P zk_155_0_0_100_o := zOk_C zk_155_0_0_100_c (by decide +kernel) l X XL φ P
/-! run -/
def zk_155_1_0_100_te : zA_T := ([((.ofNat 0), (.ofNat 102), zD0), ((.ofNat 0), (.ofNat 49), zD0), ((.negSucc 2147483647), (.ofNat 2147483647), zD0), ((.ofNat 0), (.ofNat 40), zD0)], (zHT.set 27 (0, 9, 0, [(2, (.ofNat 31)), (2, (.ofNat 32)), (6, (.ofNat 433791696896)), (1, (.ofNat 0))], [(2, (8, (.ofNat 27)))])), [(0, (2, (.ofNat 30))), (1, (1, (.ofNat 1))), (2, (0, (.ofNat 1))), (3, (0, (.ofNat 0))), (4, (1, (.ofNat 2))), (5, (1, (.ofNat 3)))], [], 0, 0)
def zk_155_1_0_100_al : List zAlt := [([((.ofNat 0), (.ofNat 104), none), ((.negSucc 2147483647), (.ofNat 2147483647), none)], [(1, 27, 3), (3, 0, 0)], (zHT.set 27 (0, 9, 0, [(2, (.ofNat 31)), (2, (.ofNat 32)), (6, (.ofNat 433791696896)), (1, (.ofNat 0))], [(2, (8, (.ofNat 27)))])), some (1, (.ofNat 1)))]
def zk_155_1_0_100_h0 : zHd := (0, zk_155_1_0_100_te, [(1, 27, 3), (0, 1, 0), (0, 4, 0), (0, 5, 0)], [], (.ofNat 5), [(.ofNat 0), (.ofNat 0), (.ofNat 0), (.ofNat 0)], [])
def zk_155_1_0_100_hs : List zHd := [zk_155_1_0_100_h0]
def zk_155_1_0_100_or : zO_ := zor (zor zk_155_0_0_100_o (zon)) (zspl 155 2 (zor (zor zk_155_0_0_100_o (zon)) (zspl 155 3 (zor zk_155_0_0_100_o (zon)))))
theorem zk_155_1_0_100_oo (l : Launch) (X : zx_X) (φ : List z_C) (P : List Int → Prop) : zOk l X 2000000 φ P zk_155_1_0_100_or := zOk_or (zOk_or (zk_155_0_0_100_ok l X 2000000 φ P) (zOk_no l X 2000000 φ P)) (zOk_spl (m0 := 155) (i := 2) (zOk_or (zOk_or (zk_155_0_0_100_ok l X 2000000 φ P) (zOk_no l X 2000000 φ P)) (zOk_spl (m0 := 155) (i := 3) (zOk_or (zk_155_0_0_100_ok l X 2000000 φ P) (zOk_no l X 2000000 φ P)))))
theorem zk_155_1_0_100_r0 : zx1 2000000 (zfinC zk_155_1_0_100_al zk_155_1_0_100_h0.2.2.2.1) (zcutH zk_155_1_0_100_hs zk_155_1_0_100_h0 155 6) zk_155_1_0_100_or 6000 155 6 zk_155_1_0_100_h0.1 (zhS zk_155_1_0_100_h0) [] = true := by decide +kernel
theorem zk_155_1_0_100_c : zCon 155 6 zk_155_1_0_100_te [] zk_155_1_0_100_al := zCon_of (n := 6000) (hs := zk_155_1_0_100_hs) (lo := [(1, 27, 3), (0, 1, 0), (0, 4, 0), (0, 5, 0)]) (c := (.ofNat 5)) (ws := [(.ofNat 0), (.ofNat 0), (.ofNat 0), (.ofNat 0)]) (by decide) (by decide +kernel) zk_155_1_0_100_oo (List.mem_cons_self) (zAll_mem ⟨zk_155_1_0_100_r0, trivial⟩)
def zk_155_1_0_100_o : zO_ := zorcC 155 6 zk_155_1_0_100_te [(1, 27, 3), (0, 1, 0), (0, 4, 0), (0, 5, 0)] [] zk_155_1_0_100_al
theorem zk_155_1_0_100_ok (l : Launch) (X : zx_X) (XL : Nat) (φ : List z_C) (P : List Int → Prop) : zOk l X XL φ P zk_155_1_0_100_o := zOk_C zk_155_1_0_100_c (by decide +kernel) l X XL φ P
/-! run -/
def zk_155_2_0_100_te : zA_T := ([((.ofNat 0), (.ofNat 102), zD0), ((.ofNat 0), (.ofNat 49), zD0), ((.negSucc 2147483647), (.ofNat 2147483647), zD0), ((.ofNat 0), (.ofNat 40), zD0)], (zHT.set 27 (0, 9, 0, [(2, (.ofNat 31)), (2, (.ofNat 32)), (6, (.ofNat 433791696896)), (1, (.ofNat 0))], [(2, (8, (.ofNat 27)))])), [(0, (2, (.ofNat 30))), (1, (1, (.ofNat 1))), (2, (0, (.ofNat 2))), (3, (0, (.ofNat 0))), (4, (1, (.ofNat 2))), (5, (1, (.ofNat 3)))], [], 0, 0)
def zk_155_2_0_100_al : List zAlt := [([((.ofNat 0), (.ofNat 103), none), ((.negSucc 2147483647), (.ofNat 2147483647), none)], [(1, 27, 3), (3, 0, 0)], (zHT.set 27 (0, 9, 0, [(2, (.ofNat 31)), (2, (.ofNat 32)), (6, (.ofNat 433791696896)), (1, (.ofNat 0))], [(2, (8, (.ofNat 27)))])), some (1, (.ofNat 1)))]
def zk_155_2_0_100_h0 : zHd := (0, zk_155_2_0_100_te, [(1, 27, 3), (0, 1, 0), (0, 4, 0), (0, 5, 0)], [], (.ofNat 5), [(.ofNat 0), (.ofNat 0), (.ofNat 0), (.ofNat 0)], [])
def zk_155_2_0_100_hs : List zHd := [zk_155_2_0_100_h0]
def zk_155_2_0_100_or : zO_ := zon
theorem zk_155_2_0_100_oo (l : Launch) (X : zx_X) (φ : List z_C) (P : List Int → Prop) : zOk l X 2000000 φ P zk_155_2_0_100_or := zOk_no l X 2000000 φ P
theorem zk_155_2_0_100_r0 : zx1 2000000 (zfinC zk_155_2_0_100_al zk_155_2_0_100_h0.2.2.2.1) (zcutH zk_155_2_0_100_hs zk_155_2_0_100_h0 155 3) zk_155_2_0_100_or 6000 155 3 zk_155_2_0_100_h0.1 (zhS zk_155_2_0_100_h0) [] = true := by decide +kernel
theorem zk_155_2_0_100_c : zCon 155 3 zk_155_2_0_100_te [] zk_155_2_0_100_al := zCon_of (n := 6000) (hs := zk_155_2_0_100_hs) (lo := [(1, 27, 3), (0, 1, 0), (0, 4, 0), (0, 5, 0)]) (c := (.ofNat 5)) (ws := [(.ofNat 0), (.ofNat 0), (.ofNat 0), (.ofNat 0)]) (by decide) (by decide +kernel) zk_155_2_0_100_oo (List.mem_cons_self) (zAll_mem ⟨zk_155_2_0_100_r0, trivial⟩)
def zk_155_2_0_100_o : zO_ := zorcC 155 3 zk_155_2_0_100_te [(1, 27, 3), (0, 1, 0), (0, 4, 0), (0, 5, 0)] [] zk_155_2_0_100_al
theorem zk_155_2_0_100_ok (l : Launch) (X : zx_X) (XL : Nat) (φ : List z_C) (P : List Int → Prop) : zOk l X XL φ P zk_155_2_0_100_o := zOk_C zk_155_2_0_100_c (by decide +kernel) l X XL φ P
/-! run -/
def zk_155_3_0_100_te : zA_T := ([((.ofNat 0), (.ofNat 101), zD0), ((.ofNat 0), (.ofNat 49), zD0), ((.negSucc 2147483647), (.ofNat 2147483647), zD0), ((.ofNat 0), (.ofNat 40), zD0)], (zHT.set 27 (0, 9, 0, [(2, (.ofNat 31)), (2, (.ofNat 32)), (6, (.ofNat 433791696896)), (1, (.ofNat 0))], [(2, (8, (.ofNat 27)))])), [(0, (2, (.ofNat 30))), (1, (1, (.ofNat 1))), (2, (0, (.ofNat 3))), (3, (0, (.ofNat 0))), (4, (1, (.ofNat 2))), (5, (1, (.ofNat 3)))], [], 0, 0)
def zk_155_3_0_100_al : List zAlt := [([((.ofNat 0), (.ofNat 102), none), ((.negSucc 2147483647), (.ofNat 2147483647), none)], [(1, 27, 3), (3, 0, 0)], (zHT.set 27 (0, 9, 0, [(2, (.ofNat 31)), (2, (.ofNat 32)), (6, (.ofNat 433791696896)), (1, (.ofNat 0))], [(2, (8, (.ofNat 27)))])), some (1, (.ofNat 1)))]
def zk_155_3_0_100_h0 : zHd := (0, zk_155_3_0_100_te, [(1, 27, 3), (0, 1, 0), (0, 4, 0), (0, 5, 0)], [], (.ofNat 5), [(.ofNat 0), (.ofNat 0), (.ofNat 0), (.ofNat 0)], [])
def zk_155_3_0_100_hs : List zHd := [zk_155_3_0_100_h0]
def zk_155_3_0_100_or : zO_ := zon
theorem zk_155_3_0_100_oo (l : Launch) (X : zx_X) (φ : List z_C) (P : List Int → Prop) : zOk l X 2000000 φ P zk_155_3_0_100_or := zOk_no l X 2000000 φ P
theorem zk_155_3_0_100_r0 : zx1 2000000 (zfinC zk_155_3_0_100_al zk_155_3_0_100_h0.2.2.2.1) (zcutH zk_155_3_0_100_hs zk_155_3_0_100_h0 155 3) zk_155_3_0_100_or 6000 155 3 zk_155_3_0_100_h0.1 (zhS zk_155_3_0_100_h0) [] = true := by decide +kernel
theorem zk_155_3_0_100_c : zCon 155 3 zk_155_3_0_100_te [] zk_155_3_0_100_al := zCon_of (n := 6000) (hs := zk_155_3_0_100_hs) (lo := [(1, 27, 3), (0, 1, 0), (0, 4, 0), (0, 5, 0)]) (c := (.ofNat 5)) (ws := [(.ofNat 0), (.ofNat 0), (.ofNat 0), (.ofNat 0)]) (by decide) (by decide +kernel) zk_155_3_0_100_oo (List.mem_cons_self) (zAll_mem ⟨zk_155_3_0_100_r0, trivial⟩)
def zk_155_3_0_100_o : zO_ := zorcC 155 3 zk_155_3_0_100_te [(1, 27, 3), (0, 1, 0), (0, 4, 0), (0, 5, 0)] [] zk_155_3_0_100_al
theorem zk_155_3_0_100_ok (l : Launch) (X : zx_X) (XL : Nat) (φ : List z_C) (P : List Int → Prop) : zOk l X XL φ P zk_155_3_0_100_o := zOk_C zk_155_3_0_100_c (by decide +kernel) l X XL φ P
/-! run -/
def zk_155_4_0_100_te : zA_T := ([((.ofNat 0), (.ofNat 101), zD0), ((.ofNat 0), (.ofNat 49), zD0), ((.negSucc 2147483647), (.ofNat 2147483647), zD0), ((.ofNat 0), (.ofNat 40), zD0)], (zHT.set 27 (0, 9, 0, [(2, (.ofNat 31)), (2, (.ofNat 32)), (6, (.ofNat 433791696896)), (1, (.ofNat 0))], [(2, (8, (.ofNat 27)))])), [(0, (2, (.ofNat 30))), (1, (1, (.ofNat 1))), (2, (0, (.ofNat 4))), (3, (0, (.ofNat 0))), (4, (1, (.ofNat 2))), (5, (1, (.ofNat 3)))], [], 0, 0)
def zk_155_4_0_100_al : List zAlt := [([((.ofNat 0), (.ofNat 104), none), ((.negSucc 2147483647), (.ofNat 2147483647), none)], [(1, 27, 3), (3, 0, 0)], (zHT.set 27 (0, 9, 0, [(2, (.ofNat 31)), (2, (.ofNat 32)), (6, (.ofNat 433791696896)), (1, (.ofNat 0))], [(2, (8, (.ofNat 27)))])), some (1, (.ofNat 1)))]
def zk_155_4_0_100_h0 : zHd := (0, zk_155_4_0_100_te, [(1, 27, 3), (0, 1, 0), (0, 4, 0), (0, 5, 0)], [], (.ofNat 5), [(.ofNat 0), (.ofNat 0), (.ofNat 0), (.ofNat 0)], [])
def zk_155_4_0_100_hs : List zHd := [zk_155_4_0_100_h0]
def zk_155_4_0_100_or : zO_ := zor (zor zk_155_0_0_100_o (zon)) (zspl 155 2 (zor (zor zk_155_0_0_100_o (zon)) (zspl 155 3 (zor zk_155_0_0_100_o (zon)))))
theorem zk_155_4_0_100_oo (l : Launch) (X : zx_X) (φ : List z_C) (P : List Int → Prop) : zOk l X 2000000 φ P zk_155_4_0_100_or := zOk_or (zOk_or (zk_155_0_0_100_ok l X 2000000 φ P) (zOk_no l X 2000000 φ P)) (zOk_spl (m0 := 155) (i := 2) (zOk_or (zOk_or (zk_155_0_0_100_ok l X 2000000 φ P) (zOk_no l X 2000000 φ P)) (zOk_spl (m0 := 155) (i := 3) (zOk_or (zk_155_0_0_100_ok l X 2000000 φ P) (zOk_no l X 2000000 φ P)))))
theorem zk_155_4_0_100_r0 : zx1 2000000 (zfinC zk_155_4_0_100_al zk_155_4_0_100_h0.2.2.2.1) (zcutH zk_155_4_0_100_hs zk_155_4_0_100_h0 155 6) zk_155_4_0_100_or 6000 155 6 zk_155_4_0_100_h0.1 (zhS zk_155_4_0_100_h0) [] = true := by decide +kernel
theorem zk_155_4_0_100_c : zCon 155 6 zk_155_4_0_100_te [] zk_155_4_0_100_al := zCon_of (n := 6000) (hs := zk_155_4_0_100_hs) (lo := [(1, 27, 3), (0, 1, 0), (0, 4, 0), (0, 5, 0)]) (c := (.ofNat 5)) (ws := [(.ofNat 0), (.ofNat 0), (.ofNat 0), (.ofNat 0)]) (by decide) (by decide +kernel) zk_155_4_0_100_oo (List.mem_cons_self) (zAll_mem ⟨zk_155_4_0_100_r0, trivial⟩)
def zk_155_4_0_100_o : zO_ := zorcC 155 6 zk_155_4_0_100_te [(1, 27, 3), (0, 1, 0), (0, 4, 0), (0, 5, 0)] [] zk_155_4_0_100_al
theorem zk_155_4_0_100_ok (l : Launch) (X : zx_X) (XL : Nat) (φ : List z_C) (P : List Int → Prop) : zOk l X XL φ P zk_155_4_0_100_o := zOk_C zk_155_4_0_100_c (by decide +kernel) l X XL φ P
/-! run -/
def zk_155_5_0_100_te : zA_T := ([((.ofNat 0), (.ofNat 100), zD0), ((.ofNat 0), (.ofNat 49), zD0), ((.negSucc 2147483647), (.ofNat 2147483647), zD0), ((.ofNat 0), (.ofNat 40), zD0)], (zHT.set 27 (0, 9, 0, [(2, (.ofNat 31)), (2, (.ofNat 32)), (6, (.ofNat 433791696896)), (1, (.ofNat 0))], [(2, (8, (.ofNat 27)))])), [(0, (2, (.ofNat 30))), (1, (1, (.ofNat 1))), (2, (0, (.ofNat 5))), (3, (0, (.ofNat 0))), (4, (1, (.ofNat 2))), (5, (1, (.ofNat 3)))], [], 0, 0)
def zk_155_5_0_100_al : List zAlt := [([((.ofNat 0), (.ofNat 101), none), ((.negSucc 2147483647), (.ofNat 2147483647), none)], [(1, 27, 3), (3, 0, 0)], (zHT.set 27 (0, 9, 0, [(2, (.ofNat 31)), (2, (.ofNat 32)), (6, (.ofNat 433791696896)), (1, (.ofNat 0))], [(2, (8, (.ofNat 27)))])), some (1, (.ofNat 1)))]
def zk_155_5_0_100_h0 : zHd := (0, zk_155_5_0_100_te, [(1, 27, 3), (0, 1, 0), (0, 4, 0), (0, 5, 0)], [], (.ofNat 5), [(.ofNat 0), (.ofNat 0), (.ofNat 0), (.ofNat 0)], [])
def zk_155_5_0_100_hs : List zHd := [zk_155_5_0_100_h0]
def zk_155_5_0_100_or : zO_ := zon
theorem zk_155_5_0_100_oo (l : Launch) (X : zx_X) (φ : List z_C) (P : List Int → Prop) : zOk l X 2000000 φ P zk_155_5_0_100_or := zOk_no l X 2000000 φ P
theorem zk_155_5_0_100_r0 : zx1 2000000 (zfinC zk_155_5_0_100_al zk_155_5_0_100_h0.2.2.2.1) (zcutH zk_155_5_0_100_hs zk_155_5_0_100_h0 155 3) zk_155_5_0_100_or 6000 155 3 zk_155_5_0_100_h0.1 (zhS zk_155_5_0_100_h0) [] = true := by decide +kernel
theorem zk_155_5_0_100_c : zCon 155 3 zk_155_5_0_100_te [] zk_155_5_0_100_al := zCon_of (n := 6000) (hs := zk_155_5_0_100_hs) (lo := [(1, 27, 3), (0, 1, 0), (0, 4, 0), (0, 5, 0)]) (c := (.ofNat 5)) (ws := [(.ofNat 0), (.ofNat 0), (.ofNat 0), (.ofNat 0)]) (by decide) (by decide +kernel) zk_155_5_0_100_oo (List.mem_cons_self) (zAll_mem ⟨zk_155_5_0_100_r0, trivial⟩)
def zk_155_5_0_100_o : zO_ := zorcC 155 3 zk_155_5_0_100_te [(1, 27, 3), (0, 1, 0), (0, 4, 0), (0, 5, 0)] [] zk_155_5_0_100_al
theorem zk_155_5_0_100_ok (l : Launch) (X : zx_X) (XL : Nat) (φ : List z_C) (P : List Int → Prop) : zOk l X XL φ P zk_155_5_0_100_o := zOk_C zk_155_5_0_100_c (by decide +kernel) l X XL φ P
/-! run -/
def zk_155_6_0_100_te : zA_T := ([((.ofNat 0), (.ofNat 102), zD0), ((.ofNat 0), (.ofNat 49), zD0), ((.negSucc 2147483647), (.ofNat 2147483647), zD0), ((.ofNat 0), (.ofNat 40), zD0)], (zHT.set 27 (0, 9, 0, [(2, (.ofNat 31)), (2, (.ofNat 32)), (6, (.ofNat 433791696896)), (1, (.ofNat 0))], [(2, (8, (.ofNat 27)))])), [(0, (2, (.ofNat 30))), (1, (1, (.ofNat 1))), (2, (0, (.ofNat 6))), (3, (0, (.ofNat 0))), (4, (1, (.ofNat 2))), (5, (1, (.ofNat 3)))], [], 0, 0)
def zk_155_6_0_100_al : List zAlt := [([((.ofNat 0), (.ofNat 104), none), ((.negSucc 2147483647), (.ofNat 2147483647), none)], [(1, 27, 3), (3, 0, 0)], (zHT.set 27 (0, 9, 0, [(2, (.ofNat 31)), (2, (.ofNat 32)), (6, (.ofNat 433791696896)), (1, (.ofNat 0))], [(2, (8, (.ofNat 27)))])), some (1, (.ofNat 1)))]
def zk_155_6_0_100_h0 : zHd := (0, zk_155_6_0_100_te, [(1, 27, 3), (0, 1, 0), (0, 4, 0), (0, 5, 0)], [], (.ofNat 5), [(.ofNat 0), (.ofNat 0), (.ofNat 0), (.ofNat 0)], [])
def zk_155_6_0_100_hs : List zHd := [zk_155_6_0_100_h0]
def zk_155_6_0_100_or : zO_ := zor (zor zk_155_0_0_100_o (zon)) (zspl 155 2 (zor (zor zk_155_0_0_100_o (zon)) (zspl 155 3 (zor zk_155_0_0_100_o (zon)))))
theorem zk_155_6_0_100_oo (l : Launch) (X : zx_X) (φ : List z_C) (P : List Int → Prop) : zOk l X 2000000 φ P zk_155_6_0_100_or := zOk_or (zOk_or (zk_155_0_0_100_ok l X 2000000 φ P) (zOk_no l X 2000000 φ P)) (zOk_spl (m0 := 155) (i := 2) (zOk_or (zOk_or (zk_155_0_0_100_ok l X 2000000 φ P) (zOk_no l X 2000000 φ P)) (zOk_spl (m0 := 155) (i := 3) (zOk_or (zk_155_0_0_100_ok l X 2000000 φ P) (zOk_no l X 2000000 φ P)))))
theorem zk_155_6_0_100_r0 : zx1 2000000 (zfinC zk_155_6_0_100_al zk_155_6_0_100_h0.2.2.2.1) (zcutH zk_155_6_0_100_hs zk_155_6_0_100_h0 155 6) zk_155_6_0_100_or 6000 155 6 zk_155_6_0_100_h0.1 (zhS zk_155_6_0_100_h0) [] = true := by decide +kernel
theorem zk_155_6_0_100_c : zCon 155 6 zk_155_6_0_100_te [] zk_155_6_0_100_al := zCon_of (n := 6000) (hs := zk_155_6_0_100_hs) (lo := [(1, 27, 3), (0, 1, 0), (0, 4, 0), (0, 5, 0)]) (c := (.ofNat 5)) (ws := [(.ofNat 0), (.ofNat 0), (.ofNat 0), (.ofNat 0)]) (by decide) (by decide +kernel) zk_155_6_0_100_oo (List.mem_cons_self) (zAll_mem ⟨zk_155_6_0_100_r0, trivial⟩)
def zk_155_6_0_100_o : zO_ := zorcC 155 6 zk_155_6_0_100_te [(1, 27, 3), (0, 1, 0), (0, 4, 0), (0, 5, 0)] [] zk_155_6_0_100_al
theorem zk_155_6_0_100_ok (l : Launch) (X : zx_X) (XL : Nat) (φ : List z_C) (P : List Int → Prop) : zOk l X XL φ P zk_155_6_0_100_o := zOk_C zk_155_6_0_100_c (by decide +kernel) l X XL φ P
/-! run -/
def zk_155_7_0_100_te : zA_T := ([((.ofNat 0), (.ofNat 100), zD0), ((.ofNat 0), (.ofNat 49), zD0), ((.negSucc 2147483647), (.ofNat 2147483647), zD0), ((.ofNat 0), (.ofNat 40), zD0)], (zHT.set 27 (0, 9, 0, [(2, (.ofNat 31)), (2, (.ofNat 32)), (6, (.ofNat 433791696896)), (1, (.ofNat 0))], [(2, (8, (.ofNat 27)))])), [(0, (2, (.ofNat 30))), (1, (1, (.ofNat 1))), (2, (0, (.ofNat 7))), (3, (0, (.ofNat 0))), (4, (1, (.ofNat 2))), (5, (1, (.ofNat 3)))], [], 0, 0)
def zk_155_7_0_100_al : List zAlt := [([((.ofNat 0), (.ofNat 104), none), ((.negSucc 2147483647), (.ofNat 2147483647), none)], [(1, 27, 3), (3, 0, 0)], (zHT.set 27 (0, 9, 0, [(2, (.ofNat 31)), (2, (.ofNat 32)), (6, (.ofNat 433791696896)), (1, (.ofNat 0))], [(2, (8, (.ofNat 27)))])), some (1, (.ofNat 1)))]
def zk_155_7_0_100_h0 : zHd := (0, zk_155_7_0_100_te, [(1, 27, 3), (0, 1, 0), (0, 4, 0), (0, 5, 0)], [], (.ofNat 5), [(.ofNat 0), (.ofNat 0), (.ofNat 0), (.ofNat 0)], [])
def zk_155_7_0_100_hs : List zHd := [zk_155_7_0_100_h0]
def zk_155_7_0_100_or : zO_ := zor (zor zk_155_0_0_100_o (zon)) (zspl 155 2 (zor (zor zk_155_0_0_100_o (zon)) (zspl 155 3 (zor zk_155_0_0_100_o (zon)))))
theorem zk_155_7_0_100_oo (l : Launch) (X : zx_X) (φ : List z_C) (P : List Int → Prop) : zOk l X 2000000 φ P zk_155_7_0_100_or := zOk_or (zOk_or (zk_155_0_0_100_ok l X 2000000 φ P) (zOk_no l X 2000000 φ P)) (zOk_spl (m0 := 155) (i := 2) (zOk_or (zOk_or (zk_155_0_0_100_ok l X 2000000 φ P) (zOk_no l X 2000000 φ P)) (zOk_spl (m0 := 155) (i := 3) (zOk_or (zk_155_0_0_100_ok l X 2000000 φ P) (zOk_no l X 2000000 φ P)))))
theorem zk_155_7_0_100_r0 : zx1 2000000 (zfinC zk_155_7_0_100_al zk_155_7_0_100_h0.2.2.2.1) (zcutH zk_155_7_0_100_hs zk_155_7_0_100_h0 155 6) zk_155_7_0_100_or 6000 155 6 zk_155_7_0_100_h0.1 (zhS zk_155_7_0_100_h0) [] = true := by decide +kernel
theorem zk_155_7_0_100_c : zCon 155 6 zk_155_7_0_100_te [] zk_155_7_0_100_al := zCon_of (n := 6000) (hs := zk_155_7_0_100_hs) (lo := [(1, 27, 3), (0, 1, 0), (0, 4, 0), (0, 5, 0)]) (c := (.ofNat 5)) (ws := [(.ofNat 0), (.ofNat 0), (.ofNat 0), (.ofNat 0)]) (by decide) (by decide +kernel) zk_155_7_0_100_oo (List.mem_cons_self) (zAll_mem ⟨zk_155_7_0_100_r0, trivial⟩)
def zk_155_7_0_100_o : zO_ := zorcC 155 6 zk_155_7_0_100_te [(1, 27, 3), (0, 1, 0), (0, 4, 0), (0, 5, 0)] [] zk_155_7_0_100_al
theorem zk_155_7_0_100_ok (l : Launch) (X : zx_X) (XL : Nat) (φ : List z_C) (P : List Int → Prop) : zOk l X XL φ P zk_155_7_0_100_o := zOk_C zk_155_7_0_100_c (by decide +kernel) l X XL φ P
/-! run -/
def zk_155_0_0_200_te : zA_T := ([((.ofNat 0), (.ofNat 203), zD0), ((.ofNat 0), (.ofNat 49), zD0), ((.negSucc 2147483647), (.ofNat 2147483647), zD0), ((.ofNat 0), (.ofNat 40), zD0)], (zHT.set 27 (0, 9, 0, [(2, (.ofNat 31)), (2, (.ofNat 32)), (6, (.ofNat 433791696896)), (1, (.ofNat 0))], [(2, (8, (.ofNat 27)))])), [(0, (2, (.ofNat 30))), (1, (1, (.ofNat 1))), (2, (0, (.ofNat 0))), (3, (0, (.ofNat 0))), (4, (1, (.ofNat 2))), (5, (1, (.ofNat 3)))], [], 0, 0)
def zk_155_0_0_200_al : List zAlt := [([((.ofNat 0), (.ofNat 204), none), ((.negSucc 2147483647), (.ofNat 2147483647), none)], [(1, 27, 3), (3, 0, 0)], (zHT.set 27 (0, 9, 0, [(2, (.ofNat 31)), (2, (.ofNat 32)), (6, (.ofNat 433791696896)), (1, (.ofNat 0))], [(2, (8, (.ofNat 27)))])), some (1, (.ofNat 1)))]
def zk_155_0_0_200_h0 : zHd := (0, zk_155_0_0_200_te, [(1, 27, 3), (0, 1, 0), (0, 4, 0), (0, 5, 0)], [], (.ofNat 5), [(.ofNat 0), (.ofNat 0), (.ofNat 0), (.ofNat 0)], [])
def zk_155_0_0_200_hs : List zHd := [zk_155_0_0_200_h0]
def zk_155_0_0_200_or : zO_ := zon
theorem zk_155_0_0_200_oo (l : Launch) (X : zx_X) (φ : List z_C) (P : List Int → Prop) : zOk l X 2000000 φ P zk_155_0_0_200_or := zOk_no l X 2000000 φ P
theorem zk_155_0_0_200_r0 : zx1 2000000 (zfinC zk_155_0_0_200_al zk_155_0_0_200_h0.2.2.2.1) (zcutH zk_155_0_0_200_hs zk_155_0_0_200_h0 155 3) zk_155_0_0_200_or 6000 155 3 zk_155_0_0_200_h0.1 (zhS zk_155_0_0_200_h0) [] = true := by decide +kernel
theorem zk_155_0_0_200_c : zCon 155 3 zk_155_0_0_200_te [] zk_155_0_0_200_al := zCon_of (n := 6000) (hs := zk_155_0_0_200_hs) (lo := [(1, 27, 3), (0, 1, 0), (0, 4, 0), (0, 5, 0)]) (c := (.ofNat 5)) (ws := [(.ofNat 0), (.ofNat 0), (.ofNat 0), (.ofNat 0)]) (by decide) (by decide +kernel) zk_155_0_0_200_oo (List.mem_cons_self) (zAll_mem ⟨zk_155_0_0_200_r0, trivial⟩)
def zk_155_0_0_200_o : zO_ := zorcC 155 3 zk_155_0_0_200_te [(1, 27, 3), (0, 1, 0), (0, 4, 0), (0, 5, 0)] [] zk_155_0_0_200_al
theorem zk_155_0_0_200_ok (l : Launch) (X : zx_X) (XL : Nat) (φ : List z_C) (P : List Int → Prop) : zOk l X XL φ P zk_155_0_0_200_o := zOk_C zk_155_0_0_200_c (by decide +kernel) l X XL φ P
/-! run -/
def zk_155_1_0_200_te : zA_T := ([((.ofNat 0), (.ofNat 202), zD0), ((.ofNat 0), (.ofNat 49), zD0), ((.negSucc 2147483647), (.ofNat 2147483647), zD0), ((.ofNat 0), (.ofNat 40), zD0)], (zHT.set 27 (0, 9, 0, [(2, (.ofNat 31)), (2, (.ofNat 32)), (6, (.ofNat 433791696896)), (1, (.ofNat 0))], [(2, (8, (.ofNat 27)))])), [(0, (2, (.ofNat 30))), (1, (1, (.ofNat 1))), (2, (0, (.ofNat 1))), (3, (0, (.ofNat 0))), (4, (1, (.ofNat 2))), (5, (1, (.ofNat 3)))], [], 0, 0)
def zk_155_1_0_200_al : List zAlt := [([((.ofNat 0), (.ofNat 204), none), ((.negSucc 2147483647), (.ofNat 2147483647), none)], [(1, 27, 3), (3, 0, 0)], (zHT.set 27 (0, 9, 0, [(2, (.ofNat 31)), (2, (.ofNat 32)), (6, (.ofNat 433791696896)), (1, (.ofNat 0))], [(2, (8, (.ofNat 27)))])), some (1, (.ofNat 1)))]
def zk_155_1_0_200_h0 : zHd := (0, zk_155_1_0_200_te, [(1, 27, 3), (0, 1, 0), (0, 4, 0), (0, 5, 0)], [], (.ofNat 5), [(.ofNat 0), (.ofNat 0), (.ofNat 0), (.ofNat 0)], [])
def zk_155_1_0_200_hs : List zHd := [zk_155_1_0_200_h0]
def zk_155_1_0_200_or : zO_ := zor (zor zk_155_0_0_100_o (zor zk_155_0_0_200_o (zon))) (zspl 155 2 (zor (zor zk_155_0_0_100_o (zor zk_155_0_0_200_o (zon))) (zspl 155 3 (zor zk_155_0_0_100_o (zor zk_155_0_0_200_o (zon))))))
theorem zk_155_1_0_200_oo (l : Launch) (X : zx_X) (φ : List z_C) (P : List Int → Prop) : zOk l X 2000000 φ P zk_155_1_0_200_or := zOk_or (zOk_or (zk_155_0_0_100_ok l X 2000000 φ P) (zOk_or (zk_155_0_0_200_ok l X 2000000 φ P) (zOk_no l X 2000000 φ P))) (zOk_spl (m0 := 155) (i := 2) (zOk_or (zOk_or (zk_155_0_0_100_ok l X 2000000 φ P) (zOk_or (zk_155_0_0_200_ok l X 2000000 φ P) (zOk_no l X 2000000 φ P))) (zOk_spl (m0 := 155) (i := 3) (zOk_or (zk_155_0_0_100_ok l X 2000000 φ P) (zOk_or (zk_155_0_0_200_ok l X 2000000 φ P) (zOk_no l X 2000000 φ P))))))
theorem zk_155_1_0_200_r0 : zx1 2000000 (zfinC zk_155_1_0_200_al zk_155_1_0_200_h0.2.2.2.1) (zcutH zk_155_1_0_200_hs zk_155_1_0_200_h0 155 6) zk_155_1_0_200_or 6000 155 6 zk_155_1_0_200_h0.1 (zhS zk_155_1_0_200_h0) [] = true := by decide +kernel
theorem zk_155_1_0_200_c : zCon 155 6 zk_155_1_0_200_te [] zk_155_1_0_200_al := zCon_of (n := 6000) (hs := zk_155_1_0_200_hs) (lo := [(1, 27, 3), (0, 1, 0), (0, 4, 0), (0, 5, 0)]) (c := (.ofNat 5)) (ws := [(.ofNat 0), (.ofNat 0), (.ofNat 0), (.ofNat 0)]) (by decide) (by decide +kernel) zk_155_1_0_200_oo (List.mem_cons_self) (zAll_mem ⟨zk_155_1_0_200_r0, trivial⟩)
def zk_155_1_0_200_o : zO_ := zorcC 155 6 zk_155_1_0_200_te [(1, 27, 3), (0, 1, 0), (0, 4, 0), (0, 5, 0)] [] zk_155_1_0_200_al
theorem zk_155_1_0_200_ok (l : Launch) (X : zx_X) (XL : Nat) (φ : List z_C) (P : List Int → Prop) : zOk l X XL φ P zk_155_1_0_200_o := zOk_C zk_155_1_0_200_c (by decide +kernel) l X XL φ P
/-! run -/
def zk_155_2_0_200_te : zA_T := ([((.ofNat 0), (.ofNat 202), zD0), ((.ofNat 0), (.ofNat 49), zD0), ((.negSucc 2147483647), (.ofNat 2147483647), zD0), ((.ofNat 0), (.ofNat 40), zD0)], (zHT.set 27 (0, 9, 0, [(2, (.ofNat 31)), (2, (.ofNat 32)), (6, (.ofNat 433791696896)), (1, (.ofNat 0))], [(2, (8, (.ofNat 27)))])), [(0, (2, (.ofNat 30))), (1, (1, (.ofNat 1))), (2, (0, (.ofNat 2))), (3, (0, (.ofNat 0))), (4, (1, (.ofNat 2))), (5, (1, (.ofNat 3)))], [], 0, 0)
def zk_155_2_0_200_al : List zAlt := [([((.ofNat 0), (.ofNat 203), none), ((.negSucc 2147483647), (.ofNat 2147483647), none)], [(1, 27, 3), (3, 0, 0)], (zHT.set 27 (0, 9, 0, [(2, (.ofNat 31)), (2, (.ofNat 32)), (6, (.ofNat 433791696896)), (1, (.ofNat 0))], [(2, (8, (.ofNat 27)))])), some (1, (.ofNat 1)))]
def zk_155_2_0_200_h0 : zHd := (0, zk_155_2_0_200_te, [(1, 27, 3), (0, 1, 0), (0, 4, 0), (0, 5, 0)], [], (.ofNat 5), [(.ofNat 0), (.ofNat 0), (.ofNat 0), (.ofNat 0)], [])
def zk_155_2_0_200_hs : List zHd := [zk_155_2_0_200_h0]
def zk_155_2_0_200_or : zO_ := zon
theorem zk_155_2_0_200_oo (l : Launch) (X : zx_X) (φ : List z_C) (P : List Int → Prop) : zOk l X 2000000 φ P zk_155_2_0_200_or := zOk_no l X 2000000 φ P
theorem zk_155_2_0_200_r0 : zx1 2000000 (zfinC zk_155_2_0_200_al zk_155_2_0_200_h0.2.2.2.1) (zcutH zk_155_2_0_200_hs zk_155_2_0_200_h0 155 3) zk_155_2_0_200_or 6000 155 3 zk_155_2_0_200_h0.1 (zhS zk_155_2_0_200_h0) [] = true := by decide +kernel
theorem zk_155_2_0_200_c : zCon 155 3 zk_155_2_0_200_te [] zk_155_2_0_200_al := zCon_of (n := 6000) (hs := zk_155_2_0_200_hs) (lo := [(1, 27, 3), (0, 1, 0), (0, 4, 0), (0, 5, 0)]) (c := (.ofNat 5)) (ws := [(.ofNat 0), (.ofNat 0), (.ofNat 0), (.ofNat 0)]) (by decide) (by decide +kernel) zk_155_2_0_200_oo (List.mem_cons_self) (zAll_mem ⟨zk_155_2_0_200_r0, trivial⟩)
def zk_155_2_0_200_o : zO_ := zorcC 155 3 zk_155_2_0_200_te [(1, 27, 3), (0, 1, 0), (0, 4, 0), (0, 5, 0)] [] zk_155_2_0_200_al
theorem zk_155_2_0_200_ok (l : Launch) (X : zx_X) (XL : Nat) (φ : List z_C) (P : List Int → Prop) : zOk l X XL φ P zk_155_2_0_200_o := zOk_C zk_155_2_0_200_c (by decide +kernel) l X XL φ P
/-! run -/
def zk_155_3_0_200_te : zA_T := ([((.ofNat 0), (.ofNat 201), zD0), ((.ofNat 0), (.ofNat 49), zD0), ((.negSucc 2147483647), (.ofNat 2147483647), zD0), ((.ofNat 0), (.ofNat 40), zD0)], (zHT.set 27 (0, 9, 0, [(2, (.ofNat 31)), (2, (.ofNat 32)), (6, (.ofNat 433791696896)), (1, (.ofNat 0))], [(2, (8, (.ofNat 27)))])), [(0, (2, (.ofNat 30))), (1, (1, (.ofNat 1))), (2, (0, (.ofNat 3))), (3, (0, (.ofNat 0))), (4, (1, (.ofNat 2))), (5, (1, (.ofNat 3)))], [], 0, 0)
def zk_155_3_0_200_al : List zAlt := [([((.ofNat 0), (.ofNat 202), none), ((.negSucc 2147483647), (.ofNat 2147483647), none)], [(1, 27, 3), (3, 0, 0)], (zHT.set 27 (0, 9, 0, [(2, (.ofNat 31)), (2, (.ofNat 32)), (6, (.ofNat 433791696896)), (1, (.ofNat 0))], [(2, (8, (.ofNat 27)))])), some (1, (.ofNat 1)))]
def zk_155_3_0_200_h0 : zHd := (0, zk_155_3_0_200_te, [(1, 27, 3), (0, 1, 0), (0, 4, 0), (0, 5, 0)], [], (.ofNat 5), [(.ofNat 0), (.ofNat 0), (.ofNat 0), (.ofNat 0)], [])
def zk_155_3_0_200_hs : List zHd := [zk_155_3_0_200_h0]
def zk_155_3_0_200_or : zO_ := zon
theorem zk_155_3_0_200_oo (l : Launch) (X : zx_X) (φ : List z_C) (P : List Int → Prop) : zOk l X 2000000 φ P zk_155_3_0_200_or := zOk_no l X 2000000 φ P
theorem zk_155_3_0_200_r0 : zx1 2000000 (zfinC zk_155_3_0_200_al zk_155_3_0_200_h0.2.2.2.1) (zcutH zk_155_3_0_200_hs zk_155_3_0_200_h0 155 3) zk_155_3_0_200_or 6000 155 3 zk_155_3_0_200_h0.1 (zhS zk_155_3_0_200_h0) [] = true := by decide +kernel
theorem zk_155_3_0_200_c : zCon 155 3 zk_155_3_0_200_te [] zk_155_3_0_200_al := zCon_of (n := 6000) (hs := zk_155_3_0_200_hs) (lo := [(1, 27, 3), (0, 1, 0), (0, 4, 0), (0, 5, 0)]) (c := (.ofNat 5)) (ws := [(.ofNat 0), (.ofNat 0), (.ofNat 0), (.ofNat 0)]) (by decide) (by decide +kernel) zk_155_3_0_200_oo (List.mem_cons_self) (zAll_mem ⟨zk_155_3_0_200_r0, trivial⟩)
def zk_155_3_0_200_o : zO_ := zorcC 155 3 zk_155_3_0_200_te [(1, 27, 3), (0, 1, 0), (0, 4, 0), (0, 5, 0)] [] zk_155_3_0_200_al
theorem zk_155_3_0_200_ok (l : Launch) (X : zx_X) (XL : Nat) (φ : List z_C) (P : List Int → Prop) : zOk l X XL φ P zk_155_3_0_200_o := zOk_C zk_155_3_0_200_c (by decide +kernel) l X XL φ P
/-! run -/
def zk_155_4_0_200_te : zA_T := ([((.ofNat 0), (.ofNat 201), zD0), ((.ofNat 0), (.ofNat 49), zD0), ((.negSucc 2147483647), (.ofNat 2147483647), zD0), ((.ofNat 0), (.ofNat 40), zD0)], (zHT.set 27 (0, 9, 0, [(2, (.ofNat 31)), (2, (.ofNat 32)), (6, (.ofNat 433791696896)), (1, (.ofNat 0))], [(2, (8, (.ofNat 27)))])), [(0, (2, (.ofNat 30))), (1, (1, (.ofNat 1))), (2, (0, (.ofNat 4))), (3, (0, (.ofNat 0))), (4, (1, (.ofNat 2))), (5, (1, (.ofNat 3)))], [], 0, 0)
def zk_155_4_0_200_al : List zAlt := [([((.ofNat 0), (.ofNat 204), none), ((.negSucc 2147483647), (.ofNat 2147483647), none)], [(1, 27, 3), (3, 0, 0)], (zHT.set 27 (0, 9, 0, [(2, (.ofNat 31)), (2, (.ofNat 32)), (6, (.ofNat 433791696896)), (1, (.ofNat 0))], [(2, (8, (.ofNat 27)))])), some (1, (.ofNat 1)))]
def zk_155_4_0_200_h0 : zHd := (0, zk_155_4_0_200_te, [(1, 27, 3), (0, 1, 0), (0, 4, 0), (0, 5, 0)], [], (.ofNat 5), [(.ofNat 0), (.ofNat 0), (.ofNat 0), (.ofNat 0)], [])
def zk_155_4_0_200_hs : List zHd := [zk_155_4_0_200_h0]
def zk_155_4_0_200_or : zO_ := zor (zor zk_155_0_0_100_o (zor zk_155_0_0_200_o (zon))) (zspl 155 2 (zor (zor zk_155_0_0_100_o (zor zk_155_0_0_200_o (zon))) (zspl 155 3 (zor zk_155_0_0_100_o (zor zk_155_0_0_200_o (zon))))))
theorem zk_155_4_0_200_oo (l : Launch) (X : zx_X) (φ : List z_C) (P : List Int → Prop) : zOk l X 2000000 φ P zk_155_4_0_200_or := zOk_or (zOk_or (zk_155_0_0_100_ok l X 2000000 φ P) (zOk_or (zk_155_0_0_200_ok l X 2000000 φ P) (zOk_no l X 2000000 φ P))) (zOk_spl (m0 := 155) (i := 2) (zOk_or (zOk_or (zk_155_0_0_100_ok l X 2000000 φ P) (zOk_or (zk_155_0_0_200_ok l X 2000000 φ P) (zOk_no l X 2000000 φ P))) (zOk_spl (m0 := 155) (i := 3) (zOk_or (zk_155_0_0_100_ok l X 2000000 φ P) (zOk_or (zk_155_0_0_200_ok l X 2000000 φ P) (zOk_no l X 2000000 φ P))))))
theorem zk_155_4_0_200_r0 : zx1 2000000 (zfinC zk_155_4_0_200_al zk_155_4_0_200_h0.2.2.2.1) (zcutH zk_155_4_0_200_hs zk_155_4_0_200_h0 155 6) zk_155_4_0_200_or 6000 155 6 zk_155_4_0_200_h0.1 (zhS zk_155_4_0_200_h0) [] = true := by decide +kernel
theorem zk_155_4_0_200_c : zCon 155 6 zk_155_4_0_200_te [] zk_155_4_0_200_al := zCon_of (n := 6000) (hs := zk_155_4_0_200_hs) (lo := [(1, 27, 3), (0, 1, 0), (0, 4, 0), (0, 5, 0)]) (c := (.ofNat 5)) (ws := [(.ofNat 0), (.ofNat 0), (.ofNat 0), (.ofNat 0)]) (by decide) (by decide +kernel) zk_155_4_0_200_oo (List.mem_cons_self) (zAll_mem ⟨zk_155_4_0_200_r0, trivial⟩)
def zk_155_4_0_200_o : zO_ := zorcC 155 6 zk_155_4_0_200_te [(1, 27, 3), (0, 1, 0), (0, 4, 0), (0, 5, 0)] [] zk_155_4_0_200_al
theorem zk_155_4_0_200_ok (l : Launch) (X : zx_X) (XL : Nat) (φ : List z_C) (P : List Int → Prop) : zOk l X XL φ P zk_155_4_0_200_o := zOk_C zk_155_4_0_200_c (by decide +kernel) l X XL φ P
/-! run -/
def zk_155_5_0_200_te : zA_T := ([((.ofNat 0), (.ofNat 200), zD0), ((.ofNat 0), (.ofNat 49), zD0), ((.negSucc 2147483647), (.ofNat 2147483647), zD0), ((.ofNat 0), (.ofNat 40), zD0)], (zHT.set 27 (0, 9, 0, [(2, (.ofNat 31)), (2, (.ofNat 32)), (6, (.ofNat 433791696896)), (1, (.ofNat 0))], [(2, (8, (.ofNat 27)))])), [(0, (2, (.ofNat 30))), (1, (1, (.ofNat 1))), (2, (0, (.ofNat 5))), (3, (0, (.ofNat 0))), (4, (1, (.ofNat 2))), (5, (1, (.ofNat 3)))], [], 0, 0)
def zk_155_5_0_200_al : List zAlt := [([((.ofNat 0), (.ofNat 201), none), ((.negSucc 2147483647), (.ofNat 2147483647), none)], [(1, 27, 3), (3, 0, 0)], (zHT.set 27 (0, 9, 0, [(2, (.ofNat 31)), (2, (.ofNat 32)), (6, (.ofNat 433791696896)), (1, (.ofNat 0))], [(2, (8, (.ofNat 27)))])), some (1, (.ofNat 1)))]
def zk_155_5_0_200_h0 : zHd := (0, zk_155_5_0_200_te, [(1, 27, 3), (0, 1, 0), (0, 4, 0), (0, 5, 0)], [], (.ofNat 5), [(.ofNat 0), (.ofNat 0), (.ofNat 0), (.ofNat 0)], [])
def zk_155_5_0_200_hs : List zHd := [zk_155_5_0_200_h0]
def zk_155_5_0_200_or : zO_ := zon
theorem zk_155_5_0_200_oo (l : Launch) (X : zx_X) (φ : List z_C) (P : List Int → Prop) : zOk l X 2000000 φ P zk_155_5_0_200_or := zOk_no l X 2000000 φ P
theorem zk_155_5_0_200_r0 : zx1 2000000 (zfinC zk_155_5_0_200_al zk_155_5_0_200_h0.2.2.2.1) (zcutH zk_155_5_0_200_hs zk_155_5_0_200_h0 155 3) zk_155_5_0_200_or 6000 155 3 zk_155_5_0_200_h0.1 (zhS zk_155_5_0_200_h0) [] = true := by decide +kernel
theorem zk_155_5_0_200_c : zCon 155 3 zk_155_5_0_200_te [] zk_155_5_0_200_al := zCon_of (n := 6000) (hs := zk_155_5_0_200_hs) (lo := [(1, 27, 3), (0, 1, 0), (0, 4, 0), (0, 5, 0)]) (c := (.ofNat 5)) (ws := [(.ofNat 0), (.ofNat 0), (.ofNat 0), (.ofNat 0)]) (by decide) (by decide +kernel) zk_155_5_0_200_oo (List.mem_cons_self) (zAll_mem ⟨zk_155_5_0_200_r0, trivial⟩)
def zk_155_5_0_200_o : zO_ := zorcC 155 3 zk_155_5_0_200_te [(1, 27, 3), (0, 1, 0), (0, 4, 0), (0, 5, 0)] [] zk_155_5_0_200_al
theorem zk_155_5_0_200_ok (l : Launch) (X : zx_X) (XL : Nat) (φ : List z_C) (P : List Int → Prop) : zOk l X XL φ P zk_155_5_0_200_o := zOk_C zk_155_5_0_200_c (by decide +kernel) l X XL φ P
/-! run -/
def zk_155_6_0_200_te : zA_T := ([((.ofNat 0), (.ofNat 202), zD0), ((.ofNat 0), (.ofNat 49), zD0), ((.negSucc 2147483647), (.ofNat 2147483647), zD0), ((.ofNat 0), (.ofNat 40), zD0)], (zHT.set 27 (0, 9, 0, [(2, (.ofNat 31)), (2, (.ofNat 32)), (6, (.ofNat 433791696896)), (1, (.ofNat 0))], [(2, (8, (.ofNat 27)))])), [(0, (2, (.ofNat 30))), (1, (1, (.ofNat 1))), (2, (0, (.ofNat 6))), (3, (0, (.ofNat 0))), (4, (1, (.ofNat 2))), (5, (1, (.ofNat 3)))], [], 0, 0)
def zk_155_6_0_200_al : List zAlt := [([((.ofNat 0), (.ofNat 204), none), ((.negSucc 2147483647), (.ofNat 2147483647), none)], [(1, 27, 3), (3, 0, 0)], (zHT.set 27 (0, 9, 0, [(2, (.ofNat 31)), (2, (.ofNat 32)), (6, (.ofNat 433791696896)), (1, (.ofNat 0))], [(2, (8, (.ofNat 27)))])), some (1, (.ofNat 1)))]
def zk_155_6_0_200_h0 : zHd := (0, zk_155_6_0_200_te, [(1, 27, 3), (0, 1, 0), (0, 4, 0), (0, 5, 0)], [], (.ofNat 5), [(.ofNat 0), (.ofNat 0), (.ofNat 0), (.ofNat 0)], [])
def zk_155_6_0_200_hs : List zHd := [zk_155_6_0_200_h0]
def zk_155_6_0_200_or : zO_ := zor (zor zk_155_0_0_100_o (zor zk_155_0_0_200_o (zon))) (zspl 155 2 (zor (zor zk_155_0_0_100_o (zor zk_155_0_0_200_o (zon))) (zspl 155 3 (zor zk_155_0_0_100_o (zor zk_155_0_0_200_o (zon))))))
theorem zk_155_6_0_200_oo (l : Launch) (X : zx_X) (φ : List z_C) (P : List Int → Prop) : zOk l X 2000000 φ P zk_155_6_0_200_or := zOk_or (zOk_or (zk_155_0_0_100_ok l X 2000000 φ P) (zOk_or (zk_155_0_0_200_ok l X 2000000 φ P) (zOk_no l X 2000000 φ P))) (zOk_spl (m0 := 155) (i := 2) (zOk_or (zOk_or (zk_155_0_0_100_ok l X 2000000 φ P) (zOk_or (zk_155_0_0_200_ok l X 2000000 φ P) (zOk_no l X 2000000 φ P))) (zOk_spl (m0 := 155) (i := 3) (zOk_or (zk_155_0_0_100_ok l X 2000000 φ P) (zOk_or (zk_155_0_0_200_ok l X 2000000 φ P) (zOk_no l X 2000000 φ P))))))
theorem zk_155_6_0_200_r0 : zx1 2000000 (zfinC zk_155_6_0_200_al zk_155_6_0_200_h0.2.2.2.1) (zcutH zk_155_6_0_200_hs zk_155_6_0_200_h0 155 6) zk_155_6_0_200_or 6000 155 6 zk_155_6_0_200_h0.1 (zhS zk_155_6_0_200_h0) [] = true := by decide +kernel
theorem zk_155_6_0_200_c : zCon 155 6 zk_155_6_0_200_te [] zk_155_6_0_200_al := zCon_of (n := 6000) (hs := zk_155_6_0_200_hs) (lo := [(1, 27, 3), (0, 1, 0), (0, 4, 0), (0, 5, 0)]) (c := (.ofNat 5)) (ws := [(.ofNat 0), (.ofNat 0), (.ofNat 0), (.ofNat 0)]) (by decide) (by decide +kernel) zk_155_6_0_200_oo (List.mem_cons_self) (zAll_mem ⟨zk_155_6_0_200_r0, trivial⟩)
def zk_155_6_0_200_o : zO_ := zorcC 155 6 zk_155_6_0_200_te [(1, 27, 3), (0, 1, 0), (0, 4, 0), (0, 5, 0)] [] zk_155_6_0_200_al
theorem zk_155_6_0_200_ok (l : Launch) (X : zx_X) (XL : Nat) (φ : List z_C) (P : List Int → Prop) : zOk l X XL φ P zk_155_6_0_200_o := zOk_C zk_155_6_0_200_c (by decide +kernel) l X XL φ P
/-! run -/
def zk_155_7_0_200_te : zA_T := ([((.ofNat 0), (.ofNat 200), zD0), ((.ofNat 0), (.ofNat 49), zD0), ((.negSucc 2147483647), (.ofNat 2147483647), zD0), ((.ofNat 0), (.ofNat 40), zD0)], (zHT.set 27 (0, 9, 0, [(2, (.ofNat 31)), (2, (.ofNat 32)), (6, (.ofNat 433791696896)), (1, (.ofNat 0))], [(2, (8, (.ofNat 27)))])), [(0, (2, (.ofNat 30))), (1, (1, (.ofNat 1))), (2, (0, (.ofNat 7))), (3, (0, (.ofNat 0))), (4, (1, (.ofNat 2))), (5, (1, (.ofNat 3)))], [], 0, 0)
def zk_155_7_0_200_al : List zAlt := [([((.ofNat 0), (.ofNat 204), none), ((.negSucc 2147483647), (.ofNat 2147483647), none)], [(1, 27, 3), (3, 0, 0)], (zHT.set 27 (0, 9, 0, [(2, (.ofNat 31)), (2, (.ofNat 32)), (6, (.ofNat 433791696896)), (1, (.ofNat 0))], [(2, (8, (.ofNat 27)))])), some (1, (.ofNat 1)))]
def zk_155_7_0_200_h0 : zHd := (0, zk_155_7_0_200_te, [(1, 27, 3), (0, 1, 0), (0, 4, 0), (0, 5, 0)], [], (.ofNat 5), [(.ofNat 0), (.ofNat 0), (.ofNat 0), (.ofNat 0)], [])
def zk_155_7_0_200_hs : List zHd := [zk_155_7_0_200_h0]
def zk_155_7_0_200_or : zO_ := zor (zor zk_155_0_0_100_o (zor zk_155_0_0_200_o (zon))) (zspl 155 2 (zor (zor zk_155_0_0_100_o (zor zk_155_0_0_200_o (zon))) (zspl 155 3 (zor zk_155_0_0_100_o (zor zk_155_0_0_200_o (zon))))))
theorem zk_155_7_0_200_oo (l : Launch) (X : zx_X) (φ : List z_C) (P : List Int → Prop) : zOk l X 2000000 φ P zk_155_7_0_200_or := zOk_or (zOk_or (zk_155_0_0_100_ok l X 2000000 φ P) (zOk_or (zk_155_0_0_200_ok l X 2000000 φ P) (zOk_no l X 2000000 φ P))) (zOk_spl (m0 := 155) (i := 2) (zOk_or (zOk_or (zk_155_0_0_100_ok l X 2000000 φ P) (zOk_or (zk_155_0_0_200_ok l X 2000000 φ P) (zOk_no l X 2000000 φ P))) (zOk_spl (m0 := 155) (i := 3) (zOk_or (zk_155_0_0_100_ok l X 2000000 φ P) (zOk_or (zk_155_0_0_200_ok l X 2000000 φ P) (zOk_no l X 2000000 φ P))))))
theorem zk_155_7_0_200_r0 : zx1 2000000 (zfinC zk_155_7_0_200_al zk_155_7_0_200_h0.2.2.2.1) (zcutH zk_155_7_0_200_hs zk_155_7_0_200_h0 155 6) zk_155_7_0_200_or 6000 155 6 zk_155_7_0_200_h0.1 (zhS zk_155_7_0_200_h0) [] = true := by decide +kernel
theorem zk_155_7_0_200_c : zCon 155 6 zk_155_7_0_200_te [] zk_155_7_0_200_al := zCon_of (n := 6000) (hs := zk_155_7_0_200_hs) (lo := [(1, 27, 3), (0, 1, 0), (0, 4, 0), (0, 5, 0)]) (c := (.ofNat 5)) (ws := [(.ofNat 0), (.ofNat 0), (.ofNat 0), (.ofNat 0)]) (by decide) (by decide +kernel) zk_155_7_0_200_oo (List.mem_cons_self) (zAll_mem ⟨zk_155_7_0_200_r0, trivial⟩)
def zk_155_7_0_200_o : zO_ := zorcC 155 6 zk_155_7_0_200_te [(1, 27, 3), (0, 1, 0), (0, 4, 0), (0, 5, 0)] [] zk_155_7_0_200_al
theorem zk_155_7_0_200_ok (l : Launch) (X : zx_X) (XL : Nat) (φ : List z_C) (P : List Int → Prop) : zOk l X XL φ P zk_155_7_0_200_o := zOk_C zk_155_7_0_200_c (by decide +kernel) l X XL φ P
/-! run -/
def zk_155_0_0_300_te : zA_T := ([((.ofNat 0), (.ofNat 303), zD0), ((.ofNat 0), (.ofNat 49), zD0), ((.negSucc 2147483647), (.ofNat 2147483647), zD0), ((.ofNat 0), (.ofNat 40), zD0)], (zHT.set 27 (0, 9, 0, [(2, (.ofNat 31)), (2, (.ofNat 32)), (6, (.ofNat 433791696896)), (1, (.ofNat 0))], [(2, (8, (.ofNat 27)))])), [(0, (2, (.ofNat 30))), (1, (1, (.ofNat 1))), (2, (0, (.ofNat 0))), (3, (0, (.ofNat 0))), (4, (1, (.ofNat 2))), (5, (1, (.ofNat 3)))], [], 0, 0)
def zk_155_0_0_300_al : List zAlt := [([((.ofNat 0), (.ofNat 304), none), ((.negSucc 2147483647), (.ofNat 2147483647), none)], [(1, 27, 3), (3, 0, 0)], (zHT.set 27 (0, 9, 0, [(2, (.ofNat 31)), (2, (.ofNat 32)), (6, (.ofNat 433791696896)), (1, (.ofNat 0))], [(2, (8, (.ofNat 27)))])), some (1, (.ofNat 1)))]
def zk_155_0_0_300_h0 : zHd := (0, zk_155_0_0_300_te, [(1, 27, 3), (0, 1, 0), (0, 4, 0), (0, 5, 0)], [], (.ofNat 5), [(.ofNat 0), (.ofNat 0), (.ofNat 0), (.ofNat 0)], [])
def zk_155_0_0_300_hs : List zHd := [zk_155_0_0_300_h0]
def zk_155_0_0_300_or : zO_ := zon
theorem zk_155_0_0_300_oo (l : Launch) (X : zx_X) (φ : List z_C) (P : List Int → Prop) : zOk l X 2000000 φ P zk_155_0_0_300_or := zOk_no l X 2000000 φ P
theorem zk_155_0_0_300_r0 : zx1 2000000 (zfinC zk_155_0_0_300_al zk_155_0_0_300_h0.2.2.2.1) (zcutH zk_155_0_0_300_hs zk_155_0_0_300_h0 155 3) zk_155_0_0_300_or 6000 155 3 zk_155_0_0_300_h0.1 (zhS zk_155_0_0_300_h0) [] = true := by decide +kernel
theorem zk_155_0_0_300_c : zCon 155 3 zk_155_0_0_300_te [] zk_155_0_0_300_al := zCon_of (n := 6000) (hs := zk_155_0_0_300_hs) (lo := [(1, 27, 3), (0, 1, 0), (0, 4, 0), (0, 5, 0)]) (c := (.ofNat 5)) (ws := [(.ofNat 0), (.ofNat 0), (.ofNat 0), (.ofNat 0)]) (by decide) (by decide +kernel) zk_155_0_0_300_oo (List.mem_cons_self) (zAll_mem ⟨zk_155_0_0_300_r0, trivial⟩)
def zk_155_0_0_300_o : zO_ := zorcC 155 3 zk_155_0_0_300_te [(1, 27, 3), (0, 1, 0), (0, 4, 0), (0, 5, 0)] [] zk_155_0_0_300_al
theorem zk_155_0_0_300_ok (l : Launch) (X : zx_X) (XL : Nat) (φ : List z_C) (P : List Int → Prop) : zOk l X XL φ P zk_155_0_0_300_o := zOk_C zk_155_0_0_300_c (by decide +kernel) l X XL φ P
/-! run -/
def zk_155_1_0_300_te : zA_T := ([((.ofNat 0), (.ofNat 302), zD0), ((.ofNat 0), (.ofNat 49), zD0), ((.negSucc 2147483647), (.ofNat 2147483647), zD0), ((.ofNat 0), (.ofNat 40), zD0)], (zHT.set 27 (0, 9, 0, [(2, (.ofNat 31)), (2, (.ofNat 32)), (6, (.ofNat 433791696896)), (1, (.ofNat 0))], [(2, (8, (.ofNat 27)))])), [(0, (2, (.ofNat 30))), (1, (1, (.ofNat 1))), (2, (0, (.ofNat 1))), (3, (0, (.ofNat 0))), (4, (1, (.ofNat 2))), (5, (1, (.ofNat 3)))], [], 0, 0)
def zk_155_1_0_300_al : List zAlt := [([((.ofNat 0), (.ofNat 304), none), ((.negSucc 2147483647), (.ofNat 2147483647), none)], [(1, 27, 3), (3, 0, 0)], (zHT.set 27 (0, 9, 0, [(2, (.ofNat 31)), (2, (.ofNat 32)), (6, (.ofNat 433791696896)), (1, (.ofNat 0))], [(2, (8, (.ofNat 27)))])), some (1, (.ofNat 1)))]
def zk_155_1_0_300_h0 : zHd := (0, zk_155_1_0_300_te, [(1, 27, 3), (0, 1, 0), (0, 4, 0), (0, 5, 0)], [], (.ofNat 5), [(.ofNat 0), (.ofNat 0), (.ofNat 0), (.ofNat 0)], [])
def zk_155_1_0_300_hs : List zHd := [zk_155_1_0_300_h0]
def zk_155_1_0_300_or : zO_ := zor (zor zk_155_0_0_100_o (zor zk_155_0_0_300_o (zon))) (zspl 155 2 (zor (zor zk_155_0_0_100_o (zor zk_155_0_0_300_o (zon))) (zspl 155 3 (zor zk_155_0_0_100_o (zor zk_155_0_0_300_o (zon))))))
theorem zk_155_1_0_300_oo (l : Launch) (X : zx_X) (φ : List z_C) (P : List Int → Prop) : zOk l X 2000000 φ P zk_155_1_0_300_or := zOk_or (zOk_or (zk_155_0_0_100_ok l X 2000000 φ P) (zOk_or (zk_155_0_0_300_ok l X 2000000 φ P) (zOk_no l X 2000000 φ P))) (zOk_spl (m0 := 155) (i := 2) (zOk_or (zOk_or (zk_155_0_0_100_ok l X 2000000 φ P) (zOk_or (zk_155_0_0_300_ok l X 2000000 φ P) (zOk_no l X 2000000 φ P))) (zOk_spl (m0 := 155) (i := 3) (zOk_or (zk_155_0_0_100_ok l X 2000000 φ P) (zOk_or (zk_155_0_0_300_ok l X 2000000 φ P) (zOk_no l X 2000000 φ P))))))
theorem zk_155_1_0_300_r0 : zx1 2000000 (zfinC zk_155_1_0_300_al zk_155_1_0_300_h0.2.2.2.1) (zcutH zk_155_1_0_300_hs zk_155_1_0_300_h0 155 6) zk_155_1_0_300_or 6000 155 6 zk_155_1_0_300_h0.1 (zhS zk_155_1_0_300_h0) [] = true := by decide +kernel
theorem zk_155_1_0_300_c : zCon 155 6 zk_155_1_0_300_te [] zk_155_1_0_300_al := zCon_of (n := 6000) (hs := zk_155_1_0_300_hs) (lo := [(1, 27, 3), (0, 1, 0), (0, 4, 0), (0, 5, 0)]) (c := (.ofNat 5)) (ws := [(.ofNat 0), (.ofNat 0), (.ofNat 0), (.ofNat 0)]) (by decide) (by decide +kernel) zk_155_1_0_300_oo (List.mem_cons_self) (zAll_mem ⟨zk_155_1_0_300_r0, trivial⟩)
def zk_155_1_0_300_o : zO_ := zorcC 155 6 zk_155_1_0_300_te [(1, 27, 3), (0, 1, 0), (0, 4, 0), (0, 5, 0)] [] zk_155_1_0_300_al
theorem zk_155_1_0_300_ok (l : Launch) (X : zx_X) (XL : Nat) (φ : List z_C) (P : List Int → Prop) : zOk l X XL φ P zk_155_1_0_300_o := zOk_C zk_155_1_0_300_c (by decide +kernel) l X XL φ P
/-! run -/
def zk_155_2_0_300_te : zA_T := ([((.ofNat 0), (.ofNat 302), zD0), ((.ofNat 0), (.ofNat 49), zD0), ((.negSucc 2147483647), (.ofNat 2147483647), zD0), ((.ofNat 0), (.ofNat 40), zD0)], (zHT.set 27 (0, 9, 0, [(2, (.ofNat 31)), (2, (.ofNat 32)), (6, (.ofNat 433791696896)), (1, (.ofNat 0))], [(2, (8, (.ofNat 27)))])), [(0, (2, (.ofNat 30))), (1, (1, (.ofNat 1))), (2, (0, (.ofNat 2))), (3, (0, (.ofNat 0))), (4, (1, (.ofNat 2))), (5, (1, (.ofNat 3)))], [], 0, 0)
def zk_155_2_0_300_al : List zAlt := [([((.ofNat 0), (.ofNat 303), none), ((.negSucc 2147483647), (.ofNat 2147483647), none)], [(1, 27, 3), (3, 0, 0)], (zHT.set 27 (0, 9, 0, [(2, (.ofNat 31)), (2, (.ofNat 32)), (6, (.ofNat 433791696896)), (1, (.ofNat 0))], [(2, (8, (.ofNat 27)))])), some (1, (.ofNat 1)))]
def zk_155_2_0_300_h0 : zHd := (0, zk_155_2_0_300_te, [(1, 27, 3), (0, 1, 0), (0, 4, 0), (0, 5, 0)], [], (.ofNat 5), [(.ofNat 0), (.ofNat 0), (.ofNat 0), (.ofNat 0)], [])
def zk_155_2_0_300_hs : List zHd := [zk_155_2_0_300_h0]
def zk_155_2_0_300_or : zO_ := zon
theorem zk_155_2_0_300_oo (l : Launch) (X : zx_X) (φ : List z_C) (P : List Int → Prop) : zOk l X 2000000 φ P zk_155_2_0_300_or := zOk_no l X 2000000 φ P
theorem zk_155_2_0_300_r0 : zx1 2000000 (zfinC zk_155_2_0_300_al zk_155_2_0_300_h0.2.2.2.1) (zcutH zk_155_2_0_300_hs zk_155_2_0_300_h0 155 3) zk_155_2_0_300_or 6000 155 3 zk_155_2_0_300_h0.1 (zhS zk_155_2_0_300_h0) [] = true := by decide +kernel
theorem zk_155_2_0_300_c : zCon 155 3 zk_155_2_0_300_te [] zk_155_2_0_300_al := zCon_of (n := 6000) (hs := zk_155_2_0_300_hs) (lo := [(1, 27, 3), (0, 1, 0), (0, 4, 0), (0, 5, 0)]) (c := (.ofNat 5)) (ws := [(.ofNat 0), (.ofNat 0), (.ofNat 0), (.ofNat 0)]) (by decide) (by decide +kernel) zk_155_2_0_300_oo (List.mem_cons_self) (zAll_mem ⟨zk_155_2_0_300_r0, trivial⟩)
def zk_155_2_0_300_o : zO_ := zorcC 155 3 zk_155_2_0_300_te [(1, 27, 3), (0, 1, 0), (0, 4, 0), (0, 5, 0)] [] zk_155_2_0_300_al
theorem zk_155_2_0_300_ok (l : Launch) (X : zx_X) (XL : Nat) (φ : List z_C) (P : List Int → Prop) : zOk l X XL φ P zk_155_2_0_300_o := zOk_C zk_155_2_0_300_c (by decide +kernel) l X XL φ P
/-! run -/
def zk_155_3_0_300_te : zA_T := ([((.ofNat 0), (.ofNat 301), zD0), ((.ofNat 0), (.ofNat 49), zD0), ((.negSucc 2147483647), (.ofNat 2147483647), zD0), ((.ofNat 0), (.ofNat 40), zD0)], (zHT.set 27 (0, 9, 0, [(2, (.ofNat 31)), (2, (.ofNat 32)), (6, (.ofNat 433791696896)), (1, (.ofNat 0))], [(2, (8, (.ofNat 27)))])), [(0, (2, (.ofNat 30))), (1, (1, (.ofNat 1))), (2, (0, (.ofNat 3))), (3, (0, (.ofNat 0))), (4, (1, (.ofNat 2))), (5, (1, (.ofNat 3)))], [], 0, 0)
def zk_155_3_0_300_al : List zAlt := [([((.ofNat 0), (.ofNat 302), none), ((.negSucc 2147483647), (.ofNat 2147483647), none)], [(1, 27, 3), (3, 0, 0)], (zHT.set 27 (0, 9, 0, [(2, (.ofNat 31)), (2, (.ofNat 32)), (6, (.ofNat 433791696896)), (1, (.ofNat 0))], [(2, (8, (.ofNat 27)))])), some (1, (.ofNat 1)))]
def zk_155_3_0_300_h0 : zHd := (0, zk_155_3_0_300_te, [(1, 27, 3), (0, 1, 0), (0, 4, 0), (0, 5, 0)], [], (.ofNat 5), [(.ofNat 0), (.ofNat 0), (.ofNat 0), (.ofNat 0)], [])
def zk_155_3_0_300_hs : List zHd := [zk_155_3_0_300_h0]
def zk_155_3_0_300_or : zO_ := zon
theorem zk_155_3_0_300_oo (l : Launch) (X : zx_X) (φ : List z_C) (P : List Int → Prop) : zOk l X 2000000 φ P zk_155_3_0_300_or := zOk_no l X 2000000 φ P
theorem zk_155_3_0_300_r0 : zx1 2000000 (zfinC zk_155_3_0_300_al zk_155_3_0_300_h0.2.2.2.1) (zcutH zk_155_3_0_300_hs zk_155_3_0_300_h0 155 3) zk_155_3_0_300_or 6000 155 3 zk_155_3_0_300_h0.1 (zhS zk_155_3_0_300_h0) [] = true := by decide +kernel
theorem zk_155_3_0_300_c : zCon 155 3 zk_155_3_0_300_te [] zk_155_3_0_300_al := zCon_of (n := 6000) (hs := zk_155_3_0_300_hs) (lo := [(1, 27, 3), (0, 1, 0), (0, 4, 0), (0, 5, 0)]) (c := (.ofNat 5)) (ws := [(.ofNat 0), (.ofNat 0), (.ofNat 0), (.ofNat 0)]) (by decide) (by decide +kernel) zk_155_3_0_300_oo (List.mem_cons_self) (zAll_mem ⟨zk_155_3_0_300_r0, trivial⟩)
def zk_155_3_0_300_o : zO_ := zorcC 155 3 zk_155_3_0_300_te [(1, 27, 3), (0, 1, 0), (0, 4, 0), (0, 5, 0)] [] zk_155_3_0_300_al
theorem zk_155_3_0_300_ok (l : Launch) (X : zx_X) (XL : Nat) (φ : List z_C) (P : List Int → Prop) : zOk l X XL φ P zk_155_3_0_300_o := zOk_C zk_155_3_0_300_c (by decide +kernel) l X XL φ P
/-! run -/
def zk_155_4_0_300_te : zA_T := ([((.ofNat 0), (.ofNat 301), zD0), ((.ofNat 0), (.ofNat 49), zD0), ((.negSucc 2147483647), (.ofNat 2147483647), zD0), ((.ofNat 0), (.ofNat 40), zD0)], (zHT.set 27 (0, 9, 0, [(2, (.ofNat 31)), (2, (.ofNat 32)), (6, (.ofNat 433791696896)), (1, (.ofNat 0))], [(2, (8, (.ofNat 27)))])), [(0, (2, (.ofNat 30))), (1, (1, (.ofNat 1))), (2, (0, (.ofNat 4))), (3, (0, (.ofNat 0))), (4, (1, (.ofNat 2))), (5, (1, (.ofNat 3)))], [], 0, 0)
def zk_155_4_0_300_al : List zAlt := [([((.ofNat 0), (.ofNat 304), none), ((.negSucc 2147483647), (.ofNat 2147483647), none)], [(1, 27, 3), (3, 0, 0)], (zHT.set 27 (0, 9, 0, [(2, (.ofNat 31)), (2, (.ofNat 32)), (6, (.ofNat 433791696896)), (1, (.ofNat 0))], [(2, (8, (.ofNat 27)))])), some (1, (.ofNat 1)))]
def zk_155_4_0_300_h0 : zHd := (0, zk_155_4_0_300_te, [(1, 27, 3), (0, 1, 0), (0, 4, 0), (0, 5, 0)], [], (.ofNat 5), [(.ofNat 0), (.ofNat 0), (.ofNat 0), (.ofNat 0)], [])
def zk_155_4_0_300_hs : List zHd := [zk_155_4_0_300_h0]
def zk_155_4_0_300_or : zO_ := zor (zor zk_155_0_0_100_o (zor zk_155_0_0_300_o (zon))) (zspl 155 2 (zor (zor zk_155_0_0_100_o (zor zk_155_0_0_300_o (zon))) (zspl 155 3 (zor zk_155_0_0_100_o (zor zk_155_0_0_300_o (zon))))))
theorem zk_155_4_0_300_oo (l : Launch) (X : zx_X) (φ : List z_C) (P : List Int → Prop) : zOk l X 2000000 φ P zk_155_4_0_300_or := zOk_or (zOk_or (zk_155_0_0_100_ok l X 2000000 φ P) (zOk_or (zk_155_0_0_300_ok l X 2000000 φ P) (zOk_no l X 2000000 φ P))) (zOk_spl (m0 := 155) (i := 2) (zOk_or (zOk_or (zk_155_0_0_100_ok l X 2000000 φ P) (zOk_or (zk_155_0_0_300_ok l X 2000000 φ P) (zOk_no l X 2000000 φ P))) (zOk_spl (m0 := 155) (i := 3) (zOk_or (zk_155_0_0_100_ok l X 2000000 φ P) (zOk_or (zk_155_0_0_300_ok l X 2000000 φ P) (zOk_no l X 2000000 φ P))))))
theorem zk_155_4_0_300_r0 : zx1 2000000 (zfinC zk_155_4_0_300_al zk_155_4_0_300_h0.2.2.2.1) (zcutH zk_155_4_0_300_hs zk_155_4_0_300_h0 155 6) zk_155_4_0_300_or 6000 155 6 zk_155_4_0_300_h0.1 (zhS zk_155_4_0_300_h0) [] = true := by decide +kernel
theorem zk_155_4_0_300_c : zCon 155 6 zk_155_4_0_300_te [] zk_155_4_0_300_al := zCon_of (n := 6000) (hs := zk_155_4_0_300_hs) (lo := [(1, 27, 3), (0, 1, 0), (0, 4, 0), (0, 5, 0)]) (c := (.ofNat 5)) (ws := [(.ofNat 0), (.ofNat 0), (.ofNat 0), (.ofNat 0)]) (by decide) (by decide +kernel) zk_155_4_0_300_oo (List.mem_cons_self) (zAll_mem ⟨zk_155_4_0_300_r0, trivial⟩)
def zk_155_4_0_300_o : zO_ := zorcC 155 6 zk_155_4_0_300_te [(1, 27, 3), (0, 1, 0), (0, 4, 0), (0, 5, 0)] [] zk_155_4_0_300_al
theorem zk_155_4_0_300_ok (l : Launch) (X : zx_X) (XL : Nat) (φ : List z_C) (P : List Int → Prop) : zOk l X XL φ P zk_155_4_0_300_o := zOk_C zk_155_4_0_300_c (by decide +kernel) l X XL φ P
/-! run -/
def zk_155_5_0_300_te : zA_T := ([((.ofNat 0), (.ofNat 300), zD0), ((.ofNat 0), (.ofNat 49), zD0), ((.negSucc 2147483647), (.ofNat 2147483647), zD0), ((.ofNat 0), (.ofNat 40), zD0)], (zHT.set 27 (0, 9, 0, [(2, (.ofNat 31)), (2, (.ofNat 32)), (6, (.ofNat 433791696896)), (1, (.ofNat 0))], [(2, (8, (.ofNat 27)))])), [(0, (2, (.ofNat 30))), (1, (1, (.ofNat 1))), (2, (0, (.ofNat 5))), (3, (0, (.ofNat 0))), (4, (1, (.ofNat 2))), (5, (1, (.ofNat 3)))], [], 0, 0)
def zk_155_5_0_300_al : List zAlt := [([((.ofNat 0), (.ofNat 301), none), ((.negSucc 2147483647), (.ofNat 2147483647), none)], [(1, 27, 3), (3, 0, 0)], (zHT.set 27 (0, 9, 0, [(2, (.ofNat 31)), (2, (.ofNat 32)), (6, (.ofNat 433791696896)), (1, (.ofNat 0))], [(2, (8, (.ofNat 27)))])), some (1, (.ofNat 1)))]
def zk_155_5_0_300_h0 : zHd := (0, zk_155_5_0_300_te, [(1, 27, 3), (0, 1, 0), (0, 4, 0), (0, 5, 0)], [], (.ofNat 5), [(.ofNat 0), (.ofNat 0), (.ofNat 0), (.ofNat 0)], [])
def zk_155_5_0_300_hs : List zHd := [zk_155_5_0_300_h0]
def zk_155_5_0_300_or : zO_ := zon
theorem zk_155_5_0_300_oo (l : Launch) (X : zx_X) (φ : List z_C) (P : List Int → Prop) : zOk l X 2000000 φ P zk_155_5_0_300_or := zOk_no l X 2000000 φ P
theorem zk_155_5_0_300_r0 : zx1 2000000 (zfinC zk_155_5_0_300_al zk_155_5_0_300_h0.2.2.2.1) (zcutH zk_155_5_0_300_hs zk_155_5_0_300_h0 155 3) zk_155_5_0_300_or 6000 155 3 zk_155_5_0_300_h0.1 (zhS zk_155_5_0_300_h0) [] = true := by decide +kernel
theorem zk_155_5_0_300_c : zCon 155 3 zk_155_5_0_300_te [] zk_155_5_0_300_al := zCon_of (n := 6000) (hs := zk_155_5_0_300_hs) (lo := [(1, 27, 3), (0, 1, 0), (0, 4, 0), (0, 5, 0)]) (c := (.ofNat 5)) (ws := [(.ofNat 0), (.ofNat 0), (.ofNat 0), (.ofNat 0)]) (by decide) (by decide +kernel) zk_155_5_0_300_oo (List.mem_cons_self) (zAll_mem ⟨zk_155_5_0_300_r0, trivial⟩)
def zk_155_5_0_300_o : zO_ := zorcC 155 3 zk_155_5_0_300_te [(1, 27, 3), (0, 1, 0), (0, 4, 0), (0, 5, 0)] [] zk_155_5_0_300_al
theorem zk_155_5_0_300_ok (l : Launch) (X : zx_X) (XL : Nat) (φ : List z_C) (P : List Int → Prop) : zOk l X XL φ P zk_155_5_0_300_o := zOk_C zk_155_5_0_300_c (by decide +kernel) l X XL φ P
/-! run -/
def zk_155_6_0_300_te : zA_T := ([((.ofNat 0), (.ofNat 302), zD0), ((.ofNat 0), (.ofNat 49), zD0), ((.negSucc 2147483647), (.ofNat 2147483647), zD0), ((.ofNat 0), (.ofNat 40), zD0)], (zHT.set 27 (0, 9, 0, [(2, (.ofNat 31)), (2, (.ofNat 32)), (6, (.ofNat 433791696896)), (1, (.ofNat 0))], [(2, (8, (.ofNat 27)))])), [(0, (2, (.ofNat 30))), (1, (1, (.ofNat 1))), (2, (0, (.ofNat 6))), (3, (0, (.ofNat 0))), (4, (1, (.ofNat 2))), (5, (1, (.ofNat 3)))], [], 0, 0)
def zk_155_6_0_300_al : List zAlt := [([((.ofNat 0), (.ofNat 304), none), ((.negSucc 2147483647), (.ofNat 2147483647), none)], [(1, 27, 3), (3, 0, 0)], (zHT.set 27 (0, 9, 0, [(2, (.ofNat 31)), (2, (.ofNat 32)), (6, (.ofNat 433791696896)), (1, (.ofNat 0))], [(2, (8, (.ofNat 27)))])), some (1, (.ofNat 1)))]
def zk_155_6_0_300_h0 : zHd := (0, zk_155_6_0_300_te, [(1, 27, 3), (0, 1, 0), (0, 4, 0), (0, 5, 0)], [], (.ofNat 5), [(.ofNat 0), (.ofNat 0), (.ofNat 0), (.ofNat 0)], [])
def zk_155_6_0_300_hs : List zHd := [zk_155_6_0_300_h0]
def zk_155_6_0_300_or : zO_ := zor (zor zk_155_0_0_100_o (zor zk_155_0_0_300_o (zon))) (zspl 155 2 (zor (zor zk_155_0_0_100_o (zor zk_155_0_0_300_o (zon))) (zspl 155 3 (zor zk_155_0_0_100_o (zor zk_155_0_0_300_o (zon))))))
theorem zk_155_6_0_300_oo (l : Launch) (X : zx_X) (φ : List z_C) (P : List Int → Prop) : zOk l X 2000000 φ P zk_155_6_0_300_or := zOk_or (zOk_or (zk_155_0_0_100_ok l X 2000000 φ P) (zOk_or (zk_155_0_0_300_ok l X 2000000 φ P) (zOk_no l X 2000000 φ P))) (zOk_spl (m0 := 155) (i := 2) (zOk_or (zOk_or (zk_155_0_0_100_ok l X 2000000 φ P) (zOk_or (zk_155_0_0_300_ok l X 2000000 φ P) (zOk_no l X 2000000 φ P))) (zOk_spl (m0 := 155) (i := 3) (zOk_or (zk_155_0_0_100_ok l X 2000000 φ P) (zOk_or (zk_155_0_0_300_ok l X 2000000 φ P) (zOk_no l X 2000000 φ P))))))
theorem zk_155_6_0_300_r0 : zx1 2000000 (zfinC zk_155_6_0_300_al zk_155_6_0_300_h0.2.2.2.1) (zcutH zk_155_6_0_300_hs zk_155_6_0_300_h0 155 6) zk_155_6_0_300_or 6000 155 6 zk_155_6_0_300_h0.1 (zhS zk_155_6_0_300_h0) [] = true := by decide +kernel
theorem zk_155_6_0_300_c : zCon 155 6 zk_155_6_0_300_te [] zk_155_6_0_300_al := zCon_of (n := 6000) (hs := zk_155_6_0_300_hs) (lo := [(1, 27, 3), (0, 1, 0), (0, 4, 0), (0, 5, 0)]) (c := (.ofNat 5)) (ws := [(.ofNat 0), (.ofNat 0), (.ofNat 0), (.ofNat 0)]) (by decide) (by decide +kernel) zk_155_6_0_300_oo (List.mem_cons_self) (zAll_mem ⟨zk_155_6_0_300_r0, trivial⟩)
def zk_155_6_0_300_o : zO_ := zorcC 155 6 zk_155_6_0_300_te [(1, 27, 3), (0, 1, 0), (0, 4, 0), (0, 5, 0)] [] zk_155_6_0_300_al
theorem zk_155_6_0_300_ok (l : Launch) (X : zx_X) (XL : Nat) (φ : List z_C) (P : List Int → Prop) : zOk l X XL φ P zk_155_6_0_300_o := zOk_C zk_155_6_0_300_c (by decide +kernel) l X XL φ P
/-! run -/
def zk_155_7_0_300_te : zA_T := ([((.ofNat 0), (.ofNat 300), zD0), ((.ofNat 0), (.ofNat 49), zD0), ((.negSucc 2147483647), (.ofNat 2147483647), zD0), ((.ofNat 0), (.ofNat 40), zD0)], (zHT.set 27 (0, 9, 0, [(2, (.ofNat 31)), (2, (.ofNat 32)), (6, (.ofNat 433791696896)), (1, (.ofNat 0))], [(2, (8, (.ofNat 27)))])), [(0, (2, (.ofNat 30))), (1, (1, (.ofNat 1))), (2, (0, (.ofNat 7))), (3, (0, (.ofNat 0))), (4, (1, (.ofNat 2))), (5, (1, (.ofNat 3)))], [], 0, 0)
def zk_155_7_0_300_al : List zAlt := [([((.ofNat 0), (.ofNat 304), none), ((.negSucc 2147483647), (.ofNat 2147483647), none)], [(1, 27, 3), (3, 0, 0)], (zHT.set 27 (0, 9, 0, [(2, (.ofNat 31)), (2, (.ofNat 32)), (6, (.ofNat 433791696896)), (1, (.ofNat 0))], [(2, (8, (.ofNat 27)))])), some (1, (.ofNat 1)))]
def zk_155_7_0_300_h0 : zHd := (0, zk_155_7_0_300_te, [(1, 27, 3), (0, 1, 0), (0, 4, 0), (0, 5, 0)], [], (.ofNat 5), [(.ofNat 0), (.ofNat 0), (.ofNat 0), (.ofNat 0)], [])
def zk_155_7_0_300_hs : List zHd := [zk_155_7_0_300_h0]
def zk_155_7_0_300_or : zO_ := zor (zor zk_155_0_0_100_o (zor zk_155_0_0_300_o (zon))) (zspl 155 2 (zor (zor zk_155_0_0_100_o (zor zk_155_0_0_300_o (zon))) (zspl 155 3 (zor zk_155_0_0_100_o (zor zk_155_0_0_300_o (zon))))))
theorem zk_155_7_0_300_oo (l : Launch) (X : zx_X) (φ : List z_C) (P : List Int → Prop) : zOk l X 2000000 φ P zk_155_7_0_300_or := zOk_or (zOk_or (zk_155_0_0_100_ok l X 2000000 φ P) (zOk_or (zk_155_0_0_300_ok l X 2000000 φ P) (zOk_no l X 2000000 φ P))) (zOk_spl (m0 := 155) (i := 2) (zOk_or (zOk_or (zk_155_0_0_100_ok l X 2000000 φ P) (zOk_or (zk_155_0_0_300_ok l X 2000000 φ P) (zOk_no l X 2000000 φ P))) (zOk_spl (m0 := 155) (i := 3) (zOk_or (zk_155_0_0_100_ok l X 2000000 φ P) (zOk_or (zk_155_0_0_300_ok l X 2000000 φ P) (zOk_no l X 2000000 φ P))))))
theorem zk_155_7_0_300_r0 : zx1 2000000 (zfinC zk_155_7_0_300_al zk_155_7_0_300_h0.2.2.2.1) (zcutH zk_155_7_0_300_hs zk_155_7_0_300_h0 155 6) zk_155_7_0_300_or 6000 155 6 zk_155_7_0_300_h0.1 (zhS zk_155_7_0_300_h0) [] = true := by decide +kernel
theorem zk_155_7_0_300_c : zCon 155 6 zk_155_7_0_300_te [] zk_155_7_0_300_al := zCon_of (n := 6000) (hs := zk_155_7_0_300_hs) (lo := [(1, 27, 3), (0, 1, 0), (0, 4, 0), (0, 5, 0)]) (c := (.ofNat 5)) (ws := [(.ofNat 0), (.ofNat 0), (.ofNat 0), (.ofNat 0)]) (by decide) (by decide +kernel) zk_155_7_0_300_oo (List.mem_cons_self) (zAll_mem ⟨zk_155_7_0_300_r0, trivial⟩)
def zk_155_7_0_300_o : zO_ := zorcC 155 6 zk_155_7_0_300_te [(1, 27, 3), (0, 1, 0), (0, 4, 0), (0, 5, 0)] [] zk_155_7_0_300_al
theorem zk_155_7_0_300_ok (l : Launch) (X : zx_X) (XL : Nat) (φ : List z_C) (P : List Int → Prop) : zOk l X XL φ P zk_155_7_0_300_o := zOk_C zk_155_7_0_300_c (by decide +kernel) l X XL φ P
/-! run -/
def zk_155_0_2_90_te : zA_T := ([((.ofNat 0), (.ofNat 93), zD0), ((.ofNat 0), (.ofNat 49), zD0), ((.negSucc 2147483647), (.ofNat 2147483647), zD0), ((.ofNat 0), (.ofNat 40), zD0)], (zHT.set 27 (0, 9, 0, [(2, (.ofNat 31)), (2, (.ofNat 32)), (6, (.ofNat 433791696896)), (1, (.ofNat 0))], [(2, (8, (.ofNat 27)))])), [(0, (2, (.ofNat 30))), (1, (1, (.ofNat 1))), (2, (0, (.ofNat 0))), (3, (0, (.ofNat 2))), (4, (1, (.ofNat 2))), (5, (1, (.ofNat 3)))], [], 0, 0)
def zk_155_0_2_90_al : List zAlt := [([((.ofNat 0), (.ofNat 94), none), ((.negSucc 2147483647), (.ofNat 2147483647), none)], [(1, 27, 3), (3, 0, 0)], (zHT.set 27 (0, 9, 0, [(2, (.ofNat 31)), (2, (.ofNat 32)), (6, (.ofNat 433791696896)), (1, (.ofNat 0))], [(2, (8, (.ofNat 27)))])), some (1, (.ofNat 1)))]
def zk_155_0_2_90_h0 : zHd := (0, zk_155_0_2_90_te, [(1, 27, 3), (0, 1, 0), (0, 4, 0), (0, 5, 0)], [], (.ofNat 5), [(.ofNat 0), (.ofNat 0), (.ofNat 0), (.ofNat 0)], [])
def zk_155_0_2_90_hs : List zHd := [zk_155_0_2_90_h0]
def zk_155_0_2_90_or : zO_ := zon
theorem zk_155_0_2_90_oo (l : Launch) (X : zx_X) (φ : List z_C) (P : List Int → Prop) : zOk l X 2000000 φ P zk_155_0_2_90_or := zOk_no l X 2000000 φ P
theorem zk_155_0_2_90_r0 : zx1 2000000 (zfinC zk_155_0_2_90_al zk_155_0_2_90_h0.2.2.2.1) (zcutH zk_155_0_2_90_hs zk_155_0_2_90_h0 155 3) zk_155_0_2_90_or 6000 155 3 zk_155_0_2_90_h0.1 (zhS zk_155_0_2_90_h0) [] = true := by decide +kernel
theorem zk_155_0_2_90_c : zCon 155 3 zk_155_0_2_90_te [] zk_155_0_2_90_al := zCon_of (n := 6000) (hs := zk_155_0_2_90_hs) (lo := [(1, 27, 3), (0, 1, 0), (0, 4, 0), (0, 5, 0)]) (c := (.ofNat 5)) (ws := [(.ofNat 0), (.ofNat 0), (.ofNat 0), (.ofNat 0)]) (by decide) (by decide +kernel) zk_155_0_2_90_oo (List.mem_cons_self) (zAll_mem ⟨zk_155_0_2_90_r0, trivial⟩)
def zk_155_0_2_90_o : zO_ := zorcC 155 3 zk_155_0_2_90_te [(1, 27, 3), (0, 1, 0), (0, 4, 0), (0, 5, 0)] [] zk_155_0_2_90_al
theorem zk_155_0_2_90_ok (l : Launch) (X : zx_X) (XL : Nat) (φ : List z_C) (P : List Int → Prop) : zOk l X XL φ P zk_155_0_2_90_o := zOk_C zk_155_0_2_90_c (by decide +kernel) l X XL φ P
/-! run -/
def zk_155_1_2_90_te : zA_T := ([((.ofNat 0), (.ofNat 92), zD0), ((.ofNat 0), (.ofNat 49), zD0), ((.negSucc 2147483647), (.ofNat 2147483647), zD0), ((.ofNat 0), (.ofNat 40), zD0)], (zHT.set 27 (0, 9, 0, [(2, (.ofNat 31)), (2, (.ofNat 32)), (6, (.ofNat 433791696896)), (1, (.ofNat 0))], [(2, (8, (.ofNat 27)))])), [(0, (2, (.ofNat 30))), (1, (1, (.ofNat 1))), (2, (0, (.ofNat 1))), (3, (0, (.ofNat 2))), (4, (1, (.ofNat 2))), (5, (1, (.ofNat 3)))], [], 0, 0)
def zk_155_1_2_90_al : List zAlt := [([((.ofNat 0), (.ofNat 93), none), ((.negSucc 2147483647), (.ofNat 2147483647), none)], [(1, 27, 3), (3, 0, 0)], (zHT.set 27 (0, 9, 0, [(2, (.ofNat 31)), (2, (.ofNat 32)), (6, (.ofNat 433791696896)), (1, (.ofNat 0))], [(2, (8, (.ofNat 27)))])), some (1, (.ofNat 1)))]
def zk_155_1_2_90_h0 : zHd := (0, zk_155_1_2_90_te, [(1, 27, 3), (0, 1, 0), (0, 4, 0), (0, 5, 0)], [], (.ofNat 5), [(.ofNat 0), (.ofNat 0), (.ofNat 0), (.ofNat 0)], [])
def zk_155_1_2_90_hs : List zHd := [zk_155_1_2_90_h0]
def zk_155_1_2_90_or : zO_ := zon
theorem zk_155_1_2_90_oo (l : Launch) (X : zx_X) (φ : List z_C) (P : List Int → Prop) : zOk l X 2000000 φ P zk_155_1_2_90_or := zOk_no l X 2000000 φ P
theorem zk_155_1_2_90_r0 : zx1 2000000 (zfinC zk_155_1_2_90_al zk_155_1_2_90_h0.2.2.2.1) (zcutH zk_155_1_2_90_hs zk_155_1_2_90_h0 155 3) zk_155_1_2_90_or 6000 155 3 zk_155_1_2_90_h0.1 (zhS zk_155_1_2_90_h0) [] = true := by decide +kernel
theorem zk_155_1_2_90_c : zCon 155 3 zk_155_1_2_90_te [] zk_155_1_2_90_al := zCon_of (n := 6000) (hs := zk_155_1_2_90_hs) (lo := [(1, 27, 3), (0, 1, 0), (0, 4, 0), (0, 5, 0)]) (c := (.ofNat 5)) (ws := [(.ofNat 0), (.ofNat 0), (.ofNat 0), (.ofNat 0)]) (by decide) (by decide +kernel) zk_155_1_2_90_oo (List.mem_cons_self) (zAll_mem ⟨zk_155_1_2_90_r0, trivial⟩)
def zk_155_1_2_90_o : zO_ := zorcC 155 3 zk_155_1_2_90_te [(1, 27, 3), (0, 1, 0), (0, 4, 0), (0, 5, 0)] [] zk_155_1_2_90_al
theorem zk_155_1_2_90_ok (l : Launch) (X : zx_X) (XL : Nat) (φ : List z_C) (P : List Int → Prop) : zOk l X XL φ P zk_155_1_2_90_o := zOk_C zk_155_1_2_90_c (by decide +kernel) l X XL φ P
/-! run -/
def zk_155_2_2_90_te : zA_T := ([((.ofNat 0), (.ofNat 92), zD0), ((.ofNat 0), (.ofNat 49), zD0), ((.negSucc 2147483647), (.ofNat 2147483647), zD0), ((.ofNat 0), (.ofNat 40), zD0)], (zHT.set 27 (0, 9, 0, [(2, (.ofNat 31)), (2, (.ofNat 32)), (6, (.ofNat 433791696896)), (1, (.ofNat 0))], [(2, (8, (.ofNat 27)))])), [(0, (2, (.ofNat 30))), (1, (1, (.ofNat 1))), (2, (0, (.ofNat 2))), (3, (0, (.ofNat 2))), (4, (1, (.ofNat 2))), (5, (1, (.ofNat 3)))], [], 0, 0)
def zk_155_2_2_90_al : List zAlt := [([((.ofNat 0), (.ofNat 93), none), ((.negSucc 2147483647), (.ofNat 2147483647), none)], [(1, 27, 3), (3, 0, 0)], (zHT.set 27 (0, 9, 0, [(2, (.ofNat 31)), (2, (.ofNat 32)), (6, (.ofNat 433791696896)), (1, (.ofNat 0))], [(2, (8, (.ofNat 27)))])), some (1, (.ofNat 1)))]
def zk_155_2_2_90_h0 : zHd := (0, zk_155_2_2_90_te, [(1, 27, 3), (0, 1, 0), (0, 4, 0), (0, 5, 0)], [], (.ofNat 5), [(.ofNat 0), (.ofNat 0), (.ofNat 0), (.ofNat 0)], [])
def zk_155_2_2_90_hs : List zHd := [zk_155_2_2_90_h0]
def zk_155_2_2_90_or : zO_ := zon
theorem zk_155_2_2_90_oo (l : Launch) (X : zx_X) (φ : List z_C) (P : List Int → Prop) : zOk l X 2000000 φ P zk_155_2_2_90_or := zOk_no l X 2000000 φ P
theorem zk_155_2_2_90_r0 : zx1 2000000 (zfinC zk_155_2_2_90_al zk_155_2_2_90_h0.2.2.2.1) (zcutH zk_155_2_2_90_hs zk_155_2_2_90_h0 155 3) zk_155_2_2_90_or 6000 155 3 zk_155_2_2_90_h0.1 (zhS zk_155_2_2_90_h0) [] = true := by decide +kernel
theorem zk_155_2_2_90_c : zCon 155 3 zk_155_2_2_90_te [] zk_155_2_2_90_al := zCon_of (n := 6000) (hs := zk_155_2_2_90_hs) (lo := [(1, 27, 3), (0, 1, 0), (0, 4, 0), (0, 5, 0)]) (c := (.ofNat 5)) (ws := [(.ofNat 0), (.ofNat 0), (.ofNat 0), (.ofNat 0)]) (by decide) (by decide +kernel) zk_155_2_2_90_oo (List.mem_cons_self) (zAll_mem ⟨zk_155_2_2_90_r0, trivial⟩)
def zk_155_2_2_90_o : zO_ := zorcC 155 3 zk_155_2_2_90_te [(1, 27, 3), (0, 1, 0), (0, 4, 0), (0, 5, 0)] [] zk_155_2_2_90_al
theorem zk_155_2_2_90_ok (l : Launch) (X : zx_X) (XL : Nat) (φ : List z_C) (P : List Int → Prop) : zOk l X XL φ P zk_155_2_2_90_o := zOk_C zk_155_2_2_90_c (by decide +kernel) l X XL φ P
/-! run -/
def zk_155_3_2_90_te : zA_T := ([((.ofNat 0), (.ofNat 91), zD0), ((.ofNat 0), (.ofNat 49), zD0), ((.negSucc 2147483647), (.ofNat 2147483647), zD0), ((.ofNat 0), (.ofNat 40), zD0)], (zHT.set 27 (0, 9, 0, [(2, (.ofNat 31)), (2, (.ofNat 32)), (6, (.ofNat 433791696896)), (1, (.ofNat 0))], [(2, (8, (.ofNat 27)))])), [(0, (2, (.ofNat 30))), (1, (1, (.ofNat 1))), (2, (0, (.ofNat 3))), (3, (0, (.ofNat 2))), (4, (1, (.ofNat 2))), (5, (1, (.ofNat 3)))], [], 0, 0)
def zk_155_3_2_90_al : List zAlt := [([((.ofNat 0), (.ofNat 93), none), ((.negSucc 2147483647), (.ofNat 2147483647), none)], [(1, 27, 3), (3, 0, 0)], (zHT.set 27 (0, 9, 0, [(2, (.ofNat 31)), (2, (.ofNat 32)), (6, (.ofNat 433791696896)), (1, (.ofNat 0))], [(2, (8, (.ofNat 27)))])), some (1, (.ofNat 1)))]
def zk_155_3_2_90_h0 : zHd := (0, zk_155_3_2_90_te, [(1, 27, 3), (0, 1, 0), (0, 4, 0), (0, 5, 0)], [], (.ofNat 5), [(.ofNat 0), (.ofNat 0), (.ofNat 0), (.ofNat 0)], [])
def zk_155_3_2_90_hs : List zHd := [zk_155_3_2_90_h0]
def zk_155_3_2_90_or : zO_ := zor (zor zk_155_2_2_90_o (zon)) (zspl 155 2 (zor (zor zk_155_2_2_90_o (zon)) (zspl 155 3 (zor zk_155_2_2_90_o (zon)))))
theorem zk_155_3_2_90_oo (l : Launch) (X : zx_X) (φ : List z_C) (P : List Int → Prop) : zOk l X 2000000 φ P zk_155_3_2_90_or := zOk_or (zOk_or (zk_155_2_2_90_ok l X 2000000 φ P) (zOk_no l X 2000000 φ P)) (zOk_spl (m0 := 155) (i := 2) (zOk_or (zOk_or (zk_155_2_2_90_ok l X 2000000 φ P) (zOk_no l X 2000000 φ P)) (zOk_spl (m0 := 155) (i := 3) (zOk_or (zk_155_2_2_90_ok l X 2000000 φ P) (zOk_no l X 2000000 φ P)))))
theorem zk_155_3_2_90_r0 : zx1 2000000 (zfinC zk_155_3_2_90_al zk_155_3_2_90_h0.2.2.2.1) (zcutH zk_155_3_2_90_hs zk_155_3_2_90_h0 155 6) zk_155_3_2_90_or 6000 155 6 zk_155_3_2_90_h0.1 (zhS zk_155_3_2_90_h0) [] = true := by decide +kernel
theorem zk_155_3_2_90_c : zCon 155 6 zk_155_3_2_90_te [] zk_155_3_2_90_al := zCon_of (n := 6000) (hs := zk_155_3_2_90_hs) (lo := [(1, 27, 3), (0, 1, 0), (0, 4, 0), (0, 5, 0)]) (c := (.ofNat 5)) (ws := [(.ofNat 0), (.ofNat 0), (.ofNat 0), (.ofNat 0)]) (by decide) (by decide +kernel) zk_155_3_2_90_oo (List.mem_cons_self) (zAll_mem ⟨zk_155_3_2_90_r0, trivial⟩)
def zk_155_3_2_90_o : zO_ := zorcC 155 6 zk_155_3_2_90_te [(1, 27, 3), (0, 1, 0), (0, 4, 0), (0, 5, 0)] [] zk_155_3_2_90_al
theorem zk_155_3_2_90_ok (l : Launch) (X : zx_X) (XL : Nat) (φ : List z_C) (P : List Int → Prop) : zOk l X XL φ P zk_155_3_2_90_o := zOk_C zk_155_3_2_90_c (by decide +kernel) l X XL φ P
/-! run -/
def zk_155_4_2_90_te : zA_T := ([((.ofNat 0), (.ofNat 91), zD0), ((.ofNat 0), (.ofNat 49), zD0), ((.negSucc 2147483647), (.ofNat 2147483647), zD0), ((.ofNat 0), (.ofNat 40), zD0)], (zHT.set 27 (0, 9, 0, [(2, (.ofNat 31)), (2, (.ofNat 32)), (6, (.ofNat 433791696896)), (1, (.ofNat 0))], [(2, (8, (.ofNat 27)))])), [(0, (2, (.ofNat 30))), (1, (1, (.ofNat 1))), (2, (0, (.ofNat 4))), (3, (0, (.ofNat 2))), (4, (1, (.ofNat 2))), (5, (1, (.ofNat 3)))], [], 0, 0)
def zk_155_4_2_90_al : List zAlt := [([((.ofNat 0), (.ofNat 104), none), ((.negSucc 2147483647), (.ofNat 2147483647), none)], [(1, 27, 3), (3, 0, 0)], (zHT.set 27 (0, 9, 0, [(2, (.ofNat 31)), (2, (.ofNat 32)), (6, (.ofNat 433791696896)), (1, (.ofNat 0))], [(2, (8, (.ofNat 27)))])), some (1, (.ofNat 1)))]
def zk_155_4_2_90_h0 : zHd := (0, zk_155_4_2_90_te, [(1, 27, 3), (0, 1, 0), (0, 4, 0), (0, 5, 0)], [], (.ofNat 5), [(.ofNat 0), (.ofNat 0), (.ofNat 0), (.ofNat 0)], [])
def zk_155_4_2_90_hs : List zHd := [zk_155_4_2_90_h0]
def zk_155_4_2_90_or : zO_ := zor (zor zk_155_0_0_100_o (zor zk_155_1_0_100_o (zor zk_155_2_0_100_o (zor zk_155_3_0_100_o (zor zk_155_4_0_100_o (zor zk_155_5_0_100_o (zor zk_155_6_0_100_o (zor zk_155_7_0_100_o (zor zk_155_1_2_90_o (zon)))))))))) (zspl 155 2 (zor (zor zk_155_0_0_100_o (zor zk_155_1_0_100_o (zor zk_155_2_0_100_o (zor zk_155_3_0_100_o (zor zk_155_4_0_100_o (zor zk_155_5_0_100_o (zor zk_155_6_0_100_o (zor zk_155_7_0_100_o (zor zk_155_1_2_90_o (zon)))))))))) (zspl 155 3 (zor zk_155_0_0_100_o (zor zk_155_1_0_100_o (zor zk_155_2_0_100_o (zor zk_155_3_0_100_o (zor zk_155_4_0_100_o (zor zk_155_5_0_100_o (zor zk_155_6_0_100_o (zor zk_155_7_0_100_o (zor zk_155_1_2_90_o (zon)))))))))))))
theorem zk_155_4_2_90_oo (l : Launch) (X : zx_X) (φ : List z_C) (P : List Int → Prop) : zOk l X 2000000 φ P zk_155_4_2_90_or := zOk_or (zOk_or (zk_155_0_0_100_ok l X 2000000 φ P) (zOk_or (zk_155_1_0_100_ok l X 2000000 φ P) (zOk_or (zk_155_2_0_100_ok l X 2000000 φ P) (zOk_or (zk_155_3_0_100_ok l X 2000000 φ P) (zOk_or (zk_155_4_0_100_ok l X 2000000 φ P) (zOk_or (zk_155_5_0_100_ok l X 2000000 φ P) (zOk_or (zk_155_6_0_100_ok l X 2000000 φ P) (zOk_or (zk_155_7_0_100_ok l X 2000000 φ P) (zOk_or (zk_155_1_2_90_ok l X 2000000 φ P) (zOk_no l X 2000000 φ P)))))))))) (zOk_spl (m0 := 155) (i := 2) (zOk_or (zOk_or (zk_155_0_0_100_ok l X 2000000 φ P) (zOk_or (zk_155_1_0_100_ok l X 2000000 φ P) (zOk_or (zk_155_2_0_100_ok l X 2000000 φ P) (zOk_or (zk_155_3_0_100_ok l X 2000000 φ P) (zOk_or (zk_155_4_0_100_ok l X 2000000 φ P) (zOk_or (zk_155_5_0_100_ok l X 2000000 φ P) (zOk_or (zk_155_6_0_100_ok l X 2000000 φ P) (zOk_or (zk_155_7_0_100_ok l X 2000000 φ P) (zOk_or (zk_155_1_2_90_ok l X 2000000 φ P) (zOk_no l X 2000000 φ P)))))))))) (zOk_spl (m0 := 155) (i := 3) (zOk_or (zk_155_0_0_100_ok l X 2000000 φ P) (zOk_or (zk_155_1_0_100_ok l X 2000000 φ P) (zOk_or (zk_155_2_0_100_ok l X 2000000 φ P) (zOk_or (zk_155_3_0_100_ok l X 2000000 φ P) (zOk_or (zk_155_4_0_100_ok l X 2000000 φ P) (zOk_or (zk_155_5_0_100_ok l X 2000000 φ P) (zOk_or (zk_155_6_0_100_ok l X 2000000 φ P) (zOk_or (zk_155_7_0_100_ok l X 2000000 φ P) (zOk_or (zk_155_1_2_90_ok l X 2000000 φ P) (zOk_no l X 2000000 φ P)))))))))))))
theorem zk_155_4_2_90_r0 : zx1 2000000 (zfinC zk_155_4_2_90_al zk_155_4_2_90_h0.2.2.2.1) (zcutH zk_155_4_2_90_hs zk_155_4_2_90_h0 155 9) zk_155_4_2_90_or 6000 155 9 zk_155_4_2_90_h0.1 (zhS zk_155_4_2_90_h0) [] = true := by decide +kernel
theorem zk_155_4_2_90_c : zCon 155 9 zk_155_4_2_90_te [] zk_155_4_2_90_al := zCon_of (n := 6000) (hs := zk_155_4_2_90_hs) (lo := [(1, 27, 3), (0, 1, 0), (0, 4, 0), (0, 5, 0)]) (c := (.ofNat 5)) (ws := [(.ofNat 0), (.ofNat 0), (.ofNat 0), (.ofNat 0)]) (by decide) (by decide +kernel) zk_155_4_2_90_oo (List.mem_cons_self) (zAll_mem ⟨zk_155_4_2_90_r0, trivial⟩)
def zk_155_4_2_90_o : zO_ := zorcC 155 9 zk_155_4_2_90_te [(1, 27, 3), (0, 1, 0), (0, 4, 0), (0, 5, 0)] [] zk_155_4_2_90_al
theorem zk_155_4_2_90_ok (l : Launch) (X : zx_X) (XL : Nat) (φ : List z_C) (P : List Int → Prop) : zOk l X XL φ P zk_155_4_2_90_o := zOk_C zk_155_4_2_90_c (by decide +kernel) l X XL φ P
/-! run -/
def zk_155_5_2_90_te : zA_T := ([((.ofNat 0), (.ofNat 90), zD0), ((.ofNat 0), (.ofNat 49), zD0), ((.negSucc 2147483647), (.ofNat 2147483647), zD0), ((.ofNat 0), (.ofNat 40), zD0)], (zHT.set 27 (0, 9, 0, [(2, (.ofNat 31)), (2, (.ofNat 32)), (6, (.ofNat 433791696896)), (1, (.ofNat 0))], [(2, (8, (.ofNat 27)))])), [(0, (2, (.ofNat 30))), (1, (1, (.ofNat 1))), (2, (0, (.ofNat 5))), (3, (0, (.ofNat 2))), (4, (1, (.ofNat 2))), (5, (1, (.ofNat 3)))], [], 0, 0)
def zk_155_5_2_90_al : List zAlt := [([((.ofNat 0), (.ofNat 93), none), ((.negSucc 2147483647), (.ofNat 2147483647), none)], [(1, 27, 3), (3, 0, 0)], (zHT.set 27 (0, 9, 0, [(2, (.ofNat 31)), (2, (.ofNat 32)), (6, (.ofNat 433791696896)), (1, (.ofNat 0))], [(2, (8, (.ofNat 27)))])), some (1, (.ofNat 1)))]
def zk_155_5_2_90_h0 : zHd := (0, zk_155_5_2_90_te, [(1, 27, 3), (0, 1, 0), (0, 4, 0), (0, 5, 0)], [], (.ofNat 5), [(.ofNat 0), (.ofNat 0), (.ofNat 0), (.ofNat 0)], [])
def zk_155_5_2_90_hs : List zHd := [zk_155_5_2_90_h0]
def zk_155_5_2_90_or : zO_ := zor (zor zk_155_2_2_90_o (zon)) (zspl 155 2 (zor (zor zk_155_2_2_90_o (zon)) (zspl 155 3 (zor zk_155_2_2_90_o (zon)))))
theorem zk_155_5_2_90_oo (l : Launch) (X : zx_X) (φ : List z_C) (P : List Int → Prop) : zOk l X 2000000 φ P zk_155_5_2_90_or := zOk_or (zOk_or (zk_155_2_2_90_ok l X 2000000 φ P) (zOk_no l X 2000000 φ P)) (zOk_spl (m0 := 155) (i := 2) (zOk_or (zOk_or (zk_155_2_2_90_ok l X 2000000 φ P) (zOk_no l X 2000000 φ P)) (zOk_spl (m0 := 155) (i := 3) (zOk_or (zk_155_2_2_90_ok l X 2000000 φ P) (zOk_no l X 2000000 φ P)))))
theorem zk_155_5_2_90_r0 : zx1 2000000 (zfinC zk_155_5_2_90_al zk_155_5_2_90_h0.2.2.2.1) (zcutH zk_155_5_2_90_hs zk_155_5_2_90_h0 155 6) zk_155_5_2_90_or 6000 155 6 zk_155_5_2_90_h0.1 (zhS zk_155_5_2_90_h0) [] = true := by decide +kernel
theorem zk_155_5_2_90_c : zCon 155 6 zk_155_5_2_90_te [] zk_155_5_2_90_al := zCon_of (n := 6000) (hs := zk_155_5_2_90_hs) (lo := [(1, 27, 3), (0, 1, 0), (0, 4, 0), (0, 5, 0)]) (c := (.ofNat 5)) (ws := [(.ofNat 0), (.ofNat 0), (.ofNat 0), (.ofNat 0)]) (by decide) (by decide +kernel) zk_155_5_2_90_oo (List.mem_cons_self) (zAll_mem ⟨zk_155_5_2_90_r0, trivial⟩)
def zk_155_5_2_90_o : zO_ := zorcC 155 6 zk_155_5_2_90_te [(1, 27, 3), (0, 1, 0), (0, 4, 0), (0, 5, 0)] [] zk_155_5_2_90_al
theorem zk_155_5_2_90_ok (l : Launch) (X : zx_X) (XL : Nat) (φ : List z_C) (P : List Int → Prop) : zOk l X XL φ P zk_155_5_2_90_o := zOk_C zk_155_5_2_90_c (by decide +kernel) l X XL φ P
/-! run -/
def zk_155_6_2_90_te : zA_T := ([((.ofNat 0), (.ofNat 92), zD0), ((.ofNat 0), (.ofNat 49), zD0), ((.negSucc 2147483647), (.ofNat 2147483647), zD0), ((.ofNat 0), (.ofNat 40), zD0)], (zHT.set 27 (0, 9, 0, [(2, (.ofNat 31)), (2, (.ofNat 32)), (6, (.ofNat 433791696896)), (1, (.ofNat 0))], [(2, (8, (.ofNat 27)))])), [(0, (2, (.ofNat 30))), (1, (1, (.ofNat 1))), (2, (0, (.ofNat 6))), (3, (0, (.ofNat 2))), (4, (1, (.ofNat 2))), (5, (1, (.ofNat 3)))], [], 0, 0)
def zk_155_6_2_90_al : List zAlt := [([((.ofNat 0), (.ofNat 93), none), ((.negSucc 2147483647), (.ofNat 2147483647), none)], [(1, 27, 3), (3, 0, 0)], (zHT.set 27 (0, 9, 0, [(2, (.ofNat 31)), (2, (.ofNat 32)), (6, (.ofNat 433791696896)), (1, (.ofNat 0))], [(2, (8, (.ofNat 27)))])), some (1, (.ofNat 1)))]
def zk_155_6_2_90_h0 : zHd := (0, zk_155_6_2_90_te, [(1, 27, 3), (0, 1, 0), (0, 4, 0), (0, 5, 0)], [], (.ofNat 5), [(.ofNat 0), (.ofNat 0), (.ofNat 0), (.ofNat 0)], [])
def zk_155_6_2_90_hs : List zHd := [zk_155_6_2_90_h0]
def zk_155_6_2_90_or : zO_ := zon
theorem zk_155_6_2_90_oo (l : Launch) (X : zx_X) (φ : List z_C) (P : List Int → Prop) : zOk l X 2000000 φ P zk_155_6_2_90_or := zOk_no l X 2000000 φ P
theorem zk_155_6_2_90_r0 : zx1 2000000 (zfinC zk_155_6_2_90_al zk_155_6_2_90_h0.2.2.2.1) (zcutH zk_155_6_2_90_hs zk_155_6_2_90_h0 155 3) zk_155_6_2_90_or 6000 155 3 zk_155_6_2_90_h0.1 (zhS zk_155_6_2_90_h0) [] = true := by decide +kernel
theorem zk_155_6_2_90_c : zCon 155 3 zk_155_6_2_90_te [] zk_155_6_2_90_al := zCon_of (n := 6000) (hs := zk_155_6_2_90_hs) (lo := [(1, 27, 3), (0, 1, 0), (0, 4, 0), (0, 5, 0)]) (c := (.ofNat 5)) (ws := [(.ofNat 0), (.ofNat 0), (.ofNat 0), (.ofNat 0)]) (by decide) (by decide +kernel) zk_155_6_2_90_oo (List.mem_cons_self) (zAll_mem ⟨zk_155_6_2_90_r0, trivial⟩)
def zk_155_6_2_90_o : zO_ := zorcC 155 3 zk_155_6_2_90_te [(1, 27, 3), (0, 1, 0), (0, 4, 0), (0, 5, 0)] [] zk_155_6_2_90_al
theorem zk_155_6_2_90_ok (l : Launch) (X : zx_X) (XL : Nat) (φ : List z_C) (P : List Int → Prop) : zOk l X XL φ P zk_155_6_2_90_o := zOk_C zk_155_6_2_90_c (by decide +kernel) l X XL φ P
/-! run -/
def zk_155_7_2_90_te : zA_T := ([((.ofNat 0), (.ofNat 90), zD0), ((.ofNat 0), (.ofNat 49), zD0), ((.negSucc 2147483647), (.ofNat 2147483647), zD0), ((.ofNat 0), (.ofNat 40), zD0)], (zHT.set 27 (0, 9, 0, [(2, (.ofNat 31)), (2, (.ofNat 32)), (6, (.ofNat 433791696896)), (1, (.ofNat 0))], [(2, (8, (.ofNat 27)))])), [(0, (2, (.ofNat 30))), (1, (1, (.ofNat 1))), (2, (0, (.ofNat 7))), (3, (0, (.ofNat 2))), (4, (1, (.ofNat 2))), (5, (1, (.ofNat 3)))], [], 0, 0)
def zk_155_7_2_90_al : List zAlt := [([((.ofNat 0), (.ofNat 104), none), ((.negSucc 2147483647), (.ofNat 2147483647), none)], [(1, 27, 3), (3, 0, 0)], (zHT.set 27 (0, 9, 0, [(2, (.ofNat 31)), (2, (.ofNat 32)), (6, (.ofNat 433791696896)), (1, (.ofNat 0))], [(2, (8, (.ofNat 27)))])), some (1, (.ofNat 1)))]
def zk_155_7_2_90_h0 : zHd := (0, zk_155_7_2_90_te, [(1, 27, 3), (0, 1, 0), (0, 4, 0), (0, 5, 0)], [], (.ofNat 5), [(.ofNat 0), (.ofNat 0), (.ofNat 0), (.ofNat 0)], [])
def zk_155_7_2_90_hs : List zHd := [zk_155_7_2_90_h0]
def zk_155_7_2_90_or : zO_ := zor (zor zk_155_0_0_100_o (zor zk_155_1_0_100_o (zor zk_155_2_0_100_o (zor zk_155_3_0_100_o (zor zk_155_4_0_100_o (zor zk_155_5_0_100_o (zor zk_155_6_0_100_o (zor zk_155_7_0_100_o (zor zk_155_1_2_90_o (zon)))))))))) (zspl 155 2 (zor (zor zk_155_0_0_100_o (zor zk_155_1_0_100_o (zor zk_155_2_0_100_o (zor zk_155_3_0_100_o (zor zk_155_4_0_100_o (zor zk_155_5_0_100_o (zor zk_155_6_0_100_o (zor zk_155_7_0_100_o (zor zk_155_1_2_90_o (zon)))))))))) (zspl 155 3 (zor zk_155_0_0_100_o (zor zk_155_1_0_100_o (zor zk_155_2_0_100_o (zor zk_155_3_0_100_o (zor zk_155_4_0_100_o (zor zk_155_5_0_100_o (zor zk_155_6_0_100_o (zor zk_155_7_0_100_o (zor zk_155_1_2_90_o (zon)))))))))))))
theorem zk_155_7_2_90_oo (l : Launch) (X : zx_X) (φ : List z_C) (P : List Int → Prop) : zOk l X 2000000 φ P zk_155_7_2_90_or := zOk_or (zOk_or (zk_155_0_0_100_ok l X 2000000 φ P) (zOk_or (zk_155_1_0_100_ok l X 2000000 φ P) (zOk_or (zk_155_2_0_100_ok l X 2000000 φ P) (zOk_or (zk_155_3_0_100_ok l X 2000000 φ P) (zOk_or (zk_155_4_0_100_ok l X 2000000 φ P) (zOk_or (zk_155_5_0_100_ok l X 2000000 φ P) (zOk_or (zk_155_6_0_100_ok l X 2000000 φ P) (zOk_or (zk_155_7_0_100_ok l X 2000000 φ P) (zOk_or (zk_155_1_2_90_ok l X 2000000 φ P) (zOk_no l X 2000000 φ P)))))))))) (zOk_spl (m0 := 155) (i := 2) (zOk_or (zOk_or (zk_155_0_0_100_ok l X 2000000 φ P) (zOk_or (zk_155_1_0_100_ok l X 2000000 φ P) (zOk_or (zk_155_2_0_100_ok l X 2000000 φ P) (zOk_or (zk_155_3_0_100_ok l X 2000000 φ P) (zOk_or (zk_155_4_0_100_ok l X 2000000 φ P) (zOk_or (zk_155_5_0_100_ok l X 2000000 φ P) (zOk_or (zk_155_6_0_100_ok l X 2000000 φ P) (zOk_or (zk_155_7_0_100_ok l X 2000000 φ P) (zOk_or (zk_155_1_2_90_ok l X 2000000 φ P) (zOk_no l X 2000000 φ P)))))))))) (zOk_spl (m0 := 155) (i := 3) (zOk_or (zk_155_0_0_100_ok l X 2000000 φ P) (zOk_or (zk_155_1_0_100_ok l X 2000000 φ P) (zOk_or (zk_155_2_0_100_ok l X 2000000 φ P) (zOk_or (zk_155_3_0_100_ok l X 2000000 φ P) (zOk_or (zk_155_4_0_100_ok l X 2000000 φ P) (zOk_or (zk_155_5_0_100_ok l X 2000000 φ P) (zOk_or (zk_155_6_0_100_ok l X 2000000 φ P) (zOk_or (zk_155_7_0_100_ok l X 2000000 φ P) (zOk_or (zk_155_1_2_90_ok l X 2000000 φ P) (zOk_no l X 2000000 φ P)))))))))))))
theorem zk_155_7_2_90_r0 : zx1 2000000 (zfinC zk_155_7_2_90_al zk_155_7_2_90_h0.2.2.2.1) (zcutH zk_155_7_2_90_hs zk_155_7_2_90_h0 155 9) zk_155_7_2_90_or 6000 155 9 zk_155_7_2_90_h0.1 (zhS zk_155_7_2_90_h0) [] = true := by decide +kernel
theorem zk_155_7_2_90_c : zCon 155 9 zk_155_7_2_90_te [] zk_155_7_2_90_al := zCon_of (n := 6000) (hs := zk_155_7_2_90_hs) (lo := [(1, 27, 3), (0, 1, 0), (0, 4, 0), (0, 5, 0)]) (c := (.ofNat 5)) (ws := [(.ofNat 0), (.ofNat 0), (.ofNat 0), (.ofNat 0)]) (by decide) (by decide +kernel) zk_155_7_2_90_oo (List.mem_cons_self) (zAll_mem ⟨zk_155_7_2_90_r0, trivial⟩)
def zk_155_7_2_90_o : zO_ := zorcC 155 9 zk_155_7_2_90_te [(1, 27, 3), (0, 1, 0), (0, 4, 0), (0, 5, 0)] [] zk_155_7_2_90_al
theorem zk_155_7_2_90_ok (l : Launch) (X : zx_X) (XL : Nat) (φ : List z_C) (P : List Int → Prop) : zOk l X XL φ P zk_155_7_2_90_o := zOk_C zk_155_7_2_90_c (by decide +kernel) l X XL φ P
/-! run -/
def zk_155_0_2_190_te : zA_T := ([((.ofNat 0), (.ofNat 193), zD0), ((.ofNat 0), (.ofNat 49), zD0), ((.negSucc 2147483647), (.ofNat 2147483647), zD0), ((.ofNat 0), (.ofNat 40), zD0)], (zHT.set 27 (0, 9, 0, [(2, (.ofNat 31)), (2, (.ofNat 32)), (6, (.ofNat 433791696896)), (1, (.ofNat 0))], [(2, (8, (.ofNat 27)))])), [(0, (2, (.ofNat 30))), (1, (1, (.ofNat 1))), (2, (0, (.ofNat 0))), (3, (0, (.ofNat 2))), (4, (1, (.ofNat 2))), (5, (1, (.ofNat 3)))], [], 0, 0)
def zk_155_0_2_190_al : List zAlt := [([((.ofNat 0), (.ofNat 194), none), ((.negSucc 2147483647), (.ofNat 2147483647), none)], [(1, 27, 3), (3, 0, 0)], (zHT.set 27 (0, 9, 0, [(2, (.ofNat 31)), (2, (.ofNat 32)), (6, (.ofNat 433791696896)), (1, (.ofNat 0))], [(2, (8, (.ofNat 27)))])), some (1, (.ofNat 1)))]
def zk_155_0_2_190_h0 : zHd := (0, zk_155_0_2_190_te, [(1, 27, 3), (0, 1, 0), (0, 4, 0), (0, 5, 0)], [], (.ofNat 5), [(.ofNat 0), (.ofNat 0), (.ofNat 0), (.ofNat 0)], [])
def zk_155_0_2_190_hs : List zHd := [zk_155_0_2_190_h0]
def zk_155_0_2_190_or : zO_ := zon
theorem zk_155_0_2_190_oo (l : Launch) (X : zx_X) (φ : List z_C) (P : List Int → Prop) : zOk l X 2000000 φ P zk_155_0_2_190_or := zOk_no l X 2000000 φ P
theorem zk_155_0_2_190_r0 : zx1 2000000 (zfinC zk_155_0_2_190_al zk_155_0_2_190_h0.2.2.2.1) (zcutH zk_155_0_2_190_hs zk_155_0_2_190_h0 155 3) zk_155_0_2_190_or 6000 155 3 zk_155_0_2_190_h0.1 (zhS zk_155_0_2_190_h0) [] = true := by decide +kernel
theorem zk_155_0_2_190_c : zCon 155 3 zk_155_0_2_190_te [] zk_155_0_2_190_al := zCon_of (n := 6000) (hs := zk_155_0_2_190_hs) (lo := [(1, 27, 3), (0, 1, 0), (0, 4, 0), (0, 5, 0)]) (c := (.ofNat 5)) (ws := [(.ofNat 0), (.ofNat 0), (.ofNat 0), (.ofNat 0)]) (by decide) (by decide +kernel) zk_155_0_2_190_oo (List.mem_cons_self) (zAll_mem ⟨zk_155_0_2_190_r0, trivial⟩)
def zk_155_0_2_190_o : zO_ := zorcC 155 3 zk_155_0_2_190_te [(1, 27, 3), (0, 1, 0), (0, 4, 0), (0, 5, 0)] [] zk_155_0_2_190_al
theorem zk_155_0_2_190_ok (l : Launch) (X : zx_X) (XL : Nat) (φ : List z_C) (P : List Int → Prop) : zOk l X XL φ P zk_155_0_2_190_o := zOk_C zk_155_0_2_190_c (by decide +kernel) l X XL φ P
/-! run -/
def zk_155_1_2_190_te : zA_T := ([((.ofNat 0), (.ofNat 192), zD0), ((.ofNat 0), (.ofNat 49), zD0), ((.negSucc 2147483647), (.ofNat 2147483647), zD0), ((.ofNat 0), (.ofNat 40), zD0)], (zHT.set 27 (0, 9, 0, [(2, (.ofNat 31)), (2, (.ofNat 32)), (6, (.ofNat 433791696896)), (1, (.ofNat 0))], [(2, (8, (.ofNat 27)))])), [(0, (2, (.ofNat 30))), (1, (1, (.ofNat 1))), (2, (0, (.ofNat 1))), (3, (0, (.ofNat 2))), (4, (1, (.ofNat 2))), (5, (1, (.ofNat 3)))], [], 0, 0)
def zk_155_1_2_190_al : List zAlt := [([((.ofNat 0), (.ofNat 193), none), ((.negSucc 2147483647), (.ofNat 2147483647), none)], [(1, 27, 3), (3, 0, 0)], (zHT.set 27 (0, 9, 0, [(2, (.ofNat 31)), (2, (.ofNat 32)), (6, (.ofNat 433791696896)), (1, (.ofNat 0))], [(2, (8, (.ofNat 27)))])), some (1, (.ofNat 1)))]
def zk_155_1_2_190_h0 : zHd := (0, zk_155_1_2_190_te, [(1, 27, 3), (0, 1, 0), (0, 4, 0), (0, 5, 0)], [], (.ofNat 5), [(.ofNat 0), (.ofNat 0), (.ofNat 0), (.ofNat 0)], [])
def zk_155_1_2_190_hs : List zHd := [zk_155_1_2_190_h0]
def zk_155_1_2_190_or : zO_ := zon
theorem zk_155_1_2_190_oo (l : Launch) (X : zx_X) (φ : List z_C) (P : List Int → Prop) : zOk l X 2000000 φ P zk_155_1_2_190_or := zOk_no l X 2000000 φ P
theorem zk_155_1_2_190_r0 : zx1 2000000 (zfinC zk_155_1_2_190_al zk_155_1_2_190_h0.2.2.2.1) (zcutH zk_155_1_2_190_hs zk_155_1_2_190_h0 155 3) zk_155_1_2_190_or 6000 155 3 zk_155_1_2_190_h0.1 (zhS zk_155_1_2_190_h0) [] = true := by decide +kernel
theorem zk_155_1_2_190_c : zCon 155 3 zk_155_1_2_190_te [] zk_155_1_2_190_al := zCon_of (n := 6000) (hs := zk_155_1_2_190_hs) (lo := [(1, 27, 3), (0, 1, 0), (0, 4, 0), (0, 5, 0)]) (c := (.ofNat 5)) (ws := [(.ofNat 0), (.ofNat 0), (.ofNat 0), (.ofNat 0)]) (by decide) (by decide +kernel) zk_155_1_2_190_oo (List.mem_cons_self) (zAll_mem ⟨zk_155_1_2_190_r0, trivial⟩)
def zk_155_1_2_190_o : zO_ := zorcC 155 3 zk_155_1_2_190_te [(1, 27, 3), (0, 1, 0), (0, 4, 0), (0, 5, 0)] [] zk_155_1_2_190_al
theorem zk_155_1_2_190_ok (l : Launch) (X : zx_X) (XL : Nat) (φ : List z_C) (P : List Int → Prop) : zOk l X XL φ P zk_155_1_2_190_o := zOk_C zk_155_1_2_190_c (by decide +kernel) l X XL φ P
/-! run -/
def zk_155_2_2_190_te : zA_T := ([((.ofNat 0), (.ofNat 192), zD0), ((.ofNat 0), (.ofNat 49), zD0), ((.negSucc 2147483647), (.ofNat 2147483647), zD0), ((.ofNat 0), (.ofNat 40), zD0)], (zHT.set 27 (0, 9, 0, [(2, (.ofNat 31)), (2, (.ofNat 32)), (6, (.ofNat 433791696896)), (1, (.ofNat 0))], [(2, (8, (.ofNat 27)))])), [(0, (2, (.ofNat 30))), (1, (1, (.ofNat 1))), (2, (0, (.ofNat 2))), (3, (0, (.ofNat 2))), (4, (1, (.ofNat 2))), (5, (1, (.ofNat 3)))], [], 0, 0)
def zk_155_2_2_190_al : List zAlt := [([((.ofNat 0), (.ofNat 193), none), ((.negSucc 2147483647), (.ofNat 2147483647), none)], [(1, 27, 3), (3, 0, 0)], (zHT.set 27 (0, 9, 0, [(2, (.ofNat 31)), (2, (.ofNat 32)), (6, (.ofNat 433791696896)), (1, (.ofNat 0))], [(2, (8, (.ofNat 27)))])), some (1, (.ofNat 1)))]
def zk_155_2_2_190_h0 : zHd := (0, zk_155_2_2_190_te, [(1, 27, 3), (0, 1, 0), (0, 4, 0), (0, 5, 0)], [], (.ofNat 5), [(.ofNat 0), (.ofNat 0), (.ofNat 0), (.ofNat 0)], [])
def zk_155_2_2_190_hs : List zHd := [zk_155_2_2_190_h0]
def zk_155_2_2_190_or : zO_ := zon
theorem zk_155_2_2_190_oo (l : Launch) (X : zx_X) (φ : List z_C) (P : List Int → Prop) : zOk l X 2000000 φ P zk_155_2_2_190_or := zOk_no l X 2000000 φ P
theorem zk_155_2_2_190_r0 : zx1 2000000 (zfinC zk_155_2_2_190_al zk_155_2_2_190_h0.2.2.2.1) (zcutH zk_155_2_2_190_hs zk_155_2_2_190_h0 155 3) zk_155_2_2_190_or 6000 155 3 zk_155_2_2_190_h0.1 (zhS zk_155_2_2_190_h0) [] = true := by decide +kernel
theorem zk_155_2_2_190_c : zCon 155 3 zk_155_2_2_190_te [] zk_155_2_2_190_al := zCon_of (n := 6000) (hs := zk_155_2_2_190_hs) (lo := [(1, 27, 3), (0, 1, 0), (0, 4, 0), (0, 5, 0)]) (c := (.ofNat 5)) (ws := [(.ofNat 0), (.ofNat 0), (.ofNat 0), (.ofNat 0)]) (by decide) (by decide +kernel) zk_155_2_2_190_oo (List.mem_cons_self) (zAll_mem ⟨zk_155_2_2_190_r0, trivial⟩)
def zk_155_2_2_190_o : zO_ := zorcC 155 3 zk_155_2_2_190_te [(1, 27, 3), (0, 1, 0), (0, 4, 0), (0, 5, 0)] [] zk_155_2_2_190_al
theorem zk_155_2_2_190_ok (l : Launch) (X : zx_X) (XL : Nat) (φ : List z_C) (P : List Int → Prop) : zOk l X XL φ P zk_155_2_2_190_o := zOk_C zk_155_2_2_190_c (by decide +kernel) l X XL φ P
/-! run -/
def zk_155_3_2_190_te : zA_T := ([((.ofNat 0), (.ofNat 191), zD0), ((.ofNat 0), (.ofNat 49), zD0), ((.negSucc 2147483647), (.ofNat 2147483647), zD0), ((.ofNat 0), (.ofNat 40), zD0)], (zHT.set 27 (0, 9, 0, [(2, (.ofNat 31)), (2, (.ofNat 32)), (6, (.ofNat 433791696896)), (1, (.ofNat 0))], [(2, (8, (.ofNat 27)))])), [(0, (2, (.ofNat 30))), (1, (1, (.ofNat 1))), (2, (0, (.ofNat 3))), (3, (0, (.ofNat 2))), (4, (1, (.ofNat 2))), (5, (1, (.ofNat 3)))], [], 0, 0)
def zk_155_3_2_190_al : List zAlt := [([((.ofNat 0), (.ofNat 193), none), ((.negSucc 2147483647), (.ofNat 2147483647), none)], [(1, 27, 3), (3, 0, 0)], (zHT.set 27 (0, 9, 0, [(2, (.ofNat 31)), (2, (.ofNat 32)), (6, (.ofNat 433791696896)), (1, (.ofNat 0))], [(2, (8, (.ofNat 27)))])), some (1, (.ofNat 1)))]
def zk_155_3_2_190_h0 : zHd := (0, zk_155_3_2_190_te, [(1, 27, 3), (0, 1, 0), (0, 4, 0), (0, 5, 0)], [], (.ofNat 5), [(.ofNat 0), (.ofNat 0), (.ofNat 0), (.ofNat 0)], [])
def zk_155_3_2_190_hs : List zHd := [zk_155_3_2_190_h0]
def zk_155_3_2_190_or : zO_ := zor (zor zk_155_2_2_90_o (zor zk_155_2_2_190_o (zon))) (zspl 155 2 (zor (zor zk_155_2_2_90_o (zor zk_155_2_2_190_o (zon))) (zspl 155 3 (zor zk_155_2_2_90_o (zor zk_155_2_2_190_o (zon))))))
theorem zk_155_3_2_190_oo (l : Launch) (X : zx_X) (φ : List z_C) (P : List Int → Prop) : zOk l X 2000000 φ P zk_155_3_2_190_or := zOk_or (zOk_or (zk_155_2_2_90_ok l X 2000000 φ P) (zOk_or (zk_155_2_2_190_ok l X 2000000 φ P) (zOk_no l X 2000000 φ P))) (zOk_spl (m0 := 155) (i := 2) (zOk_or (zOk_or (zk_155_2_2_90_ok l X 2000000 φ P) (zOk_or (zk_155_2_2_190_ok l X 2000000 φ P) (zOk_no l X 2000000 φ P))) (zOk_spl (m0 := 155) (i := 3) (zOk_or (zk_155_2_2_90_ok l X 2000000 φ P) (zOk_or (zk_155_2_2_190_ok l X 2000000 φ P) (zOk_no l X 2000000 φ P))))))
theorem zk_155_3_2_190_r0 : zx1 2000000 (zfinC zk_155_3_2_190_al zk_155_3_2_190_h0.2.2.2.1) (zcutH zk_155_3_2_190_hs zk_155_3_2_190_h0 155 6) zk_155_3_2_190_or 6000 155 6 zk_155_3_2_190_h0.1 (zhS zk_155_3_2_190_h0) [] = true := by decide +kernel
theorem zk_155_3_2_190_c : zCon 155 6 zk_155_3_2_190_te [] zk_155_3_2_190_al := zCon_of (n := 6000) (hs := zk_155_3_2_190_hs) (lo := [(1, 27, 3), (0, 1, 0), (0, 4, 0), (0, 5, 0)]) (c := (.ofNat 5)) (ws := [(.ofNat 0), (.ofNat 0), (.ofNat 0), (.ofNat 0)]) (by decide) (by decide +kernel) zk_155_3_2_190_oo (List.mem_cons_self) (zAll_mem ⟨zk_155_3_2_190_r0, trivial⟩)
def zk_155_3_2_190_o : zO_ := zorcC 155 6 zk_155_3_2_190_te [(1, 27, 3), (0, 1, 0), (0, 4, 0), (0, 5, 0)] [] zk_155_3_2_190_al
theorem zk_155_3_2_190_ok (l : Launch) (X : zx_X) (XL : Nat) (φ : List z_C) (P : List Int → Prop) : zOk l X XL φ P zk_155_3_2_190_o := zOk_C zk_155_3_2_190_c (by decide +kernel) l X XL φ P
