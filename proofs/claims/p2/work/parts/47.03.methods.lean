/-! PART 20.03: what methods do, agree, believes, codesFor, drawn, firstWrong, fits, like, run, split, viewsFor, whose, writersOf. -/
/-! firstWrong -/
def zk_108_3_te : zA_T := ([((.negSucc 2147483647), (.ofNat 2147483647), zD0)], zHT, [(0, (2, (.ofNat 40))), (1, (1, (.ofNat 0)))], [], 0, 0)
def zk_108_3_al : List zAlt := [([((.negSucc 1), (.ofNat 29), none)], [(3, 0, 0)], zHT, some (1, (.ofNat 0)))]
def zk_108_3_h0 : zHd := (0, zk_108_3_te, [(0, 1, 0)], [], (.ofNat 67), [(.ofNat 0)], [])
def zk_108_3_h1 : zHd := (2, ([((.negSucc 2147483647), (.ofNat 2147483647), zD0), ((.ofNat 0), (.ofNat 30), zD0)], zHT, [(0, (2, (.ofNat 40))), (1, (1, (.ofNat 0))), (2, (1, (.ofNat 1)))], [], 0, 0), [(0, 1, 0), (0, 2, 0)], [], (.ofNat 61), [(.ofNat 0), (.ofNat 2)], [])
def zk_108_3_hs : List zHd := [zk_108_3_h0, zk_108_3_h1]
def zk_108_3_or : zO_ := zon
theorem zk_108_3_oo (l : Launch) (X : zx_X) (φ : List z_C) (P : List Int → Prop) : zOk l X 2000000 φ P zk_108_3_or := zOk_no l X 2000000 φ P
theorem zk_108_3_r0 : zx1 2000000 (zfinC zk_108_3_al zk_108_3_h0.2.2.2.1) (zcutH zk_108_3_hs zk_108_3_h0 108 5) zk_108_3_or 6000 108 5 zk_108_3_h0.1 (zhS zk_108_3_h0) [] = true := by decide +kernel
theorem zk_108_3_r1 : zx1 2000000 (zfinC zk_108_3_al zk_108_3_h1.2.2.2.1) (zcutH zk_108_3_hs zk_108_3_h1 108 5) zk_108_3_or 6000 108 5 zk_108_3_h1.1 (zhS zk_108_3_h1) [] = true := by decide +kernel
theorem zk_108_3_c : zCon 108 5 zk_108_3_te [] zk_108_3_al := zCon_of (n := 6000) (hs := zk_108_3_hs) (lo := [(0, 1, 0)]) (c := (.ofNat 67)) (ws := [(.ofNat 0)]) (by decide) (by decide +kernel) zk_108_3_oo (List.mem_cons_self) (zAll_mem ⟨zk_108_3_r0, zk_108_3_r1, trivial⟩)
def zk_108_3_o : zO_ := zorcC 108 5 zk_108_3_te [(0, 1, 0)] [] zk_108_3_al
theorem zk_108_3_ok (l : Launch) (X : zx_X) (XL : Nat) (φ : List z_C) (P : List Int → Prop) : zOk l X XL φ P zk_108_3_o := zOk_C zk_108_3_c (by decide +kernel) l X XL φ P
/-! fits -/
def zk_114_3_te : zA_T := ([((.ofNat 0), (.ofNat 5), zD0), ((.ofNat 0), (.ofNat 3), zD0)], zHT, [(0, (2, (.ofNat 40))), (1, (1, (.ofNat 0))), (2, (1, (.ofNat 1)))], [], 0, 0)
def zk_114_3_al : List zAlt := [([((.ofNat 0), (.ofNat 1), none)], [(3, 0, 0)], zHT, some (1, (.ofNat 0)))]
def zk_114_3_h0 : zHd := (0, zk_114_3_te, [(0, 1, 0), (0, 2, 0)], [], (.ofNat 67), [(.ofNat 0), (.ofNat 0)], [])
def zk_114_3_h1 : zHd := (5, ([((.ofNat 0), (.ofNat 5), zD0), ((.ofNat 0), (.ofNat 3), zD0), ((.ofNat 0), (.ofNat 1), zD0), ((.ofNat 0), (.ofNat 30), zD0)], zHT, [(0, (2, (.ofNat 40))), (1, (1, (.ofNat 0))), (2, (1, (.ofNat 1))), (3, (1, (.ofNat 2))), (4, (1, (.ofNat 3)))], [], 0, 0), [(0, 1, 0), (0, 2, 0), (0, 3, 0), (0, 4, 0)], [], (.ofNat 61), [(.ofNat 0), (.ofNat 0), (.ofNat 0), (.ofNat 2)], [])
def zk_114_3_hs : List zHd := [zk_114_3_h0, zk_114_3_h1]
def zk_114_3_or : zO_ := zon
theorem zk_114_3_oo (l : Launch) (X : zx_X) (φ : List z_C) (P : List Int → Prop) : zOk l X 2000000 φ P zk_114_3_or := zOk_no l X 2000000 φ P
theorem zk_114_3_r0 : zx1 2000000 (zfinC zk_114_3_al zk_114_3_h0.2.2.2.1) (zcutH zk_114_3_hs zk_114_3_h0 114 5) zk_114_3_or 6000 114 5 zk_114_3_h0.1 (zhS zk_114_3_h0) [] = true := by decide +kernel
theorem zk_114_3_r1 : zx1 2000000 (zfinC zk_114_3_al zk_114_3_h1.2.2.2.1) (zcutH zk_114_3_hs zk_114_3_h1 114 5) zk_114_3_or 6000 114 5 zk_114_3_h1.1 (zhS zk_114_3_h1) [] = true := by decide +kernel
theorem zk_114_3_c : zCon 114 5 zk_114_3_te [] zk_114_3_al := zCon_of (n := 6000) (hs := zk_114_3_hs) (lo := [(0, 1, 0), (0, 2, 0)]) (c := (.ofNat 67)) (ws := [(.ofNat 0), (.ofNat 0)]) (by decide) (by decide +kernel) zk_114_3_oo (List.mem_cons_self) (zAll_mem ⟨zk_114_3_r0, zk_114_3_r1, trivial⟩)
def zk_114_3_o : zO_ := zorcC 114 5 zk_114_3_te [(0, 1, 0), (0, 2, 0)] [] zk_114_3_al
theorem zk_114_3_ok (l : Launch) (X : zx_X) (XL : Nat) (φ : List z_C) (P : List Int → Prop) : zOk l X XL φ P zk_114_3_o := zOk_C zk_114_3_c (by decide +kernel) l X XL φ P
/-! viewsFor -/
def zk_113_3_te : zA_T := ([((.ofNat 0), (.ofNat 5), zD0)], zHT, [(0, (2, (.ofNat 40))), (1, (1, (.ofNat 0)))], [], 0, 0)
def zk_113_3_al : List zAlt := [([((.ofNat 0), (.ofNat 15), none)], [(3, 0, 0)], zHT, some (1, (.ofNat 0)))]
def zk_113_3_h0 : zHd := (0, zk_113_3_te, [(0, 1, 0)], [], (.ofNat 15), [(.ofNat 0)], [])
def zk_113_3_h1 : zHd := (4, ([((.ofNat 0), (.ofNat 5), zD0), ((.ofNat 0), (.ofNat 15), zD0), ((.ofNat 0), (.ofNat 4), zD0)], zHT, [(0, (2, (.ofNat 40))), (1, (1, (.ofNat 0))), (2, (1, (.ofNat 1))), (3, (1, (.ofNat 2)))], [], 0, 0), [(0, 1, 0), (0, 2, 0), (0, 3, 0)], [], (.ofNat 9), [(.ofNat 0), (.ofNat 0), (.ofNat 2)], [])
def zk_113_3_hs : List zHd := [zk_113_3_h0, zk_113_3_h1]
def zk_113_3_or : zO_ := zor zk_114_3_o (zon)
theorem zk_113_3_oo (l : Launch) (X : zx_X) (φ : List z_C) (P : List Int → Prop) : zOk l X 2000000 φ P zk_113_3_or := zOk_or (zk_114_3_ok l X 2000000 φ P) (zOk_no l X 2000000 φ P)
theorem zk_113_3_r0 : zx1 2000000 (zfinC zk_113_3_al zk_113_3_h0.2.2.2.1) (zcutH zk_113_3_hs zk_113_3_h0 113 7) zk_113_3_or 6000 113 7 zk_113_3_h0.1 (zhS zk_113_3_h0) [] = true := by decide +kernel
theorem zk_113_3_r1 : zx1 2000000 (zfinC zk_113_3_al zk_113_3_h1.2.2.2.1) (zcutH zk_113_3_hs zk_113_3_h1 113 7) zk_113_3_or 6000 113 7 zk_113_3_h1.1 (zhS zk_113_3_h1) [] = true := by decide +kernel
theorem zk_113_3_c : zCon 113 7 zk_113_3_te [] zk_113_3_al := zCon_of (n := 6000) (hs := zk_113_3_hs) (lo := [(0, 1, 0)]) (c := (.ofNat 15)) (ws := [(.ofNat 0)]) (by decide) (by decide +kernel) zk_113_3_oo (List.mem_cons_self) (zAll_mem ⟨zk_113_3_r0, zk_113_3_r1, trivial⟩)
def zk_113_3_o : zO_ := zorcC 113 7 zk_113_3_te [(0, 1, 0)] [] zk_113_3_al
theorem zk_113_3_ok (l : Launch) (X : zx_X) (XL : Nat) (φ : List z_C) (P : List Int → Prop) : zOk l X XL φ P zk_113_3_o := zOk_C zk_113_3_c (by decide +kernel) l X XL φ P
/-! codesFor -/
def zk_118_3_te : zA_T := ([], zHT, [(0, (2, (.ofNat 40)))], [], 0, 0)
def zk_118_3_al : List zAlt := [([((.negSucc 2147483647), (.ofNat 2147483647), none)], [(3, 0, 0)], zHT, some (1, (.ofNat 0)))]
def zk_118_3_h0 : zHd := (0, zk_118_3_te, [], [], (.ofNat 81), [], [])
def zk_118_3_h1 : zHd := (4, ([((.ofNat 0), (.ofNat 1), zD0), ((.ofNat 0), (.ofNat 30), zD0)], zHT, [(0, (2, (.ofNat 40))), (1, (1, (.ofNat 0))), (2, (1, (.ofNat 1)))], [], 0, 0), [(0, 1, 0), (0, 2, 0)], [], (.ofNat 75), [(.ofNat 0), (.ofNat 2)], [])
def zk_118_3_h2 : zHd := (35, ([((.negSucc 2147483647), (.ofNat 2147483647), zD0), ((.ofNat 0), (.ofNat 6), zD0)], zHT, [(0, (2, (.ofNat 40))), (1, (1, (.ofNat 0))), (2, (1, (.ofNat 1)))], [], 0, 0), [(0, 1, 0), (0, 2, 0)], [], (.ofNat 13), [(.ofNat 0), (.ofNat 2)], [])
def zk_118_3_hs : List zHd := [zk_118_3_h0, zk_118_3_h1, zk_118_3_h2]
def zk_118_3_or : zO_ := zor zk_113_3_o (zon)
theorem zk_118_3_oo (l : Launch) (X : zx_X) (φ : List z_C) (P : List Int → Prop) : zOk l X 2000000 φ P zk_118_3_or := zOk_or (zk_113_3_ok l X 2000000 φ P) (zOk_no l X 2000000 φ P)
theorem zk_118_3_r0 : zx1 2000000 (zfinC zk_118_3_al zk_118_3_h0.2.2.2.1) (zcutH zk_118_3_hs zk_118_3_h0 118 9) zk_118_3_or 6000 118 9 zk_118_3_h0.1 (zhS zk_118_3_h0) [] = true := by decide +kernel
theorem zk_118_3_r1 : zx1 2000000 (zfinC zk_118_3_al zk_118_3_h1.2.2.2.1) (zcutH zk_118_3_hs zk_118_3_h1 118 9) zk_118_3_or 6000 118 9 zk_118_3_h1.1 (zhS zk_118_3_h1) [] = true := by decide +kernel
theorem zk_118_3_r2 : zx1 2000000 (zfinC zk_118_3_al zk_118_3_h2.2.2.2.1) (zcutH zk_118_3_hs zk_118_3_h2 118 9) zk_118_3_or 6000 118 9 zk_118_3_h2.1 (zhS zk_118_3_h2) [] = true := by decide +kernel
theorem zk_118_3_c : zCon 118 9 zk_118_3_te [] zk_118_3_al := zCon_of (n := 6000) (hs := zk_118_3_hs) (lo := []) (c := (.ofNat 81)) (ws := []) (by decide) (by decide +kernel) zk_118_3_oo (List.mem_cons_self) (zAll_mem ⟨zk_118_3_r0, zk_118_3_r1, zk_118_3_r2, trivial⟩)
def zk_118_3_o : zO_ := zorcC 118 9 zk_118_3_te [] [] zk_118_3_al
theorem zk_118_3_ok (l : Launch) (X : zx_X) (XL : Nat) (φ : List z_C) (P : List Int → Prop) : zOk l X XL φ P zk_118_3_o := zOk_C zk_118_3_c (by decide +kernel) l X XL φ P
/-! writersOf -/
def zk_117_3_te : zA_T := ([], zHT, [(0, (2, (.ofNat 3))), (1, (2, (.ofNat 40)))], [], 0, 0)
def zk_117_3_al : List zAlt := [([((.ofNat 0), (.ofNat 511), none)], [(3, 0, 0)], zHT, some (1, (.ofNat 0)))]
def zk_117_3_h0 : zHd := (0, zk_117_3_te, [], [], (.ofNat 23), [], [])
def zk_117_3_h1 : zHd := (4, ([((.ofNat 0), (.ofNat 511), zD0), ((.ofNat 0), (.ofNat 8), zD0)], zHT, [(0, (2, (.ofNat 3))), (1, (2, (.ofNat 40))), (2, (1, (.ofNat 0))), (3, (1, (.ofNat 1)))], [], 0, 0), [(0, 2, 0), (0, 3, 0)], [], (.ofNat 17), [(.ofNat 0), (.ofNat 2)], [])
def zk_117_3_hs : List zHd := [zk_117_3_h0, zk_117_3_h1]
def zk_117_3_or : zO_ := zor zk_108_3_o (zon)
theorem zk_117_3_oo (l : Launch) (X : zx_X) (φ : List z_C) (P : List Int → Prop) : zOk l X 2000000 φ P zk_117_3_or := zOk_or (zk_108_3_ok l X 2000000 φ P) (zOk_no l X 2000000 φ P)
theorem zk_117_3_r0 : zx1 2000000 (zfinC zk_117_3_al zk_117_3_h0.2.2.2.1) (zcutH zk_117_3_hs zk_117_3_h0 117 7) zk_117_3_or 6000 117 7 zk_117_3_h0.1 (zhS zk_117_3_h0) [] = true := by decide +kernel
theorem zk_117_3_r1 : zx1 2000000 (zfinC zk_117_3_al zk_117_3_h1.2.2.2.1) (zcutH zk_117_3_hs zk_117_3_h1 117 7) zk_117_3_or 6000 117 7 zk_117_3_h1.1 (zhS zk_117_3_h1) [] = true := by decide +kernel
theorem zk_117_3_c : zCon 117 7 zk_117_3_te [] zk_117_3_al := zCon_of (n := 6000) (hs := zk_117_3_hs) (lo := []) (c := (.ofNat 23)) (ws := []) (by decide) (by decide +kernel) zk_117_3_oo (List.mem_cons_self) (zAll_mem ⟨zk_117_3_r0, zk_117_3_r1, trivial⟩)
def zk_117_3_o : zO_ := zorcC 117 7 zk_117_3_te [] [] zk_117_3_al
theorem zk_117_3_ok (l : Launch) (X : zx_X) (XL : Nat) (φ : List z_C) (P : List Int → Prop) : zOk l X XL φ P zk_117_3_o := zOk_C zk_117_3_c (by decide +kernel) l X XL φ P
/-! firstWrong -/
def zk_108_4_te : zA_T := ([((.negSucc 2147483647), (.ofNat 2147483647), zD0)], zHT, [(0, (2, (.ofNat 42))), (1, (1, (.ofNat 0)))], [], 0, 0)
def zk_108_4_al : List zAlt := [([((.negSucc 1), (.ofNat 29), none)], [(3, 0, 0)], zHT, some (1, (.ofNat 0)))]
def zk_108_4_h0 : zHd := (0, zk_108_4_te, [(0, 1, 0)], [], (.ofNat 67), [(.ofNat 0)], [])
def zk_108_4_h1 : zHd := (2, ([((.negSucc 2147483647), (.ofNat 2147483647), zD0), ((.ofNat 0), (.ofNat 30), zD0)], zHT, [(0, (2, (.ofNat 42))), (1, (1, (.ofNat 0))), (2, (1, (.ofNat 1)))], [], 0, 0), [(0, 1, 0), (0, 2, 0)], [], (.ofNat 61), [(.ofNat 0), (.ofNat 2)], [])
def zk_108_4_hs : List zHd := [zk_108_4_h0, zk_108_4_h1]
def zk_108_4_or : zO_ := zon
theorem zk_108_4_oo (l : Launch) (X : zx_X) (φ : List z_C) (P : List Int → Prop) : zOk l X 2000000 φ P zk_108_4_or := zOk_no l X 2000000 φ P
theorem zk_108_4_r0 : zx1 2000000 (zfinC zk_108_4_al zk_108_4_h0.2.2.2.1) (zcutH zk_108_4_hs zk_108_4_h0 108 5) zk_108_4_or 6000 108 5 zk_108_4_h0.1 (zhS zk_108_4_h0) [] = true := by decide +kernel
theorem zk_108_4_r1 : zx1 2000000 (zfinC zk_108_4_al zk_108_4_h1.2.2.2.1) (zcutH zk_108_4_hs zk_108_4_h1 108 5) zk_108_4_or 6000 108 5 zk_108_4_h1.1 (zhS zk_108_4_h1) [] = true := by decide +kernel
theorem zk_108_4_c : zCon 108 5 zk_108_4_te [] zk_108_4_al := zCon_of (n := 6000) (hs := zk_108_4_hs) (lo := [(0, 1, 0)]) (c := (.ofNat 67)) (ws := [(.ofNat 0)]) (by decide) (by decide +kernel) zk_108_4_oo (List.mem_cons_self) (zAll_mem ⟨zk_108_4_r0, zk_108_4_r1, trivial⟩)
def zk_108_4_o : zO_ := zorcC 108 5 zk_108_4_te [(0, 1, 0)] [] zk_108_4_al
theorem zk_108_4_ok (l : Launch) (X : zx_X) (XL : Nat) (φ : List z_C) (P : List Int → Prop) : zOk l X XL φ P zk_108_4_o := zOk_C zk_108_4_c (by decide +kernel) l X XL φ P
/-! fits -/
def zk_114_4_te : zA_T := ([((.ofNat 0), (.ofNat 5), zD0), ((.ofNat 0), (.ofNat 3), zD0)], zHT, [(0, (2, (.ofNat 42))), (1, (1, (.ofNat 0))), (2, (1, (.ofNat 1)))], [], 0, 0)
def zk_114_4_al : List zAlt := [([((.ofNat 0), (.ofNat 1), none)], [(3, 0, 0)], zHT, some (1, (.ofNat 0)))]
def zk_114_4_h0 : zHd := (0, zk_114_4_te, [(0, 1, 0), (0, 2, 0)], [], (.ofNat 67), [(.ofNat 0), (.ofNat 0)], [])
def zk_114_4_h1 : zHd := (5, ([((.ofNat 0), (.ofNat 5), zD0), ((.ofNat 0), (.ofNat 3), zD0), ((.ofNat 0), (.ofNat 1), zD0), ((.ofNat 0), (.ofNat 30), zD0)], zHT, [(0, (2, (.ofNat 42))), (1, (1, (.ofNat 0))), (2, (1, (.ofNat 1))), (3, (1, (.ofNat 2))), (4, (1, (.ofNat 3)))], [], 0, 0), [(0, 1, 0), (0, 2, 0), (0, 3, 0), (0, 4, 0)], [], (.ofNat 61), [(.ofNat 0), (.ofNat 0), (.ofNat 0), (.ofNat 2)], [])
def zk_114_4_hs : List zHd := [zk_114_4_h0, zk_114_4_h1]
def zk_114_4_or : zO_ := zon
theorem zk_114_4_oo (l : Launch) (X : zx_X) (φ : List z_C) (P : List Int → Prop) : zOk l X 2000000 φ P zk_114_4_or := zOk_no l X 2000000 φ P
theorem zk_114_4_r0 : zx1 2000000 (zfinC zk_114_4_al zk_114_4_h0.2.2.2.1) (zcutH zk_114_4_hs zk_114_4_h0 114 5) zk_114_4_or 6000 114 5 zk_114_4_h0.1 (zhS zk_114_4_h0) [] = true := by decide +kernel
theorem zk_114_4_r1 : zx1 2000000 (zfinC zk_114_4_al zk_114_4_h1.2.2.2.1) (zcutH zk_114_4_hs zk_114_4_h1 114 5) zk_114_4_or 6000 114 5 zk_114_4_h1.1 (zhS zk_114_4_h1) [] = true := by decide +kernel
theorem zk_114_4_c : zCon 114 5 zk_114_4_te [] zk_114_4_al := zCon_of (n := 6000) (hs := zk_114_4_hs) (lo := [(0, 1, 0), (0, 2, 0)]) (c := (.ofNat 67)) (ws := [(.ofNat 0), (.ofNat 0)]) (by decide) (by decide +kernel) zk_114_4_oo (List.mem_cons_self) (zAll_mem ⟨zk_114_4_r0, zk_114_4_r1, trivial⟩)
def zk_114_4_o : zO_ := zorcC 114 5 zk_114_4_te [(0, 1, 0), (0, 2, 0)] [] zk_114_4_al
theorem zk_114_4_ok (l : Launch) (X : zx_X) (XL : Nat) (φ : List z_C) (P : List Int → Prop) : zOk l X XL φ P zk_114_4_o := zOk_C zk_114_4_c (by decide +kernel) l X XL φ P
/-! viewsFor -/
def zk_113_4_te : zA_T := ([((.ofNat 0), (.ofNat 5), zD0)], zHT, [(0, (2, (.ofNat 42))), (1, (1, (.ofNat 0)))], [], 0, 0)
def zk_113_4_al : List zAlt := [([((.ofNat 0), (.ofNat 15), none)], [(3, 0, 0)], zHT, some (1, (.ofNat 0)))]
def zk_113_4_h0 : zHd := (0, zk_113_4_te, [(0, 1, 0)], [], (.ofNat 15), [(.ofNat 0)], [])
def zk_113_4_h1 : zHd := (4, ([((.ofNat 0), (.ofNat 5), zD0), ((.ofNat 0), (.ofNat 15), zD0), ((.ofNat 0), (.ofNat 4), zD0)], zHT, [(0, (2, (.ofNat 42))), (1, (1, (.ofNat 0))), (2, (1, (.ofNat 1))), (3, (1, (.ofNat 2)))], [], 0, 0), [(0, 1, 0), (0, 2, 0), (0, 3, 0)], [], (.ofNat 9), [(.ofNat 0), (.ofNat 0), (.ofNat 2)], [])
def zk_113_4_hs : List zHd := [zk_113_4_h0, zk_113_4_h1]
def zk_113_4_or : zO_ := zor zk_114_4_o (zon)
theorem zk_113_4_oo (l : Launch) (X : zx_X) (φ : List z_C) (P : List Int → Prop) : zOk l X 2000000 φ P zk_113_4_or := zOk_or (zk_114_4_ok l X 2000000 φ P) (zOk_no l X 2000000 φ P)
theorem zk_113_4_r0 : zx1 2000000 (zfinC zk_113_4_al zk_113_4_h0.2.2.2.1) (zcutH zk_113_4_hs zk_113_4_h0 113 7) zk_113_4_or 6000 113 7 zk_113_4_h0.1 (zhS zk_113_4_h0) [] = true := by decide +kernel
theorem zk_113_4_r1 : zx1 2000000 (zfinC zk_113_4_al zk_113_4_h1.2.2.2.1) (zcutH zk_113_4_hs zk_113_4_h1 113 7) zk_113_4_or 6000 113 7 zk_113_4_h1.1 (zhS zk_113_4_h1) [] = true := by decide +kernel
theorem zk_113_4_c : zCon 113 7 zk_113_4_te [] zk_113_4_al := zCon_of (n := 6000) (hs := zk_113_4_hs) (lo := [(0, 1, 0)]) (c := (.ofNat 15)) (ws := [(.ofNat 0)]) (by decide) (by decide +kernel) zk_113_4_oo (List.mem_cons_self) (zAll_mem ⟨zk_113_4_r0, zk_113_4_r1, trivial⟩)
def zk_113_4_o : zO_ := zorcC 113 7 zk_113_4_te [(0, 1, 0)] [] zk_113_4_al
theorem zk_113_4_ok (l : Launch) (X : zx_X) (XL : Nat) (φ : List z_C) (P : List Int → Prop) : zOk l X XL φ P zk_113_4_o := zOk_C zk_113_4_c (by decide +kernel) l X XL φ P
/-! codesFor -/
def zk_118_4_te : zA_T := ([], zHT, [(0, (2, (.ofNat 42)))], [], 0, 0)
def zk_118_4_al : List zAlt := [([((.negSucc 2147483647), (.ofNat 2147483647), none)], [(3, 0, 0)], zHT, some (1, (.ofNat 0)))]
def zk_118_4_h0 : zHd := (0, zk_118_4_te, [], [], (.ofNat 81), [], [])
def zk_118_4_h1 : zHd := (4, ([((.ofNat 0), (.ofNat 1), zD0), ((.ofNat 0), (.ofNat 30), zD0)], zHT, [(0, (2, (.ofNat 42))), (1, (1, (.ofNat 0))), (2, (1, (.ofNat 1)))], [], 0, 0), [(0, 1, 0), (0, 2, 0)], [], (.ofNat 75), [(.ofNat 0), (.ofNat 2)], [])
def zk_118_4_h2 : zHd := (35, ([((.negSucc 2147483647), (.ofNat 2147483647), zD0), ((.ofNat 0), (.ofNat 6), zD0)], zHT, [(0, (2, (.ofNat 42))), (1, (1, (.ofNat 0))), (2, (1, (.ofNat 1)))], [], 0, 0), [(0, 1, 0), (0, 2, 0)], [], (.ofNat 13), [(.ofNat 0), (.ofNat 2)], [])
def zk_118_4_hs : List zHd := [zk_118_4_h0, zk_118_4_h1, zk_118_4_h2]
def zk_118_4_or : zO_ := zor zk_113_4_o (zon)
theorem zk_118_4_oo (l : Launch) (X : zx_X) (φ : List z_C) (P : List Int → Prop) : zOk l X 2000000 φ P zk_118_4_or := zOk_or (zk_113_4_ok l X 2000000 φ P) (zOk_no l X 2000000 φ P)
theorem zk_118_4_r0 : zx1 2000000 (zfinC zk_118_4_al zk_118_4_h0.2.2.2.1) (zcutH zk_118_4_hs zk_118_4_h0 118 9) zk_118_4_or 6000 118 9 zk_118_4_h0.1 (zhS zk_118_4_h0) [] = true := by decide +kernel
theorem zk_118_4_r1 : zx1 2000000 (zfinC zk_118_4_al zk_118_4_h1.2.2.2.1) (zcutH zk_118_4_hs zk_118_4_h1 118 9) zk_118_4_or 6000 118 9 zk_118_4_h1.1 (zhS zk_118_4_h1) [] = true := by decide +kernel
theorem zk_118_4_r2 : zx1 2000000 (zfinC zk_118_4_al zk_118_4_h2.2.2.2.1) (zcutH zk_118_4_hs zk_118_4_h2 118 9) zk_118_4_or 6000 118 9 zk_118_4_h2.1 (zhS zk_118_4_h2) [] = true := by decide +kernel
theorem zk_118_4_c : zCon 118 9 zk_118_4_te [] zk_118_4_al := zCon_of (n := 6000) (hs := zk_118_4_hs) (lo := []) (c := (.ofNat 81)) (ws := []) (by decide) (by decide +kernel) zk_118_4_oo (List.mem_cons_self) (zAll_mem ⟨zk_118_4_r0, zk_118_4_r1, zk_118_4_r2, trivial⟩)
def zk_118_4_o : zO_ := zorcC 118 9 zk_118_4_te [] [] zk_118_4_al
theorem zk_118_4_ok (l : Launch) (X : zx_X) (XL : Nat) (φ : List z_C) (P : List Int → Prop) : zOk l X XL φ P zk_118_4_o := zOk_C zk_118_4_c (by decide +kernel) l X XL φ P
/-! writersOf -/
def zk_117_4_te : zA_T := ([], zHT, [(0, (2, (.ofNat 3))), (1, (2, (.ofNat 42)))], [], 0, 0)
def zk_117_4_al : List zAlt := [([((.ofNat 0), (.ofNat 511), none)], [(3, 0, 0)], zHT, some (1, (.ofNat 0)))]
def zk_117_4_h0 : zHd := (0, zk_117_4_te, [], [], (.ofNat 23), [], [])
def zk_117_4_h1 : zHd := (4, ([((.ofNat 0), (.ofNat 511), zD0), ((.ofNat 0), (.ofNat 8), zD0)], zHT, [(0, (2, (.ofNat 3))), (1, (2, (.ofNat 42))), (2, (1, (.ofNat 0))), (3, (1, (.ofNat 1)))], [], 0, 0), [(0, 2, 0), (0, 3, 0)], [], (.ofNat 17), [(.ofNat 0), (.ofNat 2)], [])
def zk_117_4_hs : List zHd := [zk_117_4_h0, zk_117_4_h1]
def zk_117_4_or : zO_ := zor zk_108_4_o (zon)
theorem zk_117_4_oo (l : Launch) (X : zx_X) (φ : List z_C) (P : List Int → Prop) : zOk l X 2000000 φ P zk_117_4_or := zOk_or (zk_108_4_ok l X 2000000 φ P) (zOk_no l X 2000000 φ P)
theorem zk_117_4_r0 : zx1 2000000 (zfinC zk_117_4_al zk_117_4_h0.2.2.2.1) (zcutH zk_117_4_hs zk_117_4_h0 117 7) zk_117_4_or 6000 117 7 zk_117_4_h0.1 (zhS zk_117_4_h0) [] = true := by decide +kernel
theorem zk_117_4_r1 : zx1 2000000 (zfinC zk_117_4_al zk_117_4_h1.2.2.2.1) (zcutH zk_117_4_hs zk_117_4_h1 117 7) zk_117_4_or 6000 117 7 zk_117_4_h1.1 (zhS zk_117_4_h1) [] = true := by decide +kernel
theorem zk_117_4_c : zCon 117 7 zk_117_4_te [] zk_117_4_al := zCon_of (n := 6000) (hs := zk_117_4_hs) (lo := []) (c := (.ofNat 23)) (ws := []) (by decide) (by decide +kernel) zk_117_4_oo (List.mem_cons_self) (zAll_mem ⟨zk_117_4_r0, zk_117_4_r1, trivial⟩)
def zk_117_4_o : zO_ := zorcC 117 7 zk_117_4_te [] [] zk_117_4_al
theorem zk_117_4_ok (l : Launch) (X : zx_X) (XL : Nat) (φ : List z_C) (P : List Int → Prop) : zOk l X XL φ P zk_117_4_o := zOk_C zk_117_4_c (by decide +kernel) l X XL φ P
/-! firstWrong -/
def zk_108_5_te : zA_T := ([((.negSucc 2147483647), (.ofNat 2147483647), zD0)], zHT, [(0, (2, (.ofNat 44))), (1, (1, (.ofNat 0)))], [], 0, 0)
def zk_108_5_al : List zAlt := [([((.negSucc 1), (.ofNat 29), none)], [(3, 0, 0)], zHT, some (1, (.ofNat 0)))]
def zk_108_5_h0 : zHd := (0, zk_108_5_te, [(0, 1, 0)], [], (.ofNat 67), [(.ofNat 0)], [])
def zk_108_5_h1 : zHd := (2, ([((.negSucc 2147483647), (.ofNat 2147483647), zD0), ((.ofNat 0), (.ofNat 30), zD0)], zHT, [(0, (2, (.ofNat 44))), (1, (1, (.ofNat 0))), (2, (1, (.ofNat 1)))], [], 0, 0), [(0, 1, 0), (0, 2, 0)], [], (.ofNat 61), [(.ofNat 0), (.ofNat 2)], [])
def zk_108_5_hs : List zHd := [zk_108_5_h0, zk_108_5_h1]
def zk_108_5_or : zO_ := zon
theorem zk_108_5_oo (l : Launch) (X : zx_X) (φ : List z_C) (P : List Int → Prop) : zOk l X 2000000 φ P zk_108_5_or := zOk_no l X 2000000 φ P
theorem zk_108_5_r0 : zx1 2000000 (zfinC zk_108_5_al zk_108_5_h0.2.2.2.1) (zcutH zk_108_5_hs zk_108_5_h0 108 5) zk_108_5_or 6000 108 5 zk_108_5_h0.1 (zhS zk_108_5_h0) [] = true := by decide +kernel
theorem zk_108_5_r1 : zx1 2000000 (zfinC zk_108_5_al zk_108_5_h1.2.2.2.1) (zcutH zk_108_5_hs zk_108_5_h1 108 5) zk_108_5_or 6000 108 5 zk_108_5_h1.1 (zhS zk_108_5_h1) [] = true := by decide +kernel
theorem zk_108_5_c : zCon 108 5 zk_108_5_te [] zk_108_5_al := zCon_of (n := 6000) (hs := zk_108_5_hs) (lo := [(0, 1, 0)]) (c := (.ofNat 67)) (ws := [(.ofNat 0)]) (by decide) (by decide +kernel) zk_108_5_oo (List.mem_cons_self) (zAll_mem ⟨zk_108_5_r0, zk_108_5_r1, trivial⟩)
def zk_108_5_o : zO_ := zorcC 108 5 zk_108_5_te [(0, 1, 0)] [] zk_108_5_al
theorem zk_108_5_ok (l : Launch) (X : zx_X) (XL : Nat) (φ : List z_C) (P : List Int → Prop) : zOk l X XL φ P zk_108_5_o := zOk_C zk_108_5_c (by decide +kernel) l X XL φ P
/-! fits -/
def zk_114_5_te : zA_T := ([((.ofNat 0), (.ofNat 5), zD0), ((.ofNat 0), (.ofNat 3), zD0)], zHT, [(0, (2, (.ofNat 44))), (1, (1, (.ofNat 0))), (2, (1, (.ofNat 1)))], [], 0, 0)
def zk_114_5_al : List zAlt := [([((.ofNat 0), (.ofNat 1), none)], [(3, 0, 0)], zHT, some (1, (.ofNat 0)))]
def zk_114_5_h0 : zHd := (0, zk_114_5_te, [(0, 1, 0), (0, 2, 0)], [], (.ofNat 67), [(.ofNat 0), (.ofNat 0)], [])
def zk_114_5_h1 : zHd := (5, ([((.ofNat 0), (.ofNat 5), zD0), ((.ofNat 0), (.ofNat 3), zD0), ((.ofNat 0), (.ofNat 1), zD0), ((.ofNat 0), (.ofNat 30), zD0)], zHT, [(0, (2, (.ofNat 44))), (1, (1, (.ofNat 0))), (2, (1, (.ofNat 1))), (3, (1, (.ofNat 2))), (4, (1, (.ofNat 3)))], [], 0, 0), [(0, 1, 0), (0, 2, 0), (0, 3, 0), (0, 4, 0)], [], (.ofNat 61), [(.ofNat 0), (.ofNat 0), (.ofNat 0), (.ofNat 2)], [])
def zk_114_5_hs : List zHd := [zk_114_5_h0, zk_114_5_h1]
def zk_114_5_or : zO_ := zon
theorem zk_114_5_oo (l : Launch) (X : zx_X) (φ : List z_C) (P : List Int → Prop) : zOk l X 2000000 φ P zk_114_5_or := zOk_no l X 2000000 φ P
theorem zk_114_5_r0 : zx1 2000000 (zfinC zk_114_5_al zk_114_5_h0.2.2.2.1) (zcutH zk_114_5_hs zk_114_5_h0 114 5) zk_114_5_or 6000 114 5 zk_114_5_h0.1 (zhS zk_114_5_h0) [] = true := by decide +kernel
theorem zk_114_5_r1 : zx1 2000000 (zfinC zk_114_5_al zk_114_5_h1.2.2.2.1) (zcutH zk_114_5_hs zk_114_5_h1 114 5) zk_114_5_or 6000 114 5 zk_114_5_h1.1 (zhS zk_114_5_h1) [] = true := by decide +kernel
theorem zk_114_5_c : zCon 114 5 zk_114_5_te [] zk_114_5_al := zCon_of (n := 6000) (hs := zk_114_5_hs) (lo := [(0, 1, 0), (0, 2, 0)]) (c := (.ofNat 67)) (ws := [(.ofNat 0), (.ofNat 0)]) (by decide) (by decide +kernel) zk_114_5_oo (List.mem_cons_self) (zAll_mem ⟨zk_114_5_r0, zk_114_5_r1, trivial⟩)
def zk_114_5_o : zO_ := zorcC 114 5 zk_114_5_te [(0, 1, 0), (0, 2, 0)] [] zk_114_5_al
theorem zk_114_5_ok (l : Launch) (X : zx_X) (XL : Nat) (φ : List z_C) (P : List Int → Prop) : zOk l X XL φ P zk_114_5_o := zOk_C zk_114_5_c (by decide +kernel) l X XL φ P
/-! viewsFor -/
def zk_113_5_te : zA_T := ([((.ofNat 0), (.ofNat 5), zD0)], zHT, [(0, (2, (.ofNat 44))), (1, (1, (.ofNat 0)))], [], 0, 0)
def zk_113_5_al : List zAlt := [([((.ofNat 0), (.ofNat 15), none)], [(3, 0, 0)], zHT, some (1, (.ofNat 0)))]
def zk_113_5_h0 : zHd := (0, zk_113_5_te, [(0, 1, 0)], [], (.ofNat 15), [(.ofNat 0)], [])
def zk_113_5_h1 : zHd := (4, ([((.ofNat 0), (.ofNat 5), zD0), ((.ofNat 0), (.ofNat 15), zD0), ((.ofNat 0), (.ofNat 4), zD0)], zHT, [(0, (2, (.ofNat 44))), (1, (1, (.ofNat 0))), (2, (1, (.ofNat 1))), (3, (1, (.ofNat 2)))], [], 0, 0), [(0, 1, 0), (0, 2, 0), (0, 3, 0)], [], (.ofNat 9), [(.ofNat 0), (.ofNat 0), (.ofNat 2)], [])
def zk_113_5_hs : List zHd := [zk_113_5_h0, zk_113_5_h1]
def zk_113_5_or : zO_ := zor zk_114_5_o (zon)
theorem zk_113_5_oo (l : Launch) (X : zx_X) (φ : List z_C) (P : List Int → Prop) : zOk l X 2000000 φ P zk_113_5_or := zOk_or (zk_114_5_ok l X 2000000 φ P) (zOk_no l X 2000000 φ P)
theorem zk_113_5_r0 : zx1 2000000 (zfinC zk_113_5_al zk_113_5_h0.2.2.2.1) (zcutH zk_113_5_hs zk_113_5_h0 113 7) zk_113_5_or 6000 113 7 zk_113_5_h0.1 (zhS zk_113_5_h0) [] = true := by decide +kernel
theorem zk_113_5_r1 : zx1 2000000 (zfinC zk_113_5_al zk_113_5_h1.2.2.2.1) (zcutH zk_113_5_hs zk_113_5_h1 113 7) zk_113_5_or 6000 113 7 zk_113_5_h1.1 (zhS zk_113_5_h1) [] = true := by decide +kernel
theorem zk_113_5_c : zCon 113 7 zk_113_5_te [] zk_113_5_al := zCon_of (n := 6000) (hs := zk_113_5_hs) (lo := [(0, 1, 0)]) (c := (.ofNat 15)) (ws := [(.ofNat 0)]) (by decide) (by decide +kernel) zk_113_5_oo (List.mem_cons_self) (zAll_mem ⟨zk_113_5_r0, zk_113_5_r1, trivial⟩)
def zk_113_5_o : zO_ := zorcC 113 7 zk_113_5_te [(0, 1, 0)] [] zk_113_5_al
theorem zk_113_5_ok (l : Launch) (X : zx_X) (XL : Nat) (φ : List z_C) (P : List Int → Prop) : zOk l X XL φ P zk_113_5_o := zOk_C zk_113_5_c (by decide +kernel) l X XL φ P
/-! codesFor -/
def zk_118_5_te : zA_T := ([], zHT, [(0, (2, (.ofNat 44)))], [], 0, 0)
def zk_118_5_al : List zAlt := [([((.negSucc 2147483647), (.ofNat 2147483647), none)], [(3, 0, 0)], zHT, some (1, (.ofNat 0)))]
def zk_118_5_h0 : zHd := (0, zk_118_5_te, [], [], (.ofNat 81), [], [])
def zk_118_5_h1 : zHd := (4, ([((.ofNat 0), (.ofNat 1), zD0), ((.ofNat 0), (.ofNat 30), zD0)], zHT, [(0, (2, (.ofNat 44))), (1, (1, (.ofNat 0))), (2, (1, (.ofNat 1)))], [], 0, 0), [(0, 1, 0), (0, 2, 0)], [], (.ofNat 75), [(.ofNat 0), (.ofNat 2)], [])
def zk_118_5_h2 : zHd := (35, ([((.negSucc 2147483647), (.ofNat 2147483647), zD0), ((.ofNat 0), (.ofNat 6), zD0)], zHT, [(0, (2, (.ofNat 44))), (1, (1, (.ofNat 0))), (2, (1, (.ofNat 1)))], [], 0, 0), [(0, 1, 0), (0, 2, 0)], [], (.ofNat 13), [(.ofNat 0), (.ofNat 2)], [])
def zk_118_5_hs : List zHd := [zk_118_5_h0, zk_118_5_h1, zk_118_5_h2]
def zk_118_5_or : zO_ := zor zk_113_5_o (zon)
theorem zk_118_5_oo (l : Launch) (X : zx_X) (φ : List z_C) (P : List Int → Prop) : zOk l X 2000000 φ P zk_118_5_or := zOk_or (zk_113_5_ok l X 2000000 φ P) (zOk_no l X 2000000 φ P)
theorem zk_118_5_r0 : zx1 2000000 (zfinC zk_118_5_al zk_118_5_h0.2.2.2.1) (zcutH zk_118_5_hs zk_118_5_h0 118 9) zk_118_5_or 6000 118 9 zk_118_5_h0.1 (zhS zk_118_5_h0) [] = true := by decide +kernel
theorem zk_118_5_r1 : zx1 2000000 (zfinC zk_118_5_al zk_118_5_h1.2.2.2.1) (zcutH zk_118_5_hs zk_118_5_h1 118 9) zk_118_5_or 6000 118 9 zk_118_5_h1.1 (zhS zk_118_5_h1) [] = true := by decide +kernel
theorem zk_118_5_r2 : zx1 2000000 (zfinC zk_118_5_al zk_118_5_h2.2.2.2.1) (zcutH zk_118_5_hs zk_118_5_h2 118 9) zk_118_5_or 6000 118 9 zk_118_5_h2.1 (zhS zk_118_5_h2) [] = true := by decide +kernel
theorem zk_118_5_c : zCon 118 9 zk_118_5_te [] zk_118_5_al := zCon_of (n := 6000) (hs := zk_118_5_hs) (lo := []) (c := (.ofNat 81)) (ws := []) (by decide) (by decide +kernel) zk_118_5_oo (List.mem_cons_self) (zAll_mem ⟨zk_118_5_r0, zk_118_5_r1, zk_118_5_r2, trivial⟩)
def zk_118_5_o : zO_ := zorcC 118 9 zk_118_5_te [] [] zk_118_5_al
theorem zk_118_5_ok (l : Launch) (X : zx_X) (XL : Nat) (φ : List z_C) (P : List Int → Prop) : zOk l X XL φ P zk_118_5_o := zOk_C zk_118_5_c (by decide +kernel) l X XL φ P
/-! writersOf -/
def zk_117_5_te : zA_T := ([], zHT, [(0, (2, (.ofNat 3))), (1, (2, (.ofNat 44)))], [], 0, 0)
def zk_117_5_al : List zAlt := [([((.ofNat 0), (.ofNat 511), none)], [(3, 0, 0)], zHT, some (1, (.ofNat 0)))]
def zk_117_5_h0 : zHd := (0, zk_117_5_te, [], [], (.ofNat 23), [], [])
def zk_117_5_h1 : zHd := (4, ([((.ofNat 0), (.ofNat 511), zD0), ((.ofNat 0), (.ofNat 8), zD0)], zHT, [(0, (2, (.ofNat 3))), (1, (2, (.ofNat 44))), (2, (1, (.ofNat 0))), (3, (1, (.ofNat 1)))], [], 0, 0), [(0, 2, 0), (0, 3, 0)], [], (.ofNat 17), [(.ofNat 0), (.ofNat 2)], [])
def zk_117_5_hs : List zHd := [zk_117_5_h0, zk_117_5_h1]
def zk_117_5_or : zO_ := zor zk_108_5_o (zon)
theorem zk_117_5_oo (l : Launch) (X : zx_X) (φ : List z_C) (P : List Int → Prop) : zOk l X 2000000 φ P zk_117_5_or := zOk_or (zk_108_5_ok l X 2000000 φ P) (zOk_no l X 2000000 φ P)
theorem zk_117_5_r0 : zx1 2000000 (zfinC zk_117_5_al zk_117_5_h0.2.2.2.1) (zcutH zk_117_5_hs zk_117_5_h0 117 7) zk_117_5_or 6000 117 7 zk_117_5_h0.1 (zhS zk_117_5_h0) [] = true := by decide +kernel
theorem zk_117_5_r1 : zx1 2000000 (zfinC zk_117_5_al zk_117_5_h1.2.2.2.1) (zcutH zk_117_5_hs zk_117_5_h1 117 7) zk_117_5_or 6000 117 7 zk_117_5_h1.1 (zhS zk_117_5_h1) [] = true := by decide +kernel
theorem zk_117_5_c : zCon 117 7 zk_117_5_te [] zk_117_5_al := zCon_of (n := 6000) (hs := zk_117_5_hs) (lo := []) (c := (.ofNat 23)) (ws := []) (by decide) (by decide +kernel) zk_117_5_oo (List.mem_cons_self) (zAll_mem ⟨zk_117_5_r0, zk_117_5_r1, trivial⟩)
def zk_117_5_o : zO_ := zorcC 117 7 zk_117_5_te [] [] zk_117_5_al
theorem zk_117_5_ok (l : Launch) (X : zx_X) (XL : Nat) (φ : List z_C) (P : List Int → Prop) : zOk l X XL φ P zk_117_5_o := zOk_C zk_117_5_c (by decide +kernel) l X XL φ P
/-! believes -/
def zk_112_te : zA_T := ([((.negSucc 2147483647), (.ofNat 2147483647), zD0), ((.negSucc 2147483647), (.ofNat 2147483647), zD0), ((.negSucc 2147483647), (.ofNat 2147483647), zD0)], zHT, [(0, (2, (.ofNat 3))), (1, (1, (.ofNat 0))), (2, (1, (.ofNat 1))), (3, (1, (.ofNat 2)))], [], 0, 0)
def zk_112_al : List zAlt := [([((.negSucc 11), (.ofNat 63), none)], [(3, 0, 0)], zHT, some (1, (.ofNat 0)))]
def zk_112_h0 : zHd := (0, zk_112_te, [(0, 1, 0), (0, 2, 0), (0, 3, 0)], [], (.ofNat 5), [(.ofNat 0), (.ofNat 0), (.ofNat 0)], [])
def zk_112_hs : List zHd := [zk_112_h0]
def zk_112_or : zO_ := zor zk_113_0_o (zor zk_113_1_o (zor zk_113_2_o (zor zk_113_3_o (zor zk_113_4_o (zor zk_113_5_o (zon))))))
theorem zk_112_oo (l : Launch) (X : zx_X) (φ : List z_C) (P : List Int → Prop) : zOk l X 2000000 φ P zk_112_or := zOk_or (zk_113_0_ok l X 2000000 φ P) (zOk_or (zk_113_1_ok l X 2000000 φ P) (zOk_or (zk_113_2_ok l X 2000000 φ P) (zOk_or (zk_113_3_ok l X 2000000 φ P) (zOk_or (zk_113_4_ok l X 2000000 φ P) (zOk_or (zk_113_5_ok l X 2000000 φ P) (zOk_no l X 2000000 φ P))))))
theorem zk_112_r0 : zx1 2000000 (zfinC zk_112_al zk_112_h0.2.2.2.1) (zcutH zk_112_hs zk_112_h0 112 9) zk_112_or 6000 112 9 zk_112_h0.1 (zhS zk_112_h0) [] = true := by decide +kernel
theorem zk_112_c : zCon 112 9 zk_112_te [] zk_112_al := zCon_of (n := 6000) (hs := zk_112_hs) (lo := [(0, 1, 0), (0, 2, 0), (0, 3, 0)]) (c := (.ofNat 5)) (ws := [(.ofNat 0), (.ofNat 0), (.ofNat 0)]) (by decide) (by decide +kernel) zk_112_oo (List.mem_cons_self) (zAll_mem ⟨zk_112_r0, trivial⟩)
def zk_112_o : zO_ := zorcC 112 9 zk_112_te [(0, 1, 0), (0, 2, 0), (0, 3, 0)] [] zk_112_al
theorem zk_112_ok (l : Launch) (X : zx_X) (XL : Nat) (φ : List z_C) (P : List Int → Prop) : zOk l X XL φ P zk_112_o := zOk_C zk_112_c (by decide +kernel) l X XL φ P
/-! whose -/
def zk_116_te : zA_T := ([((.negSucc 2147483647), (.ofNat 2147483647), zD0), ((.negSucc 2147483647), (.ofNat 2147483647), zD0)], zHT, [(0, (2, (.ofNat 3))), (1, (1, (.ofNat 0))), (2, (1, (.ofNat 1)))], [], 0, 0)
def zk_116_al : List zAlt := [([((.negSucc 2147483647), (.ofNat 2147483647), none)], [(3, 0, 0)], zHT, some (1, (.ofNat 0)))]
def zk_116_h0 : zHd := (0, zk_116_te, [(0, 1, 0), (0, 2, 0)], [], (.ofNat 5), [(.ofNat 0), (.ofNat 0)], [])
def zk_116_hs : List zHd := [zk_116_h0]
def zk_116_or : zO_ := zor zk_118_0_o (zor zk_118_1_o (zor zk_118_2_o (zor zk_118_3_o (zor zk_118_4_o (zor zk_118_5_o (zor zk_117_0_o (zor zk_117_1_o (zor zk_117_2_o (zor zk_117_3_o (zor zk_117_4_o (zor zk_117_5_o (zon))))))))))))
theorem zk_116_oo (l : Launch) (X : zx_X) (φ : List z_C) (P : List Int → Prop) : zOk l X 2000000 φ P zk_116_or := zOk_or (zk_118_0_ok l X 2000000 φ P) (zOk_or (zk_118_1_ok l X 2000000 φ P) (zOk_or (zk_118_2_ok l X 2000000 φ P) (zOk_or (zk_118_3_ok l X 2000000 φ P) (zOk_or (zk_118_4_ok l X 2000000 φ P) (zOk_or (zk_118_5_ok l X 2000000 φ P) (zOk_or (zk_117_0_ok l X 2000000 φ P) (zOk_or (zk_117_1_ok l X 2000000 φ P) (zOk_or (zk_117_2_ok l X 2000000 φ P) (zOk_or (zk_117_3_ok l X 2000000 φ P) (zOk_or (zk_117_4_ok l X 2000000 φ P) (zOk_or (zk_117_5_ok l X 2000000 φ P) (zOk_no l X 2000000 φ P))))))))))))
theorem zk_116_r0 : zx1 2000000 (zfinC zk_116_al zk_116_h0.2.2.2.1) (zcutH zk_116_hs zk_116_h0 116 11) zk_116_or 6000 116 11 zk_116_h0.1 (zhS zk_116_h0) [] = true := by decide +kernel
theorem zk_116_c : zCon 116 11 zk_116_te [] zk_116_al := zCon_of (n := 6000) (hs := zk_116_hs) (lo := [(0, 1, 0), (0, 2, 0)]) (c := (.ofNat 5)) (ws := [(.ofNat 0), (.ofNat 0)]) (by decide) (by decide +kernel) zk_116_oo (List.mem_cons_self) (zAll_mem ⟨zk_116_r0, trivial⟩)
def zk_116_o : zO_ := zorcC 116 11 zk_116_te [(0, 1, 0), (0, 2, 0)] [] zk_116_al
theorem zk_116_ok (l : Launch) (X : zx_X) (XL : Nat) (φ : List z_C) (P : List Int → Prop) : zOk l X XL φ P zk_116_o := zOk_C zk_116_c (by decide +kernel) l X XL φ P
/-! agree -/
def zk_119_te : zA_T := ([((.negSucc 2147483647), (.ofNat 2147483647), zD0), ((.negSucc 2147483647), (.ofNat 2147483647), zD0)], zHT, [(0, (2, (.ofNat 3))), (1, (1, (.ofNat 0))), (2, (1, (.ofNat 1)))], [], 0, 0)
def zk_119_al : List zAlt := [([((.negSucc 2147483647), (.ofNat 2147483647), none)], [(3, 0, 0)], zHT, some (1, (.ofNat 0)))]
def zk_119_h0 : zHd := (0, zk_119_te, [(0, 1, 0), (0, 2, 0)], [], (.ofNat 5), [(.ofNat 0), (.ofNat 0)], [])
def zk_119_hs : List zHd := [zk_119_h0]
def zk_119_or : zO_ := zor zk_120_o (zor zk_122_o (zon))
theorem zk_119_oo (l : Launch) (X : zx_X) (φ : List z_C) (P : List Int → Prop) : zOk l X 2000000 φ P zk_119_or := zOk_or (zk_120_ok l X 2000000 φ P) (zOk_or (zk_122_ok l X 2000000 φ P) (zOk_no l X 2000000 φ P))
theorem zk_119_r0 : zx1 2000000 (zfinC zk_119_al zk_119_h0.2.2.2.1) (zcutH zk_119_hs zk_119_h0 119 7) zk_119_or 6000 119 7 zk_119_h0.1 (zhS zk_119_h0) [] = true := by decide +kernel
theorem zk_119_c : zCon 119 7 zk_119_te [] zk_119_al := zCon_of (n := 6000) (hs := zk_119_hs) (lo := [(0, 1, 0), (0, 2, 0)]) (c := (.ofNat 5)) (ws := [(.ofNat 0), (.ofNat 0)]) (by decide) (by decide +kernel) zk_119_oo (List.mem_cons_self) (zAll_mem ⟨zk_119_r0, trivial⟩)
def zk_119_o : zO_ := zorcC 119 7 zk_119_te [(0, 1, 0), (0, 2, 0)] [] zk_119_al
theorem zk_119_ok (l : Launch) (X : zx_X) (XL : Nat) (φ : List z_C) (P : List Int → Prop) : zOk l X XL φ P zk_119_o := zOk_C zk_119_c (by decide +kernel) l X XL φ P
/-! like -/
def zk_123_te : zA_T := ([((.negSucc 2147483647), (.ofNat 2147483647), zD0)], zHT, [(0, (2, (.ofNat 3))), (1, (1, (.ofNat 0)))], [], 0, 0)
def zk_123_al : List zAlt := [([((.negSucc 1), (.ofNat 7), none)], [(3, 0, 0)], zHT, some (1, (.ofNat 0)))]
def zk_123_h0 : zHd := (0, zk_123_te, [(0, 1, 0)], [], (.ofNat 5), [(.ofNat 0)], [])
def zk_123_hs : List zHd := [zk_123_h0]
def zk_123_or : zO_ := zor zk_124_o (zon)
theorem zk_123_oo (l : Launch) (X : zx_X) (φ : List z_C) (P : List Int → Prop) : zOk l X 2000000 φ P zk_123_or := zOk_or (zk_124_ok l X 2000000 φ P) (zOk_no l X 2000000 φ P)
theorem zk_123_r0 : zx1 2000000 (zfinC zk_123_al zk_123_h0.2.2.2.1) (zcutH zk_123_hs zk_123_h0 123 9) zk_123_or 6000 123 9 zk_123_h0.1 (zhS zk_123_h0) [] = true := by decide +kernel
theorem zk_123_c : zCon 123 9 zk_123_te [] zk_123_al := zCon_of (n := 6000) (hs := zk_123_hs) (lo := [(0, 1, 0)]) (c := (.ofNat 5)) (ws := [(.ofNat 0)]) (by decide) (by decide +kernel) zk_123_oo (List.mem_cons_self) (zAll_mem ⟨zk_123_r0, trivial⟩)
def zk_123_o : zO_ := zorcC 123 9 zk_123_te [(0, 1, 0)] [] zk_123_al
theorem zk_123_ok (l : Launch) (X : zx_X) (XL : Nat) (φ : List z_C) (P : List Int → Prop) : zOk l X XL φ P zk_123_o := zOk_C zk_123_c (by decide +kernel) l X XL φ P
/-! split -/
def zk_125_te : zA_T := ([((.negSucc 2147483647), (.ofNat 2147483647), zD0)], zHT, [(0, (2, (.ofNat 3))), (1, (1, (.ofNat 0)))], [], 0, 0)
def zk_125_al : List zAlt := [([((.negSucc 0), (.ofNat 5), none)], [(3, 0, 0)], zHT, some (1, (.ofNat 0)))]
def zk_125_h0 : zHd := (0, zk_125_te, [(0, 1, 0)], [], (.ofNat 5), [(.ofNat 0)], [])
def zk_125_hs : List zHd := [zk_125_h0]
def zk_125_or : zO_ := zor zk_127_o (zor zk_126_o (zon))
theorem zk_125_oo (l : Launch) (X : zx_X) (φ : List z_C) (P : List Int → Prop) : zOk l X 2000000 φ P zk_125_or := zOk_or (zk_127_ok l X 2000000 φ P) (zOk_or (zk_126_ok l X 2000000 φ P) (zOk_no l X 2000000 φ P))
theorem zk_125_r0 : zx1 2000000 (zfinC zk_125_al zk_125_h0.2.2.2.1) (zcutH zk_125_hs zk_125_h0 125 12) zk_125_or 6000 125 12 zk_125_h0.1 (zhS zk_125_h0) [] = true := by decide +kernel
theorem zk_125_c : zCon 125 12 zk_125_te [] zk_125_al := zCon_of (n := 6000) (hs := zk_125_hs) (lo := [(0, 1, 0)]) (c := (.ofNat 5)) (ws := [(.ofNat 0)]) (by decide) (by decide +kernel) zk_125_oo (List.mem_cons_self) (zAll_mem ⟨zk_125_r0, trivial⟩)
def zk_125_o : zO_ := zorcC 125 12 zk_125_te [(0, 1, 0)] [] zk_125_al
theorem zk_125_ok (l : Launch) (X : zx_X) (XL : Nat) (φ : List z_C) (P : List Int → Prop) : zOk l X XL φ P zk_125_o := zOk_C zk_125_c (by decide +kernel) l X XL φ P
/-! drawn -/
def zk_129_te : zA_T := ([((.negSucc 2147483647), (.ofNat 2147483647), zD0), ((.negSucc 2147483647), (.ofNat 2147483647), zD0), ((.negSucc 2147483647), (.ofNat 2147483647), zD0)], zHT, [(0, (2, (.ofNat 3))), (1, (1, (.ofNat 0))), (2, (1, (.ofNat 1))), (3, (1, (.ofNat 2)))], [], 0, 0)
def zk_129_al : List zAlt := [([((.negSucc 2147483647), (.ofNat 2147483647), none)], [(3, 0, 0)], zHT, some (1, (.ofNat 0)))]
def zk_129_h0 : zHd := (0, zk_129_te, [(0, 1, 0), (0, 2, 0), (0, 3, 0)], [], (.ofNat 5), [(.ofNat 0), (.ofNat 0), (.ofNat 0)], [])
def zk_129_hs : List zHd := [zk_129_h0]
def zk_129_or : zO_ := zor zk_130_o (zon)
theorem zk_129_oo (l : Launch) (X : zx_X) (φ : List z_C) (P : List Int → Prop) : zOk l X 2000000 φ P zk_129_or := zOk_or (zk_130_ok l X 2000000 φ P) (zOk_no l X 2000000 φ P)
theorem zk_129_r0 : zx1 2000000 (zfinC zk_129_al zk_129_h0.2.2.2.1) (zcutH zk_129_hs zk_129_h0 129 15) zk_129_or 6000 129 15 zk_129_h0.1 (zhS zk_129_h0) [] = true := by decide +kernel
theorem zk_129_c : zCon 129 15 zk_129_te [] zk_129_al := zCon_of (n := 6000) (hs := zk_129_hs) (lo := [(0, 1, 0), (0, 2, 0), (0, 3, 0)]) (c := (.ofNat 5)) (ws := [(.ofNat 0), (.ofNat 0), (.ofNat 0)]) (by decide) (by decide +kernel) zk_129_oo (List.mem_cons_self) (zAll_mem ⟨zk_129_r0, trivial⟩)
def zk_129_o : zO_ := zorcC 129 15 zk_129_te [(0, 1, 0), (0, 2, 0), (0, 3, 0)] [] zk_129_al
theorem zk_129_ok (l : Launch) (X : zx_X) (XL : Nat) (φ : List z_C) (P : List Int → Prop) : zOk l X XL φ P zk_129_o := zOk_C zk_129_c (by decide +kernel) l X XL φ P
/-! run -/
def zk_155_0_0_100_te : zA_T := ([((.ofNat 0), (.ofNat 103), zD0), ((.ofNat 0), (.ofNat 49), zD0), ((.negSucc 2147483647), (.ofNat 2147483647), zD0), ((.ofNat 0), (.ofNat 40), zD0)], (zHT.set 27 (0, 9, 0, [(2, (.ofNat 31)), (2, (.ofNat 32)), (6, (.ofNat 433791696896)), (1, (.ofNat 0))], [(2, (8, (.ofNat 27)))])), [(0, (2, (.ofNat 30))), (1, (1, (.ofNat 1))), (2, (0, (.ofNat 0))), (3, (0, (.ofNat 0))), (4, (1, (.ofNat 2))), (5, (1, (.ofNat 3)))], [], 0, 0)
def zk_155_0_0_100_al : List zAlt := [([((.ofNat 0), (.ofNat 104), none), ((.negSucc 2147483647), (.ofNat 2147483647), none)], [(1, 27, 3), (3, 0, 0)], (zHT.set 27 (0, 9, 0, [(2, (.ofNat 31)), (2, (.ofNat 32)), (6, (.ofNat 433791696896)), (1, (.ofNat 0))], [(2, (8, (.ofNat 27)))])), some (1, (.ofNat 1)))]
def zk_155_0_0_100_h0 : zHd := (0, zk_155_0_0_100_te, [(1, 27, 3), (0, 1, 0), (0, 4, 0), (0, 5, 0)], [], (.ofNat 5), [(.ofNat 0), (.ofNat 0), (.ofNat 0), (.ofNat 0)], [])
def zk_155_0_0_100_hs : List zHd := [zk_155_0_0_100_h0]
def zk_155_0_0_100_or : zO_ := zon
theorem zk_155_0_0_100_oo (l : Launch) (X : zx_X) (φ : List z_C) (P : List Int → Prop) : zOk l X 2000000 φ P zk_155_0_0_100_or := zOk_no l X 2000000 φ P
theorem zk_155_0_0_100_r0 : zx1 2000000 (zfinC zk_155_0_0_100_al zk_155_0_0_100_h0.2.2.2.1) (zcutH zk_155_0_0_100_hs zk_155_0_0_100_h0 155 3) zk_155_0_0_100_or 6000 155 3 zk_155_0_0_100_h0.1 (zhS zk_155_0_0_100_h0) [] = true := by decide +kernel
theorem zk_155_0_0_100_c : zCon 155 3 zk_155_0_0_100_te [] zk_155_0_0_100_al := zCon_of (n := 6000) (hs := zk_155_0_0_100_hs) (lo := [(1, 27, 3), (0, 1, 0), (0, 4, 0), (0, 5, 0)]) (c := (.ofNat 5)) (ws := [(.ofNat 0), (.ofNat 0), (.ofNat 0), (.ofNat 0)]) (by decide) (by decide +kernel) zk_155_0_0_100_oo (List.mem_cons_self) (zAll_mem ⟨zk_155_0_0_100_r0, trivial⟩)
def zk_155_0_0_100_o : zO_ := zorcC 155 3 zk_155_0_0_100_te [(1, 27, 3), (0, 1, 0), (0, 4, 0), (0, 5, 0)] [] zk_155_0_0_100_al
theorem zk_155_0_0_100_ok (l : Launch) (X : zx_X) (XL : Nat) (φ : List z_C) (P : List Int → Prop) : zOk l X XL φ P zk_155_0_0_100_o := zOk_C zk_155_0_0_100_c (by decide +kernel) l X XL φ P
/-! run -/
def zk_155_1_0_100_te : zA_T := ([((.ofNat 0), (.ofNat 102), zD0), ((.ofNat 0), (.ofNat 49), zD0), ((.negSucc 2147483647), (.ofNat 2147483647), zD0), ((.ofNat 0), (.ofNat 40), zD0)], (zHT.set 27 (0, 9, 0, [(2, (.ofNat 31)), (2, (.ofNat 32)), (6, (.ofNat 433791696896)), (1, (.ofNat 0))], [(2, (8, (.ofNat 27)))])), [(0, (2, (.ofNat 30))), (1, (1, (.ofNat 1))), (2, (0, (.ofNat 1))), (3, (0, (.ofNat 0))), (4, (1, (.ofNat 2))), (5, (1, (.ofNat 3)))], [], 0, 0)
def zk_155_1_0_100_al : List zAlt := [([((.ofNat 0), (.ofNat 104), none), ((.negSucc 2147483647), (.ofNat 2147483647), none)], [(1, 27, 3), (3, 0, 0)], (zHT.set 27 (0, 9, 0, [(2, (.ofNat 31)), (2, (.ofNat 32)), (6, (.ofNat 433791696896)), (1, (.ofNat 0))], [(2, (8, (.ofNat 27)))])), some (1, (.ofNat 1)))]
def zk_155_1_0_100_h0 : zHd := (0, zk_155_1_0_100_te, [(1, 27, 3), (0, 1, 0), (0, 4, 0), (0, 5, 0)], [], (.ofNat 5), [(.ofNat 0), (.ofNat 0), (.ofNat 0), (.ofNat 0)], [])
def zk_155_1_0_100_hs : List zHd := [zk_155_1_0_100_h0]
def zk_155_1_0_100_or : zO_ := zor (zor zk_155_0_0_100_o (zon)) (zspl 155 2 (zor (zor zk_155_0_0_100_o (zon)) (zspl 155 3 (zor zk_155_0_0_100_o (zon)))))
theorem zk_155_1_0_100_oo (l : Launch) (X : zx_X) (φ : List z_C) (P : List Int → Prop) : zOk l X 2000000 φ P zk_155_1_0_100_or := zOk_or (zOk_or (zk_155_0_0_100_ok l X 2000000 φ P) (zOk_no l X 2000000 φ P)) (zOk_spl (m0 := 155) (i := 2) (zOk_or (zOk_or (zk_155_0_0_100_ok l X 2000000 φ P) (zOk_no l X 2000000 φ P)) (zOk_spl (m0 := 155) (i := 3) (zOk_or (zk_155_0_0_100_ok l X 2000000 φ P) (zOk_no l X 2000000 φ P)))))
theorem zk_155_1_0_100_r0 : zx1 2000000 (zfinC zk_155_1_0_100_al zk_155_1_0_100_h0.2.2.2.1) (zcutH zk_155_1_0_100_hs zk_155_1_0_100_h0 155 6) zk_155_1_0_100_or 6000 155 6 zk_155_1_0_100_h0.1 (zhS zk_155_1_0_100_h0) [] = true := by decide +kernel
theorem zk_155_1_0_100_c : zCon 155 6 zk_155_1_0_100_te [] zk_155_1_0_100_al := zCon_of (n := 6000) (hs := zk_155_1_0_100_hs) (lo := [(1, 27, 3), (0, 1, 0), (0, 4, 0), (0, 5, 0)]) (c := (.ofNat 5)) (ws := [(.ofNat 0), (.ofNat 0), (.ofNat 0), (.ofNat 0)]) (by decide) (by decide +kernel) zk_155_1_0_100_oo (List.mem_cons_self) (zAll_mem ⟨zk_155_1_0_100_r0, trivial⟩)
def zk_155_1_0_100_o : zO_ := zorcC 155 6 zk_155_1_0_100_te [(1, 27, 3), (0, 1, 0), (0, 4, 0), (0, 5, 0)] [] zk_155_1_0_100_al
theorem zk_155_1_0_100_ok (l : Launch) (X : zx_X) (XL : Nat) (φ : List z_C) (P : List Int → Prop) : zOk l X XL φ P zk_155_1_0_100_o := zOk_C zk_155_1_0_100_c (by decide +kernel) l X XL φ P
/-! run -/
def zk_155_2_0_100_te : zA_T := ([((.ofNat 0), (.ofNat 102), zD0), ((.ofNat 0), (.ofNat 49), zD0), ((.negSucc 2147483647), (.ofNat 2147483647), zD0), ((.ofNat 0), (.ofNat 40), zD0)], (zHT.set 27 (0, 9, 0, [(2, (.ofNat 31)), (2, (.ofNat 32)), (6, (.ofNat 433791696896)), (1, (.ofNat 0))], [(2, (8, (.ofNat 27)))])), [(0, (2, (.ofNat 30))), (1, (1, (.ofNat 1))), (2, (0, (.ofNat 2))), (3, (0, (.ofNat 0))), (4, (1, (.ofNat 2))), (5, (1, (.ofNat 3)))], [], 0, 0)
def zk_155_2_0_100_al : List zAlt := [([((.ofNat 0), (.ofNat 103), none), ((.negSucc 2147483647), (.ofNat 2147483647), none)], [(1, 27, 3), (3, 0, 0)], (zHT.set 27 (0, 9, 0, [(2, (.ofNat 31)), (2, (.ofNat 32)), (6, (.ofNat 433791696896)), (1, (.ofNat 0))], [(2, (8, (.ofNat 27)))])), some (1, (.ofNat 1)))]
def zk_155_2_0_100_h0 : zHd := (0, zk_155_2_0_100_te, [(1, 27, 3), (0, 1, 0), (0, 4, 0), (0, 5, 0)], [], (.ofNat 5), [(.ofNat 0), (.ofNat 0), (.ofNat 0), (.ofNat 0)], [])
def zk_155_2_0_100_hs : List zHd := [zk_155_2_0_100_h0]
def zk_155_2_0_100_or : zO_ := zon
theorem zk_155_2_0_100_oo (l : Launch) (X : zx_X) (φ : List z_C) (P : List Int → Prop) : zOk l X 2000000 φ P zk_155_2_0_100_or := zOk_no l X 2000000 φ P
theorem zk_155_2_0_100_r0 : zx1 2000000 (zfinC zk_155_2_0_100_al zk_155_2_0_100_h0.2.2.2.1) (zcutH zk_155_2_0_100_hs zk_155_2_0_100_h0 155 3) zk_155_2_0_100_or 6000 155 3 zk_155_2_0_100_h0.1 (zhS zk_155_2_0_100_h0) [] = true := by decide +kernel
theorem zk_155_2_0_100_c : zCon 155 3 zk_155_2_0_100_te [] zk_155_2_0_100_al := zCon_of (n := 6000) (hs := zk_155_2_0_100_hs) (lo := [(1, 27, 3), (0, 1, 0), (0, 4, 0), (0, 5, 0)]) (c := (.ofNat 5)) (ws := [(.ofNat 0), (.ofNat 0), (.ofNat 0), (.ofNat 0)]) (by decide) (by decide +kernel) zk_155_2_0_100_oo (List.mem_cons_self) (zAll_mem ⟨zk_155_2_0_100_r0, trivial⟩)
def zk_155_2_0_100_o : zO_ := zorcC 155 3 zk_155_2_0_100_te [(1, 27, 3), (0, 1, 0), (0, 4, 0), (0, 5, 0)] [] zk_155_2_0_100_al
theorem zk_155_2_0_100_ok (l : Launch) (X : zx_X) (XL : Nat) (φ : List z_C) (P : List Int → Prop) : zOk l X XL φ P zk_155_2_0_100_o := zOk_C zk_155_2_0_100_c (by decide +kernel) l X XL φ P
/-! run -/
def zk_155_3_0_100_te : zA_T := ([((.ofNat 0), (.ofNat 101), zD0), ((.ofNat 0), (.ofNat 49), zD0), ((.negSucc 2147483647), (.ofNat 2147483647), zD0), ((.ofNat 0), (.ofNat 40), zD0)], (zHT.set 27 (0, 9, 0, [(2, (.ofNat 31)), (2, (.ofNat 32)), (6, (.ofNat 433791696896)), (1, (.ofNat 0))], [(2, (8, (.ofNat 27)))])), [(0, (2, (.ofNat 30))), (1, (1, (.ofNat 1))), (2, (0, (.ofNat 3))), (3, (0, (.ofNat 0))), (4, (1, (.ofNat 2))), (5, (1, (.ofNat 3)))], [], 0, 0)
def zk_155_3_0_100_al : List zAlt := [([((.ofNat 0), (.ofNat 102), none), ((.negSucc 2147483647), (.ofNat 2147483647), none)], [(1, 27, 3), (3, 0, 0)], (zHT.set 27 (0, 9, 0, [(2, (.ofNat 31)), (2, (.ofNat 32)), (6, (.ofNat 433791696896)), (1, (.ofNat 0))], [(2, (8, (.ofNat 27)))])), some (1, (.ofNat 1)))]
def zk_155_3_0_100_h0 : zHd := (0, zk_155_3_0_100_te, [(1, 27, 3), (0, 1, 0), (0, 4, 0), (0, 5, 0)], [], (.ofNat 5), [(.ofNat 0), (.ofNat 0), (.ofNat 0), (.ofNat 0)], [])
def zk_155_3_0_100_hs : List zHd := [zk_155_3_0_100_h0]
def zk_155_3_0_100_or : zO_ := zon
theorem zk_155_3_0_100_oo (l : Launch) (X : zx_X) (φ : List z_C) (P : List Int → Prop) : zOk l X 2000000 φ P zk_155_3_0_100_or := zOk_no l X 2000000 φ P
theorem zk_155_3_0_100_r0 : zx1 2000000 (zfinC zk_155_3_0_100_al zk_155_3_0_100_h0.2.2.2.1) (zcutH zk_155_3_0_100_hs zk_155_3_0_100_h0 155 3) zk_155_3_0_100_or 6000 155 3 zk_155_3_0_100_h0.1 (zhS zk_155_3_0_100_h0) [] = true := by decide +kernel
theorem zk_155_3_0_100_c : zCon 155 3 zk_155_3_0_100_te [] zk_155_3_0_100_al := zCon_of (n := 6000) (hs := zk_155_3_0_100_hs) (lo := [(1, 27, 3), (0, 1, 0), (0, 4, 0), (0, 5, 0)]) (c := (.ofNat 5)) (ws := [(.ofNat 0), (.ofNat 0), (.ofNat 0), (.ofNat 0)]) (by decide) (by decide +kernel) zk_155_3_0_100_oo (List.mem_cons_self) (zAll_mem ⟨zk_155_3_0_100_r0, trivial⟩)
def zk_155_3_0_100_o : zO_ := zorcC 155 3 zk_155_3_0_100_te [(1, 27, 3), (0, 1, 0), (0, 4, 0), (0, 5, 0)] [] zk_155_3_0_100_al
theorem zk_155_3_0_100_ok (l : Launch) (X : zx_X) (XL : Nat) (φ : List z_C) (P : List Int → Prop) : zOk l X XL φ P zk_155_3_0_100_o := zOk_C zk_155_3_0_100_c (by decide +kernel) l X XL φ P
/-! run -/
def zk_155_4_0_100_te : zA_T := ([((.ofNat 0), (.ofNat 101), zD0), ((.ofNat 0), (.ofNat 49), zD0), ((.negSucc 2147483647), (.ofNat 2147483647), zD0), ((.ofNat 0), (.ofNat 40), zD0)], (zHT.set 27 (0, 9, 0, [(2, (.ofNat 31)), (2, (.ofNat 32)), (6, (.ofNat 433791696896)), (1, (.ofNat 0))], [(2, (8, (.ofNat 27)))])), [(0, (2, (.ofNat 30))), (1, (1, (.ofNat 1))), (2, (0, (.ofNat 4))), (3, (0, (.ofNat 0))), (4, (1, (.ofNat 2))), (5, (1, (.ofNat 3)))], [], 0, 0)
def zk_155_4_0_100_al : List zAlt := [([((.ofNat 0), (.ofNat 104), none), ((.negSucc 2147483647), (.ofNat 2147483647), none)], [(1, 27, 3), (3, 0, 0)], (zHT.set 27 (0, 9, 0, [(2, (.ofNat 31)), (2, (.ofNat 32)), (6, (.ofNat 433791696896)), (1, (.ofNat 0))], [(2, (8, (.ofNat 27)))])), some (1, (.ofNat 1)))]
def zk_155_4_0_100_h0 : zHd := (0, zk_155_4_0_100_te, [(1, 27, 3), (0, 1, 0), (0, 4, 0), (0, 5, 0)], [], (.ofNat 5), [(.ofNat 0), (.ofNat 0), (.ofNat 0), (.ofNat 0)], [])
def zk_155_4_0_100_hs : List zHd := [zk_155_4_0_100_h0]
def zk_155_4_0_100_or : zO_ := zor (zor zk_155_0_0_100_o (zon)) (zspl 155 2 (zor (zor zk_155_0_0_100_o (zon)) (zspl 155 3 (zor zk_155_0_0_100_o (zon)))))
theorem zk_155_4_0_100_oo (l : Launch) (X : zx_X) (φ : List z_C) (P : List Int → Prop) : zOk l X 2000000 φ P zk_155_4_0_100_or := zOk_or (zOk_or (zk_155_0_0_100_ok l X 2000000 φ P) (zOk_no l X 2000000 φ P)) (zOk_spl (m0 := 155) (i := 2) (zOk_or (zOk_or (zk_155_0_0_100_ok l X 2000000 φ P) (zOk_no l X 2000000 φ P)) (zOk_spl (m0 := 155) (i := 3) (zOk_or (zk_155_0_0_100_ok l X 2000000 φ P) (zOk_no l X 2000000 φ P)))))
theorem zk_155_4_0_100_r0 : zx1 2000000 (zfinC zk_155_4_0_100_al zk_155_4_0_100_h0.2.2.2.1) (zcutH zk_155_4_0_100_hs zk_155_4_0_100_h0 155 6) zk_155_4_0_100_or 6000 155 6 zk_155_4_0_100_h0.1 (zhS zk_155_4_0_100_h0) [] = true := by decide +kernel
theorem zk_155_4_0_100_c : zCon 155 6 zk_155_4_0_100_te [] zk_155_4_0_100_al := zCon_of (n := 6000) (hs := zk_155_4_0_100_hs) (lo := [(1, 27, 3), (0, 1, 0), (0, 4, 0), (0, 5, 0)]) (c := (.ofNat 5)) (ws := [(.ofNat 0), (.ofNat 0), (.ofNat 0), (.ofNat 0)]) (by decide) (by decide +kernel) zk_155_4_0_100_oo (List.mem_cons_self) (zAll_mem ⟨zk_155_4_0_100_r0, trivial⟩)
def zk_155_4_0_100_o : zO_ := zorcC 155 6 zk_155_4_0_100_te [(1, 27, 3), (0, 1, 0), (0, 4, 0), (0, 5, 0)] [] zk_155_4_0_100_al
theorem zk_155_4_0_100_ok (l : Launch) (X : zx_X) (XL : Nat) (φ : List z_C) (P : List Int → Prop) : zOk l X XL φ P zk_155_4_0_100_o := zOk_C zk_155_4_0_100_c (by decide +kernel) l X XL φ P
/-! run -/
def zk_155_5_0_100_te : zA_T := ([((.ofNat 0), (.ofNat 100), zD0), ((.ofNat 0), (.ofNat 49), zD0), ((.negSucc 2147483647), (.ofNat 2147483647), zD0), ((.ofNat 0), (.ofNat 40), zD0)], (zHT.set 27 (0, 9, 0, [(2, (.ofNat 31)), (2, (.ofNat 32)), (6, (.ofNat 433791696896)), (1, (.ofNat 0))], [(2, (8, (.ofNat 27)))])), [(0, (2, (.ofNat 30))), (1, (1, (.ofNat 1))), (2, (0, (.ofNat 5))), (3, (0, (.ofNat 0))), (4, (1, (.ofNat 2))), (5, (1, (.ofNat 3)))], [], 0, 0)
def zk_155_5_0_100_al : List zAlt := [([((.ofNat 0), (.ofNat 101), none), ((.negSucc 2147483647), (.ofNat 2147483647), none)], [(1, 27, 3), (3, 0, 0)], (zHT.set 27 (0, 9, 0, [(2, (.ofNat 31)), (2, (.ofNat 32)), (6, (.ofNat 433791696896)), (1, (.ofNat 0))], [(2, (8, (.ofNat 27)))])), some (1, (.ofNat 1)))]
def zk_155_5_0_100_h0 : zHd := (0, zk_155_5_0_100_te, [(1, 27, 3), (0, 1, 0), (0, 4, 0), (0, 5, 0)], [], (.ofNat 5), [(.ofNat 0), (.ofNat 0), (.ofNat 0), (.ofNat 0)], [])
def zk_155_5_0_100_hs : List zHd := [zk_155_5_0_100_h0]
def zk_155_5_0_100_or : zO_ := zon
theorem zk_155_5_0_100_oo (l : Launch) (X : zx_X) (φ : List z_C) (P : List Int → Prop) : zOk l X 2000000 φ P zk_155_5_0_100_or := zOk_no l X 2000000 φ P
theorem zk_155_5_0_100_r0 : zx1 2000000 (zfinC zk_155_5_0_100_al zk_155_5_0_100_h0.2.2.2.1) (zcutH zk_155_5_0_100_hs zk_155_5_0_100_h0 155 3) zk_155_5_0_100_or 6000 155 3 zk_155_5_0_100_h0.1 (zhS zk_155_5_0_100_h0) [] = true := by decide +kernel
theorem zk_155_5_0_100_c : zCon 155 3 zk_155_5_0_100_te [] zk_155_5_0_100_al := zCon_of (n := 6000) (hs := zk_155_5_0_100_hs) (lo := [(1, 27, 3), (0, 1, 0), (0, 4, 0), (0, 5, 0)]) (c := (.ofNat 5)) (ws := [(.ofNat 0), (.ofNat 0), (.ofNat 0), (.ofNat 0)]) (by decide) (by decide +kernel) zk_155_5_0_100_oo (List.mem_cons_self) (zAll_mem ⟨zk_155_5_0_100_r0, trivial⟩)
def zk_155_5_0_100_o : zO_ := zorcC 155 3 zk_155_5_0_100_te [(1, 27, 3), (0, 1, 0), (0, 4, 0), (0, 5, 0)] [] zk_155_5_0_100_al
theorem zk_155_5_0_100_ok (l : Launch) (X : zx_X) (XL : Nat) (φ : List z_C) (P : List Int → Prop) : zOk l X XL φ P zk_155_5_0_100_o := zOk_C zk_155_5_0_100_c (by decide +kernel) l X XL φ P
/-! run -/
def zk_155_6_0_100_te : zA_T := ([((.ofNat 0), (.ofNat 102), zD0), ((.ofNat 0), (.ofNat 49), zD0), ((.negSucc 2147483647), (.ofNat 2147483647), zD0), ((.ofNat 0), (.ofNat 40), zD0)], (zHT.set 27 (0, 9, 0, [(2, (.ofNat 31)), (2, (.ofNat 32)), (6, (.ofNat 433791696896)), (1, (.ofNat 0))], [(2, (8, (.ofNat 27)))])), [(0, (2, (.ofNat 30))), (1, (1, (.ofNat 1))), (2, (0, (.ofNat 6))), (3, (0, (.ofNat 0))), (4, (1, (.ofNat 2))), (5, (1, (.ofNat 3)))], [], 0, 0)
def zk_155_6_0_100_al : List zAlt := [([((.ofNat 0), (.ofNat 104), none), ((.negSucc 2147483647), (.ofNat 2147483647), none)], [(1, 27, 3), (3, 0, 0)], (zHT.set 27 (0, 9, 0, [(2, (.ofNat 31)), (2, (.ofNat 32)), (6, (.ofNat 433791696896)), (1, (.ofNat 0))], [(2, (8, (.ofNat 27)))])), some (1, (.ofNat 1)))]
def zk_155_6_0_100_h0 : zHd := (0, zk_155_6_0_100_te, [(1, 27, 3), (0, 1, 0), (0, 4, 0), (0, 5, 0)], [], (.ofNat 5), [(.ofNat 0), (.ofNat 0), (.ofNat 0), (.ofNat 0)], [])
def zk_155_6_0_100_hs : List zHd := [zk_155_6_0_100_h0]
def zk_155_6_0_100_or : zO_ := zor (zor zk_155_0_0_100_o (zon)) (zspl 155 2 (zor (zor zk_155_0_0_100_o (zon)) (zspl 155 3 (zor zk_155_0_0_100_o (zon)))))
theorem zk_155_6_0_100_oo (l : Launch) (X : zx_X) (φ : List z_C) (P : List Int → Prop) : zOk l X 2000000 φ P zk_155_6_0_100_or := zOk_or (zOk_or (zk_155_0_0_100_ok l X 2000000 φ P) (zOk_no l X 2000000 φ P)) (zOk_spl (m0 := 155) (i := 2) (zOk_or (zOk_or (zk_155_0_0_100_ok l X 2000000 φ P) (zOk_no l X 2000000 φ P)) (zOk_spl (m0 := 155) (i := 3) (zOk_or (zk_155_0_0_100_ok l X 2000000 φ P) (zOk_no l X 2000000 φ P)))))
theorem zk_155_6_0_100_r0 : zx1 2000000 (zfinC zk_155_6_0_100_al zk_155_6_0_100_h0.2.2.2.1) (zcutH zk_155_6_0_100_hs zk_155_6_0_100_h0 155 6) zk_155_6_0_100_or 6000 155 6 zk_155_6_0_100_h0.1 (zhS zk_155_6_0_100_h0) [] = true := by decide +kernel
theorem zk_155_6_0_100_c : zCon 155 6 zk_155_6_0_100_te [] zk_155_6_0_100_al := zCon_of (n := 6000) (hs := zk_155_6_0_100_hs) (lo := [(1, 27, 3), (0, 1, 0), (0, 4, 0), (0, 5, 0)]) (c := (.ofNat 5)) (ws := [(.ofNat 0), (.ofNat 0), (.ofNat 0), (.ofNat 0)]) (by decide) (by decide +kernel) zk_155_6_0_100_oo (List.mem_cons_self) (zAll_mem ⟨zk_155_6_0_100_r0, trivial⟩)
def zk_155_6_0_100_o : zO_ := zorcC 155 6 zk_155_6_0_100_te [(1, 27, 3), (0, 1, 0), (0, 4, 0), (0, 5, 0)] [] zk_155_6_0_100_al
theorem zk_155_6_0_100_ok (l : Launch) (X : zx_X) (XL : Nat) (φ : List z_C) (P : List Int → Prop) : zOk l X XL φ P zk_155_6_0_100_o := zOk_C zk_155_6_0_100_c (by decide +kernel) l X XL φ P
/-! run -/
def zk_155_7_0_100_te : zA_T := ([((.ofNat 0), (.ofNat 100), zD0), ((.ofNat 0), (.ofNat 49), zD0), ((.negSucc 2147483647), (.ofNat 2147483647), zD0), ((.ofNat 0), (.ofNat 40), zD0)], (zHT.set 27 (0, 9, 0, [(2, (.ofNat 31)), (2, (.ofNat 32)), (6, (.ofNat 433791696896)), (1, (.ofNat 0))], [(2, (8, (.ofNat 27)))])), [(0, (2, (.ofNat 30))), (1, (1, (.ofNat 1))), (2, (0, (.ofNat 7))), (3, (0, (.ofNat 0))), (4, (1, (.ofNat 2))), (5, (1, (.ofNat 3)))], [], 0, 0)
def zk_155_7_0_100_al : List zAlt := [([((.ofNat 0), (.ofNat 104), none), ((.negSucc 2147483647), (.ofNat 2147483647), none)], [(1, 27, 3), (3, 0, 0)], (zHT.set 27 (0, 9, 0, [(2, (.ofNat 31)), (2, (.ofNat 32)), (6, (.ofNat 433791696896)), (1, (.ofNat 0))], [(2, (8, (.ofNat 27)))])), some (1, (.ofNat 1)))]
def zk_155_7_0_100_h0 : zHd := (0, zk_155_7_0_100_te, [(1, 27, 3), (0, 1, 0), (0, 4, 0), (0, 5, 0)], [], (.ofNat 5), [(.ofNat 0), (.ofNat 0), (.ofNat 0), (.ofNat 0)], [])
def zk_155_7_0_100_hs : List zHd := [zk_155_7_0_100_h0]
def zk_155_7_0_100_or : zO_ := zor (zor zk_155_0_0_100_o (zon)) (zspl 155 2 (zor (zor zk_155_0_0_100_o (zon)) (zspl 155 3 (zor zk_155_0_0_100_o (zon)))))
theorem zk_155_7_0_100_oo (l : Launch) (X : zx_X) (φ : List z_C) (P : List Int → Prop) : zOk l X 2000000 φ P zk_155_7_0_100_or := zOk_or (zOk_or (zk_155_0_0_100_ok l X 2000000 φ P) (zOk_no l X 2000000 φ P)) (zOk_spl (m0 := 155) (i := 2) (zOk_or (zOk_or (zk_155_0_0_100_ok l X 2000000 φ P) (zOk_no l X 2000000 φ P)) (zOk_spl (m0 := 155) (i := 3) (zOk_or (zk_155_0_0_100_ok l X 2000000 φ P) (zOk_no l X 2000000 φ P)))))
theorem zk_155_7_0_100_r0 : zx1 2000000 (zfinC zk_155_7_0_100_al zk_155_7_0_100_h0.2.2.2.1) (zcutH zk_155_7_0_100_hs zk_155_7_0_100_h0 155 6) zk_155_7_0_100_or 6000 155 6 zk_155_7_0_100_h0.1 (zhS zk_155_7_0_100_h0) [] = true := by decide +kernel
theorem zk_155_7_0_100_c : zCon 155 6 zk_155_7_0_100_te [] zk_155_7_0_100_al := zCon_of (n := 6000) (hs := zk_155_7_0_100_hs) (lo := [(1, 27, 3), (0, 1, 0), (0, 4, 0), (0, 5, 0)]) (c := (.ofNat 5)) (ws := [(.ofNat 0), (.ofNat 0), (.ofNat 0), (.ofNat 0)]) (by decide) (by decide +kernel) zk_155_7_0_100_oo (List.mem_cons_self) (zAll_mem ⟨zk_155_7_0_100_r0, trivial⟩)
def zk_155_7_0_100_o : zO_ := zorcC 155 6 zk_155_7_0_100_te [(1, 27, 3), (0, 1, 0), (0, 4, 0), (0, 5, 0)] [] zk_155_7_0_100_al
theorem zk_155_7_0_100_ok (l : Launch) (X : zx_X) (XL : Nat) (φ : List z_C) (P : List Int → Prop) : zOk l X XL φ P zk_155_7_0_100_o := zOk_C zk_155_7_0_100_c (by decide +kernel) l X XL φ P
/-! run -/
def zk_155_0_0_200_te : zA_T := ([((.ofNat 0), (.ofNat 203), zD0), ((.ofNat 0), (.ofNat 49), zD0), ((.negSucc 2147483647), (.ofNat 2147483647), zD0), ((.ofNat 0), (.ofNat 40), zD0)], (zHT.set 27 (0, 9, 0, [(2, (.ofNat 31)), (2, (.ofNat 32)), (6, (.ofNat 433791696896)), (1, (.ofNat 0))], [(2, (8, (.ofNat 27)))])), [(0, (2, (.ofNat 30))), (1, (1, (.ofNat 1))), (2, (0, (.ofNat 0))), (3, (0, (.ofNat 0))), (4, (1, (.ofNat 2))), (5, (1, (.ofNat 3)))], [], 0, 0)
def zk_155_0_0_200_al : List zAlt := [([((.ofNat 0), (.ofNat 204), none), ((.negSucc 2147483647), (.ofNat 2147483647), none)], [(1, 27, 3), (3, 0, 0)], (zHT.set 27 (0, 9, 0, [(2, (.ofNat 31)), (2, (.ofNat 32)), (6, (.ofNat 433791696896)), (1, (.ofNat 0))], [(2, (8, (.ofNat 27)))])), some (1, (.ofNat 1)))]
def zk_155_0_0_200_h0 : zHd := (0, zk_155_0_0_200_te, [(1, 27, 3), (0, 1, 0), (0, 4, 0), (0, 5, 0)], [], (.ofNat 5), [(.ofNat 0), (.ofNat 0), (.ofNat 0), (.ofNat 0)], [])
def zk_155_0_0_200_hs : List zHd := [zk_155_0_0_200_h0]
def zk_155_0_0_200_or : zO_ := zon
theorem zk_155_0_0_200_oo (l : Launch) (X : zx_X) (φ : List z_C) (P : List Int → Prop) : zOk l X 2000000 φ P zk_155_0_0_200_or := zOk_no l X 2000000 φ P
theorem zk_155_0_0_200_r0 : zx1 2000000 (zfinC zk_155_0_0_200_al zk_155_0_0_200_h0.2.2.2.1) (zcutH zk_155_0_0_200_hs zk_155_0_0_200_h0 155 3) zk_155_0_0_200_or 6000 155 3 zk_155_0_0_200_h0.1 (zhS zk_155_0_0_200_h0) [] = true := by decide +kernel
theorem zk_155_0_0_200_c : zCon 155 3 zk_155_0_0_200_te [] zk_155_0_0_200_al := zCon_of (n := 6000) (hs := zk_155_0_0_200_hs) (lo := [(1, 27, 3), (0, 1, 0), (0, 4, 0), (0, 5, 0)]) (c := (.ofNat 5)) (ws := [(.ofNat 0), (.ofNat 0), (.ofNat 0), (.ofNat 0)]) (by decide) (by decide +kernel) zk_155_0_0_200_oo (List.mem_cons_self) (zAll_mem ⟨zk_155_0_0_200_r0, trivial⟩)
def zk_155_0_0_200_o : zO_ := zorcC 155 3 zk_155_0_0_200_te [(1, 27, 3), (0, 1, 0), (0, 4, 0), (0, 5, 0)] [] zk_155_0_0_200_al
theorem zk_155_0_0_200_ok (l : Launch) (X : zx_X) (XL : Nat) (φ : List z_C) (P : List Int → Prop) : zOk l X XL φ P zk_155_0_0_200_o := zOk_C zk_155_0_0_200_c (by decide +kernel) l X XL φ P
/-! run -/
def zk_155_1_0_200_te : zA_T := ([((.ofNat 0), (.ofNat 202), zD0), ((.ofNat 0), (.ofNat 49), zD0), ((.negSucc 2147483647), (.ofNat 2147483647), zD0), ((.ofNat 0), (.ofNat 40), zD0)], (zHT.set 27 (0, 9, 0, [(2, (.ofNat 31)), (2, (.ofNat 32)), (6, (.ofNat 433791696896)), (1, (.ofNat 0))], [(2, (8, (.ofNat 27)))])), [(0, (2, (.ofNat 30))), (1, (1, (.ofNat 1))), (2, (0, (.ofNat 1))), (3, (0, (.ofNat 0))), (4, (1, (.ofNat 2))), (5, (1, (.ofNat 3)))], [], 0, 0)
def zk_155_1_0_200_al : List zAlt := [([((.ofNat 0), (.ofNat 204), none), ((.negSucc 2147483647), (.ofNat 2147483647), none)], [(1, 27, 3), (3, 0, 0)], (zHT.set 27 (0, 9, 0, [(2, (.ofNat 31)), (2, (.ofNat 32)), (6, (.ofNat 433791696896)), (1, (.ofNat 0))], [(2, (8, (.ofNat 27)))])), some (1, (.ofNat 1)))]
def zk_155_1_0_200_h0 : zHd := (0, zk_155_1_0_200_te, [(1, 27, 3), (0, 1, 0), (0, 4, 0), (0, 5, 0)], [], (.ofNat 5), [(.ofNat 0), (.ofNat 0), (.ofNat 0), (.ofNat 0)], [])
def zk_155_1_0_200_hs : List zHd := [zk_155_1_0_200_h0]
def zk_155_1_0_200_or : zO_ := zor (zor zk_155_0_0_100_o (zor zk_155_0_0_200_o (zon))) (zspl 155 2 (zor (zor zk_155_0_0_100_o (zor zk_155_0_0_200_o (zon))) (zspl 155 3 (zor zk_155_0_0_100_o (zor zk_155_0_0_200_o (zon))))))
theorem zk_155_1_0_200_oo (l : Launch) (X : zx_X) (φ : List z_C) (P : List Int → Prop) : zOk l X 2000000 φ P zk_155_1_0_200_or := zOk_or (zOk_or (zk_155_0_0_100_ok l X 2000000 φ P) (zOk_or (zk_155_0_0_200_ok l X 2000000 φ P) (zOk_no l X 2000000 φ P))) (zOk_spl (m0 := 155) (i := 2) (zOk_or (zOk_or (zk_155_0_0_100_ok l X 2000000 φ P) (zOk_or (zk_155_0_0_200_ok l X 2000000 φ P) (zOk_no l X 2000000 φ P))) (zOk_spl (m0 := 155) (i := 3) (zOk_or (zk_155_0_0_100_ok l X 2000000 φ P) (zOk_or (zk_155_0_0_200_ok l X 2000000 φ P) (zOk_no l X 2000000 φ P))))))
theorem zk_155_1_0_200_r0 : zx1 2000000 (zfinC zk_155_1_0_200_al zk_155_1_0_200_h0.2.2.2.1) (zcutH zk_155_1_0_200_hs zk_155_1_0_200_h0 155 6) zk_155_1_0_200_or 6000 155 6 zk_155_1_0_200_h0.1 (zhS zk_155_1_0_200_h0) [] = true := by decide +kernel
theorem zk_155_1_0_200_c : zCon 155 6 zk_155_1_0_200_te [] zk_155_1_0_200_al := zCon_of (n := 6000) (hs := zk_155_1_0_200_hs) (lo := [(1, 27, 3), (0, 1, 0), (0, 4, 0), (0, 5, 0)]) (c := (.ofNat 5)) (ws := [(.ofNat 0), (.ofNat 0), (.ofNat 0), (.ofNat 0)]) (by decide) (by decide +kernel) zk_155_1_0_200_oo (List.mem_cons_self) (zAll_mem ⟨zk_155_1_0_200_r0, trivial⟩)
def zk_155_1_0_200_o : zO_ := zorcC 155 6 zk_155_1_0_200_te [(1, 27, 3), (0, 1, 0), (0, 4, 0), (0, 5, 0)] [] zk_155_1_0_200_al
theorem zk_155_1_0_200_ok (l : Launch) (X : zx_X) (XL : Nat) (φ : List z_C) (P : List Int → Prop) : zOk l X XL φ P zk_155_1_0_200_o := zOk_C zk_155_1_0_200_c (by decide +kernel) l X XL φ P
/-! run -/
def zk_155_2_0_200_te : zA_T := ([((.ofNat 0), (.ofNat 202), zD0), ((.ofNat 0), (.ofNat 49), zD0), ((.negSucc 2147483647), (.ofNat 2147483647), zD0), ((.ofNat 0), (.ofNat 40), zD0)], (zHT.set 27 (0, 9, 0, [(2, (.ofNat 31)), (2, (.ofNat 32)), (6, (.ofNat 433791696896)), (1, (.ofNat 0))], [(2, (8, (.ofNat 27)))])), [(0, (2, (.ofNat 30))), (1, (1, (.ofNat 1))), (2, (0, (.ofNat 2))), (3, (0, (.ofNat 0))), (4, (1, (.ofNat 2))), (5, (1, (.ofNat 3)))], [], 0, 0)
def zk_155_2_0_200_al : List zAlt := [([((.ofNat 0), (.ofNat 203), none), ((.negSucc 2147483647), (.ofNat 2147483647), none)], [(1, 27, 3), (3, 0, 0)], (zHT.set 27 (0, 9, 0, [(2, (.ofNat 31)), (2, (.ofNat 32)), (6, (.ofNat 433791696896)), (1, (.ofNat 0))], [(2, (8, (.ofNat 27)))])), some (1, (.ofNat 1)))]
def zk_155_2_0_200_h0 : zHd := (0, zk_155_2_0_200_te, [(1, 27, 3), (0, 1, 0), (0, 4, 0), (0, 5, 0)], [], (.ofNat 5), [(.ofNat 0), (.ofNat 0), (.ofNat 0), (.ofNat 0)], [])
def zk_155_2_0_200_hs : List zHd := [zk_155_2_0_200_h0]
def zk_155_2_0_200_or : zO_ := zon
theorem zk_155_2_0_200_oo (l : Launch) (X : zx_X) (φ : List z_C) (P : List Int → Prop) : zOk l X 2000000 φ P zk_155_2_0_200_or := zOk_no l X 2000000 φ P
theorem zk_155_2_0_200_r0 : zx1 2000000 (zfinC zk_155_2_0_200_al zk_155_2_0_200_h0.2.2.2.1) (zcutH zk_155_2_0_200_hs zk_155_2_0_200_h0 155 3) zk_155_2_0_200_or 6000 155 3 zk_155_2_0_200_h0.1 (zhS zk_155_2_0_200_h0) [] = true := by decide +kernel
theorem zk_155_2_0_200_c : zCon 155 3 zk_155_2_0_200_te [] zk_155_2_0_200_al := zCon_of (n := 6000) (hs := zk_155_2_0_200_hs) (lo := [(1, 27, 3), (0, 1, 0), (0, 4, 0), (0, 5, 0)]) (c := (.ofNat 5)) (ws := [(.ofNat 0), (.ofNat 0), (.ofNat 0), (.ofNat 0)]) (by decide) (by decide +kernel) zk_155_2_0_200_oo (List.mem_cons_self) (zAll_mem ⟨zk_155_2_0_200_r0, trivial⟩)
def zk_155_2_0_200_o : zO_ := zorcC 155 3 zk_155_2_0_200_te [(1, 27, 3), (0, 1, 0), (0, 4, 0), (0, 5, 0)] [] zk_155_2_0_200_al
theorem zk_155_2_0_200_ok (l : Launch) (X : zx_X) (XL : Nat) (φ : List z_C) (P : List Int → Prop) : zOk l X XL φ P zk_155_2_0_200_o := zOk_C zk_155_2_0_200_c (by decide +kernel) l X XL φ P
/-! run -/
def zk_155_3_0_200_te : zA_T := ([((.ofNat 0), (.ofNat 201), zD0), ((.ofNat 0), (.ofNat 49), zD0), ((.negSucc 2147483647), (.ofNat 2147483647), zD0), ((.ofNat 0), (.ofNat 40), zD0)], (zHT.set 27 (0, 9, 0, [(2, (.ofNat 31)), (2, (.ofNat 32)), (6, (.ofNat 433791696896)), (1, (.ofNat 0))], [(2, (8, (.ofNat 27)))])), [(0, (2, (.ofNat 30))), (1, (1, (.ofNat 1))), (2, (0, (.ofNat 3))), (3, (0, (.ofNat 0))), (4, (1, (.ofNat 2))), (5, (1, (.ofNat 3)))], [], 0, 0)
def zk_155_3_0_200_al : List zAlt := [([((.ofNat 0), (.ofNat 202), none), ((.negSucc 2147483647), (.ofNat 2147483647), none)], [(1, 27, 3), (3, 0, 0)], (zHT.set 27 (0, 9, 0, [(2, (.ofNat 31)), (2, (.ofNat 32)), (6, (.ofNat 433791696896)), (1, (.ofNat 0))], [(2, (8, (.ofNat 27)))])), some (1, (.ofNat 1)))]
def zk_155_3_0_200_h0 : zHd := (0, zk_155_3_0_200_te, [(1, 27, 3), (0, 1, 0), (0, 4, 0), (0, 5, 0)], [], (.ofNat 5), [(.ofNat 0), (.ofNat 0), (.ofNat 0), (.ofNat 0)], [])
def zk_155_3_0_200_hs : List zHd := [zk_155_3_0_200_h0]
def zk_155_3_0_200_or : zO_ := zon
theorem zk_155_3_0_200_oo (l : Launch) (X : zx_X) (φ : List z_C) (P : List Int → Prop) : zOk l X 2000000 φ P zk_155_3_0_200_or := zOk_no l X 2000000 φ P
theorem zk_155_3_0_200_r0 : zx1 2000000 (zfinC zk_155_3_0_200_al zk_155_3_0_200_h0.2.2.2.1) (zcutH zk_155_3_0_200_hs zk_155_3_0_200_h0 155 3) zk_155_3_0_200_or 6000 155 3 zk_155_3_0_200_h0.1 (zhS zk_155_3_0_200_h0) [] = true := by decide +kernel
theorem zk_155_3_0_200_c : zCon 155 3 zk_155_3_0_200_te [] zk_155_3_0_200_al := zCon_of (n := 6000) (hs := zk_155_3_0_200_hs) (lo := [(1, 27, 3), (0, 1, 0), (0, 4, 0), (0, 5, 0)]) (c := (.ofNat 5)) (ws := [(.ofNat 0), (.ofNat 0), (.ofNat 0), (.ofNat 0)]) (by decide) (by decide +kernel) zk_155_3_0_200_oo (List.mem_cons_self) (zAll_mem ⟨zk_155_3_0_200_r0, trivial⟩)
def zk_155_3_0_200_o : zO_ := zorcC 155 3 zk_155_3_0_200_te [(1, 27, 3), (0, 1, 0), (0, 4, 0), (0, 5, 0)] [] zk_155_3_0_200_al
theorem zk_155_3_0_200_ok (l : Launch) (X : zx_X) (XL : Nat) (φ : List z_C) (P : List Int → Prop) : zOk l X XL φ P zk_155_3_0_200_o := zOk_C zk_155_3_0_200_c (by decide +kernel) l X XL φ P
/-! run -/
def zk_155_4_0_200_te : zA_T := ([((.ofNat 0), (.ofNat 201), zD0), ((.ofNat 0), (.ofNat 49), zD0), ((.negSucc 2147483647), (.ofNat 2147483647), zD0), ((.ofNat 0), (.ofNat 40), zD0)], (zHT.set 27 (0, 9, 0, [(2, (.ofNat 31)), (2, (.ofNat 32)), (6, (.ofNat 433791696896)), (1, (.ofNat 0))], [(2, (8, (.ofNat 27)))])), [(0, (2, (.ofNat 30))), (1, (1, (.ofNat 1))), (2, (0, (.ofNat 4))), (3, (0, (.ofNat 0))), (4, (1, (.ofNat 2))), (5, (1, (.ofNat 3)))], [], 0, 0)
def zk_155_4_0_200_al : List zAlt := [([((.ofNat 0), (.ofNat 204), none), ((.negSucc 2147483647), (.ofNat 2147483647), none)], [(1, 27, 3), (3, 0, 0)], (zHT.set 27 (0, 9, 0, [(2, (.ofNat 31)), (2, (.ofNat 32)), (6, (.ofNat 433791696896)), (1, (.ofNat 0))], [(2, (8, (.ofNat 27)))])), some (1, (.ofNat 1)))]
def zk_155_4_0_200_h0 : zHd := (0, zk_155_4_0_200_te, [(1, 27, 3), (0, 1, 0), (0, 4, 0), (0, 5, 0)], [], (.ofNat 5), [(.ofNat 0), (.ofNat 0), (.ofNat 0), (.ofNat 0)], [])
def zk_155_4_0_200_hs : List zHd := [zk_155_4_0_200_h0]
def zk_155_4_0_200_or : zO_ := zor (zor zk_155_0_0_100_o (zor zk_155_0_0_200_o (zon))) (zspl 155 2 (zor (zor zk_155_0_0_100_o (zor zk_155_0_0_200_o (zon))) (zspl 155 3 (zor zk_155_0_0_100_o (zor zk_155_0_0_200_o (zon))))))
theorem zk_155_4_0_200_oo (l : Launch) (X : zx_X) (φ : List z_C) (P : List Int → Prop) : zOk l X 2000000 φ P zk_155_4_0_200_or := zOk_or (zOk_or (zk_155_0_0_100_ok l X 2000000 φ P) (zOk_or (zk_155_0_0_200_ok l X 2000000 φ P) (zOk_no l X 2000000 φ P))) (zOk_spl (m0 := 155) (i := 2) (zOk_or (zOk_or (zk_155_0_0_100_ok l X 2000000 φ P) (zOk_or (zk_155_0_0_200_ok l X 2000000 φ P) (zOk_no l X 2000000 φ P))) (zOk_spl (m0 := 155) (i := 3) (zOk_or (zk_155_0_0_100_ok l X 2000000 φ P) (zOk_or (zk_155_0_0_200_ok l X 2000000 φ P) (zOk_no l X 2000000 φ P))))))
theorem zk_155_4_0_200_r0 : zx1 2000000 (zfinC zk_155_4_0_200_al zk_155_4_0_200_h0.2.2.2.1) (zcutH zk_155_4_0_200_hs zk_155_4_0_200_h0 155 6) zk_155_4_0_200_or 6000 155 6 zk_155_4_0_200_h0.1 (zhS zk_155_4_0_200_h0) [] = true := by decide +kernel
theorem zk_155_4_0_200_c : zCon 155 6 zk_155_4_0_200_te [] zk_155_4_0_200_al := zCon_of (n := 6000) (hs := zk_155_4_0_200_hs) (lo := [(1, 27, 3), (0, 1, 0), (0, 4, 0), (0, 5, 0)]) (c := (.ofNat 5)) (ws := [(.ofNat 0), (.ofNat 0), (.ofNat 0), (.ofNat 0)]) (by decide) (by decide +kernel) zk_155_4_0_200_oo (List.mem_cons_self) (zAll_mem ⟨zk_155_4_0_200_r0, trivial⟩)
def zk_155_4_0_200_o : zO_ := zorcC 155 6 zk_155_4_0_200_te [(1, 27, 3), (0, 1, 0), (0, 4, 0), (0, 5, 0)] [] zk_155_4_0_200_al
theorem zk_155_4_0_200_ok (l : Launch) (X : zx_X) (XL : Nat) (φ : List z_C) (P : List Int → Prop) : zOk l X XL φ P zk_155_4_0_200_o := zOk_C zk_155_4_0_200_c (by decide +kernel) l X XL φ P
/-! run -/
def zk_155_5_0_200_te : zA_T := ([((.ofNat 0), (.ofNat 200), zD0), ((.ofNat 0), (.ofNat 49), zD0), ((.negSucc 2147483647), (.ofNat 2147483647), zD0), ((.ofNat 0), (.ofNat 40), zD0)], (zHT.set 27 (0, 9, 0, [(2, (.ofNat 31)), (2, (.ofNat 32)), (6, (.ofNat 433791696896)), (1, (.ofNat 0))], [(2, (8, (.ofNat 27)))])), [(0, (2, (.ofNat 30))), (1, (1, (.ofNat 1))), (2, (0, (.ofNat 5))), (3, (0, (.ofNat 0))), (4, (1, (.ofNat 2))), (5, (1, (.ofNat 3)))], [], 0, 0)
def zk_155_5_0_200_al : List zAlt := [([((.ofNat 0), (.ofNat 201), none), ((.negSucc 2147483647), (.ofNat 2147483647), none)], [(1, 27, 3), (3, 0, 0)], (zHT.set 27 (0, 9, 0, [(2, (.ofNat 31)), (2, (.ofNat 32)), (6, (.ofNat 433791696896)), (1, (.ofNat 0))], [(2, (8, (.ofNat 27)))])), some (1, (.ofNat 1)))]
def zk_155_5_0_200_h0 : zHd := (0, zk_155_5_0_200_te, [(1, 27, 3), (0, 1, 0), (0, 4, 0), (0, 5, 0)], [], (.ofNat 5), [(.ofNat 0), (.ofNat 0), (.ofNat 0), (.ofNat 0)], [])
def zk_155_5_0_200_hs : List zHd := [zk_155_5_0_200_h0]
def zk_155_5_0_200_or : zO_ := zon
theorem zk_155_5_0_200_oo (l : Launch) (X : zx_X) (φ : List z_C) (P : List Int → Prop) : zOk l X 2000000 φ P zk_155_5_0_200_or := zOk_no l X 2000000 φ P
theorem zk_155_5_0_200_r0 : zx1 2000000 (zfinC zk_155_5_0_200_al zk_155_5_0_200_h0.2.2.2.1) (zcutH zk_155_5_0_200_hs zk_155_5_0_200_h0 155 3) zk_155_5_0_200_or 6000 155 3 zk_155_5_0_200_h0.1 (zhS zk_155_5_0_200_h0) [] = true := by decide +kernel
theorem zk_155_5_0_200_c : zCon 155 3 zk_155_5_0_200_te [] zk_155_5_0_200_al := zCon_of (n := 6000) (hs := zk_155_5_0_200_hs) (lo := [(1, 27, 3), (0, 1, 0), (0, 4, 0), (0, 5, 0)]) (c := (.ofNat 5)) (ws := [(.ofNat 0), (.ofNat 0), (.ofNat 0), (.ofNat 0)]) (by decide) (by decide +kernel) zk_155_5_0_200_oo (List.mem_cons_self) (zAll_mem ⟨zk_155_5_0_200_r0, trivial⟩)
def zk_155_5_0_200_o : zO_ := zorcC 155 3 zk_155_5_0_200_te [(1, 27, 3), (0, 1, 0), (0, 4, 0), (0, 5, 0)] [] zk_155_5_0_200_al
theorem zk_155_5_0_200_ok (l : Launch) (X : zx_X) (XL : Nat) (φ : List z_C) (P : List Int → Prop) : zOk l X XL φ P zk_155_5_0_200_o := zOk_C zk_155_5_0_200_c (by decide +kernel) l X XL φ P
/-! run -/
def zk_155_6_0_200_te : zA_T := ([((.ofNat 0), (.ofNat 202), zD0), ((.ofNat 0), (.ofNat 49), zD0), ((.negSucc 2147483647), (.ofNat 2147483647), zD0), ((.ofNat 0), (.ofNat 40), zD0)], (zHT.set 27 (0, 9, 0, [(2, (.ofNat 31)), (2, (.ofNat 32)), (6, (.ofNat 433791696896)), (1, (.ofNat 0))], [(2, (8, (.ofNat 27)))])), [(0, (2, (.ofNat 30))), (1, (1, (.ofNat 1))), (2, (0, (.ofNat 6))), (3, (0, (.ofNat 0))), (4, (1, (.ofNat 2))), (5, (1, (.ofNat 3)))], [], 0, 0)
def zk_155_6_0_200_al : List zAlt := [([((.ofNat 0), (.ofNat 204), none), ((.negSucc 2147483647), (.ofNat 2147483647), none)], [(1, 27, 3), (3, 0, 0)], (zHT.set 27 (0, 9, 0, [(2, (.ofNat 31)), (2, (.ofNat 32)), (6, (.ofNat 433791696896)), (1, (.ofNat 0))], [(2, (8, (.ofNat 27)))])), some (1, (.ofNat 1)))]
def zk_155_6_0_200_h0 : zHd := (0, zk_155_6_0_200_te, [(1, 27, 3), (0, 1, 0), (0, 4, 0), (0, 5, 0)], [], (.ofNat 5), [(.ofNat 0), (.ofNat 0), (.ofNat 0), (.ofNat 0)], [])
def zk_155_6_0_200_hs : List zHd := [zk_155_6_0_200_h0]
def zk_155_6_0_200_or : zO_ := zor (zor zk_155_0_0_100_o (zor zk_155_0_0_200_o (zon))) (zspl 155 2 (zor (zor zk_155_0_0_100_o (zor zk_155_0_0_200_o (zon))) (zspl 155 3 (zor zk_155_0_0_100_o (zor zk_155_0_0_200_o (zon))))))
theorem zk_155_6_0_200_oo (l : Launch) (X : zx_X) (φ : List z_C) (P : List Int → Prop) : zOk l X 2000000 φ P zk_155_6_0_200_or := zOk_or (zOk_or (zk_155_0_0_100_ok l X 2000000 φ P) (zOk_or (zk_155_0_0_200_ok l X 2000000 φ P) (zOk_no l X 2000000 φ P))) (zOk_spl (m0 := 155) (i := 2) (zOk_or (zOk_or (zk_155_0_0_100_ok l X 2000000 φ P) (zOk_or (zk_155_0_0_200_ok l X 2000000 φ P) (zOk_no l X 2000000 φ P))) (zOk_spl (m0 := 155) (i := 3) (zOk_or (zk_155_0_0_100_ok l X 2000000 φ P) (zOk_or (zk_155_0_0_200_ok l X 2000000 φ P) (zOk_no l X 2000000 φ P))))))
theorem zk_155_6_0_200_r0 : zx1 2000000 (zfinC zk_155_6_0_200_al zk_155_6_0_200_h0.2.2.2.1) (zcutH zk_155_6_0_200_hs zk_155_6_0_200_h0 155 6) zk_155_6_0_200_or 6000 155 6 zk_155_6_0_200_h0.1 (zhS zk_155_6_0_200_h0) [] = true := by decide +kernel
theorem zk_155_6_0_200_c : zCon 155 6 zk_155_6_0_200_te [] zk_155_6_0_200_al := zCon_of (n := 6000) (hs := zk_155_6_0_200_hs) (lo := [(1, 27, 3), (0, 1, 0), (0, 4, 0), (0, 5, 0)]) (c := (.ofNat 5)) (ws := [(.ofNat 0), (.ofNat 0), (.ofNat 0), (.ofNat 0)]) (by decide) (by decide +kernel) zk_155_6_0_200_oo (List.mem_cons_self) (zAll_mem ⟨zk_155_6_0_200_r0, trivial⟩)
def zk_155_6_0_200_o : zO_ := zorcC 155 6 zk_155_6_0_200_te [(1, 27, 3), (0, 1, 0), (0, 4, 0), (0, 5, 0)] [] zk_155_6_0_200_al
theorem zk_155_6_0_200_ok (l : Launch) (X : zx_X) (XL : Nat) (φ : List z_C) (P : List Int → Prop) : zOk l X XL φ P zk_155_6_0_200_o := zOk_C zk_155_6_0_200_c (by decide +kernel) l X XL φ P
/-! run -/
def zk_155_7_0_200_te : zA_T := ([((.ofNat 0), (.ofNat 200), zD0), ((.ofNat 0), (.ofNat 49), zD0), ((.negSucc 2147483647), (.ofNat 2147483647), zD0), ((.ofNat 0), (.ofNat 40), zD0)], (zHT.set 27 (0, 9, 0, [(2, (.ofNat 31)), (2, (.ofNat 32)), (6, (.ofNat 433791696896)), (1, (.ofNat 0))], [(2, (8, (.ofNat 27)))])), [(0, (2, (.ofNat 30))), (1, (1, (.ofNat 1))), (2, (0, (.ofNat 7))), (3, (0, (.ofNat 0))), (4, (1, (.ofNat 2))), (5, (1, (.ofNat 3)))], [], 0, 0)
def zk_155_7_0_200_al : List zAlt := [([((.ofNat 0), (.ofNat 204), none), ((.negSucc 2147483647), (.ofNat 2147483647), none)], [(1, 27, 3), (3, 0, 0)], (zHT.set 27 (0, 9, 0, [(2, (.ofNat 31)), (2, (.ofNat 32)), (6, (.ofNat 433791696896)), (1, (.ofNat 0))], [(2, (8, (.ofNat 27)))])), some (1, (.ofNat 1)))]
def zk_155_7_0_200_h0 : zHd := (0, zk_155_7_0_200_te, [(1, 27, 3), (0, 1, 0), (0, 4, 0), (0, 5, 0)], [], (.ofNat 5), [(.ofNat 0), (.ofNat 0), (.ofNat 0), (.ofNat 0)], [])
def zk_155_7_0_200_hs : List zHd := [zk_155_7_0_200_h0]
def zk_155_7_0_200_or : zO_ := zor (zor zk_155_0_0_100_o (zor zk_155_0_0_200_o (zon))) (zspl 155 2 (zor (zor zk_155_0_0_100_o (zor zk_155_0_0_200_o (zon))) (zspl 155 3 (zor zk_155_0_0_100_o (zor zk_155_0_0_200_o (zon))))))
theorem zk_155_7_0_200_oo (l : Launch) (X : zx_X) (φ : List z_C) (P : List Int → Prop) : zOk l X 2000000 φ P zk_155_7_0_200_or := zOk_or (zOk_or (zk_155_0_0_100_ok l X 2000000 φ P) (zOk_or (zk_155_0_0_200_ok l X 2000000 φ P) (zOk_no l X 2000000 φ P))) (zOk_spl (m0 := 155) (i := 2) (zOk_or (zOk_or (zk_155_0_0_100_ok l X 2000000 φ P) (zOk_or (zk_155_0_0_200_ok l X 2000000 φ P) (zOk_no l X 2000000 φ P))) (zOk_spl (m0 := 155) (i := 3) (zOk_or (zk_155_0_0_100_ok l X 2000000 φ P) (zOk_or (zk_155_0_0_200_ok l X 2000000 φ P) (zOk_no l X 2000000 φ P))))))
theorem zk_155_7_0_200_r0 : zx1 2000000 (zfinC zk_155_7_0_200_al zk_155_7_0_200_h0.2.2.2.1) (zcutH zk_155_7_0_200_hs zk_155_7_0_200_h0 155 6) zk_155_7_0_200_or 6000 155 6 zk_155_7_0_200_h0.1 (zhS zk_155_7_0_200_h0) [] = true := by decide +kernel
theorem zk_155_7_0_200_c : zCon 155 6 zk_155_7_0_200_te [] zk_155_7_0_200_al := zCon_of (n := 6000) (hs := zk_155_7_0_200_hs) (lo := [(1, 27, 3), (0, 1, 0), (0, 4, 0), (0, 5, 0)]) (c := (.ofNat 5)) (ws := [(.ofNat 0), (.ofNat 0), (.ofNat 0), (.ofNat 0)]) (by decide) (by decide +kernel) zk_155_7_0_200_oo (List.mem_cons_self) (zAll_mem ⟨zk_155_7_0_200_r0, trivial⟩)
def zk_155_7_0_200_o : zO_ := zorcC 155 6 zk_155_7_0_200_te [(1, 27, 3), (0, 1, 0), (0, 4, 0), (0, 5, 0)] [] zk_155_7_0_200_al
theorem zk_155_7_0_200_ok (l : Launch) (X : zx_X) (XL : Nat) (φ : List z_C) (P : List Int → Prop) : zOk l X XL φ P zk_155_7_0_200_o := zOk_C zk_155_7_0_200_c (by decide +kernel) l X XL φ P
/-! run -/
def zk_155_0_0_300_te : zA_T := ([((.ofNat 0), (.ofNat 303), zD0), ((.ofNat 0), (.ofNat 49), zD0), ((.negSucc 2147483647), (.ofNat 2147483647), zD0), ((.ofNat 0), (.ofNat 40), zD0)], (zHT.set 27 (0, 9, 0, [(2, (.ofNat 31)), (2, (.ofNat 32)), (6, (.ofNat 433791696896)), (1, (.ofNat 0))], [(2, (8, (.ofNat 27)))])), [(0, (2, (.ofNat 30))), (1, (1, (.ofNat 1))), (2, (0, (.ofNat 0))), (3, (0, (.ofNat 0))), (4, (1, (.ofNat 2))), (5, (1, (.ofNat 3)))], [], 0, 0)
def zk_155_0_0_300_al : List zAlt := [([((.ofNat 0), (.ofNat 304), none), ((.negSucc 2147483647), (.ofNat 2147483647), none)], [(1, 27, 3), (3, 0, 0)], (zHT.set 27 (0, 9, 0, [(2, (.ofNat 31)), (2, (.ofNat 32)), (6, (.ofNat 433791696896)), (1, (.ofNat 0))], [(2, (8, (.ofNat 27)))])), some (1, (.ofNat 1)))]
def zk_155_0_0_300_h0 : zHd := (0, zk_155_0_0_300_te, [(1, 27, 3), (0, 1, 0), (0, 4, 0), (0, 5, 0)], [], (.ofNat 5), [(.ofNat 0), (.ofNat 0), (.ofNat 0), (.ofNat 0)], [])
def zk_155_0_0_300_hs : List zHd := [zk_155_0_0_300_h0]
def zk_155_0_0_300_or : zO_ := zon
theorem zk_155_0_0_300_oo (l : Launch) (X : zx_X) (φ : List z_C) (P : List Int → Prop) : zOk l X 2000000 φ P zk_155_0_0_300_or := zOk_no l X 2000000 φ P
theorem zk_155_0_0_300_r0 : zx1 2000000 (zfinC zk_155_0_0_300_al zk_155_0_0_300_h0.2.2.2.1) (zcutH zk_155_0_0_300_hs zk_155_0_0_300_h0 155 3) zk_155_0_0_300_or 6000 155 3 zk_155_0_0_300_h0.1 (zhS zk_155_0_0_300_h0) [] = true := by decide +kernel
theorem zk_155_0_0_300_c : zCon 155 3 zk_155_0_0_300_te [] zk_155_0_0_300_al := zCon_of (n := 6000) (hs := zk_155_0_0_300_hs) (lo := [(1, 27, 3), (0, 1, 0), (0, 4, 0), (0, 5, 0)]) (c := (.ofNat 5)) (ws := [(.ofNat 0), (.ofNat 0), (.ofNat 0), (.ofNat 0)]) (by decide) (by decide +kernel) zk_155_0_0_300_oo (List.mem_cons_self) (zAll_mem ⟨zk_155_0_0_300_r0, trivial⟩)
def zk_155_0_0_300_o : zO_ := zorcC 155 3 zk_155_0_0_300_te [(1, 27, 3), (0, 1, 0), (0, 4, 0), (0, 5, 0)] [] zk_155_0_0_300_al
theorem zk_155_0_0_300_ok (l : Launch) (X : zx_X) (XL : Nat) (φ : List z_C) (P : List Int → Prop) : zOk l X XL φ P zk_155_0_0_300_o := zOk_C zk_155_0_0_300_c (by decide +kernel) l X XL φ P
/-! run -/
def zk_155_1_0_300_te : zA_T := ([((.ofNat 0), (.ofNat 302), zD0), ((.ofNat 0), (.ofNat 49), zD0), ((.negSucc 2147483647), (.ofNat 2147483647), zD0), ((.ofNat 0), (.ofNat 40), zD0)], (zHT.set 27 (0, 9, 0, [(2, (.ofNat 31)), (2, (.ofNat 32)), (6, (.ofNat 433791696896)), (1, (.ofNat 0))], [(2, (8, (.ofNat 27)))])), [(0, (2, (.ofNat 30))), (1, (1, (.ofNat 1))), (2, (0, (.ofNat 1))), (3, (0, (.ofNat 0))), (4, (1, (.ofNat 2))), (5, (1, (.ofNat 3)))], [], 0, 0)
def zk_155_1_0_300_al : List zAlt := [([((.ofNat 0), (.ofNat 304), none), ((.negSucc 2147483647), (.ofNat 2147483647), none)], [(1, 27, 3), (3, 0, 0)], (zHT.set 27 (0, 9, 0, [(2, (.ofNat 31)), (2, (.ofNat 32)), (6, (.ofNat 433791696896)), (1, (.ofNat 0))], [(2, (8, (.ofNat 27)))])), some (1, (.ofNat 1)))]
def zk_155_1_0_300_h0 : zHd := (0, zk_155_1_0_300_te, [(1, 27, 3), (0, 1, 0), (0, 4, 0), (0, 5, 0)], [], (.ofNat 5), [(.ofNat 0), (.ofNat 0), (.ofNat 0), (.ofNat 0)], [])
def zk_155_1_0_300_hs : List zHd := [zk_155_1_0_300_h0]
def zk_155_1_0_300_or : zO_ := zor (zor zk_155_0_0_100_o (zor zk_155_0_0_300_o (zon))) (zspl 155 2 (zor (zor zk_155_0_0_100_o (zor zk_155_0_0_300_o (zon))) (zspl 155 3 (zor zk_155_0_0_100_o (zor zk_155_0_0_300_o (zon))))))
theorem zk_155_1_0_300_oo (l : Launch) (X : zx_X) (φ : List z_C) (P : List Int → Prop) : zOk l X 2000000 φ P zk_155_1_0_300_or := zOk_or (zOk_or (zk_155_0_0_100_ok l X 2000000 φ P) (zOk_or (zk_155_0_0_300_ok l X 2000000 φ P) (zOk_no l X 2000000 φ P))) (zOk_spl (m0 := 155) (i := 2) (zOk_or (zOk_or (zk_155_0_0_100_ok l X 2000000 φ P) (zOk_or (zk_155_0_0_300_ok l X 2000000 φ P) (zOk_no l X 2000000 φ P))) (zOk_spl (m0 := 155) (i := 3) (zOk_or (zk_155_0_0_100_ok l X 2000000 φ P) (zOk_or (zk_155_0_0_300_ok l X 2000000 φ P) (zOk_no l X 2000000 φ P))))))
theorem zk_155_1_0_300_r0 : zx1 2000000 (zfinC zk_155_1_0_300_al zk_155_1_0_300_h0.2.2.2.1) (zcutH zk_155_1_0_300_hs zk_155_1_0_300_h0 155 6) zk_155_1_0_300_or 6000 155 6 zk_155_1_0_300_h0.1 (zhS zk_155_1_0_300_h0) [] = true := by decide +kernel
theorem zk_155_1_0_300_c : zCon 155 6 zk_155_1_0_300_te [] zk_155_1_0_300_al := zCon_of (n := 6000) (hs := zk_155_1_0_300_hs) (lo := [(1, 27, 3), (0, 1, 0), (0, 4, 0), (0, 5, 0)]) (c := (.ofNat 5)) (ws := [(.ofNat 0), (.ofNat 0), (.ofNat 0), (.ofNat 0)]) (by decide) (by decide +kernel) zk_155_1_0_300_oo (List.mem_cons_self) (zAll_mem ⟨zk_155_1_0_300_r0, trivial⟩)
def zk_155_1_0_300_o : zO_ := zorcC 155 6 zk_155_1_0_300_te [(1, 27, 3), (0, 1, 0), (0, 4, 0), (0, 5, 0)] [] zk_155_1_0_300_al
theorem zk_155_1_0_300_ok (l : Launch) (X : zx_X) (XL : Nat) (φ : List z_C) (P : List Int → Prop) : zOk l X XL φ P zk_155_1_0_300_o := zOk_C zk_155_1_0_300_c (by decide +kernel) l X XL φ P
/-! run -/
def zk_155_2_0_300_te : zA_T := ([((.ofNat 0), (.ofNat 302), zD0), ((.ofNat 0), (.ofNat 49), zD0), ((.negSucc 2147483647), (.ofNat 2147483647), zD0), ((.ofNat 0), (.ofNat 40), zD0)], (zHT.set 27 (0, 9, 0, [(2, (.ofNat 31)), (2, (.ofNat 32)), (6, (.ofNat 433791696896)), (1, (.ofNat 0))], [(2, (8, (.ofNat 27)))])), [(0, (2, (.ofNat 30))), (1, (1, (.ofNat 1))), (2, (0, (.ofNat 2))), (3, (0, (.ofNat 0))), (4, (1, (.ofNat 2))), (5, (1, (.ofNat 3)))], [], 0, 0)
def zk_155_2_0_300_al : List zAlt := [([((.ofNat 0), (.ofNat 303), none), ((.negSucc 2147483647), (.ofNat 2147483647), none)], [(1, 27, 3), (3, 0, 0)], (zHT.set 27 (0, 9, 0, [(2, (.ofNat 31)), (2, (.ofNat 32)), (6, (.ofNat 433791696896)), (1, (.ofNat 0))], [(2, (8, (.ofNat 27)))])), some (1, (.ofNat 1)))]
def zk_155_2_0_300_h0 : zHd := (0, zk_155_2_0_300_te, [(1, 27, 3), (0, 1, 0), (0, 4, 0), (0, 5, 0)], [], (.ofNat 5), [(.ofNat 0), (.ofNat 0), (.ofNat 0), (.ofNat 0)], [])
def zk_155_2_0_300_hs : List zHd := [zk_155_2_0_300_h0]
def zk_155_2_0_300_or : zO_ := zon
theorem zk_155_2_0_300_oo (l : Launch) (X : zx_X) (φ : List z_C) (P : List Int → Prop) : zOk l X 2000000 φ P zk_155_2_0_300_or := zOk_no l X 2000000 φ P
theorem zk_155_2_0_300_r0 : zx1 2000000 (zfinC zk_155_2_0_300_al zk_155_2_0_300_h0.2.2.2.1) (zcutH zk_155_2_0_300_hs zk_155_2_0_300_h0 155 3) zk_155_2_0_300_or 6000 155 3 zk_155_2_0_300_h0.1 (zhS zk_155_2_0_300_h0) [] = true := by decide +kernel
theorem zk_155_2_0_300_c : zCon 155 3 zk_155_2_0_300_te [] zk_155_2_0_300_al := zCon_of (n := 6000) (hs := zk_155_2_0_300_hs) (lo := [(1, 27, 3), (0, 1, 0), (0, 4, 0), (0, 5, 0)]) (c := (.ofNat 5)) (ws := [(.ofNat 0), (.ofNat 0), (.ofNat 0), (.ofNat 0)]) (by decide) (by decide +kernel) zk_155_2_0_300_oo (List.mem_cons_self) (zAll_mem ⟨zk_155_2_0_300_r0, trivial⟩)
def zk_155_2_0_300_o : zO_ := zorcC 155 3 zk_155_2_0_300_te [(1, 27, 3), (0, 1, 0), (0, 4, 0), (0, 5, 0)] [] zk_155_2_0_300_al
theorem zk_155_2_0_300_ok (l : Launch) (X : zx_X) (XL : Nat) (φ : List z_C) (P : List Int → Prop) : zOk l X XL φ P zk_155_2_0_300_o := zOk_C zk_155_2_0_300_c (by decide +kernel) l X XL φ P
/-! run -/
def zk_155_3_0_300_te : zA_T := ([((.ofNat 0), (.ofNat 301), zD0), ((.ofNat 0), (.ofNat 49), zD0), ((.negSucc 2147483647), (.ofNat 2147483647), zD0), ((.ofNat 0), (.ofNat 40), zD0)], (zHT.set 27 (0, 9, 0, [(2, (.ofNat 31)), (2, (.ofNat 32)), (6, (.ofNat 433791696896)), (1, (.ofNat 0))], [(2, (8, (.ofNat 27)))])), [(0, (2, (.ofNat 30))), (1, (1, (.ofNat 1))), (2, (0, (.ofNat 3))), (3, (0, (.ofNat 0))), (4, (1, (.ofNat 2))), (5, (1, (.ofNat 3)))], [], 0, 0)
def zk_155_3_0_300_al : List zAlt := [([((.ofNat 0), (.ofNat 302), none), ((.negSucc 2147483647), (.ofNat 2147483647), none)], [(1, 27, 3), (3, 0, 0)], (zHT.set 27 (0, 9, 0, [(2, (.ofNat 31)), (2, (.ofNat 32)), (6, (.ofNat 433791696896)), (1, (.ofNat 0))], [(2, (8, (.ofNat 27)))])), some (1, (.ofNat 1)))]
def zk_155_3_0_300_h0 : zHd := (0, zk_155_3_0_300_te, [(1, 27, 3), (0, 1, 0), (0, 4, 0), (0, 5, 0)], [], (.ofNat 5), [(.ofNat 0), (.ofNat 0), (.ofNat 0), (.ofNat 0)], [])
def zk_155_3_0_300_hs : List zHd := [zk_155_3_0_300_h0]
def zk_155_3_0_300_or : zO_ := zon
theorem zk_155_3_0_300_oo (l : Launch) (X : zx_X) (φ : List z_C) (P : List Int → Prop) : zOk l X 2000000 φ P zk_155_3_0_300_or := zOk_no l X 2000000 φ P
theorem zk_155_3_0_300_r0 : zx1 2000000 (zfinC zk_155_3_0_300_al zk_155_3_0_300_h0.2.2.2.1) (zcutH zk_155_3_0_300_hs zk_155_3_0_300_h0 155 3) zk_155_3_0_300_or 6000 155 3 zk_155_3_0_300_h0.1 (zhS zk_155_3_0_300_h0) [] = true := by decide +kernel
theorem zk_155_3_0_300_c : zCon 155 3 zk_155_3_0_300_te [] zk_155_3_0_300_al := zCon_of (n := 6000) (hs := zk_155_3_0_300_hs) (lo := [(1, 27, 3), (0, 1, 0), (0, 4, 0), (0, 5, 0)]) (c := (.ofNat 5)) (ws := [(.ofNat 0), (.ofNat 0), (.ofNat 0), (.ofNat 0)]) (by decide) (by decide +kernel) zk_155_3_0_300_oo (List.mem_cons_self) (zAll_mem ⟨zk_155_3_0_300_r0, trivial⟩)
def zk_155_3_0_300_o : zO_ := zorcC 155 3 zk_155_3_0_300_te [(1, 27, 3), (0, 1, 0), (0, 4, 0), (0, 5, 0)] [] zk_155_3_0_300_al
theorem zk_155_3_0_300_ok (l : Launch) (X : zx_X) (XL : Nat) (φ : List z_C) (P : List Int → Prop) : zOk l X XL φ P zk_155_3_0_300_o := zOk_C zk_155_3_0_300_c (by decide +kernel) l X XL φ P
/-! run -/
def zk_155_4_0_300_te : zA_T := ([((.ofNat 0), (.ofNat 301), zD0), ((.ofNat 0), (.ofNat 49), zD0), ((.negSucc 2147483647), (.ofNat 2147483647), zD0), ((.ofNat 0), (.ofNat 40), zD0)], (zHT.set 27 (0, 9, 0, [(2, (.ofNat 31)), (2, (.ofNat 32)), (6, (.ofNat 433791696896)), (1, (.ofNat 0))], [(2, (8, (.ofNat 27)))])), [(0, (2, (.ofNat 30))), (1, (1, (.ofNat 1))), (2, (0, (.ofNat 4))), (3, (0, (.ofNat 0))), (4, (1, (.ofNat 2))), (5, (1, (.ofNat 3)))], [], 0, 0)
def zk_155_4_0_300_al : List zAlt := [([((.ofNat 0), (.ofNat 304), none), ((.negSucc 2147483647), (.ofNat 2147483647), none)], [(1, 27, 3), (3, 0, 0)], (zHT.set 27 (0, 9, 0, [(2, (.ofNat 31)), (2, (.ofNat 32)), (6, (.ofNat 433791696896)), (1, (.ofNat 0))], [(2, (8, (.ofNat 27)))])), some (1, (.ofNat 1)))]
def zk_155_4_0_300_h0 : zHd := (0, zk_155_4_0_300_te, [(1, 27, 3), (0, 1, 0), (0, 4, 0), (0, 5, 0)], [], (.ofNat 5), [(.ofNat 0), (.ofNat 0), (.ofNat 0), (.ofNat 0)], [])
def zk_155_4_0_300_hs : List zHd := [zk_155_4_0_300_h0]
def zk_155_4_0_300_or : zO_ := zor (zor zk_155_0_0_100_o (zor zk_155_0_0_300_o (zon))) (zspl 155 2 (zor (zor zk_155_0_0_100_o (zor zk_155_0_0_300_o (zon))) (zspl 155 3 (zor zk_155_0_0_100_o (zor zk_155_0_0_300_o (zon))))))
theorem zk_155_4_0_300_oo (l : Launch) (X : zx_X) (φ : List z_C) (P : List Int → Prop) : zOk l X 2000000 φ P zk_155_4_0_300_or := zOk_or (zOk_or (zk_155_0_0_100_ok l X 2000000 φ P) (zOk_or (zk_155_0_0_300_ok l X 2000000 φ P) (zOk_no l X 2000000 φ P))) (zOk_spl (m0 := 155) (i := 2) (zOk_or (zOk_or (zk_155_0_0_100_ok l X 2000000 φ P) (zOk_or (zk_155_0_0_300_ok l X 2000000 φ P) (zOk_no l X 2000000 φ P))) (zOk_spl (m0 := 155) (i := 3) (zOk_or (zk_155_0_0_100_ok l X 2000000 φ P) (zOk_or (zk_155_0_0_300_ok l X 2000000 φ P) (zOk_no l X 2000000 φ P))))))
theorem zk_155_4_0_300_r0 : zx1 2000000 (zfinC zk_155_4_0_300_al zk_155_4_0_300_h0.2.2.2.1) (zcutH zk_155_4_0_300_hs zk_155_4_0_300_h0 155 6) zk_155_4_0_300_or 6000 155 6 zk_155_4_0_300_h0.1 (zhS zk_155_4_0_300_h0) [] = true := by decide +kernel
theorem zk_155_4_0_300_c : zCon 155 6 zk_155_4_0_300_te [] zk_155_4_0_300_al := zCon_of (n := 6000) (hs := zk_155_4_0_300_hs) (lo := [(1, 27, 3), (0, 1, 0), (0, 4, 0), (0, 5, 0)]) (c := (.ofNat 5)) (ws := [(.ofNat 0), (.ofNat 0), (.ofNat 0), (.ofNat 0)]) (by decide) (by decide +kernel) zk_155_4_0_300_oo (List.mem_cons_self) (zAll_mem ⟨zk_155_4_0_300_r0, trivial⟩)
def zk_155_4_0_300_o : zO_ := zorcC 155 6 zk_155_4_0_300_te [(1, 27, 3), (0, 1, 0), (0, 4, 0), (0, 5, 0)] [] zk_155_4_0_300_al
theorem zk_155_4_0_300_ok (l : Launch) (X : zx_X) (XL : Nat) (φ : List z_C) (P : List Int → Prop) : zOk l X XL φ P zk_155_4_0_300_o := zOk_C zk_155_4_0_300_c (by decide +kernel) l X XL φ P
/-! run -/
def zk_155_5_0_300_te : zA_T := ([((.ofNat 0), (.ofNat 300), zD0), ((.ofNat 0), (.ofNat 49), zD0), ((.negSucc 2147483647), (.ofNat 2147483647), zD0), ((.ofNat 0), (.ofNat 40), zD0)], (zHT.set 27 (0, 9, 0, [(2, (.ofNat 31)), (2, (.ofNat 32)), (6, (.ofNat 433791696896)), (1, (.ofNat 0))], [(2, (8, (.ofNat 27)))])), [(0, (2, (.ofNat 30))), (1, (1, (.ofNat 1))), (2, (0, (.ofNat 5))), (3, (0, (.ofNat 0))), (4, (1, (.ofNat 2))), (5, (1, (.ofNat 3)))], [], 0, 0)
def zk_155_5_0_300_al : List zAlt := [([((.ofNat 0), (.ofNat 301), none), ((.negSucc 2147483647), (.ofNat 2147483647), none)], [(1, 27, 3), (3, 0, 0)], (zHT.set 27 (0, 9, 0, [(2, (.ofNat 31)), (2, (.ofNat 32)), (6, (.ofNat 433791696896)), (1, (.ofNat 0))], [(2, (8, (.ofNat 27)))])), some (1, (.ofNat 1)))]
def zk_155_5_0_300_h0 : zHd := (0, zk_155_5_0_300_te, [(1, 27, 3), (0, 1, 0), (0, 4, 0), (0, 5, 0)], [], (.ofNat 5), [(.ofNat 0), (.ofNat 0), (.ofNat 0), (.ofNat 0)], [])
def zk_155_5_0_300_hs : List zHd := [zk_155_5_0_300_h0]
def zk_155_5_0_300_or : zO_ := zon
theorem zk_155_5_0_300_oo (l : Launch) (X : zx_X) (φ : List z_C) (P : List Int → Prop) : zOk l X 2000000 φ P zk_155_5_0_300_or := zOk_no l X 2000000 φ P
theorem zk_155_5_0_300_r0 : zx1 2000000 (zfinC zk_155_5_0_300_al zk_155_5_0_300_h0.2.2.2.1) (zcutH zk_155_5_0_300_hs zk_155_5_0_300_h0 155 3) zk_155_5_0_300_or 6000 155 3 zk_155_5_0_300_h0.1 (zhS zk_155_5_0_300_h0) [] = true := by decide +kernel
theorem zk_155_5_0_300_c : zCon 155 3 zk_155_5_0_300_te [] zk_155_5_0_300_al := zCon_of (n := 6000) (hs := zk_155_5_0_300_hs) (lo := [(1, 27, 3), (0, 1, 0), (0, 4, 0), (0, 5, 0)]) (c := (.ofNat 5)) (ws := [(.ofNat 0), (.ofNat 0), (.ofNat 0), (.ofNat 0)]) (by decide) (by decide +kernel) zk_155_5_0_300_oo (List.mem_cons_self) (zAll_mem ⟨zk_155_5_0_300_r0, trivial⟩)
def zk_155_5_0_300_o : zO_ := zorcC 155 3 zk_155_5_0_300_te [(1, 27, 3), (0, 1, 0), (0, 4, 0), (0, 5, 0)] [] zk_155_5_0_300_al
theorem zk_155_5_0_300_ok (l : Launch) (X : zx_X) (XL : Nat) (φ : List z_C) (P : List Int → Prop) : zOk l X XL φ P zk_155_5_0_300_o := zOk_C zk_155_5_0_300_c (by decide +kernel) l X XL φ P
/-! run -/
def zk_155_6_0_300_te : zA_T := ([((.ofNat 0), (.ofNat 302), zD0), ((.ofNat 0), (.ofNat 49), zD0), ((.negSucc 2147483647), (.ofNat 2147483647), zD0), ((.ofNat 0), (.ofNat 40), zD0)], (zHT.set 27 (0, 9, 0, [(2, (.ofNat 31)), (2, (.ofNat 32)), (6, (.ofNat 433791696896)), (1, (.ofNat 0))], [(2, (8, (.ofNat 27)))])), [(0, (2, (.ofNat 30))), (1, (1, (.ofNat 1))), (2, (0, (.ofNat 6))), (3, (0, (.ofNat 0))), (4, (1, (.ofNat 2))), (5, (1, (.ofNat 3)))], [], 0, 0)
def zk_155_6_0_300_al : List zAlt := [([((.ofNat 0), (.ofNat 304), none), ((.negSucc 2147483647), (.ofNat 2147483647), none)], [(1, 27, 3), (3, 0, 0)], (zHT.set 27 (0, 9, 0, [(2, (.ofNat 31)), (2, (.ofNat 32)), (6, (.ofNat 433791696896)), (1, (.ofNat 0))], [(2, (8, (.ofNat 27)))])), some (1, (.ofNat 1)))]
def zk_155_6_0_300_h0 : zHd := (0, zk_155_6_0_300_te, [(1, 27, 3), (0, 1, 0), (0, 4, 0), (0, 5, 0)], [], (.ofNat 5), [(.ofNat 0), (.ofNat 0), (.ofNat 0), (.ofNat 0)], [])
def zk_155_6_0_300_hs : List zHd := [zk_155_6_0_300_h0]
def zk_155_6_0_300_or : zO_ := zor (zor zk_155_0_0_100_o (zor zk_155_0_0_300_o (zon))) (zspl 155 2 (zor (zor zk_155_0_0_100_o (zor zk_155_0_0_300_o (zon))) (zspl 155 3 (zor zk_155_0_0_100_o (zor zk_155_0_0_300_o (zon))))))
theorem zk_155_6_0_300_oo (l : Launch) (X : zx_X) (φ : List z_C) (P : List Int → Prop) : zOk l X 2000000 φ P zk_155_6_0_300_or := zOk_or (zOk_or (zk_155_0_0_100_ok l X 2000000 φ P) (zOk_or (zk_155_0_0_300_ok l X 2000000 φ P) (zOk_no l X 2000000 φ P))) (zOk_spl (m0 := 155) (i := 2) (zOk_or (zOk_or (zk_155_0_0_100_ok l X 2000000 φ P) (zOk_or (zk_155_0_0_300_ok l X 2000000 φ P) (zOk_no l X 2000000 φ P))) (zOk_spl (m0 := 155) (i := 3) (zOk_or (zk_155_0_0_100_ok l X 2000000 φ P) (zOk_or (zk_155_0_0_300_ok l X 2000000 φ P) (zOk_no l X 2000000 φ P))))))
theorem zk_155_6_0_300_r0 : zx1 2000000 (zfinC zk_155_6_0_300_al zk_155_6_0_300_h0.2.2.2.1) (zcutH zk_155_6_0_300_hs zk_155_6_0_300_h0 155 6) zk_155_6_0_300_or 6000 155 6 zk_155_6_0_300_h0.1 (zhS zk_155_6_0_300_h0) [] = true := by decide +kernel
theorem zk_155_6_0_300_c : zCon 155 6 zk_155_6_0_300_te [] zk_155_6_0_300_al := zCon_of (n := 6000) (hs := zk_155_6_0_300_hs) (lo := [(1, 27, 3), (0, 1, 0), (0, 4, 0), (0, 5, 0)]) (c := (.ofNat 5)) (ws := [(.ofNat 0), (.ofNat 0), (.ofNat 0), (.ofNat 0)]) (by decide) (by decide +kernel) zk_155_6_0_300_oo (List.mem_cons_self) (zAll_mem ⟨zk_155_6_0_300_r0, trivial⟩)
def zk_155_6_0_300_o : zO_ := zorcC 155 6 zk_155_6_0_300_te [(1, 27, 3), (0, 1, 0), (0, 4, 0), (0, 5, 0)] [] zk_155_6_0_300_al
theorem zk_155_6_0_300_ok (l : Launch) (X : zx_X) (XL : Nat) (φ : List z_C) (P : List Int → Prop) : zOk l X XL φ P zk_155_6_0_300_o := zOk_C zk_155_6_0_300_c (by decide +kernel) l X XL φ P
/-! run -/
def zk_155_7_0_300_te : zA_T := ([((.ofNat 0), (.ofNat 300), zD0), ((.ofNat 0), (.ofNat 49), zD0), ((.negSucc 2147483647), (.ofNat 2147483647), zD0), ((.ofNat 0), (.ofNat 40), zD0)], (zHT.set 27 (0, 9, 0, [(2, (.ofNat 31)), (2, (.ofNat 32)), (6, (.ofNat 433791696896)), (1, (.ofNat 0))], [(2, (8, (.ofNat 27)))])), [(0, (2, (.ofNat 30))), (1, (1, (.ofNat 1))), (2, (0, (.ofNat 7))), (3, (0, (.ofNat 0))), (4, (1, (.ofNat 2))), (5, (1, (.ofNat 3)))], [], 0, 0)
def zk_155_7_0_300_al : List zAlt := [([((.ofNat 0), (.ofNat 304), none), ((.negSucc 2147483647), (.ofNat 2147483647), none)], [(1, 27, 3), (3, 0, 0)], (zHT.set 27 (0, 9, 0, [(2, (.ofNat 31)), (2, (.ofNat 32)), (6, (.ofNat 433791696896)), (1, (.ofNat 0))], [(2, (8, (.ofNat 27)))])), some (1, (.ofNat 1)))]
def zk_155_7_0_300_h0 : zHd := (0, zk_155_7_0_300_te, [(1, 27, 3), (0, 1, 0), (0, 4, 0), (0, 5, 0)], [], (.ofNat 5), [(.ofNat 0), (.ofNat 0), (.ofNat 0), (.ofNat 0)], [])
def zk_155_7_0_300_hs : List zHd := [zk_155_7_0_300_h0]
def zk_155_7_0_300_or : zO_ := zor (zor zk_155_0_0_100_o (zor zk_155_0_0_300_o (zon))) (zspl 155 2 (zor (zor zk_155_0_0_100_o (zor zk_155_0_0_300_o (zon))) (zspl 155 3 (zor zk_155_0_0_100_o (zor zk_155_0_0_300_o (zon))))))
theorem zk_155_7_0_300_oo (l : Launch) (X : zx_X) (φ : List z_C) (P : List Int → Prop) : zOk l X 2000000 φ P zk_155_7_0_300_or := zOk_or (zOk_or (zk_155_0_0_100_ok l X 2000000 φ P) (zOk_or (zk_155_0_0_300_ok l X 2000000 φ P) (zOk_no l X 2000000 φ P))) (zOk_spl (m0 := 155) (i := 2) (zOk_or (zOk_or (zk_155_0_0_100_ok l X 2000000 φ P) (zOk_or (zk_155_0_0_300_ok l X 2000000 φ P) (zOk_no l X 2000000 φ P))) (zOk_spl (m0 := 155) (i := 3) (zOk_or (zk_155_0_0_100_ok l X 2000000 φ P) (zOk_or (zk_155_0_0_300_ok l X 2000000 φ P) (zOk_no l X 2000000 φ P))))))
theorem zk_155_7_0_300_r0 : zx1 2000000 (zfinC zk_155_7_0_300_al zk_155_7_0_300_h0.2.2.2.1) (zcutH zk_155_7_0_300_hs zk_155_7_0_300_h0 155 6) zk_155_7_0_300_or 6000 155 6 zk_155_7_0_300_h0.1 (zhS zk_155_7_0_300_h0) [] = true := by decide +kernel
theorem zk_155_7_0_300_c : zCon 155 6 zk_155_7_0_300_te [] zk_155_7_0_300_al := zCon_of (n := 6000) (hs := zk_155_7_0_300_hs) (lo := [(1, 27, 3), (0, 1, 0), (0, 4, 0), (0, 5, 0)]) (c := (.ofNat 5)) (ws := [(.ofNat 0), (.ofNat 0), (.ofNat 0), (.ofNat 0)]) (by decide) (by decide +kernel) zk_155_7_0_300_oo (List.mem_cons_self) (zAll_mem ⟨zk_155_7_0_300_r0, trivial⟩)
def zk_155_7_0_300_o : zO_ := zorcC 155 6 zk_155_7_0_300_te [(1, 27, 3), (0, 1, 0), (0, 4, 0), (0, 5, 0)] [] zk_155_7_0_300_al
theorem zk_155_7_0_300_ok (l : Launch) (X : zx_X) (XL : Nat) (φ : List z_C) (P : List Int → Prop) : zOk l X XL φ P zk_155_7_0_300_o := zOk_C zk_155_7_0_300_c (by decide +kernel) l X XL φ P
/-! run -/
def zk_155_0_2_90_te : zA_T := ([((.ofNat 0), (.ofNat 93), zD0), ((.ofNat 0), (.ofNat 49), zD0), ((.negSucc 2147483647), (.ofNat 2147483647), zD0), ((.ofNat 0), (.ofNat 40), zD0)], (zHT.set 27 (0, 9, 0, [(2, (.ofNat 31)), (2, (.ofNat 32)), (6, (.ofNat 433791696896)), (1, (.ofNat 0))], [(2, (8, (.ofNat 27)))])), [(0, (2, (.ofNat 30))), (1, (1, (.ofNat 1))), (2, (0, (.ofNat 0))), (3, (0, (.ofNat 2))), (4, (1, (.ofNat 2))), (5, (1, (.ofNat 3)))], [], 0, 0)
def zk_155_0_2_90_al : List zAlt := [([((.ofNat 0), (.ofNat 94), none), ((.negSucc 2147483647), (.ofNat 2147483647), none)], [(1, 27, 3), (3, 0, 0)], (zHT.set 27 (0, 9, 0, [(2, (.ofNat 31)), (2, (.ofNat 32)), (6, (.ofNat 433791696896)), (1, (.ofNat 0))], [(2, (8, (.ofNat 27)))])), some (1, (.ofNat 1)))]
def zk_155_0_2_90_h0 : zHd := (0, zk_155_0_2_90_te, [(1, 27, 3), (0, 1, 0), (0, 4, 0), (0, 5, 0)], [], (.ofNat 5), [(.ofNat 0), (.ofNat 0), (.ofNat 0), (.ofNat 0)], [])
def zk_155_0_2_90_hs : List zHd := [zk_155_0_2_90_h0]
def zk_155_0_2_90_or : zO_ := zon
theorem zk_155_0_2_90_oo (l : Launch) (X : zx_X) (φ : List z_C) (P : List Int → Prop) : zOk l X 2000000 φ P zk_155_0_2_90_or := zOk_no l X 2000000 φ P
theorem zk_155_0_2_90_r0 : zx1 2000000 (zfinC zk_155_0_2_90_al zk_155_0_2_90_h0.2.2.2.1) (zcutH zk_155_0_2_90_hs zk_155_0_2_90_h0 155 3) zk_155_0_2_90_or 6000 155 3 zk_155_0_2_90_h0.1 (zhS zk_155_0_2_90_h0) [] = true := by decide +kernel
theorem zk_155_0_2_90_c : zCon 155 3 zk_155_0_2_90_te [] zk_155_0_2_90_al := zCon_of (n := 6000) (hs := zk_155_0_2_90_hs) (lo := [(1, 27, 3), (0, 1, 0), (0, 4, 0), (0, 5, 0)]) (c := (.ofNat 5)) (ws := [(.ofNat 0), (.ofNat 0), (.ofNat 0), (.ofNat 0)]) (by decide) (by decide +kernel) zk_155_0_2_90_oo (List.mem_cons_self) (zAll_mem ⟨zk_155_0_2_90_r0, trivial⟩)
def zk_155_0_2_90_o : zO_ := zorcC 155 3 zk_155_0_2_90_te [(1, 27, 3), (0, 1, 0), (0, 4, 0), (0, 5, 0)] [] zk_155_0_2_90_al
theorem zk_155_0_2_90_ok (l : Launch) (X : zx_X) (XL : Nat) (φ : List z_C) (P : List Int → Prop) : zOk l X XL φ P zk_155_0_2_90_o := zOk_C zk_155_0_2_90_c (by decide +kernel) l X XL φ P
/-! run -/
def zk_155_1_2_90_te : zA_T := ([((.ofNat 0), (.ofNat 92), zD0), ((.ofNat 0), (.ofNat 49), zD0), ((.negSucc 2147483647), (.ofNat 2147483647), zD0), ((.ofNat 0), (.ofNat 40), zD0)], (zHT.set 27 (0, 9, 0, [(2, (.ofNat 31)), (2, (.ofNat 32)), (6, (.ofNat 433791696896)), (1, (.ofNat 0))], [(2, (8, (.ofNat 27)))])), [(0, (2, (.ofNat 30))), (1, (1, (.ofNat 1))), (2, (0, (.ofNat 1))), (3, (0, (.ofNat 2))), (4, (1, (.ofNat 2))), (5, (1, (.ofNat 3)))], [], 0, 0)
def zk_155_1_2_90_al : List zAlt := [([((.ofNat 0), (.ofNat 93), none), ((.negSucc 2147483647), (.ofNat 2147483647), none)], [(1, 27, 3), (3, 0, 0)], (zHT.set 27 (0, 9, 0, [(2, (.ofNat 31)), (2, (.ofNat 32)), (6, (.ofNat 433791696896)), (1, (.ofNat 0))], [(2, (8, (.ofNat 27)))])), some (1, (.ofNat 1)))]
def zk_155_1_2_90_h0 : zHd := (0, zk_155_1_2_90_te, [(1, 27, 3), (0, 1, 0), (0, 4, 0), (0, 5, 0)], [], (.ofNat 5), [(.ofNat 0), (.ofNat 0), (.ofNat 0), (.ofNat 0)], [])
def zk_155_1_2_90_hs : List zHd := [zk_155_1_2_90_h0]
def zk_155_1_2_90_or : zO_ := zon
theorem zk_155_1_2_90_oo (l : Launch) (X : zx_X) (φ : List z_C) (P : List Int → Prop) : zOk l X 2000000 φ P zk_155_1_2_90_or := zOk_no l X 2000000 φ P
theorem zk_155_1_2_90_r0 : zx1 2000000 (zfinC zk_155_1_2_90_al zk_155_1_2_90_h0.2.2.2.1) (zcutH zk_155_1_2_90_hs zk_155_1_2_90_h0 155 3) zk_155_1_2_90_or 6000 155 3 zk_155_1_2_90_h0.1 (zhS zk_155_1_2_90_h0) [] = true := by decide +kernel
theorem zk_155_1_2_90_c : zCon 155 3 zk_155_1_2_90_te [] zk_155_1_2_90_al := zCon_of (n := 6000) (hs := zk_155_1_2_90_hs) (lo := [(1, 27, 3), (0, 1, 0), (0, 4, 0), (0, 5, 0)]) (c := (.ofNat 5)) (ws := [(.ofNat 0), (.ofNat 0), (.ofNat 0), (.ofNat 0)]) (by decide) (by decide +kernel) zk_155_1_2_90_oo (List.mem_cons_self) (zAll_mem ⟨zk_155_1_2_90_r0, trivial⟩)
def zk_155_1_2_90_o : zO_ := zorcC 155 3 zk_155_1_2_90_te [(1, 27, 3), (0, 1, 0), (0, 4, 0), (0, 5, 0)] [] zk_155_1_2_90_al
theorem zk_155_1_2_90_ok (l : Launch) (X : zx_X) (XL : Nat) (φ : List z_C) (P : List Int → Prop) : zOk l X XL φ P zk_155_1_2_90_o := zOk_C zk_155_1_2_90_c (by decide +kernel) l X XL φ P
