/-! PART 20.07: what methods do, believers, byTurns, cost, firstFalse, fitsView, helps, lines, matters, mayStrike, playFrom, win. -/
/-! cost -/
def zk_217_te : zA_T := ([((.negSucc 2147483647), (.ofNat 2147483647), zD0), ((.negSucc 2147483647), (.ofNat 2147483647), zD0)], zHT, [(0, (2, (.ofNat 46))), (1, (1, (.ofNat 0))), (2, (1, (.ofNat 1)))], [], 0, 0)
def zk_217_al : List zAlt := [([((.negSucc 2147483647), (.ofNat 2147483647), none)], [(3, 0, 0)], zHT, some (1, (.ofNat 0)))]
def zk_217_h0 : zHd := (0, zk_217_te, [(0, 1, 0), (0, 2, 0)], [], (.ofNat 55), [(.ofNat 0), (.ofNat 0)], [])
def zk_217_h1 : zHd := (48, ([((.ofNat 0), (.ofNat 23), zD0), ((.ofNat 0), (.ofNat 1), zD0), ((.negSucc 1), (.ofNat 23), zD0), ((.negSucc 2147483647), (.ofNat 2147483647), zD0), ((.ofNat 0), (.ofNat 24), zD0)], zHT, [(0, (2, (.ofNat 46))), (1, (1, (.ofNat 0))), (2, (1, (.ofNat 1))), (3, (1, (.ofNat 2))), (4, (1, (.ofNat 3))), (5, (1, (.ofNat 4)))], [], 0, 0), [(0, 1, 0), (0, 2, 0), (0, 3, 0), (0, 4, 0), (0, 5, 0)], [], (.ofNat 49), [(.ofNat 0), (.ofNat 0), (.ofNat 0), (.ofNat 0), (.ofNat 2)], [])
def zk_217_hs : List zHd := [zk_217_h0, zk_217_h1]
def zk_217_or : zO_ := zor zk_203_o (zor zk_211_o (zon))
theorem zk_217_oo (l : Launch) (X : zx_X) (φ : List z_C) (P : List Int → Prop) : zOk l X 2000000 φ P zk_217_or := zOk_or (zk_203_ok l X 2000000 φ P) (zOk_or (zk_211_ok l X 2000000 φ P) (zOk_no l X 2000000 φ P))
theorem zk_217_r0 : zx1 2000000 (zfinC zk_217_al zk_217_h0.2.2.2.1) (zcutH zk_217_hs zk_217_h0 217 97) zk_217_or 6000 217 97 zk_217_h0.1 (zhS zk_217_h0) [] = true := by decide +kernel
theorem zk_217_r1 : zx1 2000000 (zfinC zk_217_al zk_217_h1.2.2.2.1) (zcutH zk_217_hs zk_217_h1 217 97) zk_217_or 6000 217 97 zk_217_h1.1 (zhS zk_217_h1) [] = true := by decide +kernel
theorem zk_217_c : zCon 217 97 zk_217_te [] zk_217_al := zCon_of (n := 6000) (hs := zk_217_hs) (lo := [(0, 1, 0), (0, 2, 0)]) (c := (.ofNat 55)) (ws := [(.ofNat 0), (.ofNat 0)]) (by decide) (by decide +kernel) zk_217_oo (List.mem_cons_self) (zAll_mem ⟨zk_217_r0, zk_217_r1, trivial⟩)
def zk_217_o : zO_ := zorcC 217 97 zk_217_te [(0, 1, 0), (0, 2, 0)] [] zk_217_al
theorem zk_217_ok (l : Launch) (X : zx_X) (XL : Nat) (φ : List z_C) (P : List Int → Prop) : zOk l X XL φ P zk_217_o := zOk_C zk_217_c (by decide +kernel) l X XL φ P
/-! helps -/
def zk_218_te : zA_T := ([((.negSucc 2147483647), (.ofNat 2147483647), zD0)], zHT, [(0, (2, (.ofNat 46))), (1, (1, (.ofNat 0)))], [], 0, 0)
def zk_218_al : List zAlt := [([((.negSucc 2147483647), (.ofNat 2147483647), none)], [(3, 0, 0)], zHT, some (1, (.ofNat 0)))]
def zk_218_h0 : zHd := (0, zk_218_te, [(0, 1, 0)], [], (.ofNat 55), [(.ofNat 0)], [])
def zk_218_h1 : zHd := (31, ([((.ofNat 0), (.ofNat 1), zD0), ((.negSucc 1), (.ofNat 23), zD0), ((.negSucc 2147483647), (.ofNat 2147483647), zD0), ((.ofNat 0), (.ofNat 24), zD0)], zHT, [(0, (2, (.ofNat 46))), (1, (1, (.ofNat 0))), (2, (1, (.ofNat 1))), (3, (1, (.ofNat 2))), (4, (1, (.ofNat 3)))], [], 0, 0), [(0, 1, 0), (0, 2, 0), (0, 3, 0), (0, 4, 0)], [], (.ofNat 49), [(.ofNat 0), (.ofNat 0), (.ofNat 0), (.ofNat 2)], [])
def zk_218_hs : List zHd := [zk_218_h0, zk_218_h1]
def zk_218_or : zO_ := zor zk_209_o (zor zk_203_o (zor zk_212_o (zor zk_211_o (zon))))
theorem zk_218_oo (l : Launch) (X : zx_X) (φ : List z_C) (P : List Int → Prop) : zOk l X 2000000 φ P zk_218_or := zOk_or (zk_209_ok l X 2000000 φ P) (zOk_or (zk_203_ok l X 2000000 φ P) (zOk_or (zk_212_ok l X 2000000 φ P) (zOk_or (zk_211_ok l X 2000000 φ P) (zOk_no l X 2000000 φ P))))
theorem zk_218_r0 : zx1 2000000 (zfinC zk_218_al zk_218_h0.2.2.2.1) (zcutH zk_218_hs zk_218_h0 218 97) zk_218_or 6000 218 97 zk_218_h0.1 (zhS zk_218_h0) [] = true := by decide +kernel
theorem zk_218_r1 : zx1 2000000 (zfinC zk_218_al zk_218_h1.2.2.2.1) (zcutH zk_218_hs zk_218_h1 218 97) zk_218_or 6000 218 97 zk_218_h1.1 (zhS zk_218_h1) [] = true := by decide +kernel
theorem zk_218_c : zCon 218 97 zk_218_te [] zk_218_al := zCon_of (n := 6000) (hs := zk_218_hs) (lo := [(0, 1, 0)]) (c := (.ofNat 55)) (ws := [(.ofNat 0)]) (by decide) (by decide +kernel) zk_218_oo (List.mem_cons_self) (zAll_mem ⟨zk_218_r0, zk_218_r1, trivial⟩)
def zk_218_o : zO_ := zorcC 218 97 zk_218_te [(0, 1, 0)] [] zk_218_al
theorem zk_218_ok (l : Launch) (X : zx_X) (XL : Nat) (φ : List z_C) (P : List Int → Prop) : zOk l X XL φ P zk_218_o := zOk_C zk_218_c (by decide +kernel) l X XL φ P
/-! mayStrike -/
def zk_221_te : zA_T := ([((.ofNat 0), (.ofNat 23), zD0), ((.negSucc 2147483647), (.ofNat 2147483647), zD0)], zHT, [(0, (2, (.ofNat 46))), (1, (1, (.ofNat 0))), (2, (1, (.ofNat 1)))], [], 0, 0)
def zk_221_al : List zAlt := [([((.ofNat 0), (.ofNat 1), none)], [(3, 0, 0)], zHT, some (1, (.ofNat 0)))]
def zk_221_h0 : zHd := (0, zk_221_te, [(0, 1, 0), (0, 2, 0)], [], (.ofNat 23), [(.ofNat 0), (.ofNat 0)], [])
def zk_221_h1 : zHd := (8, ([((.ofNat 0), (.ofNat 23), zD0), ((.negSucc 2147483647), (.ofNat 2147483647), zD0), ((.negSucc 2147483647), (.ofNat 2147483647), zD0), ((.negSucc 2147483647), (.ofNat 2147483647), zD0), ((.ofNat 0), (.ofNat 8), zD0)], zHT, [(0, (2, (.ofNat 46))), (1, (1, (.ofNat 0))), (2, (1, (.ofNat 1))), (3, (1, (.ofNat 2))), (4, (1, (.ofNat 3))), (5, (1, (.ofNat 4)))], [], 0, 0), [(0, 1, 0), (0, 2, 0), (0, 3, 0), (0, 4, 0), (0, 5, 0)], [], (.ofNat 17), [(.ofNat 0), (.ofNat 0), (.ofNat 0), (.ofNat 0), (.ofNat 2)], [])
def zk_221_hs : List zHd := [zk_221_h0, zk_221_h1]
def zk_221_or : zO_ := zon
theorem zk_221_oo (l : Launch) (X : zx_X) (φ : List z_C) (P : List Int → Prop) : zOk l X 2000000 φ P zk_221_or := zOk_no l X 2000000 φ P
theorem zk_221_r0 : zx1 2000000 (zfinC zk_221_al zk_221_h0.2.2.2.1) (zcutH zk_221_hs zk_221_h0 221 5) zk_221_or 6000 221 5 zk_221_h0.1 (zhS zk_221_h0) [] = true := by decide +kernel
theorem zk_221_r1 : zx1 2000000 (zfinC zk_221_al zk_221_h1.2.2.2.1) (zcutH zk_221_hs zk_221_h1 221 5) zk_221_or 6000 221 5 zk_221_h1.1 (zhS zk_221_h1) [] = true := by decide +kernel
theorem zk_221_c : zCon 221 5 zk_221_te [] zk_221_al := zCon_of (n := 6000) (hs := zk_221_hs) (lo := [(0, 1, 0), (0, 2, 0)]) (c := (.ofNat 23)) (ws := [(.ofNat 0), (.ofNat 0)]) (by decide) (by decide +kernel) zk_221_oo (List.mem_cons_self) (zAll_mem ⟨zk_221_r0, zk_221_r1, trivial⟩)
def zk_221_o : zO_ := zorcC 221 5 zk_221_te [(0, 1, 0), (0, 2, 0)] [] zk_221_al
theorem zk_221_ok (l : Launch) (X : zx_X) (XL : Nat) (φ : List z_C) (P : List Int → Prop) : zOk l X XL φ P zk_221_o := zOk_C zk_221_c (by decide +kernel) l X XL φ P
/-! believers -/
def zk_223_te : zA_T := ([((.ofNat 0), (.ofNat 23), zD0)], zHT, [(0, (2, (.ofNat 46))), (1, (1, (.ofNat 0)))], [], 0, 0)
def zk_223_al : List zAlt := [([((.ofNat 0), (.ofNat 511), none)], [(3, 0, 0)], zHT, some (1, (.ofNat 0)))]
def zk_223_h0 : zHd := (0, zk_223_te, [(0, 1, 0)], [], (.ofNat 23), [(.ofNat 0)], [])
def zk_223_h1 : zHd := (4, ([((.ofNat 0), (.ofNat 23), zD0), ((.ofNat 0), (.ofNat 511), zD0), ((.ofNat 0), (.ofNat 8), zD0)], zHT, [(0, (2, (.ofNat 46))), (1, (1, (.ofNat 0))), (2, (1, (.ofNat 1))), (3, (1, (.ofNat 2)))], [], 0, 0), [(0, 1, 0), (0, 2, 0), (0, 3, 0)], [], (.ofNat 17), [(.ofNat 0), (.ofNat 0), (.ofNat 2)], [])
def zk_223_hs : List zHd := [zk_223_h0, zk_223_h1]
def zk_223_or : zO_ := zon
theorem zk_223_oo (l : Launch) (X : zx_X) (φ : List z_C) (P : List Int → Prop) : zOk l X 2000000 φ P zk_223_or := zOk_no l X 2000000 φ P
theorem zk_223_r0 : zx1 2000000 (zfinC zk_223_al zk_223_h0.2.2.2.1) (zcutH zk_223_hs zk_223_h0 223 5) zk_223_or 6000 223 5 zk_223_h0.1 (zhS zk_223_h0) [] = true := by decide +kernel
theorem zk_223_r1 : zx1 2000000 (zfinC zk_223_al zk_223_h1.2.2.2.1) (zcutH zk_223_hs zk_223_h1 223 5) zk_223_or 6000 223 5 zk_223_h1.1 (zhS zk_223_h1) [] = true := by decide +kernel
theorem zk_223_c : zCon 223 5 zk_223_te [] zk_223_al := zCon_of (n := 6000) (hs := zk_223_hs) (lo := [(0, 1, 0)]) (c := (.ofNat 23)) (ws := [(.ofNat 0)]) (by decide) (by decide +kernel) zk_223_oo (List.mem_cons_self) (zAll_mem ⟨zk_223_r0, zk_223_r1, trivial⟩)
def zk_223_o : zO_ := zorcC 223 5 zk_223_te [(0, 1, 0)] [] zk_223_al
theorem zk_223_ok (l : Launch) (X : zx_X) (XL : Nat) (φ : List z_C) (P : List Int → Prop) : zOk l X XL φ P zk_223_o := zOk_C zk_223_c (by decide +kernel) l X XL φ P
/-! lines -/
def zk_220_te : zA_T := ([((.negSucc 2147483647), (.ofNat 2147483647), zD0)], zHT, [(0, (2, (.ofNat 46))), (1, (1, (.ofNat 0)))], [], 0, 0)
def zk_220_al : List zAlt := [([((.negSucc 0), (.ofNat 16777215), none)], [(3, 0, 0)], zHT, some (1, (.ofNat 0)))]
def zk_220_h0 : zHd := (0, zk_220_te, [(0, 1, 0)], [], (.ofNat 55), [(.ofNat 0)], [])
def zk_220_h1 : zHd := (18, ([((.ofNat 0), (.ofNat 2), zD0), ((.ofNat 0), (.ofNat 16777215), zD0), ((.ofNat 0), (.ofNat 24), zD0)], zHT, [(0, (2, (.ofNat 46))), (1, (1, (.ofNat 0))), (2, (1, (.ofNat 1))), (3, (1, (.ofNat 2)))], [], 0, 0), [(0, 1, 0), (0, 2, 0), (0, 3, 0)], [], (.ofNat 49), [(.ofNat 0), (.ofNat 0), (.ofNat 2)], [])
def zk_220_hs : List zHd := [zk_220_h0, zk_220_h1]
def zk_220_or : zO_ := zor zk_221_o (zor zk_223_o (zon))
theorem zk_220_oo (l : Launch) (X : zx_X) (φ : List z_C) (P : List Int → Prop) : zOk l X 2000000 φ P zk_220_or := zOk_or (zk_221_ok l X 2000000 φ P) (zOk_or (zk_223_ok l X 2000000 φ P) (zOk_no l X 2000000 φ P))
theorem zk_220_r0 : zx1 2000000 (zfinC zk_220_al zk_220_h0.2.2.2.1) (zcutH zk_220_hs zk_220_h0 220 7) zk_220_or 6000 220 7 zk_220_h0.1 (zhS zk_220_h0) [] = true := by decide +kernel
theorem zk_220_r1 : zx1 2000000 (zfinC zk_220_al zk_220_h1.2.2.2.1) (zcutH zk_220_hs zk_220_h1 220 7) zk_220_or 6000 220 7 zk_220_h1.1 (zhS zk_220_h1) [] = true := by decide +kernel
theorem zk_220_c : zCon 220 7 zk_220_te [] zk_220_al := zCon_of (n := 6000) (hs := zk_220_hs) (lo := [(0, 1, 0)]) (c := (.ofNat 55)) (ws := [(.ofNat 0)]) (by decide) (by decide +kernel) zk_220_oo (List.mem_cons_self) (zAll_mem ⟨zk_220_r0, zk_220_r1, trivial⟩)
def zk_220_o : zO_ := zorcC 220 7 zk_220_te [(0, 1, 0)] [] zk_220_al
theorem zk_220_ok (l : Launch) (X : zx_X) (XL : Nat) (φ : List z_C) (P : List Int → Prop) : zOk l X XL φ P zk_220_o := zOk_C zk_220_c (by decide +kernel) l X XL φ P
/-! win -/
def zk_224_te : zA_T := ([((.negSucc 2147483647), (.ofNat 2147483647), zD0), ((.negSucc 2147483647), (.ofNat 2147483647), zD0)], zHT, [(0, (2, (.ofNat 46))), (1, (1, (.ofNat 0))), (2, (1, (.ofNat 1)))], [], 0, 0)
def zk_224_al : List zAlt := [([((.negSucc 2147483647), (.ofNat 2147483647), none)], [(3, 0, 0)], zHT, some (1, (.ofNat 0)))]
def zk_224_h0 : zHd := (0, zk_224_te, [(0, 1, 0), (0, 2, 0)], [], (.ofNat 519), [(.ofNat 0), (.ofNat 0)], [])
def zk_224_h1 : zHd := (26, ([((.ofNat 0), (.ofNat 23), zD0), ((.ofNat 0), (.ofNat 1), zD0), ((.negSucc 1), (.ofNat 256), zD0), ((.ofNat 0), (.ofNat 256), zD0)], zHT, [(0, (2, (.ofNat 46))), (1, (1, (.ofNat 0))), (2, (1, (.ofNat 1))), (3, (1, (.ofNat 2))), (4, (1, (.ofNat 3)))], [], 0, 0), [(0, 1, 0), (0, 2, 0), (0, 3, 0), (0, 4, 0)], [], (.ofNat 513), [(.ofNat 0), (.ofNat 0), (.ofNat 0), (.ofNat 2)], [])
def zk_224_hs : List zHd := [zk_224_h0, zk_224_h1]
def zk_224_or : zO_ := zor zk_209_o (zor zk_221_o (zor zk_223_o (zon)))
theorem zk_224_oo (l : Launch) (X : zx_X) (φ : List z_C) (P : List Int → Prop) : zOk l X 2000000 φ P zk_224_or := zOk_or (zk_209_ok l X 2000000 φ P) (zOk_or (zk_221_ok l X 2000000 φ P) (zOk_or (zk_223_ok l X 2000000 φ P) (zOk_no l X 2000000 φ P)))
theorem zk_224_r0 : zx1 2000000 (zfinC zk_224_al zk_224_h0.2.2.2.1) (zcutH zk_224_hs zk_224_h0 224 7) zk_224_or 6000 224 7 zk_224_h0.1 (zhS zk_224_h0) [] = true := by decide +kernel
theorem zk_224_r1 : zx1 2000000 (zfinC zk_224_al zk_224_h1.2.2.2.1) (zcutH zk_224_hs zk_224_h1 224 7) zk_224_or 6000 224 7 zk_224_h1.1 (zhS zk_224_h1) [] = true := by decide +kernel
theorem zk_224_c : zCon 224 7 zk_224_te [] zk_224_al := zCon_of (n := 6000) (hs := zk_224_hs) (lo := [(0, 1, 0), (0, 2, 0)]) (c := (.ofNat 519)) (ws := [(.ofNat 0), (.ofNat 0)]) (by decide) (by decide +kernel) zk_224_oo (List.mem_cons_self) (zAll_mem ⟨zk_224_r0, zk_224_r1, trivial⟩)
def zk_224_o : zO_ := zorcC 224 7 zk_224_te [(0, 1, 0), (0, 2, 0)] [] zk_224_al
theorem zk_224_ok (l : Launch) (X : zx_X) (XL : Nat) (φ : List z_C) (P : List Int → Prop) : zOk l X XL φ P zk_224_o := zOk_C zk_224_c (by decide +kernel) l X XL φ P
/-! matters -/
def zk_225_te : zA_T := ([((.negSucc 2147483647), (.ofNat 2147483647), zD0)], zHT, [(0, (2, (.ofNat 46))), (1, (1, (.ofNat 0)))], [], 0, 0)
def zk_225_al : List zAlt := [([((.negSucc 0), (.ofNat 511), none)], [(3, 0, 0)], zHT, some (1, (.ofNat 0)))]
def zk_225_h0 : zHd := (0, zk_225_te, [(0, 1, 0)], [], (.ofNat 19), [(.ofNat 0)], [])
def zk_225_h1 : zHd := (18, ([((.ofNat 0), (.ofNat 2), zD0), ((.ofNat 0), (.ofNat 511), zD0), ((.ofNat 0), (.ofNat 6), zD0)], zHT, [(0, (2, (.ofNat 46))), (1, (1, (.ofNat 0))), (2, (1, (.ofNat 1))), (3, (1, (.ofNat 2)))], [], 0, 0), [(0, 1, 0), (0, 2, 0), (0, 3, 0)], [], (.ofNat 13), [(.ofNat 0), (.ofNat 0), (.ofNat 2)], [])
def zk_225_hs : List zHd := [zk_225_h0, zk_225_h1]
def zk_225_or : zO_ := zor zk_209_o (zon)
theorem zk_225_oo (l : Launch) (X : zx_X) (φ : List z_C) (P : List Int → Prop) : zOk l X 2000000 φ P zk_225_or := zOk_or (zk_209_ok l X 2000000 φ P) (zOk_no l X 2000000 φ P)
theorem zk_225_r0 : zx1 2000000 (zfinC zk_225_al zk_225_h0.2.2.2.1) (zcutH zk_225_hs zk_225_h0 225 4) zk_225_or 6000 225 4 zk_225_h0.1 (zhS zk_225_h0) [] = true := by decide +kernel
theorem zk_225_r1 : zx1 2000000 (zfinC zk_225_al zk_225_h1.2.2.2.1) (zcutH zk_225_hs zk_225_h1 225 4) zk_225_or 6000 225 4 zk_225_h1.1 (zhS zk_225_h1) [] = true := by decide +kernel
theorem zk_225_c : zCon 225 4 zk_225_te [] zk_225_al := zCon_of (n := 6000) (hs := zk_225_hs) (lo := [(0, 1, 0)]) (c := (.ofNat 19)) (ws := [(.ofNat 0)]) (by decide) (by decide +kernel) zk_225_oo (List.mem_cons_self) (zAll_mem ⟨zk_225_r0, zk_225_r1, trivial⟩)
def zk_225_o : zO_ := zorcC 225 4 zk_225_te [(0, 1, 0)] [] zk_225_al
theorem zk_225_ok (l : Launch) (X : zx_X) (XL : Nat) (φ : List z_C) (P : List Int → Prop) : zOk l X XL φ P zk_225_o := zOk_C zk_225_c (by decide +kernel) l X XL φ P
/-! playFrom -/
def zk_227_1_1_te : zA_T := ([((.ofNat 0), (.ofNat 7), zD0), ((.ofNat 0), (.ofNat 7), zD0), ((.ofNat 0), (.ofNat 16777215), zD0)], zHT, [(0, (2, (.ofNat 46))), (1, (1, (.ofNat 0))), (2, (1, (.ofNat 1))), (3, (0, (.ofNat 1))), (4, (0, (.ofNat 1))), (5, (1, (.ofNat 2)))], [], 0, 0)
def zk_227_1_1_al : List zAlt := [([((.negSucc 2147483647), (.ofNat 2147483647), none)], [(3, 0, 0)], zHT, some (1, (.ofNat 0)))]
def zk_227_1_1_h0 : zHd := (0, zk_227_1_1_te, [(0, 1, 0), (0, 2, 0), (0, 5, 0)], [], (.ofNat 5), [(.ofNat 0), (.ofNat 0), (.ofNat 0)], [])
def zk_227_1_1_hs : List zHd := [zk_227_1_1_h0]
def zk_227_1_1_or : zO_ := zor zk_213_o (zon)
theorem zk_227_1_1_oo (l : Launch) (X : zx_X) (φ : List z_C) (P : List Int → Prop) : zOk l X 2000000 φ P zk_227_1_1_or := zOk_or (zk_213_ok l X 2000000 φ P) (zOk_no l X 2000000 φ P)
theorem zk_227_1_1_r0 : zx1 2000000 (zfinC zk_227_1_1_al zk_227_1_1_h0.2.2.2.1) (zcutH zk_227_1_1_hs zk_227_1_1_h0 227 93) zk_227_1_1_or 6000 227 93 zk_227_1_1_h0.1 (zhS zk_227_1_1_h0) [] = true := by decide +kernel
theorem zk_227_1_1_c : zCon 227 93 zk_227_1_1_te [] zk_227_1_1_al := zCon_of (n := 6000) (hs := zk_227_1_1_hs) (lo := [(0, 1, 0), (0, 2, 0), (0, 5, 0)]) (c := (.ofNat 5)) (ws := [(.ofNat 0), (.ofNat 0), (.ofNat 0)]) (by decide) (by decide +kernel) zk_227_1_1_oo (List.mem_cons_self) (zAll_mem ⟨zk_227_1_1_r0, trivial⟩)
def zk_227_1_1_o : zO_ := zorcC 227 93 zk_227_1_1_te [(0, 1, 0), (0, 2, 0), (0, 5, 0)] [] zk_227_1_1_al
theorem zk_227_1_1_ok (l : Launch) (X : zx_X) (XL : Nat) (φ : List z_C) (P : List Int → Prop) : zOk l X XL φ P zk_227_1_1_o := zOk_C zk_227_1_1_c (by decide +kernel) l X XL φ P
/-! playFrom -/
def zk_227_1_0_te : zA_T := ([((.ofNat 0), (.ofNat 7), zD0), ((.ofNat 0), (.ofNat 7), zD0), ((.ofNat 0), (.ofNat 16777215), zD0)], zHT, [(0, (2, (.ofNat 46))), (1, (1, (.ofNat 0))), (2, (1, (.ofNat 1))), (3, (0, (.ofNat 0))), (4, (0, (.ofNat 1))), (5, (1, (.ofNat 2)))], [], 0, 0)
def zk_227_1_0_al : List zAlt := [([((.negSucc 2147483647), (.ofNat 2147483647), none)], [(3, 0, 0)], zHT, some (1, (.ofNat 0)))]
def zk_227_1_0_h0 : zHd := (0, zk_227_1_0_te, [(0, 1, 0), (0, 2, 0), (0, 5, 0)], [], (.ofNat 55), [(.ofNat 0), (.ofNat 0), (.ofNat 0)], [])
def zk_227_1_0_h1 : zHd := (40, ([((.ofNat 0), (.ofNat 7), zD0), ((.ofNat 0), (.ofNat 7), zD0), ((.ofNat 0), (.ofNat 16777215), zD0), ((.negSucc 2147483647), (.ofNat 2147483647), zD0), ((.ofNat 0), (.ofNat 24), zD0)], zHT, [(0, (2, (.ofNat 46))), (1, (1, (.ofNat 0))), (2, (1, (.ofNat 1))), (3, (0, (.ofNat 0))), (4, (0, (.ofNat 1))), (5, (1, (.ofNat 2))), (6, (1, (.ofNat 3))), (7, (1, (.ofNat 4)))], [], 0, 0), [(0, 1, 0), (0, 2, 0), (0, 5, 0), (0, 6, 0), (0, 7, 0)], [], (.ofNat 49), [(.ofNat 0), (.ofNat 0), (.ofNat 0), (.ofNat 0), (.ofNat 2)], [])
def zk_227_1_0_hs : List zHd := [zk_227_1_0_h0, zk_227_1_0_h1]
def zk_227_1_0_or : zO_ := zor (zor zk_209_o (zor zk_227_1_1_o (zon))) (zspl 227 4 (zor zk_227_1_1_o (zon)))
theorem zk_227_1_0_oo (l : Launch) (X : zx_X) (φ : List z_C) (P : List Int → Prop) : zOk l X 2000000 φ P zk_227_1_0_or := zOk_or (zOk_or (zk_209_ok l X 2000000 φ P) (zOk_or (zk_227_1_1_ok l X 2000000 φ P) (zOk_no l X 2000000 φ P))) (zOk_spl (m0 := 227) (i := 4) (zOk_or (zk_227_1_1_ok l X 2000000 φ P) (zOk_no l X 2000000 φ P)))
theorem zk_227_1_0_r0 : zx1 2000000 (zfinC zk_227_1_0_al zk_227_1_0_h0.2.2.2.1) (zcutH zk_227_1_0_hs zk_227_1_0_h0 227 95) zk_227_1_0_or 6000 227 95 zk_227_1_0_h0.1 (zhS zk_227_1_0_h0) [] = true := by decide +kernel
theorem zk_227_1_0_r1 : zx1 2000000 (zfinC zk_227_1_0_al zk_227_1_0_h1.2.2.2.1) (zcutH zk_227_1_0_hs zk_227_1_0_h1 227 95) zk_227_1_0_or 6000 227 95 zk_227_1_0_h1.1 (zhS zk_227_1_0_h1) [] = true := by decide +kernel
theorem zk_227_1_0_c : zCon 227 95 zk_227_1_0_te [] zk_227_1_0_al := zCon_of (n := 6000) (hs := zk_227_1_0_hs) (lo := [(0, 1, 0), (0, 2, 0), (0, 5, 0)]) (c := (.ofNat 55)) (ws := [(.ofNat 0), (.ofNat 0), (.ofNat 0)]) (by decide) (by decide +kernel) zk_227_1_0_oo (List.mem_cons_self) (zAll_mem ⟨zk_227_1_0_r0, zk_227_1_0_r1, trivial⟩)
def zk_227_1_0_o : zO_ := zorcC 227 95 zk_227_1_0_te [(0, 1, 0), (0, 2, 0), (0, 5, 0)] [] zk_227_1_0_al
theorem zk_227_1_0_ok (l : Launch) (X : zx_X) (XL : Nat) (φ : List z_C) (P : List Int → Prop) : zOk l X XL φ P zk_227_1_0_o := zOk_C zk_227_1_0_c (by decide +kernel) l X XL φ P
/-! playFrom -/
def zk_227_2_2_te : zA_T := ([((.ofNat 0), (.ofNat 7), zD0), ((.ofNat 0), (.ofNat 7), zD0), ((.ofNat 0), (.ofNat 16777215), zD0)], zHT, [(0, (2, (.ofNat 46))), (1, (1, (.ofNat 0))), (2, (1, (.ofNat 1))), (3, (0, (.ofNat 2))), (4, (0, (.ofNat 2))), (5, (1, (.ofNat 2)))], [], 0, 0)
def zk_227_2_2_al : List zAlt := [([((.negSucc 2147483647), (.ofNat 2147483647), none)], [(3, 0, 0)], zHT, some (1, (.ofNat 0)))]
def zk_227_2_2_h0 : zHd := (0, zk_227_2_2_te, [(0, 1, 0), (0, 2, 0), (0, 5, 0)], [], (.ofNat 5), [(.ofNat 0), (.ofNat 0), (.ofNat 0)], [])
def zk_227_2_2_hs : List zHd := [zk_227_2_2_h0]
def zk_227_2_2_or : zO_ := zor zk_213_o (zon)
theorem zk_227_2_2_oo (l : Launch) (X : zx_X) (φ : List z_C) (P : List Int → Prop) : zOk l X 2000000 φ P zk_227_2_2_or := zOk_or (zk_213_ok l X 2000000 φ P) (zOk_no l X 2000000 φ P)
theorem zk_227_2_2_r0 : zx1 2000000 (zfinC zk_227_2_2_al zk_227_2_2_h0.2.2.2.1) (zcutH zk_227_2_2_hs zk_227_2_2_h0 227 93) zk_227_2_2_or 6000 227 93 zk_227_2_2_h0.1 (zhS zk_227_2_2_h0) [] = true := by decide +kernel
theorem zk_227_2_2_c : zCon 227 93 zk_227_2_2_te [] zk_227_2_2_al := zCon_of (n := 6000) (hs := zk_227_2_2_hs) (lo := [(0, 1, 0), (0, 2, 0), (0, 5, 0)]) (c := (.ofNat 5)) (ws := [(.ofNat 0), (.ofNat 0), (.ofNat 0)]) (by decide) (by decide +kernel) zk_227_2_2_oo (List.mem_cons_self) (zAll_mem ⟨zk_227_2_2_r0, trivial⟩)
def zk_227_2_2_o : zO_ := zorcC 227 93 zk_227_2_2_te [(0, 1, 0), (0, 2, 0), (0, 5, 0)] [] zk_227_2_2_al
theorem zk_227_2_2_ok (l : Launch) (X : zx_X) (XL : Nat) (φ : List z_C) (P : List Int → Prop) : zOk l X XL φ P zk_227_2_2_o := zOk_C zk_227_2_2_c (by decide +kernel) l X XL φ P
/-! playFrom -/
def zk_227_2_1_te : zA_T := ([((.ofNat 0), (.ofNat 7), zD0), ((.ofNat 0), (.ofNat 7), zD0), ((.ofNat 0), (.ofNat 16777215), zD0)], zHT, [(0, (2, (.ofNat 46))), (1, (1, (.ofNat 0))), (2, (1, (.ofNat 1))), (3, (0, (.ofNat 1))), (4, (0, (.ofNat 2))), (5, (1, (.ofNat 2)))], [], 0, 0)
def zk_227_2_1_al : List zAlt := [([((.negSucc 2147483647), (.ofNat 2147483647), none)], [(3, 0, 0)], zHT, some (1, (.ofNat 0)))]
def zk_227_2_1_h0 : zHd := (0, zk_227_2_1_te, [(0, 1, 0), (0, 2, 0), (0, 5, 0)], [], (.ofNat 55), [(.ofNat 0), (.ofNat 0), (.ofNat 0)], [])
def zk_227_2_1_h1 : zHd := (40, ([((.ofNat 0), (.ofNat 7), zD0), ((.ofNat 0), (.ofNat 7), zD0), ((.ofNat 0), (.ofNat 16777215), zD0), ((.negSucc 2147483647), (.ofNat 2147483647), zD0), ((.ofNat 0), (.ofNat 24), zD0)], zHT, [(0, (2, (.ofNat 46))), (1, (1, (.ofNat 0))), (2, (1, (.ofNat 1))), (3, (0, (.ofNat 1))), (4, (0, (.ofNat 2))), (5, (1, (.ofNat 2))), (6, (1, (.ofNat 3))), (7, (1, (.ofNat 4)))], [], 0, 0), [(0, 1, 0), (0, 2, 0), (0, 5, 0), (0, 6, 0), (0, 7, 0)], [], (.ofNat 49), [(.ofNat 0), (.ofNat 0), (.ofNat 0), (.ofNat 0), (.ofNat 2)], [])
def zk_227_2_1_hs : List zHd := [zk_227_2_1_h0, zk_227_2_1_h1]
def zk_227_2_1_or : zO_ := zor (zor zk_209_o (zor zk_227_2_2_o (zon))) (zspl 227 4 (zor zk_227_2_2_o (zon)))
theorem zk_227_2_1_oo (l : Launch) (X : zx_X) (φ : List z_C) (P : List Int → Prop) : zOk l X 2000000 φ P zk_227_2_1_or := zOk_or (zOk_or (zk_209_ok l X 2000000 φ P) (zOk_or (zk_227_2_2_ok l X 2000000 φ P) (zOk_no l X 2000000 φ P))) (zOk_spl (m0 := 227) (i := 4) (zOk_or (zk_227_2_2_ok l X 2000000 φ P) (zOk_no l X 2000000 φ P)))
theorem zk_227_2_1_r0 : zx1 2000000 (zfinC zk_227_2_1_al zk_227_2_1_h0.2.2.2.1) (zcutH zk_227_2_1_hs zk_227_2_1_h0 227 95) zk_227_2_1_or 6000 227 95 zk_227_2_1_h0.1 (zhS zk_227_2_1_h0) [] = true := by decide +kernel
theorem zk_227_2_1_r1 : zx1 2000000 (zfinC zk_227_2_1_al zk_227_2_1_h1.2.2.2.1) (zcutH zk_227_2_1_hs zk_227_2_1_h1 227 95) zk_227_2_1_or 6000 227 95 zk_227_2_1_h1.1 (zhS zk_227_2_1_h1) [] = true := by decide +kernel
theorem zk_227_2_1_c : zCon 227 95 zk_227_2_1_te [] zk_227_2_1_al := zCon_of (n := 6000) (hs := zk_227_2_1_hs) (lo := [(0, 1, 0), (0, 2, 0), (0, 5, 0)]) (c := (.ofNat 55)) (ws := [(.ofNat 0), (.ofNat 0), (.ofNat 0)]) (by decide) (by decide +kernel) zk_227_2_1_oo (List.mem_cons_self) (zAll_mem ⟨zk_227_2_1_r0, zk_227_2_1_r1, trivial⟩)
def zk_227_2_1_o : zO_ := zorcC 227 95 zk_227_2_1_te [(0, 1, 0), (0, 2, 0), (0, 5, 0)] [] zk_227_2_1_al
theorem zk_227_2_1_ok (l : Launch) (X : zx_X) (XL : Nat) (φ : List z_C) (P : List Int → Prop) : zOk l X XL φ P zk_227_2_1_o := zOk_C zk_227_2_1_c (by decide +kernel) l X XL φ P
/-! playFrom -/
def zk_227_2_0_te : zA_T := ([((.ofNat 0), (.ofNat 7), zD0), ((.ofNat 0), (.ofNat 7), zD0), ((.ofNat 0), (.ofNat 16777215), zD0)], zHT, [(0, (2, (.ofNat 46))), (1, (1, (.ofNat 0))), (2, (1, (.ofNat 1))), (3, (0, (.ofNat 0))), (4, (0, (.ofNat 2))), (5, (1, (.ofNat 2)))], [], 0, 0)
def zk_227_2_0_al : List zAlt := [([((.negSucc 2147483647), (.ofNat 2147483647), none)], [(3, 0, 0)], zHT, some (1, (.ofNat 0)))]
def zk_227_2_0_h0 : zHd := (0, zk_227_2_0_te, [(0, 1, 0), (0, 2, 0), (0, 5, 0)], [], (.ofNat 55), [(.ofNat 0), (.ofNat 0), (.ofNat 0)], [])
def zk_227_2_0_h1 : zHd := (40, ([((.ofNat 0), (.ofNat 7), zD0), ((.ofNat 0), (.ofNat 7), zD0), ((.ofNat 0), (.ofNat 16777215), zD0), ((.negSucc 2147483647), (.ofNat 2147483647), zD0), ((.ofNat 0), (.ofNat 24), zD0)], zHT, [(0, (2, (.ofNat 46))), (1, (1, (.ofNat 0))), (2, (1, (.ofNat 1))), (3, (0, (.ofNat 0))), (4, (0, (.ofNat 2))), (5, (1, (.ofNat 2))), (6, (1, (.ofNat 3))), (7, (1, (.ofNat 4)))], [], 0, 0), [(0, 1, 0), (0, 2, 0), (0, 5, 0), (0, 6, 0), (0, 7, 0)], [], (.ofNat 49), [(.ofNat 0), (.ofNat 0), (.ofNat 0), (.ofNat 0), (.ofNat 2)], [])
def zk_227_2_0_hs : List zHd := [zk_227_2_0_h0, zk_227_2_0_h1]
def zk_227_2_0_or : zO_ := zor (zor zk_209_o (zor zk_227_2_1_o (zon))) (zspl 227 4 (zor zk_227_2_1_o (zon)))
theorem zk_227_2_0_oo (l : Launch) (X : zx_X) (φ : List z_C) (P : List Int → Prop) : zOk l X 2000000 φ P zk_227_2_0_or := zOk_or (zOk_or (zk_209_ok l X 2000000 φ P) (zOk_or (zk_227_2_1_ok l X 2000000 φ P) (zOk_no l X 2000000 φ P))) (zOk_spl (m0 := 227) (i := 4) (zOk_or (zk_227_2_1_ok l X 2000000 φ P) (zOk_no l X 2000000 φ P)))
theorem zk_227_2_0_r0 : zx1 2000000 (zfinC zk_227_2_0_al zk_227_2_0_h0.2.2.2.1) (zcutH zk_227_2_0_hs zk_227_2_0_h0 227 97) zk_227_2_0_or 6000 227 97 zk_227_2_0_h0.1 (zhS zk_227_2_0_h0) [] = true := by decide +kernel
theorem zk_227_2_0_r1 : zx1 2000000 (zfinC zk_227_2_0_al zk_227_2_0_h1.2.2.2.1) (zcutH zk_227_2_0_hs zk_227_2_0_h1 227 97) zk_227_2_0_or 6000 227 97 zk_227_2_0_h1.1 (zhS zk_227_2_0_h1) [] = true := by decide +kernel
theorem zk_227_2_0_c : zCon 227 97 zk_227_2_0_te [] zk_227_2_0_al := zCon_of (n := 6000) (hs := zk_227_2_0_hs) (lo := [(0, 1, 0), (0, 2, 0), (0, 5, 0)]) (c := (.ofNat 55)) (ws := [(.ofNat 0), (.ofNat 0), (.ofNat 0)]) (by decide) (by decide +kernel) zk_227_2_0_oo (List.mem_cons_self) (zAll_mem ⟨zk_227_2_0_r0, zk_227_2_0_r1, trivial⟩)
def zk_227_2_0_o : zO_ := zorcC 227 97 zk_227_2_0_te [(0, 1, 0), (0, 2, 0), (0, 5, 0)] [] zk_227_2_0_al
theorem zk_227_2_0_ok (l : Launch) (X : zx_X) (XL : Nat) (φ : List z_C) (P : List Int → Prop) : zOk l X XL φ P zk_227_2_0_o := zOk_C zk_227_2_0_c (by decide +kernel) l X XL φ P
/-! playFrom -/
def zk_227_3_3_te : zA_T := ([((.ofNat 0), (.ofNat 7), zD0), ((.ofNat 0), (.ofNat 7), zD0), ((.ofNat 0), (.ofNat 16777215), zD0)], zHT, [(0, (2, (.ofNat 46))), (1, (1, (.ofNat 0))), (2, (1, (.ofNat 1))), (3, (0, (.ofNat 3))), (4, (0, (.ofNat 3))), (5, (1, (.ofNat 2)))], [], 0, 0)
def zk_227_3_3_al : List zAlt := [([((.negSucc 2147483647), (.ofNat 2147483647), none)], [(3, 0, 0)], zHT, some (1, (.ofNat 0)))]
def zk_227_3_3_h0 : zHd := (0, zk_227_3_3_te, [(0, 1, 0), (0, 2, 0), (0, 5, 0)], [], (.ofNat 5), [(.ofNat 0), (.ofNat 0), (.ofNat 0)], [])
def zk_227_3_3_hs : List zHd := [zk_227_3_3_h0]
def zk_227_3_3_or : zO_ := zor zk_213_o (zon)
theorem zk_227_3_3_oo (l : Launch) (X : zx_X) (φ : List z_C) (P : List Int → Prop) : zOk l X 2000000 φ P zk_227_3_3_or := zOk_or (zk_213_ok l X 2000000 φ P) (zOk_no l X 2000000 φ P)
theorem zk_227_3_3_r0 : zx1 2000000 (zfinC zk_227_3_3_al zk_227_3_3_h0.2.2.2.1) (zcutH zk_227_3_3_hs zk_227_3_3_h0 227 93) zk_227_3_3_or 6000 227 93 zk_227_3_3_h0.1 (zhS zk_227_3_3_h0) [] = true := by decide +kernel
theorem zk_227_3_3_c : zCon 227 93 zk_227_3_3_te [] zk_227_3_3_al := zCon_of (n := 6000) (hs := zk_227_3_3_hs) (lo := [(0, 1, 0), (0, 2, 0), (0, 5, 0)]) (c := (.ofNat 5)) (ws := [(.ofNat 0), (.ofNat 0), (.ofNat 0)]) (by decide) (by decide +kernel) zk_227_3_3_oo (List.mem_cons_self) (zAll_mem ⟨zk_227_3_3_r0, trivial⟩)
def zk_227_3_3_o : zO_ := zorcC 227 93 zk_227_3_3_te [(0, 1, 0), (0, 2, 0), (0, 5, 0)] [] zk_227_3_3_al
theorem zk_227_3_3_ok (l : Launch) (X : zx_X) (XL : Nat) (φ : List z_C) (P : List Int → Prop) : zOk l X XL φ P zk_227_3_3_o := zOk_C zk_227_3_3_c (by decide +kernel) l X XL φ P
/-! playFrom -/
def zk_227_3_2_te : zA_T := ([((.ofNat 0), (.ofNat 7), zD0), ((.ofNat 0), (.ofNat 7), zD0), ((.ofNat 0), (.ofNat 16777215), zD0)], zHT, [(0, (2, (.ofNat 46))), (1, (1, (.ofNat 0))), (2, (1, (.ofNat 1))), (3, (0, (.ofNat 2))), (4, (0, (.ofNat 3))), (5, (1, (.ofNat 2)))], [], 0, 0)
def zk_227_3_2_al : List zAlt := [([((.negSucc 2147483647), (.ofNat 2147483647), none)], [(3, 0, 0)], zHT, some (1, (.ofNat 0)))]
def zk_227_3_2_h0 : zHd := (0, zk_227_3_2_te, [(0, 1, 0), (0, 2, 0), (0, 5, 0)], [], (.ofNat 55), [(.ofNat 0), (.ofNat 0), (.ofNat 0)], [])
def zk_227_3_2_h1 : zHd := (40, ([((.ofNat 0), (.ofNat 7), zD0), ((.ofNat 0), (.ofNat 7), zD0), ((.ofNat 0), (.ofNat 16777215), zD0), ((.negSucc 2147483647), (.ofNat 2147483647), zD0), ((.ofNat 0), (.ofNat 24), zD0)], zHT, [(0, (2, (.ofNat 46))), (1, (1, (.ofNat 0))), (2, (1, (.ofNat 1))), (3, (0, (.ofNat 2))), (4, (0, (.ofNat 3))), (5, (1, (.ofNat 2))), (6, (1, (.ofNat 3))), (7, (1, (.ofNat 4)))], [], 0, 0), [(0, 1, 0), (0, 2, 0), (0, 5, 0), (0, 6, 0), (0, 7, 0)], [], (.ofNat 49), [(.ofNat 0), (.ofNat 0), (.ofNat 0), (.ofNat 0), (.ofNat 2)], [])
def zk_227_3_2_hs : List zHd := [zk_227_3_2_h0, zk_227_3_2_h1]
def zk_227_3_2_or : zO_ := zor (zor zk_209_o (zor zk_227_3_3_o (zon))) (zspl 227 4 (zor zk_227_3_3_o (zon)))
theorem zk_227_3_2_oo (l : Launch) (X : zx_X) (φ : List z_C) (P : List Int → Prop) : zOk l X 2000000 φ P zk_227_3_2_or := zOk_or (zOk_or (zk_209_ok l X 2000000 φ P) (zOk_or (zk_227_3_3_ok l X 2000000 φ P) (zOk_no l X 2000000 φ P))) (zOk_spl (m0 := 227) (i := 4) (zOk_or (zk_227_3_3_ok l X 2000000 φ P) (zOk_no l X 2000000 φ P)))
theorem zk_227_3_2_r0 : zx1 2000000 (zfinC zk_227_3_2_al zk_227_3_2_h0.2.2.2.1) (zcutH zk_227_3_2_hs zk_227_3_2_h0 227 95) zk_227_3_2_or 6000 227 95 zk_227_3_2_h0.1 (zhS zk_227_3_2_h0) [] = true := by decide +kernel
theorem zk_227_3_2_r1 : zx1 2000000 (zfinC zk_227_3_2_al zk_227_3_2_h1.2.2.2.1) (zcutH zk_227_3_2_hs zk_227_3_2_h1 227 95) zk_227_3_2_or 6000 227 95 zk_227_3_2_h1.1 (zhS zk_227_3_2_h1) [] = true := by decide +kernel
theorem zk_227_3_2_c : zCon 227 95 zk_227_3_2_te [] zk_227_3_2_al := zCon_of (n := 6000) (hs := zk_227_3_2_hs) (lo := [(0, 1, 0), (0, 2, 0), (0, 5, 0)]) (c := (.ofNat 55)) (ws := [(.ofNat 0), (.ofNat 0), (.ofNat 0)]) (by decide) (by decide +kernel) zk_227_3_2_oo (List.mem_cons_self) (zAll_mem ⟨zk_227_3_2_r0, zk_227_3_2_r1, trivial⟩)
def zk_227_3_2_o : zO_ := zorcC 227 95 zk_227_3_2_te [(0, 1, 0), (0, 2, 0), (0, 5, 0)] [] zk_227_3_2_al
theorem zk_227_3_2_ok (l : Launch) (X : zx_X) (XL : Nat) (φ : List z_C) (P : List Int → Prop) : zOk l X XL φ P zk_227_3_2_o := zOk_C zk_227_3_2_c (by decide +kernel) l X XL φ P
/-! playFrom -/
def zk_227_3_1_te : zA_T := ([((.ofNat 0), (.ofNat 7), zD0), ((.ofNat 0), (.ofNat 7), zD0), ((.ofNat 0), (.ofNat 16777215), zD0)], zHT, [(0, (2, (.ofNat 46))), (1, (1, (.ofNat 0))), (2, (1, (.ofNat 1))), (3, (0, (.ofNat 1))), (4, (0, (.ofNat 3))), (5, (1, (.ofNat 2)))], [], 0, 0)
def zk_227_3_1_al : List zAlt := [([((.negSucc 2147483647), (.ofNat 2147483647), none)], [(3, 0, 0)], zHT, some (1, (.ofNat 0)))]
def zk_227_3_1_h0 : zHd := (0, zk_227_3_1_te, [(0, 1, 0), (0, 2, 0), (0, 5, 0)], [], (.ofNat 55), [(.ofNat 0), (.ofNat 0), (.ofNat 0)], [])
def zk_227_3_1_h1 : zHd := (40, ([((.ofNat 0), (.ofNat 7), zD0), ((.ofNat 0), (.ofNat 7), zD0), ((.ofNat 0), (.ofNat 16777215), zD0), ((.negSucc 2147483647), (.ofNat 2147483647), zD0), ((.ofNat 0), (.ofNat 24), zD0)], zHT, [(0, (2, (.ofNat 46))), (1, (1, (.ofNat 0))), (2, (1, (.ofNat 1))), (3, (0, (.ofNat 1))), (4, (0, (.ofNat 3))), (5, (1, (.ofNat 2))), (6, (1, (.ofNat 3))), (7, (1, (.ofNat 4)))], [], 0, 0), [(0, 1, 0), (0, 2, 0), (0, 5, 0), (0, 6, 0), (0, 7, 0)], [], (.ofNat 49), [(.ofNat 0), (.ofNat 0), (.ofNat 0), (.ofNat 0), (.ofNat 2)], [])
def zk_227_3_1_hs : List zHd := [zk_227_3_1_h0, zk_227_3_1_h1]
def zk_227_3_1_or : zO_ := zor (zor zk_209_o (zor zk_227_3_2_o (zon))) (zspl 227 4 (zor zk_227_3_2_o (zon)))
theorem zk_227_3_1_oo (l : Launch) (X : zx_X) (φ : List z_C) (P : List Int → Prop) : zOk l X 2000000 φ P zk_227_3_1_or := zOk_or (zOk_or (zk_209_ok l X 2000000 φ P) (zOk_or (zk_227_3_2_ok l X 2000000 φ P) (zOk_no l X 2000000 φ P))) (zOk_spl (m0 := 227) (i := 4) (zOk_or (zk_227_3_2_ok l X 2000000 φ P) (zOk_no l X 2000000 φ P)))
theorem zk_227_3_1_r0 : zx1 2000000 (zfinC zk_227_3_1_al zk_227_3_1_h0.2.2.2.1) (zcutH zk_227_3_1_hs zk_227_3_1_h0 227 97) zk_227_3_1_or 6000 227 97 zk_227_3_1_h0.1 (zhS zk_227_3_1_h0) [] = true := by decide +kernel
theorem zk_227_3_1_r1 : zx1 2000000 (zfinC zk_227_3_1_al zk_227_3_1_h1.2.2.2.1) (zcutH zk_227_3_1_hs zk_227_3_1_h1 227 97) zk_227_3_1_or 6000 227 97 zk_227_3_1_h1.1 (zhS zk_227_3_1_h1) [] = true := by decide +kernel
theorem zk_227_3_1_c : zCon 227 97 zk_227_3_1_te [] zk_227_3_1_al := zCon_of (n := 6000) (hs := zk_227_3_1_hs) (lo := [(0, 1, 0), (0, 2, 0), (0, 5, 0)]) (c := (.ofNat 55)) (ws := [(.ofNat 0), (.ofNat 0), (.ofNat 0)]) (by decide) (by decide +kernel) zk_227_3_1_oo (List.mem_cons_self) (zAll_mem ⟨zk_227_3_1_r0, zk_227_3_1_r1, trivial⟩)
def zk_227_3_1_o : zO_ := zorcC 227 97 zk_227_3_1_te [(0, 1, 0), (0, 2, 0), (0, 5, 0)] [] zk_227_3_1_al
theorem zk_227_3_1_ok (l : Launch) (X : zx_X) (XL : Nat) (φ : List z_C) (P : List Int → Prop) : zOk l X XL φ P zk_227_3_1_o := zOk_C zk_227_3_1_c (by decide +kernel) l X XL φ P
/-! playFrom -/
def zk_227_3_0_te : zA_T := ([((.ofNat 0), (.ofNat 7), zD0), ((.ofNat 0), (.ofNat 7), zD0), ((.ofNat 0), (.ofNat 16777215), zD0)], zHT, [(0, (2, (.ofNat 46))), (1, (1, (.ofNat 0))), (2, (1, (.ofNat 1))), (3, (0, (.ofNat 0))), (4, (0, (.ofNat 3))), (5, (1, (.ofNat 2)))], [], 0, 0)
def zk_227_3_0_al : List zAlt := [([((.negSucc 2147483647), (.ofNat 2147483647), none)], [(3, 0, 0)], zHT, some (1, (.ofNat 0)))]
def zk_227_3_0_h0 : zHd := (0, zk_227_3_0_te, [(0, 1, 0), (0, 2, 0), (0, 5, 0)], [], (.ofNat 55), [(.ofNat 0), (.ofNat 0), (.ofNat 0)], [])
def zk_227_3_0_h1 : zHd := (40, ([((.ofNat 0), (.ofNat 7), zD0), ((.ofNat 0), (.ofNat 7), zD0), ((.ofNat 0), (.ofNat 16777215), zD0), ((.negSucc 2147483647), (.ofNat 2147483647), zD0), ((.ofNat 0), (.ofNat 24), zD0)], zHT, [(0, (2, (.ofNat 46))), (1, (1, (.ofNat 0))), (2, (1, (.ofNat 1))), (3, (0, (.ofNat 0))), (4, (0, (.ofNat 3))), (5, (1, (.ofNat 2))), (6, (1, (.ofNat 3))), (7, (1, (.ofNat 4)))], [], 0, 0), [(0, 1, 0), (0, 2, 0), (0, 5, 0), (0, 6, 0), (0, 7, 0)], [], (.ofNat 49), [(.ofNat 0), (.ofNat 0), (.ofNat 0), (.ofNat 0), (.ofNat 2)], [])
def zk_227_3_0_hs : List zHd := [zk_227_3_0_h0, zk_227_3_0_h1]
def zk_227_3_0_or : zO_ := zor (zor zk_209_o (zor zk_227_3_1_o (zon))) (zspl 227 4 (zor zk_227_3_1_o (zon)))
theorem zk_227_3_0_oo (l : Launch) (X : zx_X) (φ : List z_C) (P : List Int → Prop) : zOk l X 2000000 φ P zk_227_3_0_or := zOk_or (zOk_or (zk_209_ok l X 2000000 φ P) (zOk_or (zk_227_3_1_ok l X 2000000 φ P) (zOk_no l X 2000000 φ P))) (zOk_spl (m0 := 227) (i := 4) (zOk_or (zk_227_3_1_ok l X 2000000 φ P) (zOk_no l X 2000000 φ P)))
theorem zk_227_3_0_r0 : zx1 2000000 (zfinC zk_227_3_0_al zk_227_3_0_h0.2.2.2.1) (zcutH zk_227_3_0_hs zk_227_3_0_h0 227 99) zk_227_3_0_or 6000 227 99 zk_227_3_0_h0.1 (zhS zk_227_3_0_h0) [] = true := by decide +kernel
theorem zk_227_3_0_r1 : zx1 2000000 (zfinC zk_227_3_0_al zk_227_3_0_h1.2.2.2.1) (zcutH zk_227_3_0_hs zk_227_3_0_h1 227 99) zk_227_3_0_or 6000 227 99 zk_227_3_0_h1.1 (zhS zk_227_3_0_h1) [] = true := by decide +kernel
theorem zk_227_3_0_c : zCon 227 99 zk_227_3_0_te [] zk_227_3_0_al := zCon_of (n := 6000) (hs := zk_227_3_0_hs) (lo := [(0, 1, 0), (0, 2, 0), (0, 5, 0)]) (c := (.ofNat 55)) (ws := [(.ofNat 0), (.ofNat 0), (.ofNat 0)]) (by decide) (by decide +kernel) zk_227_3_0_oo (List.mem_cons_self) (zAll_mem ⟨zk_227_3_0_r0, zk_227_3_0_r1, trivial⟩)
def zk_227_3_0_o : zO_ := zorcC 227 99 zk_227_3_0_te [(0, 1, 0), (0, 2, 0), (0, 5, 0)] [] zk_227_3_0_al
theorem zk_227_3_0_ok (l : Launch) (X : zx_X) (XL : Nat) (φ : List z_C) (P : List Int → Prop) : zOk l X XL φ P zk_227_3_0_o := zOk_C zk_227_3_0_c (by decide +kernel) l X XL φ P
/-! byTurns -/
def zk_226_te : zA_T := ([((.negSucc 2147483647), (.ofNat 2147483647), zD0), ((.negSucc 2147483647), (.ofNat 2147483647), zD0)], zHT, [(0, (2, (.ofNat 46))), (1, (1, (.ofNat 0))), (2, (1, (.ofNat 1)))], [], 0, 0)
def zk_226_al : List zAlt := [([((.negSucc 2147483647), (.ofNat 2147483647), none)], [(3, 0, 0)], zHT, some (1, (.ofNat 0)))]
def zk_226_h0 : zHd := (0, zk_226_te, [(0, 1, 0), (0, 2, 0)], [], (.ofNat 55), [(.ofNat 0), (.ofNat 0)], [])
def zk_226_h1 : zHd := (123, ([((.ofNat 0), (.ofNat 1000), zD0), ((.ofNat 0), (.ofNat 7), zD0), ((.ofNat 0), (.ofNat 7), zD0), ((.ofNat 1), (.ofNat 3), zD0), ((.negSucc 2147483647), (.ofNat 2147483647), zD0), ((.ofNat 0), (.ofNat 24), zD0)], zHT, [(0, (2, (.ofNat 46))), (1, (1, (.ofNat 0))), (2, (0, (.ofNat 1))), (3, (1, (.ofNat 1))), (4, (1, (.ofNat 2))), (5, (1, (.ofNat 3))), (6, (1, (.ofNat 4))), (7, (1, (.ofNat 5)))], [], 0, 0), [(0, 1, 0), (0, 3, 0), (0, 4, 0), (0, 5, 0), (0, 6, 0), (0, 7, 0)], [], (.ofNat 49), [(.ofNat 0), (.ofNat 0), (.ofNat 0), (.ofNat 0), (.ofNat 0), (.ofNat 2)], [])
def zk_226_hs : List zHd := [zk_226_h0, zk_226_h1]
def zk_226_or : zO_ := zor (zor zk_209_o (zor zk_203_o (zor zk_227_1_1_o (zor zk_227_1_0_o (zor zk_227_2_1_o (zor zk_227_2_0_o (zor zk_227_3_1_o (zor zk_227_3_0_o (zon))))))))) (zspl 227 4 (zor zk_227_1_1_o (zor zk_227_1_0_o (zor zk_227_2_1_o (zor zk_227_2_0_o (zor zk_227_3_1_o (zor zk_227_3_0_o (zon))))))))
theorem zk_226_oo (l : Launch) (X : zx_X) (φ : List z_C) (P : List Int → Prop) : zOk l X 2000000 φ P zk_226_or := zOk_or (zOk_or (zk_209_ok l X 2000000 φ P) (zOk_or (zk_203_ok l X 2000000 φ P) (zOk_or (zk_227_1_1_ok l X 2000000 φ P) (zOk_or (zk_227_1_0_ok l X 2000000 φ P) (zOk_or (zk_227_2_1_ok l X 2000000 φ P) (zOk_or (zk_227_2_0_ok l X 2000000 φ P) (zOk_or (zk_227_3_1_ok l X 2000000 φ P) (zOk_or (zk_227_3_0_ok l X 2000000 φ P) (zOk_no l X 2000000 φ P))))))))) (zOk_spl (m0 := 227) (i := 4) (zOk_or (zk_227_1_1_ok l X 2000000 φ P) (zOk_or (zk_227_1_0_ok l X 2000000 φ P) (zOk_or (zk_227_2_1_ok l X 2000000 φ P) (zOk_or (zk_227_2_0_ok l X 2000000 φ P) (zOk_or (zk_227_3_1_ok l X 2000000 φ P) (zOk_or (zk_227_3_0_ok l X 2000000 φ P) (zOk_no l X 2000000 φ P))))))))
theorem zk_226_r0 : zx1 2000000 (zfinC zk_226_al zk_226_h0.2.2.2.1) (zcutH zk_226_hs zk_226_h0 226 101) zk_226_or 6000 226 101 zk_226_h0.1 (zhS zk_226_h0) [] = true := by decide +kernel
theorem zk_226_r1 : zx1 2000000 (zfinC zk_226_al zk_226_h1.2.2.2.1) (zcutH zk_226_hs zk_226_h1 226 101) zk_226_or 6000 226 101 zk_226_h1.1 (zhS zk_226_h1) [] = true := by decide +kernel
theorem zk_226_c : zCon 226 101 zk_226_te [] zk_226_al := zCon_of (n := 6000) (hs := zk_226_hs) (lo := [(0, 1, 0), (0, 2, 0)]) (c := (.ofNat 55)) (ws := [(.ofNat 0), (.ofNat 0)]) (by decide) (by decide +kernel) zk_226_oo (List.mem_cons_self) (zAll_mem ⟨zk_226_r0, zk_226_r1, trivial⟩)
def zk_226_o : zO_ := zorcC 226 101 zk_226_te [(0, 1, 0), (0, 2, 0)] [] zk_226_al
theorem zk_226_ok (l : Launch) (X : zx_X) (XL : Nat) (φ : List z_C) (P : List Int → Prop) : zOk l X XL φ P zk_226_o := zOk_C zk_226_c (by decide +kernel) l X XL φ P
/-! firstFalse -/
def zk_230_te : zA_T := ([((.ofNat 0), (.ofNat 5), zD0), ((.negSucc 2147483647), (.ofNat 2147483647), zD0)], zHT, [(0, (2, (.ofNat 46))), (1, (1, (.ofNat 0))), (2, (1, (.ofNat 1)))], [], 0, 0)
def zk_230_al : List zAlt := [([((.negSucc 1), (.ofNat 29), none)], [(3, 0, 0)], zHT, some (1, (.ofNat 0)))]
def zk_230_h0 : zHd := (0, zk_230_te, [(0, 1, 0), (0, 2, 0)], [], (.ofNat 67), [(.ofNat 0), (.ofNat 0)], [])
def zk_230_h1 : zHd := (2, ([((.ofNat 0), (.ofNat 5), zD0), ((.negSucc 2147483647), (.ofNat 2147483647), zD0), ((.ofNat 0), (.ofNat 30), zD0)], zHT, [(0, (2, (.ofNat 46))), (1, (1, (.ofNat 0))), (2, (1, (.ofNat 1))), (3, (1, (.ofNat 2)))], [], 0, 0), [(0, 1, 0), (0, 2, 0), (0, 3, 0)], [], (.ofNat 61), [(.ofNat 0), (.ofNat 0), (.ofNat 2)], [])
def zk_230_hs : List zHd := [zk_230_h0, zk_230_h1]
def zk_230_or : zO_ := zon
theorem zk_230_oo (l : Launch) (X : zx_X) (φ : List z_C) (P : List Int → Prop) : zOk l X 2000000 φ P zk_230_or := zOk_no l X 2000000 φ P
theorem zk_230_r0 : zx1 2000000 (zfinC zk_230_al zk_230_h0.2.2.2.1) (zcutH zk_230_hs zk_230_h0 230 4) zk_230_or 6000 230 4 zk_230_h0.1 (zhS zk_230_h0) [] = true := by decide +kernel
theorem zk_230_r1 : zx1 2000000 (zfinC zk_230_al zk_230_h1.2.2.2.1) (zcutH zk_230_hs zk_230_h1 230 4) zk_230_or 6000 230 4 zk_230_h1.1 (zhS zk_230_h1) [] = true := by decide +kernel
theorem zk_230_c : zCon 230 4 zk_230_te [] zk_230_al := zCon_of (n := 6000) (hs := zk_230_hs) (lo := [(0, 1, 0), (0, 2, 0)]) (c := (.ofNat 67)) (ws := [(.ofNat 0), (.ofNat 0)]) (by decide) (by decide +kernel) zk_230_oo (List.mem_cons_self) (zAll_mem ⟨zk_230_r0, zk_230_r1, trivial⟩)
def zk_230_o : zO_ := zorcC 230 4 zk_230_te [(0, 1, 0), (0, 2, 0)] [] zk_230_al
theorem zk_230_ok (l : Launch) (X : zx_X) (XL : Nat) (φ : List z_C) (P : List Int → Prop) : zOk l X XL φ P zk_230_o := zOk_C zk_230_c (by decide +kernel) l X XL φ P
/-! fitsView -/
def zk_232_te : zA_T := ([((.ofNat 0), (.ofNat 5), zD0), ((.ofNat 0), (.ofNat 5), zD0), ((.ofNat 0), (.ofNat 3), zD0)], zHT, [(0, (2, (.ofNat 46))), (1, (1, (.ofNat 0))), (2, (1, (.ofNat 1))), (3, (1, (.ofNat 2)))], [], 0, 0)
def zk_232_al : List zAlt := [([((.ofNat 0), (.ofNat 1), none)], [(3, 0, 0)], zHT, some (1, (.ofNat 0)))]
def zk_232_h0 : zHd := (0, zk_232_te, [(0, 1, 0), (0, 2, 0), (0, 3, 0)], [], (.ofNat 67), [(.ofNat 0), (.ofNat 0), (.ofNat 0)], [])
def zk_232_h1 : zHd := (3, ([((.ofNat 0), (.ofNat 5), zD0), ((.ofNat 0), (.ofNat 5), zD0), ((.ofNat 0), (.ofNat 3), zD0), ((.ofNat 0), (.ofNat 30), zD0)], zHT, [(0, (2, (.ofNat 46))), (1, (1, (.ofNat 0))), (2, (1, (.ofNat 1))), (3, (1, (.ofNat 2))), (4, (1, (.ofNat 3)))], [], 0, 0), [(0, 1, 0), (0, 2, 0), (0, 3, 0), (0, 4, 0)], [], (.ofNat 61), [(.ofNat 0), (.ofNat 0), (.ofNat 0), (.ofNat 2)], [])
def zk_232_hs : List zHd := [zk_232_h0, zk_232_h1]
def zk_232_or : zO_ := zon
theorem zk_232_oo (l : Launch) (X : zx_X) (φ : List z_C) (P : List Int → Prop) : zOk l X 2000000 φ P zk_232_or := zOk_no l X 2000000 φ P
theorem zk_232_r0 : zx1 2000000 (zfinC zk_232_al zk_232_h0.2.2.2.1) (zcutH zk_232_hs zk_232_h0 232 4) zk_232_or 6000 232 4 zk_232_h0.1 (zhS zk_232_h0) [] = true := by decide +kernel
theorem zk_232_r1 : zx1 2000000 (zfinC zk_232_al zk_232_h1.2.2.2.1) (zcutH zk_232_hs zk_232_h1 232 4) zk_232_or 6000 232 4 zk_232_h1.1 (zhS zk_232_h1) [] = true := by decide +kernel
theorem zk_232_c : zCon 232 4 zk_232_te [] zk_232_al := zCon_of (n := 6000) (hs := zk_232_hs) (lo := [(0, 1, 0), (0, 2, 0), (0, 3, 0)]) (c := (.ofNat 67)) (ws := [(.ofNat 0), (.ofNat 0), (.ofNat 0)]) (by decide) (by decide +kernel) zk_232_oo (List.mem_cons_self) (zAll_mem ⟨zk_232_r0, zk_232_r1, trivial⟩)
def zk_232_o : zO_ := zorcC 232 4 zk_232_te [(0, 1, 0), (0, 2, 0), (0, 3, 0)] [] zk_232_al
theorem zk_232_ok (l : Launch) (X : zx_X) (XL : Nat) (φ : List z_C) (P : List Int → Prop) : zOk l X XL φ P zk_232_o := zOk_C zk_232_c (by decide +kernel) l X XL φ P
