/-! PART 20.21: what methods do, agree, count, drawn, farOf, led, like, split, standingWith, taken, trace, whose. -/
/-! whose -/
def zk_233_te : zA_T := ([((.negSucc 2147483647), (.ofNat 2147483647), zD0), ((.negSucc 2147483647), (.ofNat 2147483647), zD0)], zHT, [(0, (2, (.ofNat 46))), (1, (1, (.ofNat 0))), (2, (1, (.ofNat 1)))], [], 0, 0)
def zk_233_al : List zAlt := [([((.negSucc 2147483647), (.ofNat 2147483647), none)], [(3, 0, 0)], zHT, some (1, (.ofNat 0)))]
def zk_233_h0 : zHd := (0, zk_233_te, [(0, 1, 0), (0, 2, 0)], [], (.ofNat 8217), [(.ofNat 0), (.ofNat 0)], [])
def zk_233_h1 : zHd := (40, ([((.ofNat 0), (.ofNat 5), zD0), ((.ofNat 0), (.ofNat 1), zD0), ((.ofNat 0), (.ofNat 511), zD0), ((.ofNat 0), (.ofNat 8), zD0)], zHT, [(0, (2, (.ofNat 46))), (1, (1, (.ofNat 0))), (2, (1, (.ofNat 1))), (3, (1, (.ofNat 2))), (4, (1, (.ofNat 3)))], [], 0, 0), [(0, 1, 0), (0, 2, 0), (0, 3, 0), (0, 4, 0)], [], (.ofNat 8211), [(.ofNat 0), (.ofNat 0), (.ofNat 0), (.ofNat 2)], [])
def zk_233_h2 : zHd := (89, ([((.ofNat 0), (.ofNat 5), zD0), ((.ofNat 0), (.ofNat 1), zD0), ((.ofNat 0), (.ofNat 511), zD0), ((.negSucc 2147483647), (.ofNat 2147483647), zD0), ((.ofNat 0), (.ofNat 4096), zD0)], zHT, [(0, (2, (.ofNat 46))), (1, (1, (.ofNat 0))), (2, (1, (.ofNat 1))), (3, (1, (.ofNat 2))), (4, (1, (.ofNat 3))), (5, (1, (.ofNat 4)))], [], 0, 0), [(0, 1, 0), (0, 2, 0), (0, 3, 0), (0, 4, 0), (0, 5, 0)], [], (.ofNat 8193), [(.ofNat 0), (.ofNat 0), (.ofNat 0), (.ofNat 0), (.ofNat 2)], [])
def zk_233_hs : List zHd := [zk_233_h0, zk_233_h1, zk_233_h2]
def zk_233_or : zO_ := zor zk_230_o (zon)
theorem zk_233_oo (l : Launch) (X : zx_X) (φ : List z_C) (P : List Int → Prop) : zOk l X 2000000 φ P zk_233_or := zOk_or (zk_230_ok l X 2000000 φ P) (zOk_no l X 2000000 φ P)
theorem zk_233_r0 : zx1 2000000 (zfinC zk_233_al zk_233_h0.2.2.2.1) (zcutH zk_233_hs zk_233_h0 233 6) zk_233_or 6000 233 6 zk_233_h0.1 (zhS zk_233_h0) [] = true := by decide +kernel
theorem zk_233_r1 : zx1 2000000 (zfinC zk_233_al zk_233_h1.2.2.2.1) (zcutH zk_233_hs zk_233_h1 233 6) zk_233_or 6000 233 6 zk_233_h1.1 (zhS zk_233_h1) [] = true := by decide +kernel
theorem zk_233_r2 : zx1 2000000 (zfinC zk_233_al zk_233_h2.2.2.2.1) (zcutH zk_233_hs zk_233_h2 233 6) zk_233_or 6000 233 6 zk_233_h2.1 (zhS zk_233_h2) [] = true := by decide +kernel
theorem zk_233_c : zCon 233 6 zk_233_te [] zk_233_al := zCon_of (n := 6000) (hs := zk_233_hs) (lo := [(0, 1, 0), (0, 2, 0)]) (c := (.ofNat 8217)) (ws := [(.ofNat 0), (.ofNat 0)]) (by decide) (by decide +kernel) zk_233_oo (List.mem_cons_self) (zAll_mem ⟨zk_233_r0, zk_233_r1, zk_233_r2, trivial⟩)
def zk_233_o : zO_ := zorcC 233 6 zk_233_te [(0, 1, 0), (0, 2, 0)] [] zk_233_al
theorem zk_233_ok (l : Launch) (X : zx_X) (XL : Nat) (φ : List z_C) (P : List Int → Prop) : zOk l X XL φ P zk_233_o := zOk_C zk_233_c (by decide +kernel) l X XL φ P
/-! farOf -/
def zk_235_te : zA_T := ([((.ofNat 0), (.ofNat 9), zD0), ((.ofNat 0), (.ofNat 9), zD0)], zHT, [(0, (2, (.ofNat 46))), (1, (1, (.ofNat 0))), (2, (1, (.ofNat 1)))], [], 0, 0)
def zk_235_al : List zAlt := [([((.negSucc 2147483647), (.ofNat 2147483647), none)], [(3, 0, 0)], zHT, some (1, (.ofNat 0)))]
def zk_235_h0 : zHd := (0, zk_235_te, [(0, 1, 0), (0, 2, 0)], [], (.ofNat 19), [(.ofNat 0), (.ofNat 0)], [])
def zk_235_h1 : zHd := (5, ([((.ofNat 0), (.ofNat 9), zD0), ((.ofNat 0), (.ofNat 9), zD0), ((.negSucc 2147483647), (.ofNat 2147483647), zD0), ((.ofNat 0), (.ofNat 6), zD0)], zHT, [(0, (2, (.ofNat 46))), (1, (1, (.ofNat 0))), (2, (1, (.ofNat 1))), (3, (1, (.ofNat 2))), (4, (1, (.ofNat 3)))], [], 0, 0), [(0, 1, 0), (0, 2, 0), (0, 3, 0), (0, 4, 0)], [], (.ofNat 13), [(.ofNat 0), (.ofNat 0), (.ofNat 0), (.ofNat 2)], [])
def zk_235_hs : List zHd := [zk_235_h0, zk_235_h1]
def zk_235_or : zO_ := zon
theorem zk_235_oo (l : Launch) (X : zx_X) (φ : List z_C) (P : List Int → Prop) : zOk l X 2000000 φ P zk_235_or := zOk_no l X 2000000 φ P
theorem zk_235_r0 : zx1 2000000 (zfinC zk_235_al zk_235_h0.2.2.2.1) (zcutH zk_235_hs zk_235_h0 235 4) zk_235_or 6000 235 4 zk_235_h0.1 (zhS zk_235_h0) [] = true := by decide +kernel
theorem zk_235_r1 : zx1 2000000 (zfinC zk_235_al zk_235_h1.2.2.2.1) (zcutH zk_235_hs zk_235_h1 235 4) zk_235_or 6000 235 4 zk_235_h1.1 (zhS zk_235_h1) [] = true := by decide +kernel
theorem zk_235_c : zCon 235 4 zk_235_te [] zk_235_al := zCon_of (n := 6000) (hs := zk_235_hs) (lo := [(0, 1, 0), (0, 2, 0)]) (c := (.ofNat 19)) (ws := [(.ofNat 0), (.ofNat 0)]) (by decide) (by decide +kernel) zk_235_oo (List.mem_cons_self) (zAll_mem ⟨zk_235_r0, zk_235_r1, trivial⟩)
def zk_235_o : zO_ := zorcC 235 4 zk_235_te [(0, 1, 0), (0, 2, 0)] [] zk_235_al
theorem zk_235_ok (l : Launch) (X : zx_X) (XL : Nat) (φ : List z_C) (P : List Int → Prop) : zOk l X XL φ P zk_235_o := zOk_C zk_235_c (by decide +kernel) l X XL φ P
/-! agree -/
def zk_234_te : zA_T := ([((.negSucc 2147483647), (.ofNat 2147483647), zD0), ((.negSucc 2147483647), (.ofNat 2147483647), zD0)], zHT, [(0, (2, (.ofNat 46))), (1, (1, (.ofNat 0))), (2, (1, (.ofNat 1)))], [], 0, 0)
def zk_234_al : List zAlt := [([((.negSucc 2147483647), (.ofNat 2147483647), none)], [(3, 0, 0)], zHT, some (1, (.ofNat 0)))]
def zk_234_h0 : zHd := (0, zk_234_te, [(0, 1, 0), (0, 2, 0)], [], (.ofNat 19), [(.ofNat 0), (.ofNat 0)], [])
def zk_234_h1 : zHd := (45, ([((.ofNat 0), (.ofNat 99), zD0), ((.ofNat 0), (.ofNat 1), zD0), ((.negSucc 2147483647), (.ofNat 2147483647), zD0), ((.ofNat 0), (.ofNat 6), zD0)], zHT, [(0, (2, (.ofNat 46))), (1, (1, (.ofNat 0))), (2, (1, (.ofNat 1))), (3, (1, (.ofNat 2))), (4, (1, (.ofNat 3)))], [], 0, 0), [(0, 1, 0), (0, 2, 0), (0, 3, 0), (0, 4, 0)], [], (.ofNat 13), [(.ofNat 0), (.ofNat 0), (.ofNat 0), (.ofNat 2)], [])
def zk_234_hs : List zHd := [zk_234_h0, zk_234_h1]
def zk_234_or : zO_ := zor zk_235_o (zon)
theorem zk_234_oo (l : Launch) (X : zx_X) (φ : List z_C) (P : List Int → Prop) : zOk l X 2000000 φ P zk_234_or := zOk_or (zk_235_ok l X 2000000 φ P) (zOk_no l X 2000000 φ P)
theorem zk_234_r0 : zx1 2000000 (zfinC zk_234_al zk_234_h0.2.2.2.1) (zcutH zk_234_hs zk_234_h0 234 6) zk_234_or 6000 234 6 zk_234_h0.1 (zhS zk_234_h0) [] = true := by decide +kernel
theorem zk_234_r1 : zx1 2000000 (zfinC zk_234_al zk_234_h1.2.2.2.1) (zcutH zk_234_hs zk_234_h1 234 6) zk_234_or 6000 234 6 zk_234_h1.1 (zhS zk_234_h1) [] = true := by decide +kernel
theorem zk_234_c : zCon 234 6 zk_234_te [] zk_234_al := zCon_of (n := 6000) (hs := zk_234_hs) (lo := [(0, 1, 0), (0, 2, 0)]) (c := (.ofNat 19)) (ws := [(.ofNat 0), (.ofNat 0)]) (by decide) (by decide +kernel) zk_234_oo (List.mem_cons_self) (zAll_mem ⟨zk_234_r0, zk_234_r1, trivial⟩)
def zk_234_o : zO_ := zorcC 234 6 zk_234_te [(0, 1, 0), (0, 2, 0)] [] zk_234_al
theorem zk_234_ok (l : Launch) (X : zx_X) (XL : Nat) (φ : List z_C) (P : List Int → Prop) : zOk l X XL φ P zk_234_o := zOk_C zk_234_c (by decide +kernel) l X XL φ P
/-! like -/
def zk_236_te : zA_T := ([((.negSucc 2147483647), (.ofNat 2147483647), zD0)], zHT, [(0, (2, (.ofNat 46))), (1, (1, (.ofNat 0)))], [], 0, 0)
def zk_236_al : List zAlt := [([((.negSucc 1), (.ofNat 7), none)], [(3, 0, 0)], zHT, some (1, (.ofNat 0)))]
def zk_236_h0 : zHd := (0, zk_236_te, [(0, 1, 0)], [], (.ofNat 23), [(.ofNat 0)], [])
def zk_236_h1 : zHd := (16, ([((.ofNat 0), (.ofNat 7), zD0), ((.negSucc 1), (.ofNat 7), zD0), ((.ofNat 0), (.ofNat 8), zD0)], zHT, [(0, (2, (.ofNat 46))), (1, (1, (.ofNat 0))), (2, (1, (.ofNat 1))), (3, (1, (.ofNat 2)))], [], 0, 0), [(0, 1, 0), (0, 2, 0), (0, 3, 0)], [], (.ofNat 17), [(.ofNat 0), (.ofNat 0), (.ofNat 2)], [])
def zk_236_hs : List zHd := [zk_236_h0, zk_236_h1]
def zk_236_or : zO_ := zor zk_235_o (zon)
theorem zk_236_oo (l : Launch) (X : zx_X) (φ : List z_C) (P : List Int → Prop) : zOk l X 2000000 φ P zk_236_or := zOk_or (zk_235_ok l X 2000000 φ P) (zOk_no l X 2000000 φ P)
theorem zk_236_r0 : zx1 2000000 (zfinC zk_236_al zk_236_h0.2.2.2.1) (zcutH zk_236_hs zk_236_h0 236 6) zk_236_or 6000 236 6 zk_236_h0.1 (zhS zk_236_h0) [] = true := by decide +kernel
theorem zk_236_r1 : zx1 2000000 (zfinC zk_236_al zk_236_h1.2.2.2.1) (zcutH zk_236_hs zk_236_h1 236 6) zk_236_or 6000 236 6 zk_236_h1.1 (zhS zk_236_h1) [] = true := by decide +kernel
theorem zk_236_c : zCon 236 6 zk_236_te [] zk_236_al := zCon_of (n := 6000) (hs := zk_236_hs) (lo := [(0, 1, 0)]) (c := (.ofNat 23)) (ws := [(.ofNat 0)]) (by decide) (by decide +kernel) zk_236_oo (List.mem_cons_self) (zAll_mem ⟨zk_236_r0, zk_236_r1, trivial⟩)
def zk_236_o : zO_ := zorcC 236 6 zk_236_te [(0, 1, 0)] [] zk_236_al
theorem zk_236_ok (l : Launch) (X : zx_X) (XL : Nat) (φ : List z_C) (P : List Int → Prop) : zOk l X XL φ P zk_236_o := zOk_C zk_236_c (by decide +kernel) l X XL φ P
/-! standingWith -/
def zk_238_te : zA_T := ([((.ofNat 0), (.ofNat 23), zD0)], zHT, [(0, (2, (.ofNat 46))), (1, (1, (.ofNat 0)))], [], 0, 0)
def zk_238_al : List zAlt := [([((.negSucc 2147483647), (.ofNat 2147483647), none)], [(3, 0, 0)], zHT, some (1, (.ofNat 0)))]
def zk_238_h0 : zHd := (0, zk_238_te, [(0, 1, 0)], [], (.ofNat 23), [(.ofNat 0)], [])
def zk_238_h1 : zHd := (4, ([((.ofNat 0), (.ofNat 23), zD0), ((.negSucc 2147483647), (.ofNat 2147483647), zD0), ((.ofNat 0), (.ofNat 8), zD0)], zHT, [(0, (2, (.ofNat 46))), (1, (1, (.ofNat 0))), (2, (1, (.ofNat 1))), (3, (1, (.ofNat 2)))], [], 0, 0), [(0, 1, 0), (0, 2, 0), (0, 3, 0)], [], (.ofNat 17), [(.ofNat 0), (.ofNat 0), (.ofNat 2)], [])
def zk_238_hs : List zHd := [zk_238_h0, zk_238_h1]
def zk_238_or : zO_ := zon
theorem zk_238_oo (l : Launch) (X : zx_X) (φ : List z_C) (P : List Int → Prop) : zOk l X 2000000 φ P zk_238_or := zOk_no l X 2000000 φ P
theorem zk_238_r0 : zx1 2000000 (zfinC zk_238_al zk_238_h0.2.2.2.1) (zcutH zk_238_hs zk_238_h0 238 5) zk_238_or 6000 238 5 zk_238_h0.1 (zhS zk_238_h0) [] = true := by decide +kernel
theorem zk_238_r1 : zx1 2000000 (zfinC zk_238_al zk_238_h1.2.2.2.1) (zcutH zk_238_hs zk_238_h1 238 5) zk_238_or 6000 238 5 zk_238_h1.1 (zhS zk_238_h1) [] = true := by decide +kernel
theorem zk_238_c : zCon 238 5 zk_238_te [] zk_238_al := zCon_of (n := 6000) (hs := zk_238_hs) (lo := [(0, 1, 0)]) (c := (.ofNat 23)) (ws := [(.ofNat 0)]) (by decide) (by decide +kernel) zk_238_oo (List.mem_cons_self) (zAll_mem ⟨zk_238_r0, zk_238_r1, trivial⟩)
def zk_238_o : zO_ := zorcC 238 5 zk_238_te [(0, 1, 0)] [] zk_238_al
theorem zk_238_ok (l : Launch) (X : zx_X) (XL : Nat) (φ : List z_C) (P : List Int → Prop) : zOk l X XL φ P zk_238_o := zOk_C zk_238_c (by decide +kernel) l X XL φ P
/-! split -/
def zk_237_te : zA_T := ([((.negSucc 2147483647), (.ofNat 2147483647), zD0)], zHT, [(0, (2, (.ofNat 46))), (1, (1, (.ofNat 0)))], [], 0, 0)
def zk_237_al : List zAlt := [([((.negSucc 0), (.ofNat 5), none)], [(3, 0, 0)], zHT, some (1, (.ofNat 0)))]
def zk_237_h0 : zHd := (0, zk_237_te, [(0, 1, 0)], [], (.ofNat 75), [(.ofNat 0)], [])
def zk_237_h1 : zHd := (23, ([((.ofNat 0), (.ofNat 1), zD0), ((.ofNat 0), (.ofNat 5), zD0), ((.ofNat 0), (.ofNat 3), zD0), ((.negSucc 2147483647), (.ofNat 2147483647), zD0), ((.ofNat 0), (.ofNat 6), zD0)], zHT, [(0, (2, (.ofNat 46))), (1, (1, (.ofNat 0))), (2, (1, (.ofNat 1))), (3, (1, (.ofNat 2))), (4, (1, (.ofNat 3))), (5, (1, (.ofNat 4)))], [], 0, 0), [(0, 1, 0), (0, 2, 0), (0, 3, 0), (0, 4, 0), (0, 5, 0)], [], (.ofNat 69), [(.ofNat 0), (.ofNat 0), (.ofNat 0), (.ofNat 0), (.ofNat 10)], [])
def zk_237_h2 : zHd := (36, ([((.ofNat 0), (.ofNat 1), zD0), ((.ofNat 0), (.ofNat 5), zD0), ((.ofNat 0), (.ofNat 3), zD0), ((.negSucc 2147483647), (.ofNat 2147483647), zD0), ((.ofNat 0), (.ofNat 5), zD0), ((.ofNat 0), (.ofNat 3), zD0), ((.ofNat 1), (.ofNat 4), zD0)], zHT, [(0, (2, (.ofNat 46))), (1, (1, (.ofNat 0))), (2, (1, (.ofNat 1))), (3, (1, (.ofNat 2))), (4, (1, (.ofNat 3))), (5, (1, (.ofNat 4))), (6, (1, (.ofNat 5))), (7, (1, (.ofNat 6)))], [], 0, 0), [(0, 1, 0), (0, 2, 0), (0, 3, 0), (0, 4, 0), (0, 5, 0), (0, 6, 0), (0, 7, 0)], [], (.ofNat 69), [(.ofNat 0), (.ofNat 0), (.ofNat 0), (.ofNat 0), (.ofNat 10), (.ofNat 0), (.ofNat 2)], [])
def zk_237_hs : List zHd := [zk_237_h0, zk_237_h1, zk_237_h2]
def zk_237_or : zO_ := zor zk_238_o (zon)
theorem zk_237_oo (l : Launch) (X : zx_X) (φ : List z_C) (P : List Int → Prop) : zOk l X 2000000 φ P zk_237_or := zOk_or (zk_238_ok l X 2000000 φ P) (zOk_no l X 2000000 φ P)
theorem zk_237_r0 : zx1 2000000 (zfinC zk_237_al zk_237_h0.2.2.2.1) (zcutH zk_237_hs zk_237_h0 237 7) zk_237_or 6000 237 7 zk_237_h0.1 (zhS zk_237_h0) [] = true := by decide +kernel
theorem zk_237_r1 : zx1 2000000 (zfinC zk_237_al zk_237_h1.2.2.2.1) (zcutH zk_237_hs zk_237_h1 237 7) zk_237_or 6000 237 7 zk_237_h1.1 (zhS zk_237_h1) [] = true := by decide +kernel
theorem zk_237_r2 : zx1 2000000 (zfinC zk_237_al zk_237_h2.2.2.2.1) (zcutH zk_237_hs zk_237_h2 237 7) zk_237_or 6000 237 7 zk_237_h2.1 (zhS zk_237_h2) [] = true := by decide +kernel
theorem zk_237_c : zCon 237 7 zk_237_te [] zk_237_al := zCon_of (n := 6000) (hs := zk_237_hs) (lo := [(0, 1, 0)]) (c := (.ofNat 75)) (ws := [(.ofNat 0)]) (by decide) (by decide +kernel) zk_237_oo (List.mem_cons_self) (zAll_mem ⟨zk_237_r0, zk_237_r1, zk_237_r2, trivial⟩)
def zk_237_o : zO_ := zorcC 237 7 zk_237_te [(0, 1, 0)] [] zk_237_al
theorem zk_237_ok (l : Launch) (X : zx_X) (XL : Nat) (φ : List z_C) (P : List Int → Prop) : zOk l X XL φ P zk_237_o := zOk_C zk_237_c (by decide +kernel) l X XL φ P
/-! drawn -/
def zk_239_te : zA_T := ([((.negSucc 2147483647), (.ofNat 2147483647), zD0), ((.negSucc 2147483647), (.ofNat 2147483647), zD0), ((.negSucc 2147483647), (.ofNat 2147483647), zD0)], zHT, [(0, (2, (.ofNat 46))), (1, (1, (.ofNat 0))), (2, (1, (.ofNat 1))), (3, (1, (.ofNat 2)))], [], 0, 0)
def zk_239_al : List zAlt := [([((.negSucc 2147483647), (.ofNat 2147483647), none)], [(3, 0, 0)], zHT, some (1, (.ofNat 0)))]
def zk_239_h0 : zHd := (0, zk_239_te, [(0, 1, 0), (0, 2, 0), (0, 3, 0)], [], (.ofNat 12529), [(.ofNat 0), (.ofNat 0), (.ofNat 0)], [])
def zk_239_h1 : zHd := (61, ([((.negSucc 2147483647), (.ofNat 2147483647), zD0), ((.ofNat 100), (.ofNat 4095), zD0), ((.negSucc 0), (.ofNat 23), zD0), ((.negSucc 2147483647), (.ofNat 2147483647), zD0), ((.negSucc 2147483647), (.ofNat 2147483647), zD0), ((.negSucc 2147483647), (.ofNat 2147483647), zD0), ((.ofNat 0), (.ofNat 61), zD0)], zHT, [(0, (2, (.ofNat 46))), (1, (1, (.ofNat 0))), (2, (1, (.ofNat 1))), (3, (1, (.ofNat 2))), (4, (1, (.ofNat 3))), (5, (1, (.ofNat 4))), (6, (1, (.ofNat 5))), (7, (1, (.ofNat 6)))], [], 0, 0), [(0, 1, 0), (0, 2, 0), (0, 3, 0), (0, 4, 0), (0, 5, 0), (0, 6, 0), (0, 7, 0)], [], (.ofNat 12523), [(.ofNat 0), (.ofNat 0), (.ofNat 0), (.ofNat 0), (.ofNat 0), (.ofNat 0), (.ofNat 202)], [])
def zk_239_h2 : zHd := (83, ([((.negSucc 2147483647), (.ofNat 2147483647), zD0), ((.ofNat 100), (.ofNat 4095), zD0), ((.negSucc 0), (.ofNat 23), zD0), ((.negSucc 2147483647), (.ofNat 2147483647), zD0), ((.negSucc 2147483647), (.ofNat 2147483647), zD0), ((.negSucc 2147483647), (.ofNat 2147483647), zD0), ((.ofNat 0), (.ofNat 60), zD0), ((.ofNat 0), (.ofNat 16777215), zD0), ((.ofNat 0), (.ofNat 99), zD0)], zHT, [(0, (2, (.ofNat 46))), (1, (1, (.ofNat 0))), (2, (1, (.ofNat 1))), (3, (1, (.ofNat 2))), (4, (1, (.ofNat 3))), (5, (1, (.ofNat 4))), (6, (1, (.ofNat 5))), (7, (1, (.ofNat 6))), (8, (1, (.ofNat 7))), (9, (1, (.ofNat 8)))], [], 0, 0), [(0, 1, 0), (0, 2, 0), (0, 3, 0), (0, 4, 0), (0, 5, 0), (0, 6, 0), (0, 7, 0), (0, 8, 0), (0, 9, 0)], [], (.ofNat 12521), [(.ofNat 0), (.ofNat 0), (.ofNat 0), (.ofNat 0), (.ofNat 0), (.ofNat 0), (.ofNat 202), (.ofNat 0), (.ofNat 2)], [])
def zk_239_hs : List zHd := [zk_239_h0, zk_239_h1, zk_239_h2]
def zk_239_or : zO_ := zor zk_209_o (zor zk_203_o (zor zk_212_o (zon)))
theorem zk_239_oo (l : Launch) (X : zx_X) (φ : List z_C) (P : List Int → Prop) : zOk l X 2000000 φ P zk_239_or := zOk_or (zk_209_ok l X 2000000 φ P) (zOk_or (zk_203_ok l X 2000000 φ P) (zOk_or (zk_212_ok l X 2000000 φ P) (zOk_no l X 2000000 φ P)))
theorem zk_239_r0 : zx1 2000000 (zfinC zk_239_al zk_239_h0.2.2.2.1) (zcutH zk_239_hs zk_239_h0 239 95) zk_239_or 6000 239 95 zk_239_h0.1 (zhS zk_239_h0) [] = true := by decide +kernel
theorem zk_239_r1 : zx1 2000000 (zfinC zk_239_al zk_239_h1.2.2.2.1) (zcutH zk_239_hs zk_239_h1 239 95) zk_239_or 6000 239 95 zk_239_h1.1 (zhS zk_239_h1) [] = true := by decide +kernel
theorem zk_239_r2 : zx1 2000000 (zfinC zk_239_al zk_239_h2.2.2.2.1) (zcutH zk_239_hs zk_239_h2 239 95) zk_239_or 6000 239 95 zk_239_h2.1 (zhS zk_239_h2) [] = true := by decide +kernel
theorem zk_239_c : zCon 239 95 zk_239_te [] zk_239_al := zCon_of (n := 6000) (hs := zk_239_hs) (lo := [(0, 1, 0), (0, 2, 0), (0, 3, 0)]) (c := (.ofNat 12529)) (ws := [(.ofNat 0), (.ofNat 0), (.ofNat 0)]) (by decide) (by decide +kernel) zk_239_oo (List.mem_cons_self) (zAll_mem ⟨zk_239_r0, zk_239_r1, zk_239_r2, trivial⟩)
def zk_239_o : zO_ := zorcC 239 95 zk_239_te [(0, 1, 0), (0, 2, 0), (0, 3, 0)] [] zk_239_al
theorem zk_239_ok (l : Launch) (X : zx_X) (XL : Nat) (φ : List z_C) (P : List Int → Prop) : zOk l X XL φ P zk_239_o := zOk_C zk_239_c (by decide +kernel) l X XL φ P
/-! led -/
def zk_244_te : zA_T := ([((.negSucc 2147483647), (.ofNat 2147483647), zD0)], zHT, [(0, (2, (.ofNat 46))), (1, (1, (.ofNat 0)))], [], 0, 0)
def zk_244_al : List zAlt := [([((.negSucc 2147483647), (.ofNat 2147483647), none)], [(3, 0, 0)], zHT, some (1, (.ofNat 0)))]
def zk_244_h0 : zHd := (0, zk_244_te, [(0, 1, 0)], [], (.ofNat 5), [(.ofNat 0)], [])
def zk_244_hs : List zHd := [zk_244_h0]
def zk_244_or : zO_ := zon
theorem zk_244_oo (l : Launch) (X : zx_X) (φ : List z_C) (P : List Int → Prop) : zOk l X 2000000 φ P zk_244_or := zOk_no l X 2000000 φ P
theorem zk_244_r0 : zx1 2000000 (zfinC zk_244_al zk_244_h0.2.2.2.1) (zcutH zk_244_hs zk_244_h0 244 3) zk_244_or 6000 244 3 zk_244_h0.1 (zhS zk_244_h0) [] = true := by decide +kernel
theorem zk_244_c : zCon 244 3 zk_244_te [] zk_244_al := zCon_of (n := 6000) (hs := zk_244_hs) (lo := [(0, 1, 0)]) (c := (.ofNat 5)) (ws := [(.ofNat 0)]) (by decide) (by decide +kernel) zk_244_oo (List.mem_cons_self) (zAll_mem ⟨zk_244_r0, trivial⟩)
def zk_244_o : zO_ := zorcC 244 3 zk_244_te [(0, 1, 0)] [] zk_244_al
theorem zk_244_ok (l : Launch) (X : zx_X) (XL : Nat) (φ : List z_C) (P : List Int → Prop) : zOk l X XL φ P zk_244_o := zOk_C zk_244_c (by decide +kernel) l X XL φ P
/-! trace -/
def zk_255_te : zA_T := ([((.negSucc 2147483647), (.ofNat 2147483647), zD0)], zHT, [(0, (2, (.ofNat 46))), (1, (1, (.ofNat 0)))], [], 0, 0)
def zk_255_al : List zAlt := [([((.negSucc 2147483647), (.ofNat 2147483647), none)], [(3, 0, 0)], zHT, some (1, (.ofNat 0)))]
def zk_255_h0 : zHd := (0, zk_255_te, [(0, 1, 0)], [], (.ofNat 5), [(.ofNat 0)], [])
def zk_255_hs : List zHd := [zk_255_h0]
def zk_255_or : zO_ := zon
theorem zk_255_oo (l : Launch) (X : zx_X) (φ : List z_C) (P : List Int → Prop) : zOk l X 2000000 φ P zk_255_or := zOk_no l X 2000000 φ P
theorem zk_255_r0 : zx1 2000000 (zfinC zk_255_al zk_255_h0.2.2.2.1) (zcutH zk_255_hs zk_255_h0 255 2) zk_255_or 6000 255 2 zk_255_h0.1 (zhS zk_255_h0) [] = true := by decide +kernel
theorem zk_255_c : zCon 255 2 zk_255_te [] zk_255_al := zCon_of (n := 6000) (hs := zk_255_hs) (lo := [(0, 1, 0)]) (c := (.ofNat 5)) (ws := [(.ofNat 0)]) (by decide) (by decide +kernel) zk_255_oo (List.mem_cons_self) (zAll_mem ⟨zk_255_r0, trivial⟩)
def zk_255_o : zO_ := zorcC 255 2 zk_255_te [(0, 1, 0)] [] zk_255_al
theorem zk_255_ok (l : Launch) (X : zx_X) (XL : Nat) (φ : List z_C) (P : List Int → Prop) : zOk l X XL φ P zk_255_o := zOk_C zk_255_c (by decide +kernel) l X XL φ P
/-! taken -/
def zk_263_te : zA_T := ([((.negSucc 2147483647), (.ofNat 2147483647), zD0), ((.negSucc 2147483647), (.ofNat 2147483647), zD0)], zHT, [(0, (2, (.ofNat 46))), (1, (1, (.ofNat 0))), (2, (1, (.ofNat 1)))], [], 0, 0)
def zk_263_al : List zAlt := [([((.negSucc 11), (.ofNat 7), none)], [(3, 0, 0)], zHT, some (1, (.ofNat 0)))]
def zk_263_h0 : zHd := (0, zk_263_te, [(0, 1, 0), (0, 2, 0)], [], (.ofNat 5), [(.ofNat 0), (.ofNat 0)], [])
def zk_263_hs : List zHd := [zk_263_h0]
def zk_263_or : zO_ := zon
theorem zk_263_oo (l : Launch) (X : zx_X) (φ : List z_C) (P : List Int → Prop) : zOk l X 2000000 φ P zk_263_or := zOk_no l X 2000000 φ P
theorem zk_263_r0 : zx1 2000000 (zfinC zk_263_al zk_263_h0.2.2.2.1) (zcutH zk_263_hs zk_263_h0 263 4) zk_263_or 6000 263 4 zk_263_h0.1 (zhS zk_263_h0) [] = true := by decide +kernel
theorem zk_263_c : zCon 263 4 zk_263_te [] zk_263_al := zCon_of (n := 6000) (hs := zk_263_hs) (lo := [(0, 1, 0), (0, 2, 0)]) (c := (.ofNat 5)) (ws := [(.ofNat 0), (.ofNat 0)]) (by decide) (by decide +kernel) zk_263_oo (List.mem_cons_self) (zAll_mem ⟨zk_263_r0, trivial⟩)
def zk_263_o : zO_ := zorcC 263 4 zk_263_te [(0, 1, 0), (0, 2, 0)] [] zk_263_al
theorem zk_263_ok (l : Launch) (X : zx_X) (XL : Nat) (φ : List z_C) (P : List Int → Prop) : zOk l X XL φ P zk_263_o := zOk_C zk_263_c (by decide +kernel) l X XL φ P
/-! count -/
def zk_266_te : zA_T := ([((.negSucc 2147483647), (.ofNat 2147483647), zD0)], zHT, [(0, (2, (.ofNat 46))), (1, (1, (.ofNat 0)))], [], 0, 0)
def zk_266_al : List zAlt := [([((.negSucc 2147483647), (.ofNat 2147483647), none)], [(3, 0, 0)], zHT, some (1, (.ofNat 0)))]
def zk_266_h0 : zHd := (0, zk_266_te, [(0, 1, 0)], [], (.ofNat 5), [(.ofNat 0)], [])
def zk_266_hs : List zHd := [zk_266_h0]
def zk_266_or : zO_ := zor zk_209_o (zon)
theorem zk_266_oo (l : Launch) (X : zx_X) (φ : List z_C) (P : List Int → Prop) : zOk l X 2000000 φ P zk_266_or := zOk_or (zk_209_ok l X 2000000 φ P) (zOk_no l X 2000000 φ P)
theorem zk_266_r0 : zx1 2000000 (zfinC zk_266_al zk_266_h0.2.2.2.1) (zcutH zk_266_hs zk_266_h0 266 4) zk_266_or 6000 266 4 zk_266_h0.1 (zhS zk_266_h0) [] = true := by decide +kernel
theorem zk_266_c : zCon 266 4 zk_266_te [] zk_266_al := zCon_of (n := 6000) (hs := zk_266_hs) (lo := [(0, 1, 0)]) (c := (.ofNat 5)) (ws := [(.ofNat 0)]) (by decide) (by decide +kernel) zk_266_oo (List.mem_cons_self) (zAll_mem ⟨zk_266_r0, trivial⟩)
def zk_266_o : zO_ := zorcC 266 4 zk_266_te [(0, 1, 0)] [] zk_266_al
theorem zk_266_ok (l : Launch) (X : zx_X) (XL : Nat) (φ : List z_C) (P : List Int → Prop) : zOk l X XL φ P zk_266_o := zOk_C zk_266_c (by decide +kernel) l X XL φ P
