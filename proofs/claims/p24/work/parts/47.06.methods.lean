/-! PART 20.06: what methods do, byTurns, count, drawn, trace. -/
/-! byTurns -/
def zk_226_te : zA_T := ([((.negSucc 2147483647), (.ofNat 2147483647), zD0), ((.negSucc 2147483647), (.ofNat 2147483647), zD0)], ((((((zFr.set 43 zh_43).set 44 zh_44).set 48 zh_48).set 49 zh_49).set 50 zh_50).set 51 zh_51), [(0, (2, (.ofNat 46))), (1, (1, (.ofNat 0))), (2, (1, (.ofNat 1)))], [], 0, 0)
def zk_226_al : List zAlt := [([((.negSucc 2147483647), (.ofNat 2147483647), none)], [(3, 0, 0)], ((((((zFr.set 43 zh_43).set 44 zh_44).set 48 zh_48).set 49 zh_49).set 50 zh_50).set 51 zh_51), some (1, (.ofNat 0)))]
def zk_226_h0 : zHd := (0, zk_226_te, [(0, 1, 0), (0, 2, 0)], [], (.ofNat 55), [(.ofNat 0), (.ofNat 0)], [])
def zk_226_h1 : zHd := (123, ([((.ofNat 0), (.ofNat 1000), zD0), ((.ofNat 0), (.ofNat 7), zD0), ((.ofNat 0), (.ofNat 7), zD0), ((.ofNat 1), (.ofNat 3), zD0), ((.negSucc 2147483647), (.ofNat 2147483647), zD0), ((.ofNat 0), (.ofNat 24), zD0)], ((((((zFr.set 43 zh_43).set 44 zh_44).set 48 zh_48).set 49 zh_49).set 50 zh_50).set 51 zh_51), [(0, (2, (.ofNat 46))), (1, (1, (.ofNat 0))), (2, (0, (.ofNat 1))), (3, (1, (.ofNat 1))), (4, (1, (.ofNat 2))), (5, (1, (.ofNat 3))), (6, (1, (.ofNat 4))), (7, (1, (.ofNat 5)))], [], 0, 0), [(0, 1, 0), (0, 3, 0), (0, 4, 0), (0, 5, 0), (0, 6, 0), (0, 7, 0)], [], (.ofNat 49), [(.ofNat 0), (.ofNat 0), (.ofNat 0), (.ofNat 0), (.ofNat 0), (.ofNat 2)], [])
def zk_226_hs : List zHd := [zk_226_h0, zk_226_h1]
def zk_226_or : zO_ := zor (zor zk_209_o (zor zk_203_o (zor zk_227_1_1_o (zor zk_227_1_0_o (zor zk_227_2_1_o (zor zk_227_2_0_o (zor zk_227_3_1_o (zor zk_227_3_0_o (zon))))))))) (zspl 227 4 (zor zk_227_1_1_o (zor zk_227_1_0_o (zor zk_227_2_1_o (zor zk_227_2_0_o (zor zk_227_3_1_o (zor zk_227_3_0_o (zon))))))))
theorem zk_226_oo (l : Launch) (X : zx_X) (φ : List z_C) (P : List Int → Prop) : zOk l X 2000000 φ P zk_226_or := zOk_or (zOk_or (zk_209_ok l X 2000000 φ P) (zOk_or (zk_203_ok l X 2000000 φ P) (zOk_or (zk_227_1_1_ok l X 2000000 φ P) (zOk_or (zk_227_1_0_ok l X 2000000 φ P) (zOk_or (zk_227_2_1_ok l X 2000000 φ P) (zOk_or (zk_227_2_0_ok l X 2000000 φ P) (zOk_or (zk_227_3_1_ok l X 2000000 φ P) (zOk_or (zk_227_3_0_ok l X 2000000 φ P) (zOk_no l X 2000000 φ P))))))))) (zOk_spl (m0 := 227) (i := 4) (zOk_or (zk_227_1_1_ok l X 2000000 φ P) (zOk_or (zk_227_1_0_ok l X 2000000 φ P) (zOk_or (zk_227_2_1_ok l X 2000000 φ P) (zOk_or (zk_227_2_0_ok l X 2000000 φ P) (zOk_or (zk_227_3_1_ok l X 2000000 φ P) (zOk_or (zk_227_3_0_ok l X 2000000 φ P) (zOk_no l X 2000000 φ P))))))))
theorem zk_226_r0 : zx1 2000000 (zfinC zk_226_al zk_226_h0.2.2.2.1) (zcutH zk_226_hs zk_226_h0 226 101) zk_226_or 6000 226 101 zk_226_h0.1 (zhS zk_226_h0) [] = true := by decide +kernel
theorem zk_226_r1 : zx1 2000000 (zfinC zk_226_al zk_226_h1.2.2.2.1) (zcutH zk_226_hs zk_226_h1 226 101) zk_226_or 6000 226 101 zk_226_h1.1 (zhS zk_226_h1) [] = true := by decide +kernel
theorem zk_226_c : zCon 226 101 zk_226_te [] zk_226_al := zCon_of (n := 6000) (hs := zk_226_hs) (lo := [(0, 1, 0), (0, 2, 0)]) (c := (.ofNat 55)) (ws := [(.ofNat 0), (.ofNat 0)]) (by decide) (by decide +kernel) zk_226_oo (List.mem_cons_self) (zAll_mem ⟨zk_226_r0, zk_226_r1, trivial⟩)
def zk_226_o : zO_ := zorcF 226 101 zk_226_te [(0, 1, 0), (0, 2, 0)] [] zk_226_al [43, 44, 48, 49, 50, 51] [43, 48, 49, 50, 51]
theorem zk_226_ok (l : Launch) (X : zx_X) (XL : Nat) (φ : List z_C) (P : List Int → Prop) : zOk l X XL φ P zk_226_o := zOk_F zk_226_c (by decide +kernel) l X XL φ P
/-! drawn -/
def zk_239_te : zA_T := ([((.negSucc 2147483647), (.ofNat 2147483647), zD0), ((.negSucc 2147483647), (.ofNat 2147483647), zD0), ((.negSucc 2147483647), (.ofNat 2147483647), zD0)], ((((((zFr.set 43 zh_43).set 44 zh_44).set 48 zh_48).set 49 zh_49).set 50 zh_50).set 51 zh_51), [(0, (2, (.ofNat 46))), (1, (1, (.ofNat 0))), (2, (1, (.ofNat 1))), (3, (1, (.ofNat 2)))], [], 0, 0)
def zk_239_al : List zAlt := [([((.negSucc 2147483647), (.ofNat 2147483647), none)], [(3, 0, 0)], ((((((zFr.set 43 zh_43).set 44 zh_44).set 48 zh_48).set 49 zh_49).set 50 zh_50).set 51 zh_51), some (1, (.ofNat 0)))]
def zk_239_h0 : zHd := (0, zk_239_te, [(0, 1, 0), (0, 2, 0), (0, 3, 0)], [], (.ofNat 12529), [(.ofNat 0), (.ofNat 0), (.ofNat 0)], [])
def zk_239_h1 : zHd := (61, ([((.negSucc 2147483647), (.ofNat 2147483647), zD0), ((.ofNat 100), (.ofNat 4095), zD0), ((.negSucc 0), (.ofNat 23), zD0), ((.negSucc 2147483647), (.ofNat 2147483647), zD0), ((.negSucc 2147483647), (.ofNat 2147483647), zD0), ((.negSucc 2147483647), (.ofNat 2147483647), zD0), ((.ofNat 0), (.ofNat 61), zD0)], ((((((zFr.set 43 zh_43).set 44 zh_44).set 48 zh_48).set 49 zh_49).set 50 zh_50).set 51 zh_51), [(0, (2, (.ofNat 46))), (1, (1, (.ofNat 0))), (2, (1, (.ofNat 1))), (3, (1, (.ofNat 2))), (4, (1, (.ofNat 3))), (5, (1, (.ofNat 4))), (6, (1, (.ofNat 5))), (7, (1, (.ofNat 6)))], [], 0, 0), [(0, 1, 0), (0, 2, 0), (0, 3, 0), (0, 4, 0), (0, 5, 0), (0, 6, 0), (0, 7, 0)], [], (.ofNat 12523), [(.ofNat 0), (.ofNat 0), (.ofNat 0), (.ofNat 0), (.ofNat 0), (.ofNat 0), (.ofNat 202)], [])
def zk_239_h2 : zHd := (83, ([((.negSucc 2147483647), (.ofNat 2147483647), zD0), ((.ofNat 100), (.ofNat 4095), zD0), ((.negSucc 0), (.ofNat 23), zD0), ((.negSucc 2147483647), (.ofNat 2147483647), zD0), ((.negSucc 2147483647), (.ofNat 2147483647), zD0), ((.negSucc 2147483647), (.ofNat 2147483647), zD0), ((.ofNat 0), (.ofNat 60), zD0), ((.ofNat 0), (.ofNat 16777215), zD0), ((.ofNat 0), (.ofNat 99), zD0)], ((((((zFr.set 43 zh_43).set 44 zh_44).set 48 zh_48).set 49 zh_49).set 50 zh_50).set 51 zh_51), [(0, (2, (.ofNat 46))), (1, (1, (.ofNat 0))), (2, (1, (.ofNat 1))), (3, (1, (.ofNat 2))), (4, (1, (.ofNat 3))), (5, (1, (.ofNat 4))), (6, (1, (.ofNat 5))), (7, (1, (.ofNat 6))), (8, (1, (.ofNat 7))), (9, (1, (.ofNat 8)))], [], 0, 0), [(0, 1, 0), (0, 2, 0), (0, 3, 0), (0, 4, 0), (0, 5, 0), (0, 6, 0), (0, 7, 0), (0, 8, 0), (0, 9, 0)], [], (.ofNat 12521), [(.ofNat 0), (.ofNat 0), (.ofNat 0), (.ofNat 0), (.ofNat 0), (.ofNat 0), (.ofNat 202), (.ofNat 0), (.ofNat 2)], [])
def zk_239_hs : List zHd := [zk_239_h0, zk_239_h1, zk_239_h2]
def zk_239_or : zO_ := zor zk_209_o (zor zk_203_o (zor zk_212_o (zon)))
theorem zk_239_oo (l : Launch) (X : zx_X) (φ : List z_C) (P : List Int → Prop) : zOk l X 2000000 φ P zk_239_or := zOk_or (zk_209_ok l X 2000000 φ P) (zOk_or (zk_203_ok l X 2000000 φ P) (zOk_or (zk_212_ok l X 2000000 φ P) (zOk_no l X 2000000 φ P)))
theorem zk_239_r0 : zx1 2000000 (zfinC zk_239_al zk_239_h0.2.2.2.1) (zcutH zk_239_hs zk_239_h0 239 95) zk_239_or 6000 239 95 zk_239_h0.1 (zhS zk_239_h0) [] = true := by decide +kernel
theorem zk_239_r1 : zx1 2000000 (zfinC zk_239_al zk_239_h1.2.2.2.1) (zcutH zk_239_hs zk_239_h1 239 95) zk_239_or 6000 239 95 zk_239_h1.1 (zhS zk_239_h1) [] = true := by decide +kernel
theorem zk_239_r2 : zx1 2000000 (zfinC zk_239_al zk_239_h2.2.2.2.1) (zcutH zk_239_hs zk_239_h2 239 95) zk_239_or 6000 239 95 zk_239_h2.1 (zhS zk_239_h2) [] = true := by decide +kernel
theorem zk_239_c : zCon 239 95 zk_239_te [] zk_239_al := zCon_of (n := 6000) (hs := zk_239_hs) (lo := [(0, 1, 0), (0, 2, 0), (0, 3, 0)]) (c := (.ofNat 12529)) (ws := [(.ofNat 0), (.ofNat 0), (.ofNat 0)]) (by decide) (by decide +kernel) zk_239_oo (List.mem_cons_self) (zAll_mem ⟨zk_239_r0, zk_239_r1, zk_239_r2, trivial⟩)
def zk_239_o : zO_ := zorcF 239 95 zk_239_te [(0, 1, 0), (0, 2, 0), (0, 3, 0)] [] zk_239_al [43, 44, 48, 49, 50, 51] [43, 48, 49, 50, 51]
theorem zk_239_ok (l : Launch) (X : zx_X) (XL : Nat) (φ : List z_C) (P : List Int → Prop) : zOk l X XL φ P zk_239_o := zOk_F zk_239_c (by decide +kernel) l X XL φ P
/-! trace -/
def zk_255_te : zA_T := ([((.negSucc 2147483647), (.ofNat 2147483647), zD0)], ((zFr.set 43 zh_43).set 59 zh_59), [(0, (2, (.ofNat 46))), (1, (1, (.ofNat 0)))], [], 0, 0)
def zk_255_al : List zAlt := [([((.negSucc 2147483647), (.ofNat 2147483647), none)], [(3, 0, 0)], ((zFr.set 43 zh_43).set 59 zh_59), some (1, (.ofNat 0)))]
def zk_255_h0 : zHd := (0, zk_255_te, [(0, 1, 0)], [], (.ofNat 5), [(.ofNat 0)], [])
def zk_255_hs : List zHd := [zk_255_h0]
def zk_255_or : zO_ := zon
theorem zk_255_oo (l : Launch) (X : zx_X) (φ : List z_C) (P : List Int → Prop) : zOk l X 2000000 φ P zk_255_or := zOk_no l X 2000000 φ P
theorem zk_255_r0 : zx1 2000000 (zfinC zk_255_al zk_255_h0.2.2.2.1) (zcutH zk_255_hs zk_255_h0 255 2) zk_255_or 6000 255 2 zk_255_h0.1 (zhS zk_255_h0) [] = true := by decide +kernel
theorem zk_255_c : zCon 255 2 zk_255_te [] zk_255_al := zCon_of (n := 6000) (hs := zk_255_hs) (lo := [(0, 1, 0)]) (c := (.ofNat 5)) (ws := [(.ofNat 0)]) (by decide) (by decide +kernel) zk_255_oo (List.mem_cons_self) (zAll_mem ⟨zk_255_r0, trivial⟩)
def zk_255_o : zO_ := zorcF 255 2 zk_255_te [(0, 1, 0)] [] zk_255_al [43, 59] [43, 59]
theorem zk_255_ok (l : Launch) (X : zx_X) (XL : Nat) (φ : List z_C) (P : List Int → Prop) : zOk l X XL φ P zk_255_o := zOk_F zk_255_c (by decide +kernel) l X XL φ P
/-! count -/
def zk_266_te : zA_T := ([((.negSucc 2147483647), (.ofNat 2147483647), zD0)], (zFr.set 43 zh_43), [(0, (2, (.ofNat 46))), (1, (1, (.ofNat 0)))], [], 0, 0)
def zk_266_al : List zAlt := [([((.negSucc 2147483647), (.ofNat 2147483647), none)], [(3, 0, 0)], (zFr.set 43 zh_43), some (1, (.ofNat 0)))]
def zk_266_h0 : zHd := (0, zk_266_te, [(0, 1, 0)], [], (.ofNat 5), [(.ofNat 0)], [])
def zk_266_hs : List zHd := [zk_266_h0]
def zk_266_or : zO_ := zor zk_209_o (zon)
theorem zk_266_oo (l : Launch) (X : zx_X) (φ : List z_C) (P : List Int → Prop) : zOk l X 2000000 φ P zk_266_or := zOk_or (zk_209_ok l X 2000000 φ P) (zOk_no l X 2000000 φ P)
theorem zk_266_r0 : zx1 2000000 (zfinC zk_266_al zk_266_h0.2.2.2.1) (zcutH zk_266_hs zk_266_h0 266 4) zk_266_or 6000 266 4 zk_266_h0.1 (zhS zk_266_h0) [] = true := by decide +kernel
theorem zk_266_c : zCon 266 4 zk_266_te [] zk_266_al := zCon_of (n := 6000) (hs := zk_266_hs) (lo := [(0, 1, 0)]) (c := (.ofNat 5)) (ws := [(.ofNat 0)]) (by decide) (by decide +kernel) zk_266_oo (List.mem_cons_self) (zAll_mem ⟨zk_266_r0, trivial⟩)
def zk_266_o : zO_ := zorcF 266 4 zk_266_te [(0, 1, 0)] [] zk_266_al [43] [43]
theorem zk_266_ok (l : Launch) (X : zx_X) (XL : Nat) (φ : List z_C) (P : List Int → Prop) : zOk l X XL φ P zk_266_o := zOk_F zk_266_c (by decide +kernel) l X XL φ P
