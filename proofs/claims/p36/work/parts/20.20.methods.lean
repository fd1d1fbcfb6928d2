/-! PART 20.20: what methods do, firstFalse, fitsView, judge. -/
/-! firstFalse -/
def zk_230_te : zA_T := ([((.ofNat 0), (.ofNat 5), zD0), ((.negSucc 2147483647), (.ofNat 2147483647), zD0)], zHT, [(0, (2, (.ofNat 46))), (1, (1, (.ofNat 0))), (2, (1, (.ofNat 1)))], [], 0, 0)
def zk_230_al : List zAlt := [([((.negSucc 1), (.ofNat 29), none)], [(3, 0, 0)], zHT, some (1, (.ofNat 0)))]
def zk_230_h0 : zHd := (0, zk_230_te, [(0, 1, 0), (0, 2, 0)], [], (.ofNat 67), [(.ofNat 0), (.ofNat 0)], [])
def zk_230_h1 : zHd := (2, ([((.ofNat 0), (.ofNat 5), zD0), ((.negSucc 2147483647), (.ofNat 2147483647), zD0), ((.ofNat 0), (.ofNat 30), zD0)], zHT, [(0, (2, (.ofNat 46))), (1, (1, (.ofNat 0))), (2, (1, (.ofNat 1))), (3, (1, (.ofNat 2)))], [], 0, 0), [(0, 1, 0), (0, 2, 0), (0, 3, 0)], [], (.ofNat 61), [(.ofNat 0), (.ofNat 0), (.ofNat 2)], [])
def zk_230_hs : List zHd := [zk_230_h0, zk_230_h1]
def zk_230_or : zO_ := zon
theorem zk_230_oo (l : Launch) (X : zx_X) (φ : List z_C) (P : List Int → Prop) : zOk l X 2000000 φ P zk_230_or := zOk_no l X 2000000 φ P
theorem zk_230_r0 : zx1 2000000 (zfinC zk_230_al zk_230_h0.2.2.2.1) (zcutH zk_230_hs zk_230_h0 230 4) zk_230_or 6000 230 4 zk_230_h0.1 (zhS zk_230_h0) [] = true := by decide +kernel
theorem zk_230_r1 : zx1 2000000 (zfinC zk_230_al zk_230_h1.2.2.2.1) (zcutH zk_230_hs zk_230_h1 230 4) zk_230_or 6000 230 4 zk_230_h1.1 (zhS zk_230_h1) [] = true := by decide +kernel
theorem zk_230_c : zCon 230 4 zk_230_te [] zk_230_al := zCon_of (n := 6000) (hs := zk_230_hs) (lo := [(0, 1, 0), (0, 2, 0)]) (c := (.ofNat 67)) (ws := [(.ofNat 0), (.ofNat 0)]) (by decide) (by decide +kernel) zk_230_oo (List.mem_cons_self) (zAll_mem ⟨zk_230_r0, zk_230_r1, trivial⟩)
def zk_230_o : zO_ := zorcC 230 4 zk_230_te [(0, 1, 0), (0, 2, 0)] [] zk_230_al
theorem zk_230_ok (l : Launch) (X : zx_X) (XL : Nat) (φ : List z_C) (P : List Int → Prop) : zOk l X XL φ P zk_230_o := zOk_C zk_230_c (by decide +kernel) l X XL φ P
/-! fitsView -/
def zk_232_te : zA_T := ([((.ofNat 0), (.ofNat 5), zD0), ((.ofNat 0), (.ofNat 5), zD0), ((.ofNat 0), (.ofNat 3), zD0)], zHT, [(0, (2, (.ofNat 46))), (1, (1, (.ofNat 0))), (2, (1, (.ofNat 1))), (3, (1, (.ofNat 2)))], [], 0, 0)
def zk_232_al : List zAlt := [([((.ofNat 0), (.ofNat 1), none)], [(3, 0, 0)], zHT, some (1, (.ofNat 0)))]
def zk_232_h0 : zHd := (0, zk_232_te, [(0, 1, 0), (0, 2, 0), (0, 3, 0)], [], (.ofNat 67), [(.ofNat 0), (.ofNat 0), (.ofNat 0)], [])
def zk_232_h1 : zHd := (3, ([((.ofNat 0), (.ofNat 5), zD0), ((.ofNat 0), (.ofNat 5), zD0), ((.ofNat 0), (.ofNat 3), zD0), ((.ofNat 0), (.ofNat 30), zD0)], zHT, [(0, (2, (.ofNat 46))), (1, (1, (.ofNat 0))), (2, (1, (.ofNat 1))), (3, (1, (.ofNat 2))), (4, (1, (.ofNat 3)))], [], 0, 0), [(0, 1, 0), (0, 2, 0), (0, 3, 0), (0, 4, 0)], [], (.ofNat 61), [(.ofNat 0), (.ofNat 0), (.ofNat 0), (.ofNat 2)], [])
def zk_232_hs : List zHd := [zk_232_h0, zk_232_h1]
def zk_232_or : zO_ := zon
theorem zk_232_oo (l : Launch) (X : zx_X) (φ : List z_C) (P : List Int → Prop) : zOk l X 2000000 φ P zk_232_or := zOk_no l X 2000000 φ P
theorem zk_232_r0 : zx1 2000000 (zfinC zk_232_al zk_232_h0.2.2.2.1) (zcutH zk_232_hs zk_232_h0 232 4) zk_232_or 6000 232 4 zk_232_h0.1 (zhS zk_232_h0) [] = true := by decide +kernel
theorem zk_232_r1 : zx1 2000000 (zfinC zk_232_al zk_232_h1.2.2.2.1) (zcutH zk_232_hs zk_232_h1 232 4) zk_232_or 6000 232 4 zk_232_h1.1 (zhS zk_232_h1) [] = true := by decide +kernel
theorem zk_232_c : zCon 232 4 zk_232_te [] zk_232_al := zCon_of (n := 6000) (hs := zk_232_hs) (lo := [(0, 1, 0), (0, 2, 0), (0, 3, 0)]) (c := (.ofNat 67)) (ws := [(.ofNat 0), (.ofNat 0), (.ofNat 0)]) (by decide) (by decide +kernel) zk_232_oo (List.mem_cons_self) (zAll_mem ⟨zk_232_r0, zk_232_r1, trivial⟩)
def zk_232_o : zO_ := zorcC 232 4 zk_232_te [(0, 1, 0), (0, 2, 0), (0, 3, 0)] [] zk_232_al
theorem zk_232_ok (l : Launch) (X : zx_X) (XL : Nat) (φ : List z_C) (P : List Int → Prop) : zOk l X XL φ P zk_232_o := zOk_C zk_232_c (by decide +kernel) l X XL φ P
/-! judge -/
def zk_228_te : zA_T := ([((.negSucc 2147483647), (.ofNat 2147483647), zD0), ((.negSucc 2147483647), (.ofNat 2147483647), zD0)], zHT, [(0, (2, (.ofNat 46))), (1, (1, (.ofNat 0))), (2, (1, (.ofNat 1)))], [], 0, 0)
def zk_228_al : List zAlt := [([((.negSucc 11), (.ofNat 29), none)], [(3, 0, 0)], zHT, some (1, (.ofNat 0)))]
def zk_228_h0 : zHd := (0, zk_228_te, [(0, 1, 0), (0, 2, 0)], [], (.ofNat 5), [(.ofNat 0), (.ofNat 0)], [])
def zk_228_hs : List zHd := [zk_228_h0]
def zk_228_or : zO_ := zor zk_230_o (zon)
theorem zk_228_oo (l : Launch) (X : zx_X) (φ : List z_C) (P : List Int → Prop) : zOk l X 2000000 φ P zk_228_or := zOk_or (zk_230_ok l X 2000000 φ P) (zOk_no l X 2000000 φ P)
theorem zk_228_r0 : zx1 2000000 (zfinC zk_228_al zk_228_h0.2.2.2.1) (zcutH zk_228_hs zk_228_h0 228 6) zk_228_or 6000 228 6 zk_228_h0.1 (zhS zk_228_h0) [] = true := by decide +kernel
theorem zk_228_c : zCon 228 6 zk_228_te [] zk_228_al := zCon_of (n := 6000) (hs := zk_228_hs) (lo := [(0, 1, 0), (0, 2, 0)]) (c := (.ofNat 5)) (ws := [(.ofNat 0), (.ofNat 0)]) (by decide) (by decide +kernel) zk_228_oo (List.mem_cons_self) (zAll_mem ⟨zk_228_r0, trivial⟩)
def zk_228_o : zO_ := zorcC 228 6 zk_228_te [(0, 1, 0), (0, 2, 0)] [] zk_228_al
theorem zk_228_ok (l : Launch) (X : zx_X) (XL : Nat) (φ : List z_C) (P : List Int → Prop) : zOk l X XL φ P zk_228_o := zOk_C zk_228_c (by decide +kernel) l X XL φ P
