/-! PART 20.21: what methods do, believes. -/
/-! believes -/
def zk_231_te : zA_T := ([((.negSucc 2147483647), (.ofNat 2147483647), zD0), ((.negSucc 2147483647), (.ofNat 2147483647), zD0), ((.negSucc 2147483647), (.ofNat 2147483647), zD0)], zHT, [(0, (2, (.ofNat 46))), (1, (1, (.ofNat 0))), (2, (1, (.ofNat 1))), (3, (1, (.ofNat 2)))], [], 0, 0)
def zk_231_al : List zAlt := [([((.negSucc 2147483647), (.ofNat 2147483647), none)], [(3, 0, 0)], zHT, some (1, (.ofNat 0)))]
def zk_231_h0 : zHd := (0, zk_231_te, [(0, 1, 0), (0, 2, 0), (0, 3, 0)], [], (.ofNat 15), [(.ofNat 0), (.ofNat 0), (.ofNat 0)], [])
def zk_231_h1 : zHd := (57, ([((.ofNat 0), (.ofNat 5), zD0), ((.ofNat 0), (.ofNat 5), zD0), ((.ofNat 0), (.ofNat 1), zD0), ((.negSucc 2147483647), (.ofNat 2147483647), zD0), ((.negSucc 1), (.ofNat 3), zD0), ((.ofNat 0), (.ofNat 4), zD0)], zHT, [(0, (2, (.ofNat 46))), (1, (1, (.ofNat 0))), (2, (1, (.ofNat 1))), (3, (1, (.ofNat 2))), (4, (1, (.ofNat 3))), (5, (1, (.ofNat 4))), (6, (1, (.ofNat 5)))], [], 0, 0), [(0, 1, 0), (0, 2, 0), (0, 3, 0), (0, 4, 0), (0, 5, 0), (0, 6, 0)], [], (.ofNat 9), [(.ofNat 0), (.ofNat 0), (.ofNat 0), (.ofNat 0), (.ofNat 0), (.ofNat 2)], [])
def zk_231_hs : List zHd := [zk_231_h0, zk_231_h1]
def zk_231_or : zO_ := zor zk_232_o (zon)
theorem zk_231_oo (l : Launch) (X : zx_X) (φ : List z_C) (P : List Int → Prop) : zOk l X 2000000 φ P zk_231_or := zOk_or (zk_232_ok l X 2000000 φ P) (zOk_no l X 2000000 φ P)
theorem zk_231_r0 : zx1 2000000 (zfinC zk_231_al zk_231_h0.2.2.2.1) (zcutH zk_231_hs zk_231_h0 231 6) zk_231_or 6000 231 6 zk_231_h0.1 (zhS zk_231_h0) [] = true := by decide +kernel
theorem zk_231_r1 : zx1 2000000 (zfinC zk_231_al zk_231_h1.2.2.2.1) (zcutH zk_231_hs zk_231_h1 231 6) zk_231_or 6000 231 6 zk_231_h1.1 (zhS zk_231_h1) [] = true := by decide +kernel
theorem zk_231_c : zCon 231 6 zk_231_te [] zk_231_al := zCon_of (n := 6000) (hs := zk_231_hs) (lo := [(0, 1, 0), (0, 2, 0), (0, 3, 0)]) (c := (.ofNat 15)) (ws := [(.ofNat 0), (.ofNat 0), (.ofNat 0)]) (by decide) (by decide +kernel) zk_231_oo (List.mem_cons_self) (zAll_mem ⟨zk_231_r0, zk_231_r1, trivial⟩)
def zk_231_o : zO_ := zorcC 231 6 zk_231_te [(0, 1, 0), (0, 2, 0), (0, 3, 0)] [] zk_231_al
theorem zk_231_ok (l : Launch) (X : zx_X) (XL : Nat) (φ : List z_C) (P : List Int → Prop) : zOk l X XL φ P zk_231_o := zOk_C zk_231_c (by decide +kernel) l X XL φ P
