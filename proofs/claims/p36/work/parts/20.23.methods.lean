/-! PART 20.23: what methods do, count, taken. -/
/-! taken -/
def zk_263_te : zA_T := ([((.negSucc 2147483647), (.ofNat 2147483647), zD0), ((.negSucc 2147483647), (.ofNat 2147483647), zD0)], zHT, [(0, (2, (.ofNat 46))), (1, (1, (.ofNat 0))), (2, (1, (.ofNat 1)))], [], 0, 0)
def zk_263_al : List zAlt := [([((.negSucc 11), (.ofNat 7), none)], [(3, 0, 0)], zHT, some (1, (.ofNat 0)))]
def zk_263_h0 : zHd := (0, zk_263_te, [(0, 1, 0), (0, 2, 0)], [], (.ofNat 5), [(.ofNat 0), (.ofNat 0)], [])
def zk_263_hs : List zHd := [zk_263_h0]
def zk_263_or : zO_ := zon
theorem zk_263_oo (l : Launch) (X : zx_X) (φ : List z_C) (P : List Int → Prop) : zOk l X 2000000 φ P zk_263_or := zOk_no l X 2000000 φ P
theorem zk_263_r0 : zx1 2000000 (zfinC zk_263_al zk_263_h0.2.2.2.1) (zcutH zk_263_hs zk_263_h0 263 4) zk_263_or 6000 263 4 zk_263_h0.1 (zhS zk_263_h0) [] = true := by decide +kernel
theorem zk_263_c : zCon 263 4 zk_263_te [] zk_263_al := zCon_of (n := 6000) (hs := zk_263_hs) (lo := [(0, 1, 0), (0, 2, 0)]) (c := (.ofNat 5)) (ws := [(.ofNat 0), (.ofNat 0)]) (by decide) (by decide +kernel) zk_263_oo (List.mem_cons_self) (zAll_mem ⟨zk_263_r0, trivial⟩)
def zk_263_o : zO_ := zorcC 263 4 zk_263_te [(0, 1, 0), (0, 2, 0)] [] zk_263_al
theorem zk_263_ok (l : Launch) (X : zx_X) (XL : Nat) (φ : List z_C) (P : List Int → Prop) : zOk l X XL φ P zk_263_o := zOk_C zk_263_c (by decide +kernel) l X XL φ P
/-! count -/
def zk_266_te : zA_T := ([((.negSucc 2147483647), (.ofNat 2147483647), zD0)], zHT, [(0, (2, (.ofNat 46))), (1, (1, (.ofNat 0)))], [], 0, 0)
def zk_266_al : List zAlt := [([((.negSucc 2147483647), (.ofNat 2147483647), none)], [(3, 0, 0)], zHT, some (1, (.ofNat 0)))]
def zk_266_h0 : zHd := (0, zk_266_te, [(0, 1, 0)], [], (.ofNat 5), [(.ofNat 0)], [])
def zk_266_hs : List zHd := [zk_266_h0]
def zk_266_or : zO_ := zor zk_209_o (zon)
theorem zk_266_oo (l : Launch) (X : zx_X) (φ : List z_C) (P : List Int → Prop) : zOk l X 2000000 φ P zk_266_or := zOk_or (zk_209_ok l X 2000000 φ P) (zOk_no l X 2000000 φ P)
theorem zk_266_r0 : zx1 2000000 (zfinC zk_266_al zk_266_h0.2.2.2.1) (zcutH zk_266_hs zk_266_h0 266 4) zk_266_or 6000 266 4 zk_266_h0.1 (zhS zk_266_h0) [] = true := by decide +kernel
theorem zk_266_c : zCon 266 4 zk_266_te [] zk_266_al := zCon_of (n := 6000) (hs := zk_266_hs) (lo := [(0, 1, 0)]) (c := (.ofNat 5)) (ws := [(.ofNat 0)]) (by decide) (by decide +kernel) zk_266_oo (List.mem_cons_self) (zAll_mem ⟨zk_266_r0, trivial⟩)
def zk_266_o : zO_ := zorcC 266 4 zk_266_te [(0, 1, 0)] [] zk_266_al
theorem zk_266_ok (l : Launch) (X : zx_X) (XL : Nat) (φ : List z_C) (P : List Int → Prop) : zOk l X XL φ P zk_266_o := zOk_C zk_266_c (by decide +kernel) l X XL φ P
