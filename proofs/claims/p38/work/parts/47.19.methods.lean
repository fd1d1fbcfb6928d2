/-! PART 20.19: what methods do, judge. -/
/-! judge -/
def zk_228_te : zA_T := ([((.negSucc 2147483647), (.ofNat 2147483647), zD0), ((.negSucc 2147483647), (.ofNat 2147483647), zD0)], zHT, [(0, (2, (.ofNat 46))), (1, (1, (.ofNat 0))), (2, (1, (.ofNat 1)))], [], 0, 0)
def zk_228_al : List zAlt := [([((.negSucc 11), (.ofNat 29), none)], [(3, 0, 0)], zHT, some (1, (.ofNat 0)))]
def zk_228_h0 : zHd := (0, zk_228_te, [(0, 1, 0), (0, 2, 0)], [], (.ofNat 5), [(.ofNat 0), (.ofNat 0)], [])
def zk_228_hs : List zHd := [zk_228_h0]
def zk_228_or : zO_ := zor zk_230_o (zon)
theorem zk_228_oo (l : Launch) (X : zx_X) (φ : List z_C) (P : List Int → Prop) : zOk l X 2000000 φ P zk_228_or := zOk_or (zk_230_ok l X 2000000 φ P) (zOk_no l X 2000000 φ P)
theorem zk_228_r0 : zx1 2000000 (zfinC zk_228_al zk_228_h0.2.2.2.1) (zcutH zk_228_hs zk_228_h0 228 6) zk_228_or 6000 228 6 zk_228_h0.1 (zhS zk_228_h0) [] = true := by decide +kernel
theorem zk_228_c : zCon 228 6 zk_228_te [] zk_228_al := zCon_of (n := 6000) (hs := zk_228_hs) (lo := [(0, 1, 0), (0, 2, 0)]) (c := (.ofNat 5)) (ws := [(.ofNat 0), (.ofNat 0)]) (by decide) (by decide +kernel) zk_228_oo (List.mem_cons_self) (zAll_mem ⟨zk_228_r0, trivial⟩)
def zk_228_o : zO_ := zorcC 228 6 zk_228_te [(0, 1, 0), (0, 2, 0)] [] zk_228_al
theorem zk_228_ok (l : Launch) (X : zx_X) (XL : Nat) (φ : List z_C) (P : List Int → Prop) : zOk l X XL φ P zk_228_o := zOk_C zk_228_c (by decide +kernel) l X XL φ P
