/-! PART 20.15: what methods do, shift. -/
/-! shift -/
def zk_171_te : zA_T := ([((.negSucc 2147483647), (.ofNat 2147483647), zD0), ((.negSucc 2147483647), (.ofNat 2147483647), zD0), ((.negSucc 2147483647), (.ofNat 2147483647), zD0), ((.negSucc 2147483647), (.ofNat 2147483647), zD0), ((.negSucc 2147483647), (.ofNat 2147483647), zD0)], zHT, [(0, (2, (.ofNat 3))), (1, (1, (.ofNat 0))), (2, (1, (.ofNat 1))), (3, (1, (.ofNat 2))), (4, (1, (.ofNat 3))), (5, (1, (.ofNat 4)))], [], 0, 0)
def zk_171_al : List zAlt := [([((.negSucc 12), (.ofNat 60), none)], [(3, 0, 0)], zHT, some (1, (.ofNat 0)))]
def zk_171_h0 : zHd := (0, zk_171_te, [(0, 1, 0), (0, 2, 0), (0, 3, 0), (0, 4, 0), (0, 5, 0)], [], (.ofNat 5), [(.ofNat 0), (.ofNat 0), (.ofNat 0), (.ofNat 0), (.ofNat 0)], [])
def zk_171_hs : List zHd := [zk_171_h0]
def zk_171_or : zO_ := zon
theorem zk_171_oo (l : Launch) (X : zx_X) (φ : List z_C) (P : List Int → Prop) : zOk l X 2000000 φ P zk_171_or := zOk_no l X 2000000 φ P
theorem zk_171_r0 : zx1 2000000 (zfinC zk_171_al zk_171_h0.2.2.2.1) (zcutH zk_171_hs zk_171_h0 171 4) zk_171_or 6000 171 4 zk_171_h0.1 (zhS zk_171_h0) [] = true := by decide +kernel
theorem zk_171_c : zCon 171 4 zk_171_te [] zk_171_al := zCon_of (n := 6000) (hs := zk_171_hs) (lo := [(0, 1, 0), (0, 2, 0), (0, 3, 0), (0, 4, 0), (0, 5, 0)]) (c := (.ofNat 5)) (ws := [(.ofNat 0), (.ofNat 0), (.ofNat 0), (.ofNat 0), (.ofNat 0)]) (by decide) (by decide +kernel) zk_171_oo (List.mem_cons_self) (zAll_mem ⟨zk_171_r0, trivial⟩)
def zk_171_o : zO_ := zorcC 171 4 zk_171_te [(0, 1, 0), (0, 2, 0), (0, 3, 0), (0, 4, 0), (0, 5, 0)] [] zk_171_al
theorem zk_171_ok (l : Launch) (X : zx_X) (XL : Nat) (φ : List z_C) (P : List Int → Prop) : zOk l X XL φ P zk_171_o := zOk_C zk_171_c (by decide +kernel) l X XL φ P
