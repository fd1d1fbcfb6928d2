/-! PART 20.91: what act does; what all mind of a choice of lines. -/
/-! matterMinds -/
def zk_216_u_te : zA_T := ([((.ofNat 0), (.ofNat 5), zD0), ((.ofNat 0), (.ofNat 15), zD0)], ((((((zFr.set 43 zh_43).set 44 zh_44).set 48 zh_48).set 49 zh_49).set 50 zh_50).set 51 zh_51), [(0, (2, (.ofNat 46))), (1, (1, (.ofNat 0))), (2, (1, (.ofNat 1)))], [], 0, 0)
def zk_216_u_al : List zAlt := [([((.ofNat 0), (.ofNat 792), none)], [(3, 0, 0)], ((((((zFr.set 43 zh_43).set 44 zh_44).set 48 zh_48).set 49 zh_49).set 50 zh_50).set 51 zh_51), some (1, (.ofNat 0)))]
def zk_216_u_h0 : zHd := (0, zk_216_u_te, [(0, 1, 0), (0, 2, 0)], [], (.ofNat 5), [(.ofNat 0), (.ofNat 0)], [])
def zk_216_u_hs : List zHd := [zk_216_u_h0]
def zk_216_u_or : zO_ := zor zk_204_o (zon)
theorem zk_216_u_oo (l : Launch) (X : zx_X) (φ : List z_C) (P : List Int → Prop) : zOk l X 2000000 φ P zk_216_u_or := zOk_or (zk_204_ok l X 2000000 φ P) (zOk_no l X 2000000 φ P)
theorem zk_216_u_r0 : zx1 2000000 (zfinC zk_216_u_al zk_216_u_h0.2.2.2.1) (zcutH zk_216_u_hs zk_216_u_h0 216 91) zk_216_u_or 6000 216 91 zk_216_u_h0.1 (zhS zk_216_u_h0) [] = true := by decide +kernel
theorem zk_216_u_c : zCon 216 91 zk_216_u_te [] zk_216_u_al := zCon_of (n := 6000) (hs := zk_216_u_hs) (lo := [(0, 1, 0), (0, 2, 0)]) (c := (.ofNat 5)) (ws := [(.ofNat 0), (.ofNat 0)]) (by decide) (by decide +kernel) zk_216_u_oo (List.mem_cons_self) (zAll_mem ⟨zk_216_u_r0, trivial⟩)
def zk_216_u_o : zO_ := zorcF 216 91 zk_216_u_te [(0, 1, 0), (0, 2, 0)] [] zk_216_u_al [43, 44, 48, 49, 50, 51] [43, 50, 51]
theorem zk_216_u_ok (l : Launch) (X : zx_X) (XL : Nat) (φ : List z_C) (P : List Int → Prop) : zOk l X XL φ P zk_216_u_o := zOk_F zk_216_u_c (by decide +kernel) l X XL φ P
