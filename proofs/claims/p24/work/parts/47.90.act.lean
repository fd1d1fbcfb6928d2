/-! PART 20.90: what act does, to the trades. -/
/-! act -/
def zk_248_te : zA_T := ([((.negSucc 2147483647), (.ofNat 2147483647), zD0), ((.negSucc 2147483647), (.ofNat 2147483647), zD0), ((.negSucc 2147483647), (.ofNat 2147483647), zD0)], (((zFr.set 43 zh_43).set 58 zh_58).set 59 zh_59), [(0, (2, (.ofNat 46))), (1, (1, (.ofNat 0))), (2, (1, (.ofNat 1))), (3, (1, (.ofNat 2)))], [], 0, 0)
def zk_248_al : List zAlt := [([((.negSucc 2147483647), (.ofNat 2147483647), none)], [(3, 0, 0)], (((zFr.set 43 zh_43).set 58 zh_58).set 59 zh_59), some (1, (.ofNat 0)))]
def zk_248_or : zO_ := zon
theorem zk_248_oo (l : Launch) (X : zx_X) (φ : List z_C) (P : List Int → Prop) : zOk l X 2000000 φ P zk_248_or := zOk_no l X 2000000 φ P
def zk_248_h0 : zHd := (0, zcvT zk_248_te 1 ((.negSucc 2147483647), (.negSucc 0)), [(0, 1, 0), (0, 2, 0), (0, 3, 0)], [], (.ofNat 5), [(.ofNat 0), (.ofNat 0), (.ofNat 0)], [])
theorem zk_248_r0 : zx1 2000000 (zfinC zk_248_al zk_248_h0.2.2.2.1) (zcutH [zk_248_h0] zk_248_h0 248 9) zk_248_or 9000 248 9 zk_248_h0.1 (zhS zk_248_h0) [] = true := by decide +kernel
theorem zk_248_c0 : zCon 248 9 (zcvT zk_248_te 1 ((.negSucc 2147483647), (.negSucc 0))) [] zk_248_al := zCon_of (n := 9000) (hs := [zk_248_h0]) (lo := [(0, 1, 0), (0, 2, 0), (0, 3, 0)]) (c := (.ofNat 5)) (ws := [(.ofNat 0), (.ofNat 0), (.ofNat 0)]) (by decide) (by decide +kernel) zk_248_oo (List.mem_cons_self) (zAll_mem ⟨zk_248_r0, trivial⟩)
def zk_248_h1 : zHd := (0, zcvT zk_248_te 1 ((.ofNat 0), (.ofNat 0)), [(0, 1, 0), (0, 2, 0), (0, 3, 0)], [], (.ofNat 5), [(.ofNat 0), (.ofNat 0), (.ofNat 0)], [])
theorem zk_248_r1 : zx1 2000000 (zfinC zk_248_al zk_248_h1.2.2.2.1) (zcutH [zk_248_h1] zk_248_h1 248 9) zk_248_or 9000 248 9 zk_248_h1.1 (zhS zk_248_h1) [] = true := by decide +kernel
theorem zk_248_c1 : zCon 248 9 (zcvT zk_248_te 1 ((.ofNat 0), (.ofNat 0))) [] zk_248_al := zCon_of (n := 9000) (hs := [zk_248_h1]) (lo := [(0, 1, 0), (0, 2, 0), (0, 3, 0)]) (c := (.ofNat 5)) (ws := [(.ofNat 0), (.ofNat 0), (.ofNat 0)]) (by decide) (by decide +kernel) zk_248_oo (List.mem_cons_self) (zAll_mem ⟨zk_248_r1, trivial⟩)
def zk_248_h2 : zHd := (0, zcvT zk_248_te 1 ((.ofNat 1), (.ofNat 1)), [(0, 1, 0), (0, 2, 0), (0, 3, 0)], [], (.ofNat 5), [(.ofNat 0), (.ofNat 0), (.ofNat 0)], [])
theorem zk_248_r2 : zx1 2000000 (zfinC zk_248_al zk_248_h2.2.2.2.1) (zcutH [zk_248_h2] zk_248_h2 248 9) zk_248_or 9000 248 9 zk_248_h2.1 (zhS zk_248_h2) [] = true := by decide +kernel
theorem zk_248_c2 : zCon 248 9 (zcvT zk_248_te 1 ((.ofNat 1), (.ofNat 1))) [] zk_248_al := zCon_of (n := 9000) (hs := [zk_248_h2]) (lo := [(0, 1, 0), (0, 2, 0), (0, 3, 0)]) (c := (.ofNat 5)) (ws := [(.ofNat 0), (.ofNat 0), (.ofNat 0)]) (by decide) (by decide +kernel) zk_248_oo (List.mem_cons_self) (zAll_mem ⟨zk_248_r2, trivial⟩)
def zk_248_h3 : zHd := (0, zcvT zk_248_te 1 ((.ofNat 2), (.ofNat 2)), [(0, 1, 0), (0, 2, 0), (0, 3, 0)], [], (.ofNat 5), [(.ofNat 0), (.ofNat 0), (.ofNat 0)], [])
theorem zk_248_r3 : zx1 2000000 (zfinC zk_248_al zk_248_h3.2.2.2.1) (zcutH [zk_248_h3] zk_248_h3 248 9) zk_248_or 9000 248 9 zk_248_h3.1 (zhS zk_248_h3) [] = true := by decide +kernel
theorem zk_248_c3 : zCon 248 9 (zcvT zk_248_te 1 ((.ofNat 2), (.ofNat 2))) [] zk_248_al := zCon_of (n := 9000) (hs := [zk_248_h3]) (lo := [(0, 1, 0), (0, 2, 0), (0, 3, 0)]) (c := (.ofNat 5)) (ws := [(.ofNat 0), (.ofNat 0), (.ofNat 0)]) (by decide) (by decide +kernel) zk_248_oo (List.mem_cons_self) (zAll_mem ⟨zk_248_r3, trivial⟩)
