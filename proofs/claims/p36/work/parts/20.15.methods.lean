/-! PART 20.15: what methods do, shift. -/
/-! shift -/
def zk_171_te : zA_T := ([((.negSucc 2147483647), (.ofNat 2147483647), zD0), ((.negSucc 2147483647), (.ofNat 2147483647), zD0), ((.negSucc 2147483647), (.ofNat 2147483647), zD0), ((.negSucc 2147483647), (.ofNat 2147483647), zD0), ((.negSucc 2147483647), (.ofNat 2147483647), zD0)], zHT, [(0, (2, (.ofNat 3))), (1, (1, (.ofNat 0))), (2, (1, (.ofNat 1))), (3, (1, (.ofNat 2))), (4, (1, (.ofNat 3))), (5, (1, (.ofNat 4)))], [], 0, 0)
def zk_171_al : List zAlt := [([((.negSucc 12), (.ofNat 60), none)], [(3, 0, 0)], zHT, some (1, (.ofNat 0)))]
def zk_171_or : zO_ := zon
theorem zk_171_oo (l : Launch) (X : zx_X) (φ : List z_C) (P : List Int → Prop) : zOk l X 2000000 φ P zk_171_or := zOk_no l X 2000000 φ P
def zk_171_h0 : zHd := (0, zcvT zk_171_te 0 ((.negSucc 2147483647), (.negSucc 0)), [(0, 1, 0), (0, 2, 0), (0, 3, 0), (0, 4, 0), (0, 5, 0)], [], (.ofNat 5), [(.ofNat 0), (.ofNat 0), (.ofNat 0), (.ofNat 0), (.ofNat 0)], [])
def zk_171_hs0 : List zHd := [zk_171_h0]
theorem zk_171_r0_0 : zx1 2000000 (zfinC zk_171_al zk_171_h0.2.2.2.1) (zcutH zk_171_hs0 zk_171_h0 171 4) zk_171_or 6000 171 4 zk_171_h0.1 (zhS zk_171_h0) [] = true := by decide +kernel
theorem zk_171_c0 : zCon 171 4 (zcvT zk_171_te 0 ((.negSucc 2147483647), (.negSucc 0))) [] zk_171_al := zCon_of (n := 6000) (hs := zk_171_hs0) (lo := [(0, 1, 0), (0, 2, 0), (0, 3, 0), (0, 4, 0), (0, 5, 0)]) (c := (.ofNat 5)) (ws := [(.ofNat 0), (.ofNat 0), (.ofNat 0), (.ofNat 0), (.ofNat 0)]) (by decide) (by decide +kernel) zk_171_oo (List.mem_cons_self) (zAll_mem ⟨zk_171_r0_0, trivial⟩)
def zk_171_h1 : zHd := (0, zcvT zk_171_te 0 ((.ofNat 0), (.ofNat 0)), [(0, 1, 0), (0, 2, 0), (0, 3, 0), (0, 4, 0), (0, 5, 0)], [], (.ofNat 5), [(.ofNat 0), (.ofNat 0), (.ofNat 0), (.ofNat 0), (.ofNat 0)], [])
def zk_171_hs1 : List zHd := [zk_171_h1]
theorem zk_171_r1_0 : zx1 2000000 (zfinC zk_171_al zk_171_h1.2.2.2.1) (zcutH zk_171_hs1 zk_171_h1 171 4) zk_171_or 6000 171 4 zk_171_h1.1 (zhS zk_171_h1) [] = true := by decide +kernel
theorem zk_171_c1 : zCon 171 4 (zcvT zk_171_te 0 ((.ofNat 0), (.ofNat 0))) [] zk_171_al := zCon_of (n := 6000) (hs := zk_171_hs1) (lo := [(0, 1, 0), (0, 2, 0), (0, 3, 0), (0, 4, 0), (0, 5, 0)]) (c := (.ofNat 5)) (ws := [(.ofNat 0), (.ofNat 0), (.ofNat 0), (.ofNat 0), (.ofNat 0)]) (by decide) (by decide +kernel) zk_171_oo (List.mem_cons_self) (zAll_mem ⟨zk_171_r1_0, trivial⟩)
def zk_171_h2 : zHd := (0, zcvT zk_171_te 0 ((.ofNat 1), (.ofNat 1)), [(0, 1, 0), (0, 2, 0), (0, 3, 0), (0, 4, 0), (0, 5, 0)], [], (.ofNat 5), [(.ofNat 0), (.ofNat 0), (.ofNat 0), (.ofNat 0), (.ofNat 0)], [])
def zk_171_hs2 : List zHd := [zk_171_h2]
theorem zk_171_r2_0 : zx1 2000000 (zfinC zk_171_al zk_171_h2.2.2.2.1) (zcutH zk_171_hs2 zk_171_h2 171 4) zk_171_or 6000 171 4 zk_171_h2.1 (zhS zk_171_h2) [] = true := by decide +kernel
theorem zk_171_c2 : zCon 171 4 (zcvT zk_171_te 0 ((.ofNat 1), (.ofNat 1))) [] zk_171_al := zCon_of (n := 6000) (hs := zk_171_hs2) (lo := [(0, 1, 0), (0, 2, 0), (0, 3, 0), (0, 4, 0), (0, 5, 0)]) (c := (.ofNat 5)) (ws := [(.ofNat 0), (.ofNat 0), (.ofNat 0), (.ofNat 0), (.ofNat 0)]) (by decide) (by decide +kernel) zk_171_oo (List.mem_cons_self) (zAll_mem ⟨zk_171_r2_0, trivial⟩)
def zk_171_h3 : zHd := (0, zcvT zk_171_te 0 ((.ofNat 2), (.ofNat 2)), [(0, 1, 0), (0, 2, 0), (0, 3, 0), (0, 4, 0), (0, 5, 0)], [], (.ofNat 5), [(.ofNat 0), (.ofNat 0), (.ofNat 0), (.ofNat 0), (.ofNat 0)], [])
def zk_171_hs3 : List zHd := [zk_171_h3]
theorem zk_171_r3_0 : zx1 2000000 (zfinC zk_171_al zk_171_h3.2.2.2.1) (zcutH zk_171_hs3 zk_171_h3 171 4) zk_171_or 6000 171 4 zk_171_h3.1 (zhS zk_171_h3) [] = true := by decide +kernel
theorem zk_171_c3 : zCon 171 4 (zcvT zk_171_te 0 ((.ofNat 2), (.ofNat 2))) [] zk_171_al := zCon_of (n := 6000) (hs := zk_171_hs3) (lo := [(0, 1, 0), (0, 2, 0), (0, 3, 0), (0, 4, 0), (0, 5, 0)]) (c := (.ofNat 5)) (ws := [(.ofNat 0), (.ofNat 0), (.ofNat 0), (.ofNat 0), (.ofNat 0)]) (by decide) (by decide +kernel) zk_171_oo (List.mem_cons_self) (zAll_mem ⟨zk_171_r3_0, trivial⟩)
def zk_171_h4 : zHd := (0, zcvT zk_171_te 0 ((.ofNat 3), (.ofNat 3)), [(0, 1, 0), (0, 2, 0), (0, 3, 0), (0, 4, 0), (0, 5, 0)], [], (.ofNat 5), [(.ofNat 0), (.ofNat 0), (.ofNat 0), (.ofNat 0), (.ofNat 0)], [])
def zk_171_hs4 : List zHd := [zk_171_h4]
theorem zk_171_r4_0 : zx1 2000000 (zfinC zk_171_al zk_171_h4.2.2.2.1) (zcutH zk_171_hs4 zk_171_h4 171 4) zk_171_or 6000 171 4 zk_171_h4.1 (zhS zk_171_h4) [] = true := by decide +kernel
theorem zk_171_c4 : zCon 171 4 (zcvT zk_171_te 0 ((.ofNat 3), (.ofNat 3))) [] zk_171_al := zCon_of (n := 6000) (hs := zk_171_hs4) (lo := [(0, 1, 0), (0, 2, 0), (0, 3, 0), (0, 4, 0), (0, 5, 0)]) (c := (.ofNat 5)) (ws := [(.ofNat 0), (.ofNat 0), (.ofNat 0), (.ofNat 0), (.ofNat 0)]) (by decide) (by decide +kernel) zk_171_oo (List.mem_cons_self) (zAll_mem ⟨zk_171_r4_0, trivial⟩)
def zk_171_h5 : zHd := (0, zcvT zk_171_te 0 ((.ofNat 4), (.ofNat 4)), [(0, 1, 0), (0, 2, 0), (0, 3, 0), (0, 4, 0), (0, 5, 0)], [], (.ofNat 5), [(.ofNat 0), (.ofNat 0), (.ofNat 0), (.ofNat 0), (.ofNat 0)], [])
def zk_171_hs5 : List zHd := [zk_171_h5]
theorem zk_171_r5_0 : zx1 2000000 (zfinC zk_171_al zk_171_h5.2.2.2.1) (zcutH zk_171_hs5 zk_171_h5 171 4) zk_171_or 6000 171 4 zk_171_h5.1 (zhS zk_171_h5) [] = true := by decide +kernel
theorem zk_171_c5 : zCon 171 4 (zcvT zk_171_te 0 ((.ofNat 4), (.ofNat 4))) [] zk_171_al := zCon_of (n := 6000) (hs := zk_171_hs5) (lo := [(0, 1, 0), (0, 2, 0), (0, 3, 0), (0, 4, 0), (0, 5, 0)]) (c := (.ofNat 5)) (ws := [(.ofNat 0), (.ofNat 0), (.ofNat 0), (.ofNat 0), (.ofNat 0)]) (by decide) (by decide +kernel) zk_171_oo (List.mem_cons_self) (zAll_mem ⟨zk_171_r5_0, trivial⟩)
def zk_171_h6 : zHd := (0, zcvT zk_171_te 0 ((.ofNat 5), (.ofNat 5)), [(0, 1, 0), (0, 2, 0), (0, 3, 0), (0, 4, 0), (0, 5, 0)], [], (.ofNat 5), [(.ofNat 0), (.ofNat 0), (.ofNat 0), (.ofNat 0), (.ofNat 0)], [])
def zk_171_hs6 : List zHd := [zk_171_h6]
theorem zk_171_r6_0 : zx1 2000000 (zfinC zk_171_al zk_171_h6.2.2.2.1) (zcutH zk_171_hs6 zk_171_h6 171 4) zk_171_or 6000 171 4 zk_171_h6.1 (zhS zk_171_h6) [] = true := by decide +kernel
theorem zk_171_c6 : zCon 171 4 (zcvT zk_171_te 0 ((.ofNat 5), (.ofNat 5))) [] zk_171_al := zCon_of (n := 6000) (hs := zk_171_hs6) (lo := [(0, 1, 0), (0, 2, 0), (0, 3, 0), (0, 4, 0), (0, 5, 0)]) (c := (.ofNat 5)) (ws := [(.ofNat 0), (.ofNat 0), (.ofNat 0), (.ofNat 0), (.ofNat 0)]) (by decide) (by decide +kernel) zk_171_oo (List.mem_cons_self) (zAll_mem ⟨zk_171_r6_0, trivial⟩)
def zk_171_h7 : zHd := (0, zcvT zk_171_te 0 ((.ofNat 6), (.ofNat 2147483647)), [(0, 1, 0), (0, 2, 0), (0, 3, 0), (0, 4, 0), (0, 5, 0)], [], (.ofNat 5), [(.ofNat 0), (.ofNat 0), (.ofNat 0), (.ofNat 0), (.ofNat 0)], [])
def zk_171_hs7 : List zHd := [zk_171_h7]
theorem zk_171_r7_0 : zx1 2000000 (zfinC zk_171_al zk_171_h7.2.2.2.1) (zcutH zk_171_hs7 zk_171_h7 171 4) zk_171_or 6000 171 4 zk_171_h7.1 (zhS zk_171_h7) [] = true := by decide +kernel
theorem zk_171_c7 : zCon 171 4 (zcvT zk_171_te 0 ((.ofNat 6), (.ofNat 2147483647))) [] zk_171_al := zCon_of (n := 6000) (hs := zk_171_hs7) (lo := [(0, 1, 0), (0, 2, 0), (0, 3, 0), (0, 4, 0), (0, 5, 0)]) (c := (.ofNat 5)) (ws := [(.ofNat 0), (.ofNat 0), (.ofNat 0), (.ofNat 0), (.ofNat 0)]) (by decide) (by decide +kernel) zk_171_oo (List.mem_cons_self) (zAll_mem ⟨zk_171_r7_0, trivial⟩)
theorem zk_171_c : zCon 171 4 zk_171_te [] zk_171_al := zCon_cov 0 [((.negSucc 2147483647), (.negSucc 0)), ((.ofNat 0), (.ofNat 0)), ((.ofNat 1), (.ofNat 1)), ((.ofNat 2), (.ofNat 2)), ((.ofNat 3), (.ofNat 3)), ((.ofNat 4), (.ofNat 4)), ((.ofNat 5), (.ofNat 5)), ((.ofNat 6), (.ofNat 2147483647))] rfl (by decide +kernel) (zAll_mem ⟨zk_171_c0, zk_171_c1, zk_171_c2, zk_171_c3, zk_171_c4, zk_171_c5, zk_171_c6, zk_171_c7, trivial⟩)
def zk_171_o : zO_ := zorcC 171 4 zk_171_te [(0, 1, 0), (0, 2, 0), (0, 3, 0), (0, 4, 0), (0, 5, 0)] [] zk_171_al
theorem zk_171_ok (l : Launch) (X : zx_X) (XL : Nat) (φ : List z_C) (P : List Int → Prop) : zOk l X XL φ P zk_171_o := zOk_C zk_171_c (by decide +kernel) l X XL φ P
