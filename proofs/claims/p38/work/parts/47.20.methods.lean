/-! PART 20.20: what methods do, believes. -/
/-! believes -/
def zk_231_te : zA_T := ([((.negSucc 2147483647), (.ofNat 2147483647), zD0), ((.negSucc 2147483647), (.ofNat 2147483647), zD0), ((.negSucc 2147483647), (.ofNat 2147483647), zD0)], zHT, [(0, (2, (.ofNat 46))), (1, (1, (.ofNat 0))), (2, (1, (.ofNat 1))), (3, (1, (.ofNat 2)))], [], 0, 0)
def zk_231_al : List zAlt := [([((.negSucc 2147483647), (.ofNat 2147483647), none)], [(3, 0, 0)], zHT, some (1, (.ofNat 0)))]
def zk_231_or : zO_ := zor zk_232_o (zon)
theorem zk_231_oo (l : Launch) (X : zx_X) (φ : List z_C) (P : List Int → Prop) : zOk l X 2000000 φ P zk_231_or := zOk_or (zk_232_ok l X 2000000 φ P) (zOk_no l X 2000000 φ P)
def zk_231_g0 : zHd := (57, ([((.ofNat 0), (.ofNat 5), zD0), ((.ofNat 0), (.ofNat 5), zD0), ((.ofNat 0), (.ofNat 1), zD0), ((.negSucc 2147483647), (.ofNat 2147483647), zD0), ((.negSucc 1), (.ofNat 3), zD0), ((.ofNat 0), (.ofNat 4), zD0)], zHT, [(0, (2, (.ofNat 46))), (1, (1, (.ofNat 0))), (2, (1, (.ofNat 1))), (3, (1, (.ofNat 2))), (4, (1, (.ofNat 3))), (5, (1, (.ofNat 4))), (6, (1, (.ofNat 5)))], [], 0, 0), [(0, 1, 0), (0, 2, 0), (0, 3, 0), (0, 4, 0), (0, 5, 0), (0, 6, 0)], [], (.ofNat 9), [(.ofNat 0), (.ofNat 0), (.ofNat 0), (.ofNat 0), (.ofNat 0), (.ofNat 2)], [])
def zk_231_h0 : zHd := (0, zcvT zk_231_te 0 ((.negSucc 2147483647), (.negSucc 0)), [(0, 1, 0), (0, 2, 0), (0, 3, 0)], [], (.ofNat 15), [(.ofNat 0), (.ofNat 0), (.ofNat 0)], [])
def zk_231_hs0 : List zHd := [zk_231_h0, zk_231_g0]
theorem zk_231_r0_0 : zx1 2000000 (zfinC zk_231_al zk_231_h0.2.2.2.1) (zcutH zk_231_hs0 zk_231_h0 231 6) zk_231_or 6000 231 6 zk_231_h0.1 (zhS zk_231_h0) [] = true := by decide +kernel
theorem zk_231_r0_1 : zx1 2000000 (zfinC zk_231_al zk_231_g0.2.2.2.1) (zcutH zk_231_hs0 zk_231_g0 231 6) zk_231_or 6000 231 6 zk_231_g0.1 (zhS zk_231_g0) [] = true := by decide +kernel
theorem zk_231_c0 : zCon 231 6 (zcvT zk_231_te 0 ((.negSucc 2147483647), (.negSucc 0))) [] zk_231_al := zCon_of (n := 6000) (hs := zk_231_hs0) (lo := [(0, 1, 0), (0, 2, 0), (0, 3, 0)]) (c := (.ofNat 15)) (ws := [(.ofNat 0), (.ofNat 0), (.ofNat 0)]) (by decide) (by decide +kernel) zk_231_oo (List.mem_cons_self) (zAll_mem ⟨zk_231_r0_0, zk_231_r0_1, trivial⟩)
def zk_231_h1 : zHd := (0, zcvT zk_231_te 0 ((.ofNat 0), (.ofNat 0)), [(0, 1, 0), (0, 2, 0), (0, 3, 0)], [], (.ofNat 15), [(.ofNat 0), (.ofNat 0), (.ofNat 0)], [])
def zk_231_hs1 : List zHd := [zk_231_h1, zk_231_g0]
theorem zk_231_r1_0 : zx1 2000000 (zfinC zk_231_al zk_231_h1.2.2.2.1) (zcutH zk_231_hs1 zk_231_h1 231 6) zk_231_or 6000 231 6 zk_231_h1.1 (zhS zk_231_h1) [] = true := by decide +kernel
theorem zk_231_r1_1 : zx1 2000000 (zfinC zk_231_al zk_231_g0.2.2.2.1) (zcutH zk_231_hs1 zk_231_g0 231 6) zk_231_or 6000 231 6 zk_231_g0.1 (zhS zk_231_g0) [] = true := by decide +kernel
theorem zk_231_c1 : zCon 231 6 (zcvT zk_231_te 0 ((.ofNat 0), (.ofNat 0))) [] zk_231_al := zCon_of (n := 6000) (hs := zk_231_hs1) (lo := [(0, 1, 0), (0, 2, 0), (0, 3, 0)]) (c := (.ofNat 15)) (ws := [(.ofNat 0), (.ofNat 0), (.ofNat 0)]) (by decide) (by decide +kernel) zk_231_oo (List.mem_cons_self) (zAll_mem ⟨zk_231_r1_0, zk_231_r1_1, trivial⟩)
def zk_231_h2 : zHd := (0, zcvT zk_231_te 0 ((.ofNat 1), (.ofNat 1)), [(0, 1, 0), (0, 2, 0), (0, 3, 0)], [], (.ofNat 15), [(.ofNat 0), (.ofNat 0), (.ofNat 0)], [])
def zk_231_hs2 : List zHd := [zk_231_h2, zk_231_g0]
theorem zk_231_r2_0 : zx1 2000000 (zfinC zk_231_al zk_231_h2.2.2.2.1) (zcutH zk_231_hs2 zk_231_h2 231 6) zk_231_or 6000 231 6 zk_231_h2.1 (zhS zk_231_h2) [] = true := by decide +kernel
theorem zk_231_r2_1 : zx1 2000000 (zfinC zk_231_al zk_231_g0.2.2.2.1) (zcutH zk_231_hs2 zk_231_g0 231 6) zk_231_or 6000 231 6 zk_231_g0.1 (zhS zk_231_g0) [] = true := by decide +kernel
theorem zk_231_c2 : zCon 231 6 (zcvT zk_231_te 0 ((.ofNat 1), (.ofNat 1))) [] zk_231_al := zCon_of (n := 6000) (hs := zk_231_hs2) (lo := [(0, 1, 0), (0, 2, 0), (0, 3, 0)]) (c := (.ofNat 15)) (ws := [(.ofNat 0), (.ofNat 0), (.ofNat 0)]) (by decide) (by decide +kernel) zk_231_oo (List.mem_cons_self) (zAll_mem ⟨zk_231_r2_0, zk_231_r2_1, trivial⟩)
def zk_231_h3 : zHd := (0, zcvT zk_231_te 0 ((.ofNat 2), (.ofNat 2)), [(0, 1, 0), (0, 2, 0), (0, 3, 0)], [], (.ofNat 15), [(.ofNat 0), (.ofNat 0), (.ofNat 0)], [])
def zk_231_hs3 : List zHd := [zk_231_h3, zk_231_g0]
theorem zk_231_r3_0 : zx1 2000000 (zfinC zk_231_al zk_231_h3.2.2.2.1) (zcutH zk_231_hs3 zk_231_h3 231 6) zk_231_or 6000 231 6 zk_231_h3.1 (zhS zk_231_h3) [] = true := by decide +kernel
theorem zk_231_r3_1 : zx1 2000000 (zfinC zk_231_al zk_231_g0.2.2.2.1) (zcutH zk_231_hs3 zk_231_g0 231 6) zk_231_or 6000 231 6 zk_231_g0.1 (zhS zk_231_g0) [] = true := by decide +kernel
theorem zk_231_c3 : zCon 231 6 (zcvT zk_231_te 0 ((.ofNat 2), (.ofNat 2))) [] zk_231_al := zCon_of (n := 6000) (hs := zk_231_hs3) (lo := [(0, 1, 0), (0, 2, 0), (0, 3, 0)]) (c := (.ofNat 15)) (ws := [(.ofNat 0), (.ofNat 0), (.ofNat 0)]) (by decide) (by decide +kernel) zk_231_oo (List.mem_cons_self) (zAll_mem ⟨zk_231_r3_0, zk_231_r3_1, trivial⟩)
def zk_231_h4 : zHd := (0, zcvT zk_231_te 0 ((.ofNat 3), (.ofNat 3)), [(0, 1, 0), (0, 2, 0), (0, 3, 0)], [], (.ofNat 15), [(.ofNat 0), (.ofNat 0), (.ofNat 0)], [])
def zk_231_hs4 : List zHd := [zk_231_h4, zk_231_g0]
theorem zk_231_r4_0 : zx1 2000000 (zfinC zk_231_al zk_231_h4.2.2.2.1) (zcutH zk_231_hs4 zk_231_h4 231 6) zk_231_or 6000 231 6 zk_231_h4.1 (zhS zk_231_h4) [] = true := by decide +kernel
theorem zk_231_r4_1 : zx1 2000000 (zfinC zk_231_al zk_231_g0.2.2.2.1) (zcutH zk_231_hs4 zk_231_g0 231 6) zk_231_or 6000 231 6 zk_231_g0.1 (zhS zk_231_g0) [] = true := by decide +kernel
theorem zk_231_c4 : zCon 231 6 (zcvT zk_231_te 0 ((.ofNat 3), (.ofNat 3))) [] zk_231_al := zCon_of (n := 6000) (hs := zk_231_hs4) (lo := [(0, 1, 0), (0, 2, 0), (0, 3, 0)]) (c := (.ofNat 15)) (ws := [(.ofNat 0), (.ofNat 0), (.ofNat 0)]) (by decide) (by decide +kernel) zk_231_oo (List.mem_cons_self) (zAll_mem ⟨zk_231_r4_0, zk_231_r4_1, trivial⟩)
def zk_231_h5 : zHd := (0, zcvT zk_231_te 0 ((.ofNat 4), (.ofNat 4)), [(0, 1, 0), (0, 2, 0), (0, 3, 0)], [], (.ofNat 15), [(.ofNat 0), (.ofNat 0), (.ofNat 0)], [])
def zk_231_hs5 : List zHd := [zk_231_h5, zk_231_g0]
theorem zk_231_r5_0 : zx1 2000000 (zfinC zk_231_al zk_231_h5.2.2.2.1) (zcutH zk_231_hs5 zk_231_h5 231 6) zk_231_or 6000 231 6 zk_231_h5.1 (zhS zk_231_h5) [] = true := by decide +kernel
theorem zk_231_r5_1 : zx1 2000000 (zfinC zk_231_al zk_231_g0.2.2.2.1) (zcutH zk_231_hs5 zk_231_g0 231 6) zk_231_or 6000 231 6 zk_231_g0.1 (zhS zk_231_g0) [] = true := by decide +kernel
theorem zk_231_c5 : zCon 231 6 (zcvT zk_231_te 0 ((.ofNat 4), (.ofNat 4))) [] zk_231_al := zCon_of (n := 6000) (hs := zk_231_hs5) (lo := [(0, 1, 0), (0, 2, 0), (0, 3, 0)]) (c := (.ofNat 15)) (ws := [(.ofNat 0), (.ofNat 0), (.ofNat 0)]) (by decide) (by decide +kernel) zk_231_oo (List.mem_cons_self) (zAll_mem ⟨zk_231_r5_0, zk_231_r5_1, trivial⟩)
def zk_231_h6 : zHd := (0, zcvT zk_231_te 0 ((.ofNat 5), (.ofNat 5)), [(0, 1, 0), (0, 2, 0), (0, 3, 0)], [], (.ofNat 15), [(.ofNat 0), (.ofNat 0), (.ofNat 0)], [])
def zk_231_hs6 : List zHd := [zk_231_h6, zk_231_g0]
theorem zk_231_r6_0 : zx1 2000000 (zfinC zk_231_al zk_231_h6.2.2.2.1) (zcutH zk_231_hs6 zk_231_h6 231 6) zk_231_or 6000 231 6 zk_231_h6.1 (zhS zk_231_h6) [] = true := by decide +kernel
theorem zk_231_r6_1 : zx1 2000000 (zfinC zk_231_al zk_231_g0.2.2.2.1) (zcutH zk_231_hs6 zk_231_g0 231 6) zk_231_or 6000 231 6 zk_231_g0.1 (zhS zk_231_g0) [] = true := by decide +kernel
theorem zk_231_c6 : zCon 231 6 (zcvT zk_231_te 0 ((.ofNat 5), (.ofNat 5))) [] zk_231_al := zCon_of (n := 6000) (hs := zk_231_hs6) (lo := [(0, 1, 0), (0, 2, 0), (0, 3, 0)]) (c := (.ofNat 15)) (ws := [(.ofNat 0), (.ofNat 0), (.ofNat 0)]) (by decide) (by decide +kernel) zk_231_oo (List.mem_cons_self) (zAll_mem ⟨zk_231_r6_0, zk_231_r6_1, trivial⟩)
def zk_231_h7 : zHd := (0, zcvT zk_231_te 0 ((.ofNat 6), (.ofNat 2147483647)), [(0, 1, 0), (0, 2, 0), (0, 3, 0)], [], (.ofNat 15), [(.ofNat 0), (.ofNat 0), (.ofNat 0)], [])
def zk_231_hs7 : List zHd := [zk_231_h7, zk_231_g0]
theorem zk_231_r7_0 : zx1 2000000 (zfinC zk_231_al zk_231_h7.2.2.2.1) (zcutH zk_231_hs7 zk_231_h7 231 6) zk_231_or 6000 231 6 zk_231_h7.1 (zhS zk_231_h7) [] = true := by decide +kernel
theorem zk_231_r7_1 : zx1 2000000 (zfinC zk_231_al zk_231_g0.2.2.2.1) (zcutH zk_231_hs7 zk_231_g0 231 6) zk_231_or 6000 231 6 zk_231_g0.1 (zhS zk_231_g0) [] = true := by decide +kernel
theorem zk_231_c7 : zCon 231 6 (zcvT zk_231_te 0 ((.ofNat 6), (.ofNat 2147483647))) [] zk_231_al := zCon_of (n := 6000) (hs := zk_231_hs7) (lo := [(0, 1, 0), (0, 2, 0), (0, 3, 0)]) (c := (.ofNat 15)) (ws := [(.ofNat 0), (.ofNat 0), (.ofNat 0)]) (by decide) (by decide +kernel) zk_231_oo (List.mem_cons_self) (zAll_mem ⟨zk_231_r7_0, zk_231_r7_1, trivial⟩)
theorem zk_231_c : zCon 231 6 zk_231_te [] zk_231_al := zCon_cov 0 [((.negSucc 2147483647), (.negSucc 0)), ((.ofNat 0), (.ofNat 0)), ((.ofNat 1), (.ofNat 1)), ((.ofNat 2), (.ofNat 2)), ((.ofNat 3), (.ofNat 3)), ((.ofNat 4), (.ofNat 4)), ((.ofNat 5), (.ofNat 5)), ((.ofNat 6), (.ofNat 2147483647))] rfl (by decide +kernel) (zAll_mem ⟨zk_231_c0, zk_231_c1, zk_231_c2, zk_231_c3, zk_231_c4, zk_231_c5, zk_231_c6, zk_231_c7, trivial⟩)
def zk_231_o : zO_ := zorcC 231 6 zk_231_te [(0, 1, 0), (0, 2, 0), (0, 3, 0)] [] zk_231_al
theorem zk_231_ok (l : Launch) (X : zx_X) (XL : Nat) (φ : List z_C) (P : List Int → Prop) : zOk l X XL φ P zk_231_o := zOk_C zk_231_c (by decide +kernel) l X XL φ P
