/-! PART 20.18: what methods do, allMind, begins, believers, bitsOf, byTurns, cost, feed, firstFalse, fitsView, helps, ifChanged, ifLine, law, lines, matterMinds, matters, mayStrike, minds, mindsAll, mindsOf, nearest, of, playFrom, win, workOut. -/
/-! workOut -/
def zk_191_te : zA_T := ([((.negSucc 0), (.ofNat 0), zD0), ((.ofNat 0), (.ofNat 120), zD0)], zHT, [(0, (2, (.ofNat 46))), (1, (1, (.ofNat 0))), (2, (1, (.ofNat 1)))], [], 0, 0)
def zk_191_al : List zAlt := [([((.negSucc 2147483647), (.ofNat 2147483647), none)], [(3, 0, 0)], zHT, some (1, (.ofNat 0)))]
def zk_191_h0 : zHd := (0, zk_191_te, [(0, 1, 0), (0, 2, 0)], [], (.ofNat 247), [(.ofNat 0), (.ofNat 0)], [])
def zk_191_h1 : zHd := (33, ([((.ofNat 0), (.ofNat 120), zD0), ((.ofNat 0), (.ofNat 6), zD0), ((.negSucc 0), (.ofNat 120), zD0), ((.negSucc 0), (.ofNat 0), zD0), ((.ofNat 0), (.ofNat 120), zD0), ((.ofNat 0), (.ofNat 1), zD0), ((.negSucc 2147483647), (.ofNat 2147483647), zD0), ((.negSucc 2147483647), (.ofNat 2147483647), zD0), ((.ofNat 0), (.ofNat 1), zD0)], (zHT.set 43 (0, 11, 0, [(2, (.ofNat 47)), (2, (.ofNat 48)), (2, (.ofNat 49)), (2, (.ofNat 50)), (6, (.ofNat 347892350976)), (6, (.ofNat 347892350976)), (6, (.ofNat 73014444032)), (6, (.ofNat 144115183780888576)), (2, (.ofNat 51)), (6, (.ofNat 1035087118336)), (2, (.ofNat 52)), (6, (.ofNat 1035087118335)), (6, (.ofNat 4294967295)), (1, (.ofNat 0)), (6, (.ofNat 1035087118336)), (1, (.ofNat 2)), (1, (.ofNat 1)), (2, (.ofNat 53)), (2, (.ofNat 54)), (2, (.ofNat 55)), (2, (.ofNat 56)), (2, (.ofNat 57)), (6, (.ofNat 12884901888)), (6, (.ofNat 73014444032)), (6, (.ofNat 144115183780888576)), (2, (.ofNat 58)), (2, (.ofNat 59)), (2, (.ofNat 60)), (6, (.ofNat 433791696896)), (2, (.ofNat 61)), (2, (.ofNat 62)), (6, (.ofNat 858997754167296)), (6, (.ofNat 64424509440)), (6, (.ofNat 425201762304)), (2, (.ofNat 63)), (2, (.ofNat 64)), (2, (.ofNat 65)), (2, (.ofNat 66))], [(4, (8, (.ofNat 43))), (5, (8, (.ofNat 43))), (6, (8, (.ofNat 43))), (7, (8, (.ofNat 43))), (22, (8, (.ofNat 43))), (23, (8, (.ofNat 43))), (24, (8, (.ofNat 43))), (28, (8, (.ofNat 43)))])), [(0, (2, (.ofNat 46))), (1, (1, (.ofNat 3))), (2, (1, (.ofNat 4))), (3, (1, (.ofNat 5))), (4, (1, (.ofNat 6))), (5, (0, (.ofNat 0))), (6, (1, (.ofNat 7))), (7, (1, (.ofNat 8)))], [], 0, 0), [(1, 43, 13), (1, 43, 16), (1, 43, 15), (0, 1, 0), (0, 2, 0), (0, 3, 0), (0, 4, 0), (0, 6, 0), (0, 7, 0)], [], (.ofNat 240), [(.ofNat 2), (.ofNat 0), (.ofNat 0), (.ofNat 0), (.ofNat 0), (.ofNat 0), (.ofNat 0), (.ofNat 0), (.ofNat 0)], [])
def zk_191_h2 : zHd := (33, ([((.ofNat 0), (.ofNat 120), zD0), ((.negSucc 0), (.ofNat 0), zD0), ((.ofNat 0), (.ofNat 120), zD0), ((.ofNat 0), (.ofNat 1), zD0), ((.negSucc 2147483647), (.ofNat 2147483647), zD0)], (zHT.set 43 (0, 11, 0, [(2, (.ofNat 47)), (2, (.ofNat 48)), (2, (.ofNat 49)), (2, (.ofNat 50)), (6, (.ofNat 347892350976)), (6, (.ofNat 347892350976)), (6, (.ofNat 73014444032)), (6, (.ofNat 144115183780888576)), (2, (.ofNat 51)), (6, (.ofNat 1035087118336)), (2, (.ofNat 52)), (6, (.ofNat 1035087118335)), (6, (.ofNat 4294967295)), (1, (.ofNat 0)), (6, (.ofNat 1035087118336)), (0, (.negSucc 0)), (0, (.ofNat 0)), (2, (.ofNat 53)), (2, (.ofNat 54)), (2, (.ofNat 55)), (2, (.ofNat 56)), (2, (.ofNat 57)), (6, (.ofNat 12884901888)), (6, (.ofNat 73014444032)), (6, (.ofNat 144115183780888576)), (2, (.ofNat 58)), (2, (.ofNat 59)), (2, (.ofNat 60)), (6, (.ofNat 433791696896)), (2, (.ofNat 61)), (2, (.ofNat 62)), (6, (.ofNat 858997754167296)), (6, (.ofNat 64424509440)), (6, (.ofNat 425201762304)), (2, (.ofNat 63)), (2, (.ofNat 64)), (2, (.ofNat 65)), (2, (.ofNat 66))], [(4, (8, (.ofNat 43))), (5, (8, (.ofNat 43))), (6, (8, (.ofNat 43))), (7, (8, (.ofNat 43))), (22, (8, (.ofNat 43))), (23, (8, (.ofNat 43))), (24, (8, (.ofNat 43))), (28, (8, (.ofNat 43)))])), [(0, (2, (.ofNat 46))), (1, (1, (.ofNat 1))), (2, (1, (.ofNat 2))), (3, (1, (.ofNat 3))), (4, (1, (.ofNat 4))), (5, (0, (.ofNat 1)))], [], 0, 0), [(1, 43, 13), (0, 1, 0), (0, 2, 0), (0, 3, 0), (0, 4, 0)], [], (.ofNat 241), [(.ofNat 2), (.ofNat 0), (.ofNat 0), (.ofNat 0), (.ofNat 0)], [])
def zk_191_hs : List zHd := [zk_191_h0, zk_191_h1, zk_191_h2]
def zk_191_or : zO_ := zor zk_192_0_o (zon)
theorem zk_191_oo (l : Launch) (X : zx_X) (φ : List z_C) (P : List Int → Prop) : zOk l X 2000000 φ P zk_191_or := zOk_or (zk_192_0_ok l X 2000000 φ P) (zOk_no l X 2000000 φ P)
theorem zk_191_r0 : zx1 2000000 (zfinC zk_191_al zk_191_h0.2.2.2.1) (zcutH zk_191_hs zk_191_h0 191 87) zk_191_or 6000 191 87 zk_191_h0.1 (zhS zk_191_h0) [] = true := by decide +kernel
theorem zk_191_r1 : zx1 2000000 (zfinC zk_191_al zk_191_h1.2.2.2.1) (zcutH zk_191_hs zk_191_h1 191 87) zk_191_or 6000 191 87 zk_191_h1.1 (zhS zk_191_h1) [] = true := by decide +kernel
theorem zk_191_r2 : zx1 2000000 (zfinC zk_191_al zk_191_h2.2.2.2.1) (zcutH zk_191_hs zk_191_h2 191 87) zk_191_or 6000 191 87 zk_191_h2.1 (zhS zk_191_h2) [] = true := by decide +kernel
theorem zk_191_c : zCon 191 87 zk_191_te [] zk_191_al := zCon_of (n := 6000) (hs := zk_191_hs) (lo := [(0, 1, 0), (0, 2, 0)]) (c := (.ofNat 247)) (ws := [(.ofNat 0), (.ofNat 0)]) (by decide) (by decide +kernel) zk_191_oo (List.mem_cons_self) (zAll_mem ⟨zk_191_r0, zk_191_r1, zk_191_r2, trivial⟩)
def zk_191_o : zO_ := zorcC 191 87 zk_191_te [(0, 1, 0), (0, 2, 0)] [] zk_191_al
theorem zk_191_ok (l : Launch) (X : zx_X) (XL : Nat) (φ : List z_C) (P : List Int → Prop) : zOk l X XL φ P zk_191_o := zOk_C zk_191_c (by decide +kernel) l X XL φ P
/-! nearest -/
def zk_207_te : zA_T := ([((.negSucc 2147483647), (.ofNat 2147483647), zD0), ((.ofNat 0), (.ofNat 5), zD0), ((.ofNat 0), (.ofNat 3), zD0)], zHT, [(0, (1, (.ofNat 0))), (1, (1, (.ofNat 1))), (2, (1, (.ofNat 2)))], [], 0, 0)
def zk_207_al : List zAlt := [([((.negSucc 0), (.ofNat 23), none)], [(3, 0, 0)], zHT, some (1, (.ofNat 0)))]
def zk_207_h0 : zHd := (0, zk_207_te, [(0, 0, 0), (0, 1, 0), (0, 2, 0)], [], (.ofNat 15), [(.ofNat 0), (.ofNat 0), (.ofNat 0)], [])
def zk_207_h1 : zHd := (8, ([((.negSucc 2147483647), (.ofNat 2147483647), zD0), ((.ofNat 0), (.ofNat 5), zD0), ((.ofNat 0), (.ofNat 3), zD0), ((.negSucc 0), (.ofNat 23), zD0), ((.negSucc 999999), (.ofNat 4), zD0), ((.ofNat 0), (.ofNat 4), zD0)], zHT, [(0, (1, (.ofNat 0))), (1, (1, (.ofNat 1))), (2, (1, (.ofNat 2))), (3, (1, (.ofNat 3))), (4, (1, (.ofNat 4))), (5, (1, (.ofNat 5)))], [], 0, 0), [(0, 0, 0), (0, 1, 0), (0, 2, 0), (0, 3, 0), (0, 4, 0), (0, 5, 0)], [], (.ofNat 9), [(.ofNat 0), (.ofNat 0), (.ofNat 0), (.ofNat 0), (.ofNat 0), (.ofNat 2)], [])
def zk_207_hs : List zHd := [zk_207_h0, zk_207_h1]
def zk_207_or : zO_ := zon
theorem zk_207_oo (l : Launch) (X : zx_X) (φ : List z_C) (P : List Int → Prop) : zOk l X 2000000 φ P zk_207_or := zOk_no l X 2000000 φ P
theorem zk_207_r0 : zx1 2000000 (zfinC zk_207_al zk_207_h0.2.2.2.1) (zcutH zk_207_hs zk_207_h0 207 3) zk_207_or 6000 207 3 zk_207_h0.1 (zhS zk_207_h0) [] = true := by decide +kernel
theorem zk_207_r1 : zx1 2000000 (zfinC zk_207_al zk_207_h1.2.2.2.1) (zcutH zk_207_hs zk_207_h1 207 3) zk_207_or 6000 207 3 zk_207_h1.1 (zhS zk_207_h1) [] = true := by decide +kernel
theorem zk_207_c : zCon 207 3 zk_207_te [] zk_207_al := zCon_of (n := 6000) (hs := zk_207_hs) (lo := [(0, 0, 0), (0, 1, 0), (0, 2, 0)]) (c := (.ofNat 15)) (ws := [(.ofNat 0), (.ofNat 0), (.ofNat 0)]) (by decide) (by decide +kernel) zk_207_oo (List.mem_cons_self) (zAll_mem ⟨zk_207_r0, zk_207_r1, trivial⟩)
def zk_207_o : zO_ := zorcC 207 3 zk_207_te [(0, 0, 0), (0, 1, 0), (0, 2, 0)] [] zk_207_al
theorem zk_207_ok (l : Launch) (X : zx_X) (XL : Nat) (φ : List z_C) (P : List Int → Prop) : zOk l X XL φ P zk_207_o := zOk_C zk_207_c (by decide +kernel) l X XL φ P
/-! bitsOf -/
def zk_209_t_te : zA_T := ([((.ofNat 0), (.ofNat 120), zD0), ((.negSucc 2147483647), (.ofNat 2147483647), zD0)], (zHT.set 43 (0, 11, 0, [(2, (.ofNat 47)), (2, (.ofNat 48)), (2, (.ofNat 49)), (2, (.ofNat 50)), (6, (.ofNat 347892350976)), (6, (.ofNat 347892350976)), (6, (.ofNat 73014444032)), (6, (.ofNat 144115183780888576)), (2, (.ofNat 51)), (6, (.ofNat 1035087118336)), (2, (.ofNat 52)), (1, (.ofNat 0)), (6, (.ofNat 4294967295)), (6, (.ofNat 1035087118336)), (6, (.ofNat 1035087118336)), (6, (.ofNat 1035087118335)), (6, (.ofNat 55834574848)), (2, (.ofNat 53)), (2, (.ofNat 54)), (2, (.ofNat 55)), (2, (.ofNat 56)), (2, (.ofNat 57)), (6, (.ofNat 12884901888)), (6, (.ofNat 73014444032)), (6, (.ofNat 144115183780888576)), (2, (.ofNat 58)), (2, (.ofNat 59)), (2, (.ofNat 60)), (6, (.ofNat 433791696896)), (2, (.ofNat 61)), (2, (.ofNat 62)), (6, (.ofNat 858997754167296)), (6, (.ofNat 64424509440)), (6, (.ofNat 425201762304)), (2, (.ofNat 63)), (2, (.ofNat 64)), (2, (.ofNat 65)), (2, (.ofNat 66))], [(4, (8, (.ofNat 43))), (5, (8, (.ofNat 43))), (6, (8, (.ofNat 43))), (7, (8, (.ofNat 43))), (22, (8, (.ofNat 43))), (23, (8, (.ofNat 43))), (24, (8, (.ofNat 43))), (28, (8, (.ofNat 43)))])), [(0, (1, (.ofNat 1)))], [], 0, 0)
def zk_209_t_al : List zAlt := [([((.ofNat 0), (.ofNat 120), none), ((.negSucc 2147483647), (.ofNat 2147483647), none)], [(1, 43, 11), (3, 0, 0)], (zHT.set 43 (0, 11, 0, [(2, (.ofNat 47)), (2, (.ofNat 48)), (2, (.ofNat 49)), (2, (.ofNat 50)), (6, (.ofNat 347892350976)), (6, (.ofNat 347892350976)), (6, (.ofNat 73014444032)), (6, (.ofNat 144115183780888576)), (2, (.ofNat 51)), (6, (.ofNat 1035087118336)), (2, (.ofNat 52)), (1, (.ofNat 0)), (6, (.ofNat 4294967295)), (6, (.ofNat 1035087118336)), (6, (.ofNat 1035087118336)), (6, (.ofNat 1035087118335)), (6, (.ofNat 55834574848)), (2, (.ofNat 53)), (2, (.ofNat 54)), (2, (.ofNat 55)), (2, (.ofNat 56)), (2, (.ofNat 57)), (6, (.ofNat 12884901888)), (6, (.ofNat 73014444032)), (6, (.ofNat 144115183780888576)), (2, (.ofNat 58)), (2, (.ofNat 59)), (2, (.ofNat 60)), (6, (.ofNat 433791696896)), (2, (.ofNat 61)), (2, (.ofNat 62)), (6, (.ofNat 858997754167296)), (6, (.ofNat 64424509440)), (6, (.ofNat 425201762304)), (2, (.ofNat 63)), (2, (.ofNat 64)), (2, (.ofNat 65)), (2, (.ofNat 66))], [(4, (8, (.ofNat 43))), (5, (8, (.ofNat 43))), (6, (8, (.ofNat 43))), (7, (8, (.ofNat 43))), (22, (8, (.ofNat 43))), (23, (8, (.ofNat 43))), (24, (8, (.ofNat 43))), (28, (8, (.ofNat 43)))])), some (1, (.ofNat 1)))]
def zk_209_t_h0 : zHd := (0, zk_209_t_te, [(1, 43, 11), (0, 0, 0)], [], (.ofNat 55), [(.ofNat 0), (.ofNat 0)], [])
def zk_209_t_h1 : zHd := (4, ([((.ofNat 0), (.ofNat 120), zD0), ((.negSucc 2147483647), (.ofNat 2147483647), zD0), ((.negSucc 2147483647), (.ofNat 2147483647), zD0), ((.ofNat 0), (.ofNat 24), zD0)], (zHT.set 43 (0, 11, 0, [(2, (.ofNat 47)), (2, (.ofNat 48)), (2, (.ofNat 49)), (2, (.ofNat 50)), (6, (.ofNat 347892350976)), (6, (.ofNat 347892350976)), (6, (.ofNat 73014444032)), (6, (.ofNat 144115183780888576)), (2, (.ofNat 51)), (6, (.ofNat 1035087118336)), (2, (.ofNat 52)), (1, (.ofNat 0)), (6, (.ofNat 4294967295)), (6, (.ofNat 1035087118336)), (6, (.ofNat 1035087118336)), (6, (.ofNat 1035087118335)), (6, (.ofNat 55834574848)), (2, (.ofNat 53)), (2, (.ofNat 54)), (2, (.ofNat 55)), (2, (.ofNat 56)), (2, (.ofNat 57)), (6, (.ofNat 12884901888)), (6, (.ofNat 73014444032)), (6, (.ofNat 144115183780888576)), (2, (.ofNat 58)), (2, (.ofNat 59)), (2, (.ofNat 60)), (6, (.ofNat 433791696896)), (2, (.ofNat 61)), (2, (.ofNat 62)), (6, (.ofNat 858997754167296)), (6, (.ofNat 64424509440)), (6, (.ofNat 425201762304)), (2, (.ofNat 63)), (2, (.ofNat 64)), (2, (.ofNat 65)), (2, (.ofNat 66))], [(4, (8, (.ofNat 43))), (5, (8, (.ofNat 43))), (6, (8, (.ofNat 43))), (7, (8, (.ofNat 43))), (22, (8, (.ofNat 43))), (23, (8, (.ofNat 43))), (24, (8, (.ofNat 43))), (28, (8, (.ofNat 43)))])), [(0, (1, (.ofNat 1))), (1, (1, (.ofNat 2))), (2, (1, (.ofNat 3)))], [], 0, 0), [(1, 43, 11), (0, 0, 0), (0, 1, 0), (0, 2, 0)], [], (.ofNat 49), [(.ofNat 0), (.ofNat 0), (.ofNat 0), (.ofNat 2)], [])
def zk_209_t_hs : List zHd := [zk_209_t_h0, zk_209_t_h1]
def zk_209_t_or : zO_ := zon
theorem zk_209_t_oo (l : Launch) (X : zx_X) (φ : List z_C) (P : List Int → Prop) : zOk l X 2000000 φ P zk_209_t_or := zOk_no l X 2000000 φ P
theorem zk_209_t_r0 : zx1 2000000 (zfinC zk_209_t_al zk_209_t_h0.2.2.2.1) (zcutH zk_209_t_hs zk_209_t_h0 209 2) zk_209_t_or 6000 209 2 zk_209_t_h0.1 (zhS zk_209_t_h0) [] = true := by decide +kernel
theorem zk_209_t_r1 : zx1 2000000 (zfinC zk_209_t_al zk_209_t_h1.2.2.2.1) (zcutH zk_209_t_hs zk_209_t_h1 209 2) zk_209_t_or 6000 209 2 zk_209_t_h1.1 (zhS zk_209_t_h1) [] = true := by decide +kernel
theorem zk_209_t_c : zCon 209 2 zk_209_t_te [] zk_209_t_al := zCon_of (n := 6000) (hs := zk_209_t_hs) (lo := [(1, 43, 11), (0, 0, 0)]) (c := (.ofNat 55)) (ws := [(.ofNat 0), (.ofNat 0)]) (by decide) (by decide +kernel) zk_209_t_oo (List.mem_cons_self) (zAll_mem ⟨zk_209_t_r0, zk_209_t_r1, trivial⟩)
def zk_209_t_o : zO_ := zorcC 209 2 zk_209_t_te [(1, 43, 11), (0, 0, 0)] [] zk_209_t_al
theorem zk_209_t_ok (l : Launch) (X : zx_X) (XL : Nat) (φ : List z_C) (P : List Int → Prop) : zOk l X XL φ P zk_209_t_o := zOk_C zk_209_t_c (by decide +kernel) l X XL φ P
/-! bitsOf -/
def zk_209_te : zA_T := ([((.negSucc 2147483647), (.ofNat 2147483647), zD0)], zHT, [(0, (1, (.ofNat 0)))], [], 0, 0)
def zk_209_al : List zAlt := [([((.negSucc 2147483647), (.ofNat 2147483647), none)], [(3, 0, 0)], zHT, some (1, (.ofNat 0)))]
def zk_209_h0 : zHd := (0, zk_209_te, [(0, 0, 0)], [], (.ofNat 55), [(.ofNat 0)], [])
def zk_209_h1 : zHd := (4, ([((.negSucc 2147483647), (.ofNat 2147483647), zD0), ((.negSucc 2147483647), (.ofNat 2147483647), zD0), ((.ofNat 0), (.ofNat 24), zD0)], zHT, [(0, (1, (.ofNat 0))), (1, (1, (.ofNat 1))), (2, (1, (.ofNat 2)))], [], 0, 0), [(0, 0, 0), (0, 1, 0), (0, 2, 0)], [], (.ofNat 49), [(.ofNat 0), (.ofNat 0), (.ofNat 2)], [])
def zk_209_hs : List zHd := [zk_209_h0, zk_209_h1]
def zk_209_or : zO_ := zon
theorem zk_209_oo (l : Launch) (X : zx_X) (φ : List z_C) (P : List Int → Prop) : zOk l X 2000000 φ P zk_209_or := zOk_no l X 2000000 φ P
theorem zk_209_r0 : zx1 2000000 (zfinC zk_209_al zk_209_h0.2.2.2.1) (zcutH zk_209_hs zk_209_h0 209 2) zk_209_or 6000 209 2 zk_209_h0.1 (zhS zk_209_h0) [] = true := by decide +kernel
theorem zk_209_r1 : zx1 2000000 (zfinC zk_209_al zk_209_h1.2.2.2.1) (zcutH zk_209_hs zk_209_h1 209 2) zk_209_or 6000 209 2 zk_209_h1.1 (zhS zk_209_h1) [] = true := by decide +kernel
theorem zk_209_c : zCon 209 2 zk_209_te [] zk_209_al := zCon_of (n := 6000) (hs := zk_209_hs) (lo := [(0, 0, 0)]) (c := (.ofNat 55)) (ws := [(.ofNat 0)]) (by decide) (by decide +kernel) zk_209_oo (List.mem_cons_self) (zAll_mem ⟨zk_209_r0, zk_209_r1, trivial⟩)
def zk_209_o : zO_ := zorcC 209 2 zk_209_te [(0, 0, 0)] [] zk_209_al
theorem zk_209_ok (l : Launch) (X : zx_X) (XL : Nat) (φ : List z_C) (P : List Int → Prop) : zOk l X XL φ P zk_209_o := zOk_C zk_209_c (by decide +kernel) l X XL φ P
/-! mindsOf -/
def zk_204_te : zA_T := ([((.ofNat 0), (.ofNat 7), zD0), ((.ofNat 0), (.ofNat 5), zD0), ((.negSucc 2147483647), (.ofNat 2147483647), zD0)], zHT, [(0, (2, (.ofNat 46))), (1, (1, (.ofNat 0))), (2, (1, (.ofNat 1))), (3, (1, (.ofNat 2)))], [], 0, 0)
def zk_204_al : List zAlt := [([((.ofNat 0), (.ofNat 99), none)], [(3, 0, 0)], zHT, some (1, (.ofNat 0)))]
def zk_204_h0 : zHd := (0, zk_204_te, [(0, 1, 0), (0, 2, 0), (0, 3, 0)], [], (.ofNat 5), [(.ofNat 0), (.ofNat 0), (.ofNat 0)], [])
def zk_204_hs : List zHd := [zk_204_h0]
def zk_204_or : zO_ := zor zk_191_o (zor zk_207_o (zor zk_209_t_o (zon)))
theorem zk_204_oo (l : Launch) (X : zx_X) (φ : List z_C) (P : List Int → Prop) : zOk l X 2000000 φ P zk_204_or := zOk_or (zk_191_ok l X 2000000 φ P) (zOk_or (zk_207_ok l X 2000000 φ P) (zOk_or (zk_209_t_ok l X 2000000 φ P) (zOk_no l X 2000000 φ P)))
theorem zk_204_r0 : zx1 2000000 (zfinC zk_204_al zk_204_h0.2.2.2.1) (zcutH zk_204_hs zk_204_h0 204 89) zk_204_or 6000 204 89 zk_204_h0.1 (zhS zk_204_h0) [] = true := by decide +kernel
theorem zk_204_c : zCon 204 89 zk_204_te [] zk_204_al := zCon_of (n := 6000) (hs := zk_204_hs) (lo := [(0, 1, 0), (0, 2, 0), (0, 3, 0)]) (c := (.ofNat 5)) (ws := [(.ofNat 0), (.ofNat 0), (.ofNat 0)]) (by decide) (by decide +kernel) zk_204_oo (List.mem_cons_self) (zAll_mem ⟨zk_204_r0, trivial⟩)
def zk_204_o : zO_ := zorcC 204 89 zk_204_te [(0, 1, 0), (0, 2, 0), (0, 3, 0)] [] zk_204_al
theorem zk_204_ok (l : Launch) (X : zx_X) (XL : Nat) (φ : List z_C) (P : List Int → Prop) : zOk l X XL φ P zk_204_o := zOk_C zk_204_c (by decide +kernel) l X XL φ P
/-! begins -/
def zk_203_te : zA_T := ([], zHT, [(0, (2, (.ofNat 46)))], [], 0, 0)
def zk_203_al : List zAlt := [([], [], zHT, none)]
def zk_203_h0 : zHd := (0, zk_203_te, [], [], (.ofNat 55), [], [])
def zk_203_h1 : zHd := (2, ([((.ofNat 0), (.ofNat 24), zD0)], zHT, [(0, (2, (.ofNat 46))), (1, (1, (.ofNat 0)))], [], 0, 0), [(0, 1, 0)], [], (.ofNat 49), [(.ofNat 2)], [])
def zk_203_hs : List zHd := [zk_203_h0, zk_203_h1]
def zk_203_or : zO_ := zon
theorem zk_203_oo (l : Launch) (X : zx_X) (φ : List z_C) (P : List Int → Prop) : zOk l X 2000000 φ P zk_203_or := zOk_no l X 2000000 φ P
theorem zk_203_r0 : zx1 2000000 (zfinC zk_203_al zk_203_h0.2.2.2.1) (zcutH zk_203_hs zk_203_h0 203 2) zk_203_or 6000 203 2 zk_203_h0.1 (zhS zk_203_h0) [] = true := by decide +kernel
theorem zk_203_r1 : zx1 2000000 (zfinC zk_203_al zk_203_h1.2.2.2.1) (zcutH zk_203_hs zk_203_h1 203 2) zk_203_or 6000 203 2 zk_203_h1.1 (zhS zk_203_h1) [] = true := by decide +kernel
theorem zk_203_c : zCon 203 2 zk_203_te [] zk_203_al := zCon_of (n := 6000) (hs := zk_203_hs) (lo := []) (c := (.ofNat 55)) (ws := []) (by decide) (by decide +kernel) zk_203_oo (List.mem_cons_self) (zAll_mem ⟨zk_203_r0, zk_203_r1, trivial⟩)
def zk_203_o : zO_ := zorcC 203 2 zk_203_te [] [] zk_203_al
theorem zk_203_ok (l : Launch) (X : zx_X) (XL : Nat) (φ : List z_C) (P : List Int → Prop) : zOk l X XL φ P zk_203_o := zOk_C zk_203_c (by decide +kernel) l X XL φ P
/-! mindsAll -/
def zk_213_te : zA_T := ([((.ofNat 0), (.ofNat 7), zD0), ((.negSucc 2147483647), (.ofNat 2147483647), zD0)], zHT, [(0, (2, (.ofNat 46))), (1, (1, (.ofNat 0))), (2, (1, (.ofNat 1)))], [], 0, 0)
def zk_213_al : List zAlt := [([((.negSucc 2147483647), (.ofNat 2147483647), none)], [(3, 0, 0)], zHT, some (1, (.ofNat 0)))]
def zk_213_h0 : zHd := (0, zk_213_te, [(0, 1, 0), (0, 2, 0)], [], (.ofNat 19), [(.ofNat 0), (.ofNat 0)], [])
def zk_213_h1 : zHd := (5, ([((.ofNat 0), (.ofNat 7), zD0), ((.negSucc 2147483647), (.ofNat 2147483647), zD0), ((.negSucc 2147483647), (.ofNat 2147483647), zD0), ((.ofNat 0), (.ofNat 6), zD0)], zHT, [(0, (2, (.ofNat 46))), (1, (1, (.ofNat 0))), (2, (1, (.ofNat 1))), (3, (1, (.ofNat 2))), (4, (1, (.ofNat 3)))], [], 0, 0), [(0, 1, 0), (0, 2, 0), (0, 3, 0), (0, 4, 0)], [], (.ofNat 13), [(.ofNat 0), (.ofNat 0), (.ofNat 0), (.ofNat 2)], [])
def zk_213_hs : List zHd := [zk_213_h0, zk_213_h1]
def zk_213_or : zO_ := zor zk_204_o (zon)
theorem zk_213_oo (l : Launch) (X : zx_X) (φ : List z_C) (P : List Int → Prop) : zOk l X 2000000 φ P zk_213_or := zOk_or (zk_204_ok l X 2000000 φ P) (zOk_no l X 2000000 φ P)
theorem zk_213_r0 : zx1 2000000 (zfinC zk_213_al zk_213_h0.2.2.2.1) (zcutH zk_213_hs zk_213_h0 213 91) zk_213_or 6000 213 91 zk_213_h0.1 (zhS zk_213_h0) [] = true := by decide +kernel
theorem zk_213_r1 : zx1 2000000 (zfinC zk_213_al zk_213_h1.2.2.2.1) (zcutH zk_213_hs zk_213_h1 213 91) zk_213_or 6000 213 91 zk_213_h1.1 (zhS zk_213_h1) [] = true := by decide +kernel
theorem zk_213_c : zCon 213 91 zk_213_te [] zk_213_al := zCon_of (n := 6000) (hs := zk_213_hs) (lo := [(0, 1, 0), (0, 2, 0)]) (c := (.ofNat 19)) (ws := [(.ofNat 0), (.ofNat 0)]) (by decide) (by decide +kernel) zk_213_oo (List.mem_cons_self) (zAll_mem ⟨zk_213_r0, zk_213_r1, trivial⟩)
def zk_213_o : zO_ := zorcC 213 91 zk_213_te [(0, 1, 0), (0, 2, 0)] [] zk_213_al
theorem zk_213_ok (l : Launch) (X : zx_X) (XL : Nat) (φ : List z_C) (P : List Int → Prop) : zOk l X XL φ P zk_213_o := zOk_C zk_213_c (by decide +kernel) l X XL φ P
/-! allMind -/
def zk_212_te : zA_T := ([((.negSucc 2147483647), (.ofNat 2147483647), zD0)], zHT, [(0, (2, (.ofNat 46))), (1, (1, (.ofNat 0)))], [], 0, 0)
def zk_212_al : List zAlt := [([((.negSucc 2147483647), (.ofNat 2147483647), none)], [(3, 0, 0)], zHT, some (1, (.ofNat 0)))]
def zk_212_h0 : zHd := (0, zk_212_te, [(0, 1, 0)], [], (.ofNat 23), [(.ofNat 0)], [])
def zk_212_h1 : zHd := (4, ([((.negSucc 2147483647), (.ofNat 2147483647), zD0), ((.negSucc 2147483647), (.ofNat 2147483647), zD0), ((.ofNat 0), (.ofNat 8), zD0)], zHT, [(0, (2, (.ofNat 46))), (1, (1, (.ofNat 0))), (2, (1, (.ofNat 1))), (3, (1, (.ofNat 2)))], [], 0, 0), [(0, 1, 0), (0, 2, 0), (0, 3, 0)], [], (.ofNat 17), [(.ofNat 0), (.ofNat 0), (.ofNat 2)], [])
def zk_212_hs : List zHd := [zk_212_h0, zk_212_h1]
def zk_212_or : zO_ := zor zk_213_o (zon)
theorem zk_212_oo (l : Launch) (X : zx_X) (φ : List z_C) (P : List Int → Prop) : zOk l X 2000000 φ P zk_212_or := zOk_or (zk_213_ok l X 2000000 φ P) (zOk_no l X 2000000 φ P)
theorem zk_212_r0 : zx1 2000000 (zfinC zk_212_al zk_212_h0.2.2.2.1) (zcutH zk_212_hs zk_212_h0 212 93) zk_212_or 6000 212 93 zk_212_h0.1 (zhS zk_212_h0) [] = true := by decide +kernel
theorem zk_212_r1 : zx1 2000000 (zfinC zk_212_al zk_212_h1.2.2.2.1) (zcutH zk_212_hs zk_212_h1 212 93) zk_212_or 6000 212 93 zk_212_h1.1 (zhS zk_212_h1) [] = true := by decide +kernel
theorem zk_212_c : zCon 212 93 zk_212_te [] zk_212_al := zCon_of (n := 6000) (hs := zk_212_hs) (lo := [(0, 1, 0)]) (c := (.ofNat 23)) (ws := [(.ofNat 0)]) (by decide) (by decide +kernel) zk_212_oo (List.mem_cons_self) (zAll_mem ⟨zk_212_r0, zk_212_r1, trivial⟩)
def zk_212_o : zO_ := zorcC 212 93 zk_212_te [(0, 1, 0)] [] zk_212_al
theorem zk_212_ok (l : Launch) (X : zx_X) (XL : Nat) (φ : List z_C) (P : List Int → Prop) : zOk l X XL φ P zk_212_o := zOk_C zk_212_c (by decide +kernel) l X XL φ P
/-! ifChanged -/
def zk_211_te : zA_T := ([((.ofNat 0), (.ofNat 23), zD0), ((.negSucc 2147483647), (.ofNat 2147483647), zD0)], zHT, [(0, (2, (.ofNat 46))), (1, (1, (.ofNat 0))), (2, (1, (.ofNat 1)))], [], 0, 0)
def zk_211_al : List zAlt := [([((.negSucc 2147483647), (.ofNat 2147483647), none)], [(3, 0, 0)], zHT, some (1, (.ofNat 0)))]
def zk_211_h0 : zHd := (0, zk_211_te, [(0, 1, 0), (0, 2, 0)], [], (.ofNat 5), [(.ofNat 0), (.ofNat 0)], [])
def zk_211_hs : List zHd := [zk_211_h0]
def zk_211_or : zO_ := zor zk_212_o (zon)
theorem zk_211_oo (l : Launch) (X : zx_X) (φ : List z_C) (P : List Int → Prop) : zOk l X 2000000 φ P zk_211_or := zOk_or (zk_212_ok l X 2000000 φ P) (zOk_no l X 2000000 φ P)
theorem zk_211_r0 : zx1 2000000 (zfinC zk_211_al zk_211_h0.2.2.2.1) (zcutH zk_211_hs zk_211_h0 211 95) zk_211_or 6000 211 95 zk_211_h0.1 (zhS zk_211_h0) [] = true := by decide +kernel
theorem zk_211_c : zCon 211 95 zk_211_te [] zk_211_al := zCon_of (n := 6000) (hs := zk_211_hs) (lo := [(0, 1, 0), (0, 2, 0)]) (c := (.ofNat 5)) (ws := [(.ofNat 0), (.ofNat 0)]) (by decide) (by decide +kernel) zk_211_oo (List.mem_cons_self) (zAll_mem ⟨zk_211_r0, trivial⟩)
def zk_211_o : zO_ := zorcC 211 95 zk_211_te [(0, 1, 0), (0, 2, 0)] [] zk_211_al
theorem zk_211_ok (l : Launch) (X : zx_X) (XL : Nat) (φ : List z_C) (P : List Int → Prop) : zOk l X XL φ P zk_211_o := zOk_C zk_211_c (by decide +kernel) l X XL φ P
/-! matterMinds -/
def zk_216_te : zA_T := ([((.ofNat 0), (.ofNat 5), zD0), ((.ofNat 0), (.ofNat 15), zD0)], zHT, [(0, (2, (.ofNat 46))), (1, (1, (.ofNat 0))), (2, (1, (.ofNat 1)))], [], 0, 0)
def zk_216_al : List zAlt := [([((.negSucc 2147483647), (.ofNat 2147483647), none)], [(3, 0, 0)], zHT, some (1, (.ofNat 0)))]
def zk_216_h0 : zHd := (0, zk_216_te, [(0, 1, 0), (0, 2, 0)], [], (.ofNat 23), [(.ofNat 0), (.ofNat 0)], [])
def zk_216_h1 : zHd := (5, ([((.ofNat 0), (.ofNat 5), zD0), ((.ofNat 0), (.ofNat 15), zD0), ((.negSucc 2147483647), (.ofNat 2147483647), zD0), ((.ofNat 0), (.ofNat 8), zD0)], zHT, [(0, (2, (.ofNat 46))), (1, (1, (.ofNat 0))), (2, (1, (.ofNat 1))), (3, (1, (.ofNat 2))), (4, (1, (.ofNat 3)))], [], 0, 0), [(0, 1, 0), (0, 2, 0), (0, 3, 0), (0, 4, 0)], [], (.ofNat 17), [(.ofNat 0), (.ofNat 0), (.ofNat 0), (.ofNat 2)], [])
def zk_216_hs : List zHd := [zk_216_h0, zk_216_h1]
def zk_216_or : zO_ := zor zk_204_o (zon)
theorem zk_216_oo (l : Launch) (X : zx_X) (φ : List z_C) (P : List Int → Prop) : zOk l X 2000000 φ P zk_216_or := zOk_or (zk_204_ok l X 2000000 φ P) (zOk_no l X 2000000 φ P)
theorem zk_216_r0 : zx1 2000000 (zfinC zk_216_al zk_216_h0.2.2.2.1) (zcutH zk_216_hs zk_216_h0 216 91) zk_216_or 6000 216 91 zk_216_h0.1 (zhS zk_216_h0) [] = true := by decide +kernel
theorem zk_216_r1 : zx1 2000000 (zfinC zk_216_al zk_216_h1.2.2.2.1) (zcutH zk_216_hs zk_216_h1 216 91) zk_216_or 6000 216 91 zk_216_h1.1 (zhS zk_216_h1) [] = true := by decide +kernel
theorem zk_216_c : zCon 216 91 zk_216_te [] zk_216_al := zCon_of (n := 6000) (hs := zk_216_hs) (lo := [(0, 1, 0), (0, 2, 0)]) (c := (.ofNat 23)) (ws := [(.ofNat 0), (.ofNat 0)]) (by decide) (by decide +kernel) zk_216_oo (List.mem_cons_self) (zAll_mem ⟨zk_216_r0, zk_216_r1, trivial⟩)
def zk_216_o : zO_ := zorcC 216 91 zk_216_te [(0, 1, 0), (0, 2, 0)] [] zk_216_al
theorem zk_216_ok (l : Launch) (X : zx_X) (XL : Nat) (φ : List z_C) (P : List Int → Prop) : zOk l X XL φ P zk_216_o := zOk_C zk_216_c (by decide +kernel) l X XL φ P
/-! of -/
def zk_188_te : zA_T := ([((.negSucc 2147483647), (.ofNat 2147483647), zD0), ((.negSucc 2147483647), (.ofNat 2147483647), zD0)], zHT, [(0, (2, (.ofNat 46))), (1, (1, (.ofNat 0))), (2, (1, (.ofNat 1)))], [], 0, 0)
def zk_188_al : List zAlt := [([((.negSucc 2147483647), (.ofNat 2147483647), none)], [(3, 0, 0)], zHT, some (1, (.ofNat 0)))]
def zk_188_h0 : zHd := (0, zk_188_te, [(0, 1, 0), (0, 2, 0)], [], (.ofNat 5), [(.ofNat 0), (.ofNat 0)], [])
def zk_188_hs : List zHd := [zk_188_h0]
def zk_188_or : zO_ := zon
theorem zk_188_oo (l : Launch) (X : zx_X) (φ : List z_C) (P : List Int → Prop) : zOk l X 2000000 φ P zk_188_or := zOk_no l X 2000000 φ P
theorem zk_188_r0 : zx1 2000000 (zfinC zk_188_al zk_188_h0.2.2.2.1) (zcutH zk_188_hs zk_188_h0 188 5) zk_188_or 6000 188 5 zk_188_h0.1 (zhS zk_188_h0) [] = true := by decide +kernel
theorem zk_188_c : zCon 188 5 zk_188_te [] zk_188_al := zCon_of (n := 6000) (hs := zk_188_hs) (lo := [(0, 1, 0), (0, 2, 0)]) (c := (.ofNat 5)) (ws := [(.ofNat 0), (.ofNat 0)]) (by decide) (by decide +kernel) zk_188_oo (List.mem_cons_self) (zAll_mem ⟨zk_188_r0, trivial⟩)
def zk_188_o : zO_ := zorcC 188 5 zk_188_te [(0, 1, 0), (0, 2, 0)] [] zk_188_al
theorem zk_188_ok (l : Launch) (X : zx_X) (XL : Nat) (φ : List z_C) (P : List Int → Prop) : zOk l X XL φ P zk_188_o := zOk_C zk_188_c (by decide +kernel) l X XL φ P
/-! feed -/
def zk_189_te : zA_T := ([((.negSucc 2147483647), (.ofNat 2147483647), zD0)], zHT, [(0, (2, (.ofNat 46))), (1, (1, (.ofNat 0)))], [], 0, 0)
def zk_189_al : List zAlt := [([((.negSucc 2), (.ofNat 120), none)], [(3, 0, 0)], zHT, some (1, (.ofNat 0)))]
def zk_189_h0 : zHd := (0, zk_189_te, [(0, 1, 0)], [], (.ofNat 5), [(.ofNat 0)], [])
def zk_189_hs : List zHd := [zk_189_h0]
def zk_189_or : zO_ := zon
theorem zk_189_oo (l : Launch) (X : zx_X) (φ : List z_C) (P : List Int → Prop) : zOk l X 2000000 φ P zk_189_or := zOk_no l X 2000000 φ P
theorem zk_189_r0 : zx1 2000000 (zfinC zk_189_al zk_189_h0.2.2.2.1) (zcutH zk_189_hs zk_189_h0 189 3) zk_189_or 6000 189 3 zk_189_h0.1 (zhS zk_189_h0) [] = true := by decide +kernel
theorem zk_189_c : zCon 189 3 zk_189_te [] zk_189_al := zCon_of (n := 6000) (hs := zk_189_hs) (lo := [(0, 1, 0)]) (c := (.ofNat 5)) (ws := [(.ofNat 0)]) (by decide) (by decide +kernel) zk_189_oo (List.mem_cons_self) (zAll_mem ⟨zk_189_r0, trivial⟩)
def zk_189_o : zO_ := zorcC 189 3 zk_189_te [(0, 1, 0)] [] zk_189_al
theorem zk_189_ok (l : Launch) (X : zx_X) (XL : Nat) (φ : List z_C) (P : List Int → Prop) : zOk l X XL φ P zk_189_o := zOk_C zk_189_c (by decide +kernel) l X XL φ P
/-! law -/
def zk_190_te : zA_T := ([], zHT, [(0, (2, (.ofNat 46)))], [], 0, 0)
def zk_190_al : List zAlt := [([((.negSucc 219), (.ofNat 1), none)], [(3, 0, 0)], zHT, some (1, (.ofNat 0)))]
def zk_190_h0 : zHd := (0, zk_190_te, [], [], (.ofNat 247), [], [])
def zk_190_h1 : zHd := (37, ([((.negSucc 2147483647), (.ofNat 2147483647), zD0), ((.ofNat 0), (.ofNat 120), zD0), ((.ofNat 0), (.ofNat 120), zD0)], zHT, [(0, (2, (.ofNat 46))), (1, (1, (.ofNat 0))), (2, (1, (.ofNat 1))), (3, (1, (.ofNat 2)))], [], 0, 0), [(0, 1, 0), (0, 2, 0), (0, 3, 0)], [], (.ofNat 241), [(.ofNat 0), (.ofNat 0), (.ofNat 2)], [])
def zk_190_hs : List zHd := [zk_190_h0, zk_190_h1]
def zk_190_or : zO_ := zor zk_191_o (zon)
theorem zk_190_oo (l : Launch) (X : zx_X) (φ : List z_C) (P : List Int → Prop) : zOk l X 2000000 φ P zk_190_or := zOk_or (zk_191_ok l X 2000000 φ P) (zOk_no l X 2000000 φ P)
theorem zk_190_r0 : zx1 2000000 (zfinC zk_190_al zk_190_h0.2.2.2.1) (zcutH zk_190_hs zk_190_h0 190 89) zk_190_or 6000 190 89 zk_190_h0.1 (zhS zk_190_h0) [] = true := by decide +kernel
theorem zk_190_r1 : zx1 2000000 (zfinC zk_190_al zk_190_h1.2.2.2.1) (zcutH zk_190_hs zk_190_h1 190 89) zk_190_or 6000 190 89 zk_190_h1.1 (zhS zk_190_h1) [] = true := by decide +kernel
theorem zk_190_c : zCon 190 89 zk_190_te [] zk_190_al := zCon_of (n := 6000) (hs := zk_190_hs) (lo := []) (c := (.ofNat 247)) (ws := []) (by decide) (by decide +kernel) zk_190_oo (List.mem_cons_self) (zAll_mem ⟨zk_190_r0, zk_190_r1, trivial⟩)
def zk_190_o : zO_ := zorcC 190 89 zk_190_te [] [] zk_190_al
theorem zk_190_ok (l : Launch) (X : zx_X) (XL : Nat) (φ : List z_C) (P : List Int → Prop) : zOk l X XL φ P zk_190_o := zOk_C zk_190_c (by decide +kernel) l X XL φ P
/-! minds -/
def zk_202_te : zA_T := ([((.negSucc 2147483647), (.ofNat 2147483647), zD0), ((.negSucc 2147483647), (.ofNat 2147483647), zD0)], zHT, [(0, (2, (.ofNat 46))), (1, (1, (.ofNat 0))), (2, (1, (.ofNat 1)))], [], 0, 0)
def zk_202_al : List zAlt := [([((.negSucc 2147483647), (.ofNat 2147483647), none)], [(3, 0, 0)], zHT, some (1, (.ofNat 0)))]
def zk_202_h0 : zHd := (0, zk_202_te, [(0, 1, 0), (0, 2, 0)], [], (.ofNat 149), [(.ofNat 0), (.ofNat 0)], [])
def zk_202_h1 : zHd := (38, ([((.ofNat 0), (.ofNat 8), zD0), ((.ofNat 0), (.ofNat 6), zD0), ((.negSucc 2147483647), (.ofNat 2147483647), zD0), ((.ofNat 0), (.ofNat 8), zD0)], zHT, [(0, (2, (.ofNat 46))), (1, (1, (.ofNat 0))), (2, (1, (.ofNat 1))), (3, (1, (.ofNat 2))), (4, (1, (.ofNat 3)))], [], 0, 0), [(0, 1, 0), (0, 2, 0), (0, 3, 0), (0, 4, 0)], [], (.ofNat 143), [(.ofNat 0), (.ofNat 0), (.ofNat 0), (.ofNat 16)], [])
def zk_202_h2 : zHd := (50, ([((.ofNat 0), (.ofNat 8), zD0), ((.ofNat 0), (.ofNat 6), zD0), ((.negSucc 2147483647), (.ofNat 2147483647), zD0), ((.ofNat 0), (.ofNat 7), zD0), ((.ofNat 0), (.ofNat 6), zD0)], zHT, [(0, (2, (.ofNat 46))), (1, (1, (.ofNat 0))), (2, (1, (.ofNat 1))), (3, (1, (.ofNat 2))), (4, (1, (.ofNat 3))), (5, (1, (.ofNat 4)))], [], 0, 0), [(0, 1, 0), (0, 2, 0), (0, 3, 0), (0, 4, 0), (0, 5, 0)], [], (.ofNat 141), [(.ofNat 0), (.ofNat 0), (.ofNat 0), (.ofNat 16), (.ofNat 2)], [])
def zk_202_hs : List zHd := [zk_202_h0, zk_202_h1, zk_202_h2]
def zk_202_or : zO_ := zor zk_204_o (zor zk_203_o (zon))
theorem zk_202_oo (l : Launch) (X : zx_X) (φ : List z_C) (P : List Int → Prop) : zOk l X 2000000 φ P zk_202_or := zOk_or (zk_204_ok l X 2000000 φ P) (zOk_or (zk_203_ok l X 2000000 φ P) (zOk_no l X 2000000 φ P))
theorem zk_202_r0 : zx1 2000000 (zfinC zk_202_al zk_202_h0.2.2.2.1) (zcutH zk_202_hs zk_202_h0 202 91) zk_202_or 6000 202 91 zk_202_h0.1 (zhS zk_202_h0) [] = true := by decide +kernel
theorem zk_202_r1 : zx1 2000000 (zfinC zk_202_al zk_202_h1.2.2.2.1) (zcutH zk_202_hs zk_202_h1 202 91) zk_202_or 6000 202 91 zk_202_h1.1 (zhS zk_202_h1) [] = true := by decide +kernel
theorem zk_202_r2 : zx1 2000000 (zfinC zk_202_al zk_202_h2.2.2.2.1) (zcutH zk_202_hs zk_202_h2 202 91) zk_202_or 6000 202 91 zk_202_h2.1 (zhS zk_202_h2) [] = true := by decide +kernel
theorem zk_202_c : zCon 202 91 zk_202_te [] zk_202_al := zCon_of (n := 6000) (hs := zk_202_hs) (lo := [(0, 1, 0), (0, 2, 0)]) (c := (.ofNat 149)) (ws := [(.ofNat 0), (.ofNat 0)]) (by decide) (by decide +kernel) zk_202_oo (List.mem_cons_self) (zAll_mem ⟨zk_202_r0, zk_202_r1, zk_202_r2, trivial⟩)
def zk_202_o : zO_ := zorcC 202 91 zk_202_te [(0, 1, 0), (0, 2, 0)] [] zk_202_al
theorem zk_202_ok (l : Launch) (X : zx_X) (XL : Nat) (φ : List z_C) (P : List Int → Prop) : zOk l X XL φ P zk_202_o := zOk_C zk_202_c (by decide +kernel) l X XL φ P
/-! ifLine -/
def zk_210_te : zA_T := ([((.negSucc 2147483647), (.ofNat 2147483647), zD0)], zHT, [(0, (2, (.ofNat 46))), (1, (1, (.ofNat 0)))], [], 0, 0)
def zk_210_al : List zAlt := [([((.negSucc 2147483647), (.ofNat 2147483647), none)], [(3, 0, 0)], zHT, some (1, (.ofNat 0)))]
def zk_210_h0 : zHd := (0, zk_210_te, [(0, 1, 0)], [], (.ofNat 5), [(.ofNat 0)], [])
def zk_210_hs : List zHd := [zk_210_h0]
def zk_210_or : zO_ := zor zk_203_o (zor zk_211_o (zon))
theorem zk_210_oo (l : Launch) (X : zx_X) (φ : List z_C) (P : List Int → Prop) : zOk l X 2000000 φ P zk_210_or := zOk_or (zk_203_ok l X 2000000 φ P) (zOk_or (zk_211_ok l X 2000000 φ P) (zOk_no l X 2000000 φ P))
theorem zk_210_r0 : zx1 2000000 (zfinC zk_210_al zk_210_h0.2.2.2.1) (zcutH zk_210_hs zk_210_h0 210 97) zk_210_or 6000 210 97 zk_210_h0.1 (zhS zk_210_h0) [] = true := by decide +kernel
theorem zk_210_c : zCon 210 97 zk_210_te [] zk_210_al := zCon_of (n := 6000) (hs := zk_210_hs) (lo := [(0, 1, 0)]) (c := (.ofNat 5)) (ws := [(.ofNat 0)]) (by decide) (by decide +kernel) zk_210_oo (List.mem_cons_self) (zAll_mem ⟨zk_210_r0, trivial⟩)
def zk_210_o : zO_ := zorcC 210 97 zk_210_te [(0, 1, 0)] [] zk_210_al
theorem zk_210_ok (l : Launch) (X : zx_X) (XL : Nat) (φ : List z_C) (P : List Int → Prop) : zOk l X XL φ P zk_210_o := zOk_C zk_210_c (by decide +kernel) l X XL φ P
/-! cost -/
def zk_217_te : zA_T := ([((.negSucc 2147483647), (.ofNat 2147483647), zD0), ((.negSucc 2147483647), (.ofNat 2147483647), zD0)], zHT, [(0, (2, (.ofNat 46))), (1, (1, (.ofNat 0))), (2, (1, (.ofNat 1)))], [], 0, 0)
def zk_217_al : List zAlt := [([((.negSucc 2147483647), (.ofNat 2147483647), none)], [(3, 0, 0)], zHT, some (1, (.ofNat 0)))]
def zk_217_h0 : zHd := (0, zk_217_te, [(0, 1, 0), (0, 2, 0)], [], (.ofNat 55), [(.ofNat 0), (.ofNat 0)], [])
def zk_217_h1 : zHd := (48, ([((.ofNat 0), (.ofNat 23), zD0), ((.ofNat 0), (.ofNat 1), zD0), ((.negSucc 1), (.ofNat 23), zD0), ((.negSucc 2147483647), (.ofNat 2147483647), zD0), ((.ofNat 0), (.ofNat 24), zD0)], zHT, [(0, (2, (.ofNat 46))), (1, (1, (.ofNat 0))), (2, (1, (.ofNat 1))), (3, (1, (.ofNat 2))), (4, (1, (.ofNat 3))), (5, (1, (.ofNat 4)))], [], 0, 0), [(0, 1, 0), (0, 2, 0), (0, 3, 0), (0, 4, 0), (0, 5, 0)], [], (.ofNat 49), [(.ofNat 0), (.ofNat 0), (.ofNat 0), (.ofNat 0), (.ofNat 2)], [])
def zk_217_hs : List zHd := [zk_217_h0, zk_217_h1]
def zk_217_or : zO_ := zor zk_203_o (zor zk_211_o (zon))
theorem zk_217_oo (l : Launch) (X : zx_X) (φ : List z_C) (P : List Int → Prop) : zOk l X 2000000 φ P zk_217_or := zOk_or (zk_203_ok l X 2000000 φ P) (zOk_or (zk_211_ok l X 2000000 φ P) (zOk_no l X 2000000 φ P))
theorem zk_217_r0 : zx1 2000000 (zfinC zk_217_al zk_217_h0.2.2.2.1) (zcutH zk_217_hs zk_217_h0 217 97) zk_217_or 6000 217 97 zk_217_h0.1 (zhS zk_217_h0) [] = true := by decide +kernel
theorem zk_217_r1 : zx1 2000000 (zfinC zk_217_al zk_217_h1.2.2.2.1) (zcutH zk_217_hs zk_217_h1 217 97) zk_217_or 6000 217 97 zk_217_h1.1 (zhS zk_217_h1) [] = true := by decide +kernel
theorem zk_217_c : zCon 217 97 zk_217_te [] zk_217_al := zCon_of (n := 6000) (hs := zk_217_hs) (lo := [(0, 1, 0), (0, 2, 0)]) (c := (.ofNat 55)) (ws := [(.ofNat 0), (.ofNat 0)]) (by decide) (by decide +kernel) zk_217_oo (List.mem_cons_self) (zAll_mem ⟨zk_217_r0, zk_217_r1, trivial⟩)
def zk_217_o : zO_ := zorcC 217 97 zk_217_te [(0, 1, 0), (0, 2, 0)] [] zk_217_al
theorem zk_217_ok (l : Launch) (X : zx_X) (XL : Nat) (φ : List z_C) (P : List Int → Prop) : zOk l X XL φ P zk_217_o := zOk_C zk_217_c (by decide +kernel) l X XL φ P
/-! helps -/
def zk_218_te : zA_T := ([((.negSucc 2147483647), (.ofNat 2147483647), zD0)], zHT, [(0, (2, (.ofNat 46))), (1, (1, (.ofNat 0)))], [], 0, 0)
def zk_218_al : List zAlt := [([((.negSucc 2147483647), (.ofNat 2147483647), none)], [(3, 0, 0)], zHT, some (1, (.ofNat 0)))]
def zk_218_h0 : zHd := (0, zk_218_te, [(0, 1, 0)], [], (.ofNat 55), [(.ofNat 0)], [])
def zk_218_h1 : zHd := (31, ([((.ofNat 0), (.ofNat 1), zD0), ((.negSucc 1), (.ofNat 23), zD0), ((.negSucc 2147483647), (.ofNat 2147483647), zD0), ((.ofNat 0), (.ofNat 24), zD0)], zHT, [(0, (2, (.ofNat 46))), (1, (1, (.ofNat 0))), (2, (1, (.ofNat 1))), (3, (1, (.ofNat 2))), (4, (1, (.ofNat 3)))], [], 0, 0), [(0, 1, 0), (0, 2, 0), (0, 3, 0), (0, 4, 0)], [], (.ofNat 49), [(.ofNat 0), (.ofNat 0), (.ofNat 0), (.ofNat 2)], [])
def zk_218_hs : List zHd := [zk_218_h0, zk_218_h1]
def zk_218_or : zO_ := zor zk_209_o (zor zk_203_o (zor zk_212_o (zor zk_211_o (zon))))
theorem zk_218_oo (l : Launch) (X : zx_X) (φ : List z_C) (P : List Int → Prop) : zOk l X 2000000 φ P zk_218_or := zOk_or (zk_209_ok l X 2000000 φ P) (zOk_or (zk_203_ok l X 2000000 φ P) (zOk_or (zk_212_ok l X 2000000 φ P) (zOk_or (zk_211_ok l X 2000000 φ P) (zOk_no l X 2000000 φ P))))
theorem zk_218_r0 : zx1 2000000 (zfinC zk_218_al zk_218_h0.2.2.2.1) (zcutH zk_218_hs zk_218_h0 218 97) zk_218_or 6000 218 97 zk_218_h0.1 (zhS zk_218_h0) [] = true := by decide +kernel
theorem zk_218_r1 : zx1 2000000 (zfinC zk_218_al zk_218_h1.2.2.2.1) (zcutH zk_218_hs zk_218_h1 218 97) zk_218_or 6000 218 97 zk_218_h1.1 (zhS zk_218_h1) [] = true := by decide +kernel
theorem zk_218_c : zCon 218 97 zk_218_te [] zk_218_al := zCon_of (n := 6000) (hs := zk_218_hs) (lo := [(0, 1, 0)]) (c := (.ofNat 55)) (ws := [(.ofNat 0)]) (by decide) (by decide +kernel) zk_218_oo (List.mem_cons_self) (zAll_mem ⟨zk_218_r0, zk_218_r1, trivial⟩)
def zk_218_o : zO_ := zorcC 218 97 zk_218_te [(0, 1, 0)] [] zk_218_al
theorem zk_218_ok (l : Launch) (X : zx_X) (XL : Nat) (φ : List z_C) (P : List Int → Prop) : zOk l X XL φ P zk_218_o := zOk_C zk_218_c (by decide +kernel) l X XL φ P
/-! mayStrike -/
def zk_221_te : zA_T := ([((.ofNat 0), (.ofNat 23), zD0), ((.negSucc 2147483647), (.ofNat 2147483647), zD0)], zHT, [(0, (2, (.ofNat 46))), (1, (1, (.ofNat 0))), (2, (1, (.ofNat 1)))], [], 0, 0)
def zk_221_al : List zAlt := [([((.ofNat 0), (.ofNat 1), none)], [(3, 0, 0)], zHT, some (1, (.ofNat 0)))]
def zk_221_h0 : zHd := (0, zk_221_te, [(0, 1, 0), (0, 2, 0)], [], (.ofNat 23), [(.ofNat 0), (.ofNat 0)], [])
def zk_221_h1 : zHd := (8, ([((.ofNat 0), (.ofNat 23), zD0), ((.negSucc 2147483647), (.ofNat 2147483647), zD0), ((.negSucc 2147483647), (.ofNat 2147483647), zD0), ((.negSucc 2147483647), (.ofNat 2147483647), zD0), ((.ofNat 0), (.ofNat 8), zD0)], zHT, [(0, (2, (.ofNat 46))), (1, (1, (.ofNat 0))), (2, (1, (.ofNat 1))), (3, (1, (.ofNat 2))), (4, (1, (.ofNat 3))), (5, (1, (.ofNat 4)))], [], 0, 0), [(0, 1, 0), (0, 2, 0), (0, 3, 0), (0, 4, 0), (0, 5, 0)], [], (.ofNat 17), [(.ofNat 0), (.ofNat 0), (.ofNat 0), (.ofNat 0), (.ofNat 2)], [])
def zk_221_hs : List zHd := [zk_221_h0, zk_221_h1]
def zk_221_or : zO_ := zon
theorem zk_221_oo (l : Launch) (X : zx_X) (φ : List z_C) (P : List Int → Prop) : zOk l X 2000000 φ P zk_221_or := zOk_no l X 2000000 φ P
theorem zk_221_r0 : zx1 2000000 (zfinC zk_221_al zk_221_h0.2.2.2.1) (zcutH zk_221_hs zk_221_h0 221 5) zk_221_or 6000 221 5 zk_221_h0.1 (zhS zk_221_h0) [] = true := by decide +kernel
theorem zk_221_r1 : zx1 2000000 (zfinC zk_221_al zk_221_h1.2.2.2.1) (zcutH zk_221_hs zk_221_h1 221 5) zk_221_or 6000 221 5 zk_221_h1.1 (zhS zk_221_h1) [] = true := by decide +kernel
theorem zk_221_c : zCon 221 5 zk_221_te [] zk_221_al := zCon_of (n := 6000) (hs := zk_221_hs) (lo := [(0, 1, 0), (0, 2, 0)]) (c := (.ofNat 23)) (ws := [(.ofNat 0), (.ofNat 0)]) (by decide) (by decide +kernel) zk_221_oo (List.mem_cons_self) (zAll_mem ⟨zk_221_r0, zk_221_r1, trivial⟩)
def zk_221_o : zO_ := zorcC 221 5 zk_221_te [(0, 1, 0), (0, 2, 0)] [] zk_221_al
theorem zk_221_ok (l : Launch) (X : zx_X) (XL : Nat) (φ : List z_C) (P : List Int → Prop) : zOk l X XL φ P zk_221_o := zOk_C zk_221_c (by decide +kernel) l X XL φ P
/-! believers -/
def zk_223_te : zA_T := ([((.ofNat 0), (.ofNat 23), zD0)], zHT, [(0, (2, (.ofNat 46))), (1, (1, (.ofNat 0)))], [], 0, 0)
def zk_223_al : List zAlt := [([((.ofNat 0), (.ofNat 511), none)], [(3, 0, 0)], zHT, some (1, (.ofNat 0)))]
def zk_223_h0 : zHd := (0, zk_223_te, [(0, 1, 0)], [], (.ofNat 23), [(.ofNat 0)], [])
def zk_223_h1 : zHd := (4, ([((.ofNat 0), (.ofNat 23), zD0), ((.ofNat 0), (.ofNat 511), zD0), ((.ofNat 0), (.ofNat 8), zD0)], zHT, [(0, (2, (.ofNat 46))), (1, (1, (.ofNat 0))), (2, (1, (.ofNat 1))), (3, (1, (.ofNat 2)))], [], 0, 0), [(0, 1, 0), (0, 2, 0), (0, 3, 0)], [], (.ofNat 17), [(.ofNat 0), (.ofNat 0), (.ofNat 2)], [])
def zk_223_hs : List zHd := [zk_223_h0, zk_223_h1]
def zk_223_or : zO_ := zon
theorem zk_223_oo (l : Launch) (X : zx_X) (φ : List z_C) (P : List Int → Prop) : zOk l X 2000000 φ P zk_223_or := zOk_no l X 2000000 φ P
theorem zk_223_r0 : zx1 2000000 (zfinC zk_223_al zk_223_h0.2.2.2.1) (zcutH zk_223_hs zk_223_h0 223 5) zk_223_or 6000 223 5 zk_223_h0.1 (zhS zk_223_h0) [] = true := by decide +kernel
theorem zk_223_r1 : zx1 2000000 (zfinC zk_223_al zk_223_h1.2.2.2.1) (zcutH zk_223_hs zk_223_h1 223 5) zk_223_or 6000 223 5 zk_223_h1.1 (zhS zk_223_h1) [] = true := by decide +kernel
theorem zk_223_c : zCon 223 5 zk_223_te [] zk_223_al := zCon_of (n := 6000) (hs := zk_223_hs) (lo := [(0, 1, 0)]) (c := (.ofNat 23)) (ws := [(.ofNat 0)]) (by decide) (by decide +kernel) zk_223_oo (List.mem_cons_self) (zAll_mem ⟨zk_223_r0, zk_223_r1, trivial⟩)
def zk_223_o : zO_ := zorcC 223 5 zk_223_te [(0, 1, 0)] [] zk_223_al
theorem zk_223_ok (l : Launch) (X : zx_X) (XL : Nat) (φ : List z_C) (P : List Int → Prop) : zOk l X XL φ P zk_223_o := zOk_C zk_223_c (by decide +kernel) l X XL φ P
/-! lines -/
def zk_220_te : zA_T := ([((.negSucc 2147483647), (.ofNat 2147483647), zD0)], zHT, [(0, (2, (.ofNat 46))), (1, (1, (.ofNat 0)))], [], 0, 0)
def zk_220_al : List zAlt := [([((.negSucc 0), (.ofNat 16777215), none)], [(3, 0, 0)], zHT, some (1, (.ofNat 0)))]
def zk_220_h0 : zHd := (0, zk_220_te, [(0, 1, 0)], [], (.ofNat 55), [(.ofNat 0)], [])
def zk_220_h1 : zHd := (18, ([((.ofNat 0), (.ofNat 2), zD0), ((.ofNat 0), (.ofNat 16777215), zD0), ((.ofNat 0), (.ofNat 24), zD0)], zHT, [(0, (2, (.ofNat 46))), (1, (1, (.ofNat 0))), (2, (1, (.ofNat 1))), (3, (1, (.ofNat 2)))], [], 0, 0), [(0, 1, 0), (0, 2, 0), (0, 3, 0)], [], (.ofNat 49), [(.ofNat 0), (.ofNat 0), (.ofNat 2)], [])
def zk_220_hs : List zHd := [zk_220_h0, zk_220_h1]
def zk_220_or : zO_ := zor zk_221_o (zor zk_223_o (zon))
theorem zk_220_oo (l : Launch) (X : zx_X) (φ : List z_C) (P : List Int → Prop) : zOk l X 2000000 φ P zk_220_or := zOk_or (zk_221_ok l X 2000000 φ P) (zOk_or (zk_223_ok l X 2000000 φ P) (zOk_no l X 2000000 φ P))
theorem zk_220_r0 : zx1 2000000 (zfinC zk_220_al zk_220_h0.2.2.2.1) (zcutH zk_220_hs zk_220_h0 220 7) zk_220_or 6000 220 7 zk_220_h0.1 (zhS zk_220_h0) [] = true := by decide +kernel
theorem zk_220_r1 : zx1 2000000 (zfinC zk_220_al zk_220_h1.2.2.2.1) (zcutH zk_220_hs zk_220_h1 220 7) zk_220_or 6000 220 7 zk_220_h1.1 (zhS zk_220_h1) [] = true := by decide +kernel
theorem zk_220_c : zCon 220 7 zk_220_te [] zk_220_al := zCon_of (n := 6000) (hs := zk_220_hs) (lo := [(0, 1, 0)]) (c := (.ofNat 55)) (ws := [(.ofNat 0)]) (by decide) (by decide +kernel) zk_220_oo (List.mem_cons_self) (zAll_mem ⟨zk_220_r0, zk_220_r1, trivial⟩)
def zk_220_o : zO_ := zorcC 220 7 zk_220_te [(0, 1, 0)] [] zk_220_al
theorem zk_220_ok (l : Launch) (X : zx_X) (XL : Nat) (φ : List z_C) (P : List Int → Prop) : zOk l X XL φ P zk_220_o := zOk_C zk_220_c (by decide +kernel) l X XL φ P
/-! win -/
def zk_224_te : zA_T := ([((.negSucc 2147483647), (.ofNat 2147483647), zD0), ((.negSucc 2147483647), (.ofNat 2147483647), zD0)], zHT, [(0, (2, (.ofNat 46))), (1, (1, (.ofNat 0))), (2, (1, (.ofNat 1)))], [], 0, 0)
def zk_224_al : List zAlt := [([((.negSucc 2147483647), (.ofNat 2147483647), none)], [(3, 0, 0)], zHT, some (1, (.ofNat 0)))]
def zk_224_h0 : zHd := (0, zk_224_te, [(0, 1, 0), (0, 2, 0)], [], (.ofNat 519), [(.ofNat 0), (.ofNat 0)], [])
def zk_224_h1 : zHd := (26, ([((.ofNat 0), (.ofNat 23), zD0), ((.ofNat 0), (.ofNat 1), zD0), ((.negSucc 1), (.ofNat 256), zD0), ((.ofNat 0), (.ofNat 256), zD0)], zHT, [(0, (2, (.ofNat 46))), (1, (1, (.ofNat 0))), (2, (1, (.ofNat 1))), (3, (1, (.ofNat 2))), (4, (1, (.ofNat 3)))], [], 0, 0), [(0, 1, 0), (0, 2, 0), (0, 3, 0), (0, 4, 0)], [], (.ofNat 513), [(.ofNat 0), (.ofNat 0), (.ofNat 0), (.ofNat 2)], [])
def zk_224_hs : List zHd := [zk_224_h0, zk_224_h1]
def zk_224_or : zO_ := zor zk_209_o (zor zk_221_o (zor zk_223_o (zon)))
theorem zk_224_oo (l : Launch) (X : zx_X) (φ : List z_C) (P : List Int → Prop) : zOk l X 2000000 φ P zk_224_or := zOk_or (zk_209_ok l X 2000000 φ P) (zOk_or (zk_221_ok l X 2000000 φ P) (zOk_or (zk_223_ok l X 2000000 φ P) (zOk_no l X 2000000 φ P)))
theorem zk_224_r0 : zx1 2000000 (zfinC zk_224_al zk_224_h0.2.2.2.1) (zcutH zk_224_hs zk_224_h0 224 7) zk_224_or 6000 224 7 zk_224_h0.1 (zhS zk_224_h0) [] = true := by decide +kernel
theorem zk_224_r1 : zx1 2000000 (zfinC zk_224_al zk_224_h1.2.2.2.1) (zcutH zk_224_hs zk_224_h1 224 7) zk_224_or 6000 224 7 zk_224_h1.1 (zhS zk_224_h1) [] = true := by decide +kernel
theorem zk_224_c : zCon 224 7 zk_224_te [] zk_224_al := zCon_of (n := 6000) (hs := zk_224_hs) (lo := [(0, 1, 0), (0, 2, 0)]) (c := (.ofNat 519)) (ws := [(.ofNat 0), (.ofNat 0)]) (by decide) (by decide +kernel) zk_224_oo (List.mem_cons_self) (zAll_mem ⟨zk_224_r0, zk_224_r1, trivial⟩)
def zk_224_o : zO_ := zorcC 224 7 zk_224_te [(0, 1, 0), (0, 2, 0)] [] zk_224_al
theorem zk_224_ok (l : Launch) (X : zx_X) (XL : Nat) (φ : List z_C) (P : List Int → Prop) : zOk l X XL φ P zk_224_o := zOk_C zk_224_c (by decide +kernel) l X XL φ P
/-! matters -/
def zk_225_te : zA_T := ([((.negSucc 2147483647), (.ofNat 2147483647), zD0)], zHT, [(0, (2, (.ofNat 46))), (1, (1, (.ofNat 0)))], [], 0, 0)
def zk_225_al : List zAlt := [([((.negSucc 0), (.ofNat 511), none)], [(3, 0, 0)], zHT, some (1, (.ofNat 0)))]
def zk_225_h0 : zHd := (0, zk_225_te, [(0, 1, 0)], [], (.ofNat 19), [(.ofNat 0)], [])
def zk_225_h1 : zHd := (18, ([((.ofNat 0), (.ofNat 2), zD0), ((.ofNat 0), (.ofNat 511), zD0), ((.ofNat 0), (.ofNat 6), zD0)], zHT, [(0, (2, (.ofNat 46))), (1, (1, (.ofNat 0))), (2, (1, (.ofNat 1))), (3, (1, (.ofNat 2)))], [], 0, 0), [(0, 1, 0), (0, 2, 0), (0, 3, 0)], [], (.ofNat 13), [(.ofNat 0), (.ofNat 0), (.ofNat 2)], [])
def zk_225_hs : List zHd := [zk_225_h0, zk_225_h1]
def zk_225_or : zO_ := zor zk_209_o (zon)
theorem zk_225_oo (l : Launch) (X : zx_X) (φ : List z_C) (P : List Int → Prop) : zOk l X 2000000 φ P zk_225_or := zOk_or (zk_209_ok l X 2000000 φ P) (zOk_no l X 2000000 φ P)
theorem zk_225_r0 : zx1 2000000 (zfinC zk_225_al zk_225_h0.2.2.2.1) (zcutH zk_225_hs zk_225_h0 225 4) zk_225_or 6000 225 4 zk_225_h0.1 (zhS zk_225_h0) [] = true := by decide +kernel
theorem zk_225_r1 : zx1 2000000 (zfinC zk_225_al zk_225_h1.2.2.2.1) (zcutH zk_225_hs zk_225_h1 225 4) zk_225_or 6000 225 4 zk_225_h1.1 (zhS zk_225_h1) [] = true := by decide +kernel
theorem zk_225_c : zCon 225 4 zk_225_te [] zk_225_al := zCon_of (n := 6000) (hs := zk_225_hs) (lo := [(0, 1, 0)]) (c := (.ofNat 19)) (ws := [(.ofNat 0)]) (by decide) (by decide +kernel) zk_225_oo (List.mem_cons_self) (zAll_mem ⟨zk_225_r0, zk_225_r1, trivial⟩)
def zk_225_o : zO_ := zorcC 225 4 zk_225_te [(0, 1, 0)] [] zk_225_al
theorem zk_225_ok (l : Launch) (X : zx_X) (XL : Nat) (φ : List z_C) (P : List Int → Prop) : zOk l X XL φ P zk_225_o := zOk_C zk_225_c (by decide +kernel) l X XL φ P
/-! playFrom -/
def zk_227_1_1_te : zA_T := ([((.ofNat 0), (.ofNat 7), zD0), ((.ofNat 0), (.ofNat 7), zD0), ((.ofNat 0), (.ofNat 16777215), zD0)], zHT, [(0, (2, (.ofNat 46))), (1, (1, (.ofNat 0))), (2, (1, (.ofNat 1))), (3, (0, (.ofNat 1))), (4, (0, (.ofNat 1))), (5, (1, (.ofNat 2)))], [], 0, 0)
def zk_227_1_1_al : List zAlt := [([((.negSucc 2147483647), (.ofNat 2147483647), none)], [(3, 0, 0)], zHT, some (1, (.ofNat 0)))]
def zk_227_1_1_h0 : zHd := (0, zk_227_1_1_te, [(0, 1, 0), (0, 2, 0), (0, 5, 0)], [], (.ofNat 5), [(.ofNat 0), (.ofNat 0), (.ofNat 0)], [])
def zk_227_1_1_hs : List zHd := [zk_227_1_1_h0]
def zk_227_1_1_or : zO_ := zor zk_213_o (zon)
theorem zk_227_1_1_oo (l : Launch) (X : zx_X) (φ : List z_C) (P : List Int → Prop) : zOk l X 2000000 φ P zk_227_1_1_or := zOk_or (zk_213_ok l X 2000000 φ P) (zOk_no l X 2000000 φ P)
theorem zk_227_1_1_r0 : zx1 2000000 (zfinC zk_227_1_1_al zk_227_1_1_h0.2.2.2.1) (zcutH zk_227_1_1_hs zk_227_1_1_h0 227 93) zk_227_1_1_or 6000 227 93 zk_227_1_1_h0.1 (zhS zk_227_1_1_h0) [] = true := by decide +kernel
theorem zk_227_1_1_c : zCon 227 93 zk_227_1_1_te [] zk_227_1_1_al := zCon_of (n := 6000) (hs := zk_227_1_1_hs) (lo := [(0, 1, 0), (0, 2, 0), (0, 5, 0)]) (c := (.ofNat 5)) (ws := [(.ofNat 0), (.ofNat 0), (.ofNat 0)]) (by decide) (by decide +kernel) zk_227_1_1_oo (List.mem_cons_self) (zAll_mem ⟨zk_227_1_1_r0, trivial⟩)
def zk_227_1_1_o : zO_ := zorcC 227 93 zk_227_1_1_te [(0, 1, 0), (0, 2, 0), (0, 5, 0)] [] zk_227_1_1_al
theorem zk_227_1_1_ok (l : Launch) (X : zx_X) (XL : Nat) (φ : List z_C) (P : List Int → Prop) : zOk l X XL φ P zk_227_1_1_o := zOk_C zk_227_1_1_c (by decide +kernel) l X XL φ P
/-! playFrom -/
def zk_227_1_0_te : zA_T := ([((.ofNat 0), (.ofNat 7), zD0), ((.ofNat 0), (.ofNat 7), zD0), ((.ofNat 0), (.ofNat 16777215), zD0)], zHT, [(0, (2, (.ofNat 46))), (1, (1, (.ofNat 0))), (2, (1, (.ofNat 1))), (3, (0, (.ofNat 0))), (4, (0, (.ofNat 1))), (5, (1, (.ofNat 2)))], [], 0, 0)
def zk_227_1_0_al : List zAlt := [([((.negSucc 2147483647), (.ofNat 2147483647), none)], [(3, 0, 0)], zHT, some (1, (.ofNat 0)))]
def zk_227_1_0_h0 : zHd := (0, zk_227_1_0_te, [(0, 1, 0), (0, 2, 0), (0, 5, 0)], [], (.ofNat 55), [(.ofNat 0), (.ofNat 0), (.ofNat 0)], [])
def zk_227_1_0_h1 : zHd := (40, ([((.ofNat 0), (.ofNat 7), zD0), ((.ofNat 0), (.ofNat 7), zD0), ((.ofNat 0), (.ofNat 16777215), zD0), ((.negSucc 2147483647), (.ofNat 2147483647), zD0), ((.ofNat 0), (.ofNat 24), zD0)], zHT, [(0, (2, (.ofNat 46))), (1, (1, (.ofNat 0))), (2, (1, (.ofNat 1))), (3, (0, (.ofNat 0))), (4, (0, (.ofNat 1))), (5, (1, (.ofNat 2))), (6, (1, (.ofNat 3))), (7, (1, (.ofNat 4)))], [], 0, 0), [(0, 1, 0), (0, 2, 0), (0, 5, 0), (0, 6, 0), (0, 7, 0)], [], (.ofNat 49), [(.ofNat 0), (.ofNat 0), (.ofNat 0), (.ofNat 0), (.ofNat 2)], [])
def zk_227_1_0_hs : List zHd := [zk_227_1_0_h0, zk_227_1_0_h1]
def zk_227_1_0_or : zO_ := zor (zor zk_209_o (zor zk_227_1_1_o (zon))) (zspl 227 4 (zor zk_227_1_1_o (zon)))
theorem zk_227_1_0_oo (l : Launch) (X : zx_X) (φ : List z_C) (P : List Int → Prop) : zOk l X 2000000 φ P zk_227_1_0_or := zOk_or (zOk_or (zk_209_ok l X 2000000 φ P) (zOk_or (zk_227_1_1_ok l X 2000000 φ P) (zOk_no l X 2000000 φ P))) (zOk_spl (m0 := 227) (i := 4) (zOk_or (zk_227_1_1_ok l X 2000000 φ P) (zOk_no l X 2000000 φ P)))
theorem zk_227_1_0_r0 : zx1 2000000 (zfinC zk_227_1_0_al zk_227_1_0_h0.2.2.2.1) (zcutH zk_227_1_0_hs zk_227_1_0_h0 227 95) zk_227_1_0_or 6000 227 95 zk_227_1_0_h0.1 (zhS zk_227_1_0_h0) [] = true := by decide +kernel
theorem zk_227_1_0_r1 : zx1 2000000 (zfinC zk_227_1_0_al zk_227_1_0_h1.2.2.2.1) (zcutH zk_227_1_0_hs zk_227_1_0_h1 227 95) zk_227_1_0_or 6000 227 95 zk_227_1_0_h1.1 (zhS zk_227_1_0_h1) [] = true := by decide +kernel
theorem zk_227_1_0_c : zCon 227 95 zk_227_1_0_te [] zk_227_1_0_al := zCon_of (n := 6000) (hs := zk_227_1_0_hs) (lo := [(0, 1, 0), (0, 2, 0), (0, 5, 0)]) (c := (.ofNat 55)) (ws := [(.ofNat 0), (.ofNat 0), (.ofNat 0)]) (by decide) (by decide +kernel) zk_227_1_0_oo (List.mem_cons_self) (zAll_mem ⟨zk_227_1_0_r0, zk_227_1_0_r1, trivial⟩)
def zk_227_1_0_o : zO_ := zorcC 227 95 zk_227_1_0_te [(0, 1, 0), (0, 2, 0), (0, 5, 0)] [] zk_227_1_0_al
theorem zk_227_1_0_ok (l : Launch) (X : zx_X) (XL : Nat) (φ : List z_C) (P : List Int → Prop) : zOk l X XL φ P zk_227_1_0_o := zOk_C zk_227_1_0_c (by decide +kernel) l X XL φ P
/-! playFrom -/
def zk_227_2_2_te : zA_T := ([((.ofNat 0), (.ofNat 7), zD0), ((.ofNat 0), (.ofNat 7), zD0), ((.ofNat 0), (.ofNat 16777215), zD0)], zHT, [(0, (2, (.ofNat 46))), (1, (1, (.ofNat 0))), (2, (1, (.ofNat 1))), (3, (0, (.ofNat 2))), (4, (0, (.ofNat 2))), (5, (1, (.ofNat 2)))], [], 0, 0)
def zk_227_2_2_al : List zAlt := [([((.negSucc 2147483647), (.ofNat 2147483647), none)], [(3, 0, 0)], zHT, some (1, (.ofNat 0)))]
def zk_227_2_2_h0 : zHd := (0, zk_227_2_2_te, [(0, 1, 0), (0, 2, 0), (0, 5, 0)], [], (.ofNat 5), [(.ofNat 0), (.ofNat 0), (.ofNat 0)], [])
def zk_227_2_2_hs : List zHd := [zk_227_2_2_h0]
def zk_227_2_2_or : zO_ := zor zk_213_o (zon)
theorem zk_227_2_2_oo (l : Launch) (X : zx_X) (φ : List z_C) (P : List Int → Prop) : zOk l X 2000000 φ P zk_227_2_2_or := zOk_or (zk_213_ok l X 2000000 φ P) (zOk_no l X 2000000 φ P)
theorem zk_227_2_2_r0 : zx1 2000000 (zfinC zk_227_2_2_al zk_227_2_2_h0.2.2.2.1) (zcutH zk_227_2_2_hs zk_227_2_2_h0 227 93) zk_227_2_2_or 6000 227 93 zk_227_2_2_h0.1 (zhS zk_227_2_2_h0) [] = true := by decide +kernel
theorem zk_227_2_2_c : zCon 227 93 zk_227_2_2_te [] zk_227_2_2_al := zCon_of (n := 6000) (hs := zk_227_2_2_hs) (lo := [(0, 1, 0), (0, 2, 0), (0, 5, 0)]) (c := (.ofNat 5)) (ws := [(.ofNat 0), (.ofNat 0), (.ofNat 0)]) (by decide) (by decide +kernel) zk_227_2_2_oo (List.mem_cons_self) (zAll_mem ⟨zk_227_2_2_r0, trivial⟩)
def zk_227_2_2_o : zO_ := zorcC 227 93 zk_227_2_2_te [(0, 1, 0), (0, 2, 0), (0, 5, 0)] [] zk_227_2_2_al
theorem zk_227_2_2_ok (l : Launch) (X : zx_X) (XL : Nat) (φ : List z_C) (P : List Int → Prop) : zOk l X XL φ P zk_227_2_2_o := zOk_C zk_227_2_2_c (by decide +kernel) l X XL φ P
/-! playFrom -/
def zk_227_2_1_te : zA_T := ([((.ofNat 0), (.ofNat 7), zD0), ((.ofNat 0), (.ofNat 7), zD0), ((.ofNat 0), (.ofNat 16777215), zD0)], zHT, [(0, (2, (.ofNat 46))), (1, (1, (.ofNat 0))), (2, (1, (.ofNat 1))), (3, (0, (.ofNat 1))), (4, (0, (.ofNat 2))), (5, (1, (.ofNat 2)))], [], 0, 0)
def zk_227_2_1_al : List zAlt := [([((.negSucc 2147483647), (.ofNat 2147483647), none)], [(3, 0, 0)], zHT, some (1, (.ofNat 0)))]
def zk_227_2_1_h0 : zHd := (0, zk_227_2_1_te, [(0, 1, 0), (0, 2, 0), (0, 5, 0)], [], (.ofNat 55), [(.ofNat 0), (.ofNat 0), (.ofNat 0)], [])
def zk_227_2_1_h1 : zHd := (40, ([((.ofNat 0), (.ofNat 7), zD0), ((.ofNat 0), (.ofNat 7), zD0), ((.ofNat 0), (.ofNat 16777215), zD0), ((.negSucc 2147483647), (.ofNat 2147483647), zD0), ((.ofNat 0), (.ofNat 24), zD0)], zHT, [(0, (2, (.ofNat 46))), (1, (1, (.ofNat 0))), (2, (1, (.ofNat 1))), (3, (0, (.ofNat 1))), (4, (0, (.ofNat 2))), (5, (1, (.ofNat 2))), (6, (1, (.ofNat 3))), (7, (1, (.ofNat 4)))], [], 0, 0), [(0, 1, 0), (0, 2, 0), (0, 5, 0), (0, 6, 0), (0, 7, 0)], [], (.ofNat 49), [(.ofNat 0), (.ofNat 0), (.ofNat 0), (.ofNat 0), (.ofNat 2)], [])
def zk_227_2_1_hs : List zHd := [zk_227_2_1_h0, zk_227_2_1_h1]
def zk_227_2_1_or : zO_ := zor (zor zk_209_o (zor zk_227_2_2_o (zon))) (zspl 227 4 (zor zk_227_2_2_o (zon)))
theorem zk_227_2_1_oo (l : Launch) (X : zx_X) (φ : List z_C) (P : List Int → Prop) : zOk l X 2000000 φ P zk_227_2_1_or := zOk_or (zOk_or (zk_209_ok l X 2000000 φ P) (zOk_or (zk_227_2_2_ok l X 2000000 φ P) (zOk_no l X 2000000 φ P))) (zOk_spl (m0 := 227) (i := 4) (zOk_or (zk_227_2_2_ok l X 2000000 φ P) (zOk_no l X 2000000 φ P)))
theorem zk_227_2_1_r0 : zx1 2000000 (zfinC zk_227_2_1_al zk_227_2_1_h0.2.2.2.1) (zcutH zk_227_2_1_hs zk_227_2_1_h0 227 95) zk_227_2_1_or 6000 227 95 zk_227_2_1_h0.1 (zhS zk_227_2_1_h0) [] = true := by decide +kernel
theorem zk_227_2_1_r1 : zx1 2000000 (zfinC zk_227_2_1_al zk_227_2_1_h1.2.2.2.1) (zcutH zk_227_2_1_hs zk_227_2_1_h1 227 95) zk_227_2_1_or 6000 227 95 zk_227_2_1_h1.1 (zhS zk_227_2_1_h1) [] = true := by decide +kernel
theorem zk_227_2_1_c : zCon 227 95 zk_227_2_1_te [] zk_227_2_1_al := zCon_of (n := 6000) (hs := zk_227_2_1_hs) (lo := [(0, 1, 0), (0, 2, 0), (0, 5, 0)]) (c := (.ofNat 55)) (ws := [(.ofNat 0), (.ofNat 0), (.ofNat 0)]) (by decide) (by decide +kernel) zk_227_2_1_oo (List.mem_cons_self) (zAll_mem ⟨zk_227_2_1_r0, zk_227_2_1_r1, trivial⟩)
def zk_227_2_1_o : zO_ := zorcC 227 95 zk_227_2_1_te [(0, 1, 0), (0, 2, 0), (0, 5, 0)] [] zk_227_2_1_al
theorem zk_227_2_1_ok (l : Launch) (X : zx_X) (XL : Nat) (φ : List z_C) (P : List Int → Prop) : zOk l X XL φ P zk_227_2_1_o := zOk_C zk_227_2_1_c (by decide +kernel) l X XL φ P
/-! playFrom -/
def zk_227_2_0_te : zA_T := ([((.ofNat 0), (.ofNat 7), zD0), ((.ofNat 0), (.ofNat 7), zD0), ((.ofNat 0), (.ofNat 16777215), zD0)], zHT, [(0, (2, (.ofNat 46))), (1, (1, (.ofNat 0))), (2, (1, (.ofNat 1))), (3, (0, (.ofNat 0))), (4, (0, (.ofNat 2))), (5, (1, (.ofNat 2)))], [], 0, 0)
def zk_227_2_0_al : List zAlt := [([((.negSucc 2147483647), (.ofNat 2147483647), none)], [(3, 0, 0)], zHT, some (1, (.ofNat 0)))]
def zk_227_2_0_h0 : zHd := (0, zk_227_2_0_te, [(0, 1, 0), (0, 2, 0), (0, 5, 0)], [], (.ofNat 55), [(.ofNat 0), (.ofNat 0), (.ofNat 0)], [])
def zk_227_2_0_h1 : zHd := (40, ([((.ofNat 0), (.ofNat 7), zD0), ((.ofNat 0), (.ofNat 7), zD0), ((.ofNat 0), (.ofNat 16777215), zD0), ((.negSucc 2147483647), (.ofNat 2147483647), zD0), ((.ofNat 0), (.ofNat 24), zD0)], zHT, [(0, (2, (.ofNat 46))), (1, (1, (.ofNat 0))), (2, (1, (.ofNat 1))), (3, (0, (.ofNat 0))), (4, (0, (.ofNat 2))), (5, (1, (.ofNat 2))), (6, (1, (.ofNat 3))), (7, (1, (.ofNat 4)))], [], 0, 0), [(0, 1, 0), (0, 2, 0), (0, 5, 0), (0, 6, 0), (0, 7, 0)], [], (.ofNat 49), [(.ofNat 0), (.ofNat 0), (.ofNat 0), (.ofNat 0), (.ofNat 2)], [])
def zk_227_2_0_hs : List zHd := [zk_227_2_0_h0, zk_227_2_0_h1]
def zk_227_2_0_or : zO_ := zor (zor zk_209_o (zor zk_227_2_1_o (zon))) (zspl 227 4 (zor zk_227_2_1_o (zon)))
theorem zk_227_2_0_oo (l : Launch) (X : zx_X) (φ : List z_C) (P : List Int → Prop) : zOk l X 2000000 φ P zk_227_2_0_or := zOk_or (zOk_or (zk_209_ok l X 2000000 φ P) (zOk_or (zk_227_2_1_ok l X 2000000 φ P) (zOk_no l X 2000000 φ P))) (zOk_spl (m0 := 227) (i := 4) (zOk_or (zk_227_2_1_ok l X 2000000 φ P) (zOk_no l X 2000000 φ P)))
theorem zk_227_2_0_r0 : zx1 2000000 (zfinC zk_227_2_0_al zk_227_2_0_h0.2.2.2.1) (zcutH zk_227_2_0_hs zk_227_2_0_h0 227 97) zk_227_2_0_or 6000 227 97 zk_227_2_0_h0.1 (zhS zk_227_2_0_h0) [] = true := by decide +kernel
theorem zk_227_2_0_r1 : zx1 2000000 (zfinC zk_227_2_0_al zk_227_2_0_h1.2.2.2.1) (zcutH zk_227_2_0_hs zk_227_2_0_h1 227 97) zk_227_2_0_or 6000 227 97 zk_227_2_0_h1.1 (zhS zk_227_2_0_h1) [] = true := by decide +kernel
theorem zk_227_2_0_c : zCon 227 97 zk_227_2_0_te [] zk_227_2_0_al := zCon_of (n := 6000) (hs := zk_227_2_0_hs) (lo := [(0, 1, 0), (0, 2, 0), (0, 5, 0)]) (c := (.ofNat 55)) (ws := [(.ofNat 0), (.ofNat 0), (.ofNat 0)]) (by decide) (by decide +kernel) zk_227_2_0_oo (List.mem_cons_self) (zAll_mem ⟨zk_227_2_0_r0, zk_227_2_0_r1, trivial⟩)
def zk_227_2_0_o : zO_ := zorcC 227 97 zk_227_2_0_te [(0, 1, 0), (0, 2, 0), (0, 5, 0)] [] zk_227_2_0_al
theorem zk_227_2_0_ok (l : Launch) (X : zx_X) (XL : Nat) (φ : List z_C) (P : List Int → Prop) : zOk l X XL φ P zk_227_2_0_o := zOk_C zk_227_2_0_c (by decide +kernel) l X XL φ P
/-! playFrom -/
def zk_227_3_3_te : zA_T := ([((.ofNat 0), (.ofNat 7), zD0), ((.ofNat 0), (.ofNat 7), zD0), ((.ofNat 0), (.ofNat 16777215), zD0)], zHT, [(0, (2, (.ofNat 46))), (1, (1, (.ofNat 0))), (2, (1, (.ofNat 1))), (3, (0, (.ofNat 3))), (4, (0, (.ofNat 3))), (5, (1, (.ofNat 2)))], [], 0, 0)
def zk_227_3_3_al : List zAlt := [([((.negSucc 2147483647), (.ofNat 2147483647), none)], [(3, 0, 0)], zHT, some (1, (.ofNat 0)))]
def zk_227_3_3_h0 : zHd := (0, zk_227_3_3_te, [(0, 1, 0), (0, 2, 0), (0, 5, 0)], [], (.ofNat 5), [(.ofNat 0), (.ofNat 0), (.ofNat 0)], [])
def zk_227_3_3_hs : List zHd := [zk_227_3_3_h0]
def zk_227_3_3_or : zO_ := zor zk_213_o (zon)
theorem zk_227_3_3_oo (l : Launch) (X : zx_X) (φ : List z_C) (P : List Int → Prop) : zOk l X 2000000 φ P zk_227_3_3_or := zOk_or (zk_213_ok l X 2000000 φ P) (zOk_no l X 2000000 φ P)
theorem zk_227_3_3_r0 : zx1 2000000 (zfinC zk_227_3_3_al zk_227_3_3_h0.2.2.2.1) (zcutH zk_227_3_3_hs zk_227_3_3_h0 227 93) zk_227_3_3_or 6000 227 93 zk_227_3_3_h0.1 (zhS zk_227_3_3_h0) [] = true := by decide +kernel
theorem zk_227_3_3_c : zCon 227 93 zk_227_3_3_te [] zk_227_3_3_al := zCon_of (n := 6000) (hs := zk_227_3_3_hs) (lo := [(0, 1, 0), (0, 2, 0), (0, 5, 0)]) (c := (.ofNat 5)) (ws := [(.ofNat 0), (.ofNat 0), (.ofNat 0)]) (by decide) (by decide +kernel) zk_227_3_3_oo (List.mem_cons_self) (zAll_mem ⟨zk_227_3_3_r0, trivial⟩)
def zk_227_3_3_o : zO_ := zorcC 227 93 zk_227_3_3_te [(0, 1, 0), (0, 2, 0), (0, 5, 0)] [] zk_227_3_3_al
theorem zk_227_3_3_ok (l : Launch) (X : zx_X) (XL : Nat) (φ : List z_C) (P : List Int → Prop) : zOk l X XL φ P zk_227_3_3_o := zOk_C zk_227_3_3_c (by decide +kernel) l X XL φ P
/-! playFrom -/
def zk_227_3_2_te : zA_T := ([((.ofNat 0), (.ofNat 7), zD0), ((.ofNat 0), (.ofNat 7), zD0), ((.ofNat 0), (.ofNat 16777215), zD0)], zHT, [(0, (2, (.ofNat 46))), (1, (1, (.ofNat 0))), (2, (1, (.ofNat 1))), (3, (0, (.ofNat 2))), (4, (0, (.ofNat 3))), (5, (1, (.ofNat 2)))], [], 0, 0)
def zk_227_3_2_al : List zAlt := [([((.negSucc 2147483647), (.ofNat 2147483647), none)], [(3, 0, 0)], zHT, some (1, (.ofNat 0)))]
def zk_227_3_2_h0 : zHd := (0, zk_227_3_2_te, [(0, 1, 0), (0, 2, 0), (0, 5, 0)], [], (.ofNat 55), [(.ofNat 0), (.ofNat 0), (.ofNat 0)], [])
def zk_227_3_2_h1 : zHd := (40, ([((.ofNat 0), (.ofNat 7), zD0), ((.ofNat 0), (.ofNat 7), zD0), ((.ofNat 0), (.ofNat 16777215), zD0), ((.negSucc 2147483647), (.ofNat 2147483647), zD0), ((.ofNat 0), (.ofNat 24), zD0)], zHT, [(0, (2, (.ofNat 46))), (1, (1, (.ofNat 0))), (2, (1, (.ofNat 1))), (3, (0, (.ofNat 2))), (4, (0, (.ofNat 3))), (5, (1, (.ofNat 2))), (6, (1, (.ofNat 3))), (7, (1, (.ofNat 4)))], [], 0, 0), [(0, 1, 0), (0, 2, 0), (0, 5, 0), (0, 6, 0), (0, 7, 0)], [], (.ofNat 49), [(.ofNat 0), (.ofNat 0), (.ofNat 0), (.ofNat 0), (.ofNat 2)], [])
def zk_227_3_2_hs : List zHd := [zk_227_3_2_h0, zk_227_3_2_h1]
def zk_227_3_2_or : zO_ := zor (zor zk_209_o (zor zk_227_3_3_o (zon))) (zspl 227 4 (zor zk_227_3_3_o (zon)))
theorem zk_227_3_2_oo (l : Launch) (X : zx_X) (φ : List z_C) (P : List Int → Prop) : zOk l X 2000000 φ P zk_227_3_2_or := zOk_or (zOk_or (zk_209_ok l X 2000000 φ P) (zOk_or (zk_227_3_3_ok l X 2000000 φ P) (zOk_no l X 2000000 φ P))) (zOk_spl (m0 := 227) (i := 4) (zOk_or (zk_227_3_3_ok l X 2000000 φ P) (zOk_no l X 2000000 φ P)))
theorem zk_227_3_2_r0 : zx1 2000000 (zfinC zk_227_3_2_al zk_227_3_2_h0.2.2.2.1) (zcutH zk_227_3_2_hs zk_227_3_2_h0 227 95) zk_227_3_2_or 6000 227 95 zk_227_3_2_h0.1 (zhS zk_227_3_2_h0) [] = true := by decide +kernel
theorem zk_227_3_2_r1 : zx1 2000000 (zfinC zk_227_3_2_al zk_227_3_2_h1.2.2.2.1) (zcutH zk_227_3_2_hs zk_227_3_2_h1 227 95) zk_227_3_2_or 6000 227 95 zk_227_3_2_h1.1 (zhS zk_227_3_2_h1) [] = true := by decide +kernel
theorem zk_227_3_2_c : zCon 227 95 zk_227_3_2_te [] zk_227_3_2_al := zCon_of (n := 6000) (hs := zk_227_3_2_hs) (lo := [(0, 1, 0), (0, 2, 0), (0, 5, 0)]) (c := (.ofNat 55)) (ws := [(.ofNat 0), (.ofNat 0), (.ofNat 0)]) (by decide) (by decide +kernel) zk_227_3_2_oo (List.mem_cons_self) (zAll_mem ⟨zk_227_3_2_r0, zk_227_3_2_r1, trivial⟩)
def zk_227_3_2_o : zO_ := zorcC 227 95 zk_227_3_2_te [(0, 1, 0), (0, 2, 0), (0, 5, 0)] [] zk_227_3_2_al
theorem zk_227_3_2_ok (l : Launch) (X : zx_X) (XL : Nat) (φ : List z_C) (P : List Int → Prop) : zOk l X XL φ P zk_227_3_2_o := zOk_C zk_227_3_2_c (by decide +kernel) l X XL φ P
/-! playFrom -/
def zk_227_3_1_te : zA_T := ([((.ofNat 0), (.ofNat 7), zD0), ((.ofNat 0), (.ofNat 7), zD0), ((.ofNat 0), (.ofNat 16777215), zD0)], zHT, [(0, (2, (.ofNat 46))), (1, (1, (.ofNat 0))), (2, (1, (.ofNat 1))), (3, (0, (.ofNat 1))), (4, (0, (.ofNat 3))), (5, (1, (.ofNat 2)))], [], 0, 0)
def zk_227_3_1_al : List zAlt := [([((.negSucc 2147483647), (.ofNat 2147483647), none)], [(3, 0, 0)], zHT, some (1, (.ofNat 0)))]
def zk_227_3_1_h0 : zHd := (0, zk_227_3_1_te, [(0, 1, 0), (0, 2, 0), (0, 5, 0)], [], (.ofNat 55), [(.ofNat 0), (.ofNat 0), (.ofNat 0)], [])
def zk_227_3_1_h1 : zHd := (40, ([((.ofNat 0), (.ofNat 7), zD0), ((.ofNat 0), (.ofNat 7), zD0), ((.ofNat 0), (.ofNat 16777215), zD0), ((.negSucc 2147483647), (.ofNat 2147483647), zD0), ((.ofNat 0), (.ofNat 24), zD0)], zHT, [(0, (2, (.ofNat 46))), (1, (1, (.ofNat 0))), (2, (1, (.ofNat 1))), (3, (0, (.ofNat 1))), (4, (0, (.ofNat 3))), (5, (1, (.ofNat 2))), (6, (1, (.ofNat 3))), (7, (1, (.ofNat 4)))], [], 0, 0), [(0, 1, 0), (0, 2, 0), (0, 5, 0), (0, 6, 0), (0, 7, 0)], [], (.ofNat 49), [(.ofNat 0), (.ofNat 0), (.ofNat 0), (.ofNat 0), (.ofNat 2)], [])
def zk_227_3_1_hs : List zHd := [zk_227_3_1_h0, zk_227_3_1_h1]
def zk_227_3_1_or : zO_ := zor (zor zk_209_o (zor zk_227_3_2_o (zon))) (zspl 227 4 (zor zk_227_3_2_o (zon)))
theorem zk_227_3_1_oo (l : Launch) (X : zx_X) (φ : List z_C) (P : List Int → Prop) : zOk l X 2000000 φ P zk_227_3_1_or := zOk_or (zOk_or (zk_209_ok l X 2000000 φ P) (zOk_or (zk_227_3_2_ok l X 2000000 φ P) (zOk_no l X 2000000 φ P))) (zOk_spl (m0 := 227) (i := 4) (zOk_or (zk_227_3_2_ok l X 2000000 φ P) (zOk_no l X 2000000 φ P)))
theorem zk_227_3_1_r0 : zx1 2000000 (zfinC zk_227_3_1_al zk_227_3_1_h0.2.2.2.1) (zcutH zk_227_3_1_hs zk_227_3_1_h0 227 97) zk_227_3_1_or 6000 227 97 zk_227_3_1_h0.1 (zhS zk_227_3_1_h0) [] = true := by decide +kernel
theorem zk_227_3_1_r1 : zx1 2000000 (zfinC zk_227_3_1_al zk_227_3_1_h1.2.2.2.1) (zcutH zk_227_3_1_hs zk_227_3_1_h1 227 97) zk_227_3_1_or 6000 227 97 zk_227_3_1_h1.1 (zhS zk_227_3_1_h1) [] = true := by decide +kernel
theorem zk_227_3_1_c : zCon 227 97 zk_227_3_1_te [] zk_227_3_1_al := zCon_of (n := 6000) (hs := zk_227_3_1_hs) (lo := [(0, 1, 0), (0, 2, 0), (0, 5, 0)]) (c := (.ofNat 55)) (ws := [(.ofNat 0), (.ofNat 0), (.ofNat 0)]) (by decide) (by decide +kernel) zk_227_3_1_oo (List.mem_cons_self) (zAll_mem ⟨zk_227_3_1_r0, zk_227_3_1_r1, trivial⟩)
def zk_227_3_1_o : zO_ := zorcC 227 97 zk_227_3_1_te [(0, 1, 0), (0, 2, 0), (0, 5, 0)] [] zk_227_3_1_al
theorem zk_227_3_1_ok (l : Launch) (X : zx_X) (XL : Nat) (φ : List z_C) (P : List Int → Prop) : zOk l X XL φ P zk_227_3_1_o := zOk_C zk_227_3_1_c (by decide +kernel) l X XL φ P
/-! playFrom -/
def zk_227_3_0_te : zA_T := ([((.ofNat 0), (.ofNat 7), zD0), ((.ofNat 0), (.ofNat 7), zD0), ((.ofNat 0), (.ofNat 16777215), zD0)], zHT, [(0, (2, (.ofNat 46))), (1, (1, (.ofNat 0))), (2, (1, (.ofNat 1))), (3, (0, (.ofNat 0))), (4, (0, (.ofNat 3))), (5, (1, (.ofNat 2)))], [], 0, 0)
def zk_227_3_0_al : List zAlt := [([((.negSucc 2147483647), (.ofNat 2147483647), none)], [(3, 0, 0)], zHT, some (1, (.ofNat 0)))]
def zk_227_3_0_h0 : zHd := (0, zk_227_3_0_te, [(0, 1, 0), (0, 2, 0), (0, 5, 0)], [], (.ofNat 55), [(.ofNat 0), (.ofNat 0), (.ofNat 0)], [])
def zk_227_3_0_h1 : zHd := (40, ([((.ofNat 0), (.ofNat 7), zD0), ((.ofNat 0), (.ofNat 7), zD0), ((.ofNat 0), (.ofNat 16777215), zD0), ((.negSucc 2147483647), (.ofNat 2147483647), zD0), ((.ofNat 0), (.ofNat 24), zD0)], zHT, [(0, (2, (.ofNat 46))), (1, (1, (.ofNat 0))), (2, (1, (.ofNat 1))), (3, (0, (.ofNat 0))), (4, (0, (.ofNat 3))), (5, (1, (.ofNat 2))), (6, (1, (.ofNat 3))), (7, (1, (.ofNat 4)))], [], 0, 0), [(0, 1, 0), (0, 2, 0), (0, 5, 0), (0, 6, 0), (0, 7, 0)], [], (.ofNat 49), [(.ofNat 0), (.ofNat 0), (.ofNat 0), (.ofNat 0), (.ofNat 2)], [])
def zk_227_3_0_hs : List zHd := [zk_227_3_0_h0, zk_227_3_0_h1]
def zk_227_3_0_or : zO_ := zor (zor zk_209_o (zor zk_227_3_1_o (zon))) (zspl 227 4 (zor zk_227_3_1_o (zon)))
theorem zk_227_3_0_oo (l : Launch) (X : zx_X) (φ : List z_C) (P : List Int → Prop) : zOk l X 2000000 φ P zk_227_3_0_or := zOk_or (zOk_or (zk_209_ok l X 2000000 φ P) (zOk_or (zk_227_3_1_ok l X 2000000 φ P) (zOk_no l X 2000000 φ P))) (zOk_spl (m0 := 227) (i := 4) (zOk_or (zk_227_3_1_ok l X 2000000 φ P) (zOk_no l X 2000000 φ P)))
theorem zk_227_3_0_r0 : zx1 2000000 (zfinC zk_227_3_0_al zk_227_3_0_h0.2.2.2.1) (zcutH zk_227_3_0_hs zk_227_3_0_h0 227 99) zk_227_3_0_or 6000 227 99 zk_227_3_0_h0.1 (zhS zk_227_3_0_h0) [] = true := by decide +kernel
theorem zk_227_3_0_r1 : zx1 2000000 (zfinC zk_227_3_0_al zk_227_3_0_h1.2.2.2.1) (zcutH zk_227_3_0_hs zk_227_3_0_h1 227 99) zk_227_3_0_or 6000 227 99 zk_227_3_0_h1.1 (zhS zk_227_3_0_h1) [] = true := by decide +kernel
theorem zk_227_3_0_c : zCon 227 99 zk_227_3_0_te [] zk_227_3_0_al := zCon_of (n := 6000) (hs := zk_227_3_0_hs) (lo := [(0, 1, 0), (0, 2, 0), (0, 5, 0)]) (c := (.ofNat 55)) (ws := [(.ofNat 0), (.ofNat 0), (.ofNat 0)]) (by decide) (by decide +kernel) zk_227_3_0_oo (List.mem_cons_self) (zAll_mem ⟨zk_227_3_0_r0, zk_227_3_0_r1, trivial⟩)
def zk_227_3_0_o : zO_ := zorcC 227 99 zk_227_3_0_te [(0, 1, 0), (0, 2, 0), (0, 5, 0)] [] zk_227_3_0_al
theorem zk_227_3_0_ok (l : Launch) (X : zx_X) (XL : Nat) (φ : List z_C) (P : List Int → Prop) : zOk l X XL φ P zk_227_3_0_o := zOk_C zk_227_3_0_c (by decide +kernel) l X XL φ P
/-! byTurns -/
def zk_226_te : zA_T := ([((.negSucc 2147483647), (.ofNat 2147483647), zD0), ((.negSucc 2147483647), (.ofNat 2147483647), zD0)], zHT, [(0, (2, (.ofNat 46))), (1, (1, (.ofNat 0))), (2, (1, (.ofNat 1)))], [], 0, 0)
def zk_226_al : List zAlt := [([((.negSucc 2147483647), (.ofNat 2147483647), none)], [(3, 0, 0)], zHT, some (1, (.ofNat 0)))]
def zk_226_h0 : zHd := (0, zk_226_te, [(0, 1, 0), (0, 2, 0)], [], (.ofNat 55), [(.ofNat 0), (.ofNat 0)], [])
def zk_226_h1 : zHd := (123, ([((.ofNat 0), (.ofNat 1000), zD0), ((.ofNat 0), (.ofNat 7), zD0), ((.ofNat 0), (.ofNat 7), zD0), ((.ofNat 1), (.ofNat 3), zD0), ((.negSucc 2147483647), (.ofNat 2147483647), zD0), ((.ofNat 0), (.ofNat 24), zD0)], zHT, [(0, (2, (.ofNat 46))), (1, (1, (.ofNat 0))), (2, (0, (.ofNat 1))), (3, (1, (.ofNat 1))), (4, (1, (.ofNat 2))), (5, (1, (.ofNat 3))), (6, (1, (.ofNat 4))), (7, (1, (.ofNat 5)))], [], 0, 0), [(0, 1, 0), (0, 3, 0), (0, 4, 0), (0, 5, 0), (0, 6, 0), (0, 7, 0)], [], (.ofNat 49), [(.ofNat 0), (.ofNat 0), (.ofNat 0), (.ofNat 0), (.ofNat 0), (.ofNat 2)], [])
def zk_226_hs : List zHd := [zk_226_h0, zk_226_h1]
def zk_226_or : zO_ := zor (zor zk_209_o (zor zk_203_o (zor zk_227_1_1_o (zor zk_227_1_0_o (zor zk_227_2_1_o (zor zk_227_2_0_o (zor zk_227_3_1_o (zor zk_227_3_0_o (zon))))))))) (zspl 227 4 (zor zk_227_1_1_o (zor zk_227_1_0_o (zor zk_227_2_1_o (zor zk_227_2_0_o (zor zk_227_3_1_o (zor zk_227_3_0_o (zon))))))))
theorem zk_226_oo (l : Launch) (X : zx_X) (φ : List z_C) (P : List Int → Prop) : zOk l X 2000000 φ P zk_226_or := zOk_or (zOk_or (zk_209_ok l X 2000000 φ P) (zOk_or (zk_203_ok l X 2000000 φ P) (zOk_or (zk_227_1_1_ok l X 2000000 φ P) (zOk_or (zk_227_1_0_ok l X 2000000 φ P) (zOk_or (zk_227_2_1_ok l X 2000000 φ P) (zOk_or (zk_227_2_0_ok l X 2000000 φ P) (zOk_or (zk_227_3_1_ok l X 2000000 φ P) (zOk_or (zk_227_3_0_ok l X 2000000 φ P) (zOk_no l X 2000000 φ P))))))))) (zOk_spl (m0 := 227) (i := 4) (zOk_or (zk_227_1_1_ok l X 2000000 φ P) (zOk_or (zk_227_1_0_ok l X 2000000 φ P) (zOk_or (zk_227_2_1_ok l X 2000000 φ P) (zOk_or (zk_227_2_0_ok l X 2000000 φ P) (zOk_or (zk_227_3_1_ok l X 2000000 φ P) (zOk_or (zk_227_3_0_ok l X 2000000 φ P) (zOk_no l X 2000000 φ P))))))))
theorem zk_226_r0 : zx1 2000000 (zfinC zk_226_al zk_226_h0.2.2.2.1) (zcutH zk_226_hs zk_226_h0 226 101) zk_226_or 6000 226 101 zk_226_h0.1 (zhS zk_226_h0) [] = true := by decide +kernel
theorem zk_226_r1 : zx1 2000000 (zfinC zk_226_al zk_226_h1.2.2.2.1) (zcutH zk_226_hs zk_226_h1 226 101) zk_226_or 6000 226 101 zk_226_h1.1 (zhS zk_226_h1) [] = true := by decide +kernel
theorem zk_226_c : zCon 226 101 zk_226_te [] zk_226_al := zCon_of (n := 6000) (hs := zk_226_hs) (lo := [(0, 1, 0), (0, 2, 0)]) (c := (.ofNat 55)) (ws := [(.ofNat 0), (.ofNat 0)]) (by decide) (by decide +kernel) zk_226_oo (List.mem_cons_self) (zAll_mem ⟨zk_226_r0, zk_226_r1, trivial⟩)
def zk_226_o : zO_ := zorcC 226 101 zk_226_te [(0, 1, 0), (0, 2, 0)] [] zk_226_al
theorem zk_226_ok (l : Launch) (X : zx_X) (XL : Nat) (φ : List z_C) (P : List Int → Prop) : zOk l X XL φ P zk_226_o := zOk_C zk_226_c (by decide +kernel) l X XL φ P
/-! firstFalse -/
def zk_230_te : zA_T := ([((.ofNat 0), (.ofNat 5), zD0), ((.negSucc 2147483647), (.ofNat 2147483647), zD0)], zHT, [(0, (2, (.ofNat 46))), (1, (1, (.ofNat 0))), (2, (1, (.ofNat 1)))], [], 0, 0)
def zk_230_al : List zAlt := [([((.negSucc 1), (.ofNat 29), none)], [(3, 0, 0)], zHT, some (1, (.ofNat 0)))]
def zk_230_h0 : zHd := (0, zk_230_te, [(0, 1, 0), (0, 2, 0)], [], (.ofNat 67), [(.ofNat 0), (.ofNat 0)], [])
def zk_230_h1 : zHd := (2, ([((.ofNat 0), (.ofNat 5), zD0), ((.negSucc 2147483647), (.ofNat 2147483647), zD0), ((.ofNat 0), (.ofNat 30), zD0)], zHT, [(0, (2, (.ofNat 46))), (1, (1, (.ofNat 0))), (2, (1, (.ofNat 1))), (3, (1, (.ofNat 2)))], [], 0, 0), [(0, 1, 0), (0, 2, 0), (0, 3, 0)], [], (.ofNat 61), [(.ofNat 0), (.ofNat 0), (.ofNat 2)], [])
def zk_230_hs : List zHd := [zk_230_h0, zk_230_h1]
def zk_230_or : zO_ := zon
theorem zk_230_oo (l : Launch) (X : zx_X) (φ : List z_C) (P : List Int → Prop) : zOk l X 2000000 φ P zk_230_or := zOk_no l X 2000000 φ P
theorem zk_230_r0 : zx1 2000000 (zfinC zk_230_al zk_230_h0.2.2.2.1) (zcutH zk_230_hs zk_230_h0 230 4) zk_230_or 6000 230 4 zk_230_h0.1 (zhS zk_230_h0) [] = true := by decide +kernel
theorem zk_230_r1 : zx1 2000000 (zfinC zk_230_al zk_230_h1.2.2.2.1) (zcutH zk_230_hs zk_230_h1 230 4) zk_230_or 6000 230 4 zk_230_h1.1 (zhS zk_230_h1) [] = true := by decide +kernel
theorem zk_230_c : zCon 230 4 zk_230_te [] zk_230_al := zCon_of (n := 6000) (hs := zk_230_hs) (lo := [(0, 1, 0), (0, 2, 0)]) (c := (.ofNat 67)) (ws := [(.ofNat 0), (.ofNat 0)]) (by decide) (by decide +kernel) zk_230_oo (List.mem_cons_self) (zAll_mem ⟨zk_230_r0, zk_230_r1, trivial⟩)
def zk_230_o : zO_ := zorcC 230 4 zk_230_te [(0, 1, 0), (0, 2, 0)] [] zk_230_al
theorem zk_230_ok (l : Launch) (X : zx_X) (XL : Nat) (φ : List z_C) (P : List Int → Prop) : zOk l X XL φ P zk_230_o := zOk_C zk_230_c (by decide +kernel) l X XL φ P
/-! fitsView -/
def zk_232_te : zA_T := ([((.ofNat 0), (.ofNat 5), zD0), ((.ofNat 0), (.ofNat 5), zD0), ((.ofNat 0), (.ofNat 3), zD0)], zHT, [(0, (2, (.ofNat 46))), (1, (1, (.ofNat 0))), (2, (1, (.ofNat 1))), (3, (1, (.ofNat 2)))], [], 0, 0)
def zk_232_al : List zAlt := [([((.ofNat 0), (.ofNat 1), none)], [(3, 0, 0)], zHT, some (1, (.ofNat 0)))]
def zk_232_h0 : zHd := (0, zk_232_te, [(0, 1, 0), (0, 2, 0), (0, 3, 0)], [], (.ofNat 67), [(.ofNat 0), (.ofNat 0), (.ofNat 0)], [])
def zk_232_h1 : zHd := (3, ([((.ofNat 0), (.ofNat 5), zD0), ((.ofNat 0), (.ofNat 5), zD0), ((.ofNat 0), (.ofNat 3), zD0), ((.ofNat 0), (.ofNat 30), zD0)], zHT, [(0, (2, (.ofNat 46))), (1, (1, (.ofNat 0))), (2, (1, (.ofNat 1))), (3, (1, (.ofNat 2))), (4, (1, (.ofNat 3)))], [], 0, 0), [(0, 1, 0), (0, 2, 0), (0, 3, 0), (0, 4, 0)], [], (.ofNat 61), [(.ofNat 0), (.ofNat 0), (.ofNat 0), (.ofNat 2)], [])
def zk_232_hs : List zHd := [zk_232_h0, zk_232_h1]
def zk_232_or : zO_ := zon
theorem zk_232_oo (l : Launch) (X : zx_X) (φ : List z_C) (P : List Int → Prop) : zOk l X 2000000 φ P zk_232_or := zOk_no l X 2000000 φ P
theorem zk_232_r0 : zx1 2000000 (zfinC zk_232_al zk_232_h0.2.2.2.1) (zcutH zk_232_hs zk_232_h0 232 4) zk_232_or 6000 232 4 zk_232_h0.1 (zhS zk_232_h0) [] = true := by decide +kernel
theorem zk_232_r1 : zx1 2000000 (zfinC zk_232_al zk_232_h1.2.2.2.1) (zcutH zk_232_hs zk_232_h1 232 4) zk_232_or 6000 232 4 zk_232_h1.1 (zhS zk_232_h1) [] = true := by decide +kernel
theorem zk_232_c : zCon 232 4 zk_232_te [] zk_232_al := zCon_of (n := 6000) (hs := zk_232_hs) (lo := [(0, 1, 0), (0, 2, 0), (0, 3, 0)]) (c := (.ofNat 67)) (ws := [(.ofNat 0), (.ofNat 0), (.ofNat 0)]) (by decide) (by decide +kernel) zk_232_oo (List.mem_cons_self) (zAll_mem ⟨zk_232_r0, zk_232_r1, trivial⟩)
def zk_232_o : zO_ := zorcC 232 4 zk_232_te [(0, 1, 0), (0, 2, 0), (0, 3, 0)] [] zk_232_al
theorem zk_232_ok (l : Launch) (X : zx_X) (XL : Nat) (φ : List z_C) (P : List Int → Prop) : zOk l X XL φ P zk_232_o := zOk_C zk_232_c (by decide +kernel) l X XL φ P
