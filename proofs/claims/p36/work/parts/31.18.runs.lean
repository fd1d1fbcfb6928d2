/-! PART 31.18: runs of the law's body. -/
theorem zlr_1210 : zlrun [] (zon) [1245] 1210 = true := by decide +kernel
theorem zls_1210 {l : Launch} {X : zx_X} {N : Nat} (hH : zlHd l X zQ1 N) : zlSt l X zQ1 N 1210 := zlrun_g zlr_1210 (zAll_mem trivial) (fun φ => zOk_no l X _ φ _) hH (zAll_mem ⟨zls_1245 hH, trivial⟩)
theorem zlr_1298 : zlrun [] (zon) [] 1298 = true := by decide +kernel
theorem zls_1298 {l : Launch} {X : zx_X} {N : Nat} (hH : zlHd l X zQ1 N) : zlSt l X zQ1 N 1298 := zlrun_g zlr_1298 (zAll_mem trivial) (fun φ => zOk_no l X _ φ _) hH (by simp)
theorem zlr_1283 : zlrun [] (zon) [1298] 1283 = true := by decide +kernel
theorem zls_1283 {l : Launch} {X : zx_X} {N : Nat} (hH : zlHd l X zQ1 N) : zlSt l X zQ1 N 1283 := zlrun_g zlr_1283 (zAll_mem trivial) (fun φ => zOk_no l X _ φ _) hH (zAll_mem ⟨zls_1298 hH, trivial⟩)
theorem zlr_1346 : zlrun [] (zor zk_262_o (zon)) [] 1346 = true := by decide +kernel
theorem zls_1346 {l : Launch} {X : zx_X} {N : Nat} (hH : zlHd l X zQ1 N) : zlSt l X zQ1 N 1346 := zlrun_g zlr_1346 (zAll_mem trivial) (fun φ => zOk_or (zk_262_ok l X 3000000 φ _) (zOk_no l X _ φ _)) hH (by simp)
theorem zlr_1316 : zlrun [] (zor zk_171_o (zon)) [1346] 1316 = true := by decide +kernel
theorem zls_1316 {l : Launch} {X : zx_X} {N : Nat} (hH : zlHd l X zQ1 N) : zlSt l X zQ1 N 1316 := zlrun_g zlr_1316 (zAll_mem trivial) (fun φ => zOk_or (zk_171_ok l X 3000000 φ _) (zOk_no l X _ φ _)) hH (zAll_mem ⟨zls_1346 hH, trivial⟩)
theorem zlr_1394 : zlrun [] (zor zk_263_o (zon)) [] 1394 = true := by decide +kernel
theorem zls_1394 {l : Launch} {X : zx_X} {N : Nat} (hH : zlHd l X zQ1 N) : zlSt l X zQ1 N 1394 := zlrun_g zlr_1394 (zAll_mem trivial) (fun φ => zOk_or (zk_263_ok l X 3000000 φ _) (zOk_no l X _ φ _)) hH (by simp)
theorem zlr_1379 : zlrun [] (zor zk_172_o (zon)) [1394] 1379 = true := by decide +kernel
theorem zls_1379 {l : Launch} {X : zx_X} {N : Nat} (hH : zlHd l X zQ1 N) : zlSt l X zQ1 N 1379 := zlrun_g zlr_1379 (zAll_mem trivial) (fun φ => zOk_or (zk_172_ok l X 3000000 φ _) (zOk_no l X _ φ _)) hH (zAll_mem ⟨zls_1394 hH, trivial⟩)
theorem zlr_1422 : zlrun [] (zor zk_266_o (zon)) [] 1422 = true := by decide +kernel
theorem zls_1422 {l : Launch} {X : zx_X} {N : Nat} (hH : zlHd l X zQ1 N) : zlSt l X zQ1 N 1422 := zlrun_g zlr_1422 (zAll_mem trivial) (fun φ => zOk_or (zk_266_ok l X 3000000 φ _) (zOk_no l X _ φ _)) hH (by simp)
theorem zlr_1412 : zlrun [] (zor zk_174_o (zon)) [1422] 1412 = true := by decide +kernel
theorem zls_1412 {l : Launch} {X : zx_X} {N : Nat} (hH : zlHd l X zQ1 N) : zlSt l X zQ1 N 1412 := zlrun_g zlr_1412 (zAll_mem trivial) (fun φ => zOk_or (zk_174_ok l X 3000000 φ _) (zOk_no l X _ φ _)) hH (zAll_mem ⟨zls_1422 hH, trivial⟩)
theorem zlr_1435 : zlrun [] (zon) [] 1435 = true := by decide +kernel
theorem zls_1435 {l : Launch} {X : zx_X} {N : Nat} (hH : zlHd l X zQ1 N) : zlSt l X zQ1 N 1435 := zlrun_g zlr_1435 (zAll_mem trivial) (fun φ => zOk_no l X _ φ _) hH (by simp)
theorem zlr_27 : zlrun [] (zon) [212, 235, 278, 321, 354, 377, 390, 423, 446, 469, 502, 525, 548, 581, 604, 637, 670, 713, 746, 779, 802, 825, 868, 891, 914, 937, 970, 993, 1006, 1019, 1032, 1045, 1068, 1111, 1134, 1167, 1210, 1283, 1316, 1379, 1412, 1435] 27 = true := by decide +kernel
theorem zls_27 {l : Launch} {X : zx_X} {N : Nat} (hH : zlHd l X zQ1 N) : zlSt l X zQ1 N 27 := zlrun_g zlr_27 (zAll_mem trivial) (fun φ => zOk_no l X _ φ _) hH (zAll_mem ⟨zls_212 hH, zls_235 hH, zls_278 hH, zls_321 hH, zls_354 hH, zls_377 hH, zls_390 hH, zls_423 hH, zls_446 hH, zls_469 hH, zls_502 hH, zls_525 hH, zls_548 hH, zls_581 hH, zls_604 hH, zls_637 hH, zls_670 hH, zls_713 hH, zls_746 hH, zls_779 hH, zls_802 hH, zls_825 hH, zls_868 hH, zls_891 hH, zls_914 hH, zls_937 hH, zls_970 hH, zls_993 hH, zls_1006 hH, zls_1019 hH, zls_1032 hH, zls_1045 hH, zls_1068 hH, zls_1111 hH, zls_1134 hH, zls_1167 hH, zls_1210 hH, zls_1283 hH, zls_1316 hH, zls_1379 hH, zls_1412 hH, zls_1435 hH, trivial⟩)
