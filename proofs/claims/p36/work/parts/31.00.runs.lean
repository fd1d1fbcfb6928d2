/-! PART 31.0: runs of the law's body. -/
def zj_29_0_e : zJc := (29, 4, zj_29_0_te, [(0, 1, 0), (0, 2, 0), (0, 3, 0), (0, 4, 0)], none)
def zj_29_1_e : zJc := (29, 4, zj_29_1_te, [(0, 2, 0), (0, 3, 0), (0, 4, 0)], none)
def zj_29_2_e : zJc := (29, 4, zj_29_2_te, [(0, 2, 0), (0, 3, 0), (0, 4, 0)], none)
def zj_144_e : zJc := (144, 4, zj_144_te, [], some ((.negSucc 4), (.ofNat 39)))
def zj_146_e : zJc := (146, 4, zj_146_te, [], some ((.negSucc 4), (.ofNat 39)))
def zj_187_0_e : zJc := (187, 2, zj_187_0_te, [(0, 1, 0), (0, 2, 0)], some ((.negSucc 2147483647), (.ofNat 2147483647)))
def zj_187_1_e : zJc := (187, 2, zj_187_1_te, [(0, 2, 0)], some ((.ofNat 1), (.ofNat 9)))
def zj_176_e : zJc := (176, 2, zj_176_te, [], some ((.negSucc 4), (.ofNat 39)))
def zj_177_e : zJc := (177, 2, zj_177_te, [], some ((.negSucc 4), (.ofNat 39)))
def zj_215_e : zJc := (215, 200, zj_215_te, [(0, 1, 0)], some ((.negSucc 2147483647), (.ofNat 2147483647)))
theorem zlr_222 : zlrun [] (zor zk_178_o (zon)) [] 222 = true := by decide +kernel
theorem zls_222 {l : Launch} {X : zx_X} {N : Nat} (hH : zlHd l X zQ1 N) : zlSt l X zQ1 N 222 := zlrun_g zlr_222 (zAll_mem trivial) (fun φ => zOk_or (zk_178_ok l X 3000000 φ _) (zOk_no l X _ φ _)) hH (by simp)
theorem zlr_212 : zlrun [] (zor zk_13_o (zon)) [222] 212 = true := by decide +kernel
theorem zls_212 {l : Launch} {X : zx_X} {N : Nat} (hH : zlHd l X zQ1 N) : zlSt l X zQ1 N 212 := zlrun_g zlr_212 (zAll_mem trivial) (fun φ => zOk_or (zk_13_ok l X 3000000 φ _) (zOk_no l X _ φ _)) hH (zAll_mem ⟨zls_222 hH, trivial⟩)
theorem zlr_255 : zlrun [] (zor zk_181_o (zon)) [] 255 = true := by decide +kernel
theorem zls_255 {l : Launch} {X : zx_X} {N : Nat} (hH : zlHd l X zQ1 N) : zlSt l X zQ1 N 255 := zlrun_g zlr_255 (zAll_mem trivial) (fun φ => zOk_or (zk_181_ok l X 3000000 φ _) (zOk_no l X _ φ _)) hH (by simp)
theorem zlr_235 : zlrun [] (zor zk_17_o (zon)) [255] 235 = true := by decide +kernel
theorem zls_235 {l : Launch} {X : zx_X} {N : Nat} (hH : zlHd l X zQ1 N) : zlSt l X zQ1 N 235 := zlrun_g zlr_235 (zAll_mem trivial) (fun φ => zOk_or (zk_17_ok l X 3000000 φ _) (zOk_no l X _ φ _)) hH (zAll_mem ⟨zls_255 hH, trivial⟩)
theorem zlr_298 : zlrun [zj_187_0_e, zj_187_1_e] (zon) [] 298 = true := by decide +kernel
theorem zls_298 {l : Launch} {X : zx_X} {N : Nat} (hH : zlHd l X zQ1 N) : zlSt l X zQ1 N 298 := zlrun_g zlr_298 (zAll_mem ⟨zj_187_0_c, zj_187_1_c, trivial⟩) (fun φ => zOk_no l X _ φ _) hH (by simp)
theorem zlr_278 : zlrun [zj_29_0_e, zj_29_1_e, zj_29_2_e] (zon) [298] 278 = true := by decide +kernel
theorem zls_278 {l : Launch} {X : zx_X} {N : Nat} (hH : zlHd l X zQ1 N) : zlSt l X zQ1 N 278 := zlrun_g zlr_278 (zAll_mem ⟨zj_29_0_c, zj_29_1_c, zj_29_2_c, trivial⟩) (fun φ => zOk_no l X _ φ _) hH (zAll_mem ⟨zls_298 hH, trivial⟩)
theorem zlr_336 : zlrun [] (zor zk_188_o (zon)) [] 336 = true := by decide +kernel
theorem zls_336 {l : Launch} {X : zx_X} {N : Nat} (hH : zlHd l X zQ1 N) : zlSt l X zQ1 N 336 := zlrun_g zlr_336 (zAll_mem trivial) (fun φ => zOk_or (zk_188_ok l X 3000000 φ _) (zOk_no l X _ φ _)) hH (by simp)
theorem zlr_321 : zlrun [] (zor zk_31_o (zon)) [336] 321 = true := by decide +kernel
theorem zls_321 {l : Launch} {X : zx_X} {N : Nat} (hH : zlHd l X zQ1 N) : zlSt l X zQ1 N 321 := zlrun_g zlr_321 (zAll_mem trivial) (fun φ => zOk_or (zk_31_ok l X 3000000 φ _) (zOk_no l X _ φ _)) hH (zAll_mem ⟨zls_336 hH, trivial⟩)
theorem zlr_364 : zlrun [] (zor zk_189_o (zon)) [] 364 = true := by decide +kernel
theorem zls_364 {l : Launch} {X : zx_X} {N : Nat} (hH : zlHd l X zQ1 N) : zlSt l X zQ1 N 364 := zlrun_g zlr_364 (zAll_mem trivial) (fun φ => zOk_or (zk_189_ok l X 3000000 φ _) (zOk_no l X _ φ _)) hH (by simp)
theorem zlr_354 : zlrun [] (zor zk_33_o (zon)) [364] 354 = true := by decide +kernel
theorem zls_354 {l : Launch} {X : zx_X} {N : Nat} (hH : zlHd l X zQ1 N) : zlSt l X zQ1 N 354 := zlrun_g zlr_354 (zAll_mem trivial) (fun φ => zOk_or (zk_33_ok l X 3000000 φ _) (zOk_no l X _ φ _)) hH (zAll_mem ⟨zls_364 hH, trivial⟩)
theorem zlr_382 : zlrun [] (zor zk_190_o (zon)) [] 382 = true := by decide +kernel
theorem zls_382 {l : Launch} {X : zx_X} {N : Nat} (hH : zlHd l X zQ1 N) : zlSt l X zQ1 N 382 := zlrun_g zlr_382 (zAll_mem trivial) (fun φ => zOk_or (zk_190_ok l X 3000000 φ _) (zOk_no l X _ φ _)) hH (by simp)
theorem zlr_377 : zlrun [] (zor zk_36_o (zon)) [382] 377 = true := by decide +kernel
theorem zls_377 {l : Launch} {X : zx_X} {N : Nat} (hH : zlHd l X zQ1 N) : zlSt l X zQ1 N 377 := zlrun_g zlr_377 (zAll_mem trivial) (fun φ => zOk_or (zk_36_ok l X 3000000 φ _) (zOk_no l X _ φ _)) hH (zAll_mem ⟨zls_382 hH, trivial⟩)
theorem zlr_405 : zlrun [] (zor zk_202_o (zon)) [] 405 = true := by decide +kernel
theorem zls_405 {l : Launch} {X : zx_X} {N : Nat} (hH : zlHd l X zQ1 N) : zlSt l X zQ1 N 405 := zlrun_g zlr_405 (zAll_mem trivial) (fun φ => zOk_or (zk_202_ok l X 3000000 φ _) (zOk_no l X _ φ _)) hH (by simp)
theorem zlr_390 : zlrun [] (zor zk_50_o (zon)) [405] 390 = true := by decide +kernel
theorem zls_390 {l : Launch} {X : zx_X} {N : Nat} (hH : zlHd l X zQ1 N) : zlSt l X zQ1 N 390 := zlrun_g zlr_390 (zAll_mem trivial) (fun φ => zOk_or (zk_50_ok l X 3000000 φ _) (zOk_no l X _ φ _)) hH (zAll_mem ⟨zls_405 hH, trivial⟩)
theorem zlr_433 : zlrun [] (zor zk_210_o (zon)) [] 433 = true := by decide +kernel
theorem zls_433 {l : Launch} {X : zx_X} {N : Nat} (hH : zlHd l X zQ1 N) : zlSt l X zQ1 N 433 := zlrun_g zlr_433 (zAll_mem trivial) (fun φ => zOk_or (zk_210_ok l X 3000000 φ _) (zOk_no l X _ φ _)) hH (by simp)
theorem zlr_423 : zlrun [] (zor zk_72_o (zon)) [433] 423 = true := by decide +kernel
theorem zls_423 {l : Launch} {X : zx_X} {N : Nat} (hH : zlHd l X zQ1 N) : zlSt l X zQ1 N 423 := zlrun_g zlr_423 (zAll_mem trivial) (fun φ => zOk_or (zk_72_ok l X 3000000 φ _) (zOk_no l X _ φ _)) hH (zAll_mem ⟨zls_433 hH, trivial⟩)
theorem zlr_456 : zlrun [zj_215_e] (zor zk_209_o (zon)) [] 456 = true := by decide +kernel
theorem zls_456 {l : Launch} {X : zx_X} {N : Nat} (hH : zlHd l X zQ1 N) : zlSt l X zQ1 N 456 := zlrun_g zlr_456 (zAll_mem ⟨zj_215_c, trivial⟩) (fun φ => zOk_or (zk_209_ok l X 3000000 φ _) (zOk_no l X _ φ _)) hH (by simp)
theorem zlr_446 : zlrun [] (zor zk_75_o (zon)) [456] 446 = true := by decide +kernel
theorem zls_446 {l : Launch} {X : zx_X} {N : Nat} (hH : zlHd l X zQ1 N) : zlSt l X zQ1 N 446 := zlrun_g zlr_446 (zAll_mem trivial) (fun φ => zOk_or (zk_75_ok l X 3000000 φ _) (zOk_no l X _ φ _)) hH (zAll_mem ⟨zls_456 hH, trivial⟩)
theorem zlr_484 : zlrun [] (zor zk_217_o (zon)) [] 484 = true := by decide +kernel
theorem zls_484 {l : Launch} {X : zx_X} {N : Nat} (hH : zlHd l X zQ1 N) : zlSt l X zQ1 N 484 := zlrun_g zlr_484 (zAll_mem trivial) (fun φ => zOk_or (zk_217_ok l X 3000000 φ _) (zOk_no l X _ φ _)) hH (by simp)
theorem zlr_469 : zlrun [] (zor zk_83_o (zon)) [484] 469 = true := by decide +kernel
theorem zls_469 {l : Launch} {X : zx_X} {N : Nat} (hH : zlHd l X zQ1 N) : zlSt l X zQ1 N 469 := zlrun_g zlr_469 (zAll_mem trivial) (fun φ => zOk_or (zk_83_ok l X 3000000 φ _) (zOk_no l X _ φ _)) hH (zAll_mem ⟨zls_484 hH, trivial⟩)
theorem zlr_512 : zlrun [] (zor zk_218_o (zon)) [] 512 = true := by decide +kernel
theorem zls_512 {l : Launch} {X : zx_X} {N : Nat} (hH : zlHd l X zQ1 N) : zlSt l X zQ1 N 512 := zlrun_g zlr_512 (zAll_mem trivial) (fun φ => zOk_or (zk_218_ok l X 3000000 φ _) (zOk_no l X _ φ _)) hH (by simp)
theorem zlr_502 : zlrun [] (zor zk_89_o (zon)) [512] 502 = true := by decide +kernel
theorem zls_502 {l : Launch} {X : zx_X} {N : Nat} (hH : zlHd l X zQ1 N) : zlSt l X zQ1 N 502 := zlrun_g zlr_502 (zAll_mem trivial) (fun φ => zOk_or (zk_89_ok l X 3000000 φ _) (zOk_no l X _ φ _)) hH (zAll_mem ⟨zls_512 hH, trivial⟩)
theorem zlr_535 : zlrun [] (zor zk_220_o (zon)) [] 535 = true := by decide +kernel
theorem zls_535 {l : Launch} {X : zx_X} {N : Nat} (hH : zlHd l X zQ1 N) : zlSt l X zQ1 N 535 := zlrun_g zlr_535 (zAll_mem trivial) (fun φ => zOk_or (zk_220_ok l X 3000000 φ _) (zOk_no l X _ φ _)) hH (by simp)
theorem zlr_525 : zlrun [] (zor zk_93_o (zon)) [535] 525 = true := by decide +kernel
theorem zls_525 {l : Launch} {X : zx_X} {N : Nat} (hH : zlHd l X zQ1 N) : zlSt l X zQ1 N 525 := zlrun_g zlr_525 (zAll_mem trivial) (fun φ => zOk_or (zk_93_ok l X 3000000 φ _) (zOk_no l X _ φ _)) hH (zAll_mem ⟨zls_535 hH, trivial⟩)
theorem zlr_563 : zlrun [] (zor zk_224_o (zon)) [] 563 = true := by decide +kernel
theorem zls_563 {l : Launch} {X : zx_X} {N : Nat} (hH : zlHd l X zQ1 N) : zlSt l X zQ1 N 563 := zlrun_g zlr_563 (zAll_mem trivial) (fun φ => zOk_or (zk_224_ok l X 3000000 φ _) (zOk_no l X _ φ _)) hH (by simp)
theorem zlr_548 : zlrun [] (zor zk_100_o (zon)) [563] 548 = true := by decide +kernel
theorem zls_548 {l : Launch} {X : zx_X} {N : Nat} (hH : zlHd l X zQ1 N) : zlSt l X zQ1 N 548 := zlrun_g zlr_548 (zAll_mem trivial) (fun φ => zOk_or (zk_100_ok l X 3000000 φ _) (zOk_no l X _ φ _)) hH (zAll_mem ⟨zls_563 hH, trivial⟩)
theorem zlr_591 : zlrun [] (zor zk_225_o (zon)) [] 591 = true := by decide +kernel
theorem zls_591 {l : Launch} {X : zx_X} {N : Nat} (hH : zlHd l X zQ1 N) : zlSt l X zQ1 N 591 := zlrun_g zlr_591 (zAll_mem trivial) (fun φ => zOk_or (zk_225_ok l X 3000000 φ _) (zOk_no l X _ φ _)) hH (by simp)
theorem zlr_581 : zlrun [] (zor zk_102_o (zon)) [591] 581 = true := by decide +kernel
theorem zls_581 {l : Launch} {X : zx_X} {N : Nat} (hH : zlHd l X zQ1 N) : zlSt l X zQ1 N 581 := zlrun_g zlr_581 (zAll_mem trivial) (fun φ => zOk_or (zk_102_ok l X 3000000 φ _) (zOk_no l X _ φ _)) hH (zAll_mem ⟨zls_591 hH, trivial⟩)
theorem zlr_619 : zlrun [] (zor zk_226_o (zon)) [] 619 = true := by decide +kernel
theorem zls_619 {l : Launch} {X : zx_X} {N : Nat} (hH : zlHd l X zQ1 N) : zlSt l X zQ1 N 619 := zlrun_g zlr_619 (zAll_mem trivial) (fun φ => zOk_or (zk_226_ok l X 3000000 φ _) (zOk_no l X _ φ _)) hH (by simp)
theorem zlr_604 : zlrun [] (zor zk_103_o (zon)) [619] 604 = true := by decide +kernel
theorem zls_604 {l : Launch} {X : zx_X} {N : Nat} (hH : zlHd l X zQ1 N) : zlSt l X zQ1 N 604 := zlrun_g zlr_604 (zAll_mem trivial) (fun φ => zOk_or (zk_103_ok l X 3000000 φ _) (zOk_no l X _ φ _)) hH (zAll_mem ⟨zls_619 hH, trivial⟩)
theorem zlr_652 : zlrun [] (zor zk_228_o (zon)) [] 652 = true := by decide +kernel
theorem zls_652 {l : Launch} {X : zx_X} {N : Nat} (hH : zlHd l X zQ1 N) : zlSt l X zQ1 N 652 := zlrun_g zlr_652 (zAll_mem trivial) (fun φ => zOk_or (zk_228_ok l X 3000000 φ _) (zOk_no l X _ φ _)) hH (by simp)
theorem zlr_637 : zlrun [] (zor zk_106_o (zon)) [652] 637 = true := by decide +kernel
theorem zls_637 {l : Launch} {X : zx_X} {N : Nat} (hH : zlHd l X zQ1 N) : zlSt l X zQ1 N 637 := zlrun_g zlr_637 (zAll_mem trivial) (fun φ => zOk_or (zk_106_ok l X 3000000 φ _) (zOk_no l X _ φ _)) hH (zAll_mem ⟨zls_652 hH, trivial⟩)
theorem zlr_690 : zlrun [] (zor zk_231_o (zon)) [] 690 = true := by decide +kernel
theorem zls_690 {l : Launch} {X : zx_X} {N : Nat} (hH : zlHd l X zQ1 N) : zlSt l X zQ1 N 690 := zlrun_g zlr_690 (zAll_mem trivial) (fun φ => zOk_or (zk_231_ok l X 3000000 φ _) (zOk_no l X _ φ _)) hH (by simp)
theorem zlr_670 : zlrun [] (zor zk_112_o (zon)) [690] 670 = true := by decide +kernel
theorem zls_670 {l : Launch} {X : zx_X} {N : Nat} (hH : zlHd l X zQ1 N) : zlSt l X zQ1 N 670 := zlrun_g zlr_670 (zAll_mem trivial) (fun φ => zOk_or (zk_112_ok l X 3000000 φ _) (zOk_no l X _ φ _)) hH (zAll_mem ⟨zls_690 hH, trivial⟩)
theorem zlr_728 : zlrun [] (zor zk_233_o (zon)) [] 728 = true := by decide +kernel
theorem zls_728 {l : Launch} {X : zx_X} {N : Nat} (hH : zlHd l X zQ1 N) : zlSt l X zQ1 N 728 := zlrun_g zlr_728 (zAll_mem trivial) (fun φ => zOk_or (zk_233_ok l X 3000000 φ _) (zOk_no l X _ φ _)) hH (by simp)
theorem zlr_713 : zlrun [] (zor zk_116_o (zon)) [728] 713 = true := by decide +kernel
theorem zls_713 {l : Launch} {X : zx_X} {N : Nat} (hH : zlHd l X zQ1 N) : zlSt l X zQ1 N 713 := zlrun_g zlr_713 (zAll_mem trivial) (fun φ => zOk_or (zk_116_ok l X 3000000 φ _) (zOk_no l X _ φ _)) hH (zAll_mem ⟨zls_728 hH, trivial⟩)
theorem zlr_761 : zlrun [] (zor zk_234_o (zon)) [] 761 = true := by decide +kernel
theorem zls_761 {l : Launch} {X : zx_X} {N : Nat} (hH : zlHd l X zQ1 N) : zlSt l X zQ1 N 761 := zlrun_g zlr_761 (zAll_mem trivial) (fun φ => zOk_or (zk_234_ok l X 3000000 φ _) (zOk_no l X _ φ _)) hH (by simp)
theorem zlr_746 : zlrun [] (zor zk_119_o (zon)) [761] 746 = true := by decide +kernel
theorem zls_746 {l : Launch} {X : zx_X} {N : Nat} (hH : zlHd l X zQ1 N) : zlSt l X zQ1 N 746 := zlrun_g zlr_746 (zAll_mem trivial) (fun φ => zOk_or (zk_119_ok l X 3000000 φ _) (zOk_no l X _ φ _)) hH (zAll_mem ⟨zls_761 hH, trivial⟩)
theorem zlr_789 : zlrun [] (zor zk_236_o (zon)) [] 789 = true := by decide +kernel
theorem zls_789 {l : Launch} {X : zx_X} {N : Nat} (hH : zlHd l X zQ1 N) : zlSt l X zQ1 N 789 := zlrun_g zlr_789 (zAll_mem trivial) (fun φ => zOk_or (zk_236_ok l X 3000000 φ _) (zOk_no l X _ φ _)) hH (by simp)
theorem zlr_779 : zlrun [] (zor zk_123_o (zon)) [789] 779 = true := by decide +kernel
theorem zls_779 {l : Launch} {X : zx_X} {N : Nat} (hH : zlHd l X zQ1 N) : zlSt l X zQ1 N 779 := zlrun_g zlr_779 (zAll_mem trivial) (fun φ => zOk_or (zk_123_ok l X 3000000 φ _) (zOk_no l X _ φ _)) hH (zAll_mem ⟨zls_789 hH, trivial⟩)
theorem zlr_812 : zlrun [] (zor zk_237_o (zon)) [] 812 = true := by decide +kernel
theorem zls_812 {l : Launch} {X : zx_X} {N : Nat} (hH : zlHd l X zQ1 N) : zlSt l X zQ1 N 812 := zlrun_g zlr_812 (zAll_mem trivial) (fun φ => zOk_or (zk_237_ok l X 3000000 φ _) (zOk_no l X _ φ _)) hH (by simp)
theorem zlr_802 : zlrun [] (zor zk_125_o (zon)) [812] 802 = true := by decide +kernel
theorem zls_802 {l : Launch} {X : zx_X} {N : Nat} (hH : zlHd l X zQ1 N) : zlSt l X zQ1 N 802 := zlrun_g zlr_802 (zAll_mem trivial) (fun φ => zOk_or (zk_125_ok l X 3000000 φ _) (zOk_no l X _ φ _)) hH (zAll_mem ⟨zls_812 hH, trivial⟩)
theorem zlr_845 : zlrun [] (zor zk_239_o (zon)) [] 845 = true := by decide +kernel
theorem zls_845 {l : Launch} {X : zx_X} {N : Nat} (hH : zlHd l X zQ1 N) : zlSt l X zQ1 N 845 := zlrun_g zlr_845 (zAll_mem trivial) (fun φ => zOk_or (zk_239_ok l X 3000000 φ _) (zOk_no l X _ φ _)) hH (by simp)
theorem zlr_825 : zlrun [] (zor zk_129_o (zon)) [845] 825 = true := by decide +kernel
theorem zls_825 {l : Launch} {X : zx_X} {N : Nat} (hH : zlHd l X zQ1 N) : zlSt l X zQ1 N 825 := zlrun_g zlr_825 (zAll_mem trivial) (fun φ => zOk_or (zk_129_ok l X 3000000 φ _) (zOk_no l X _ φ _)) hH (zAll_mem ⟨zls_845 hH, trivial⟩)
theorem zlr_878 : zlrun [] (zor zk_240_o (zon)) [] 878 = true := by decide +kernel
theorem zls_878 {l : Launch} {X : zx_X} {N : Nat} (hH : zlHd l X zQ1 N) : zlSt l X zQ1 N 878 := zlrun_g zlr_878 (zAll_mem trivial) (fun φ => zOk_or (zk_240_ok l X 3000000 φ _) (zOk_no l X _ φ _)) hH (by simp)
theorem zlr_868 : zlrun [] (zor zk_131_o (zon)) [878] 868 = true := by decide +kernel
theorem zls_868 {l : Launch} {X : zx_X} {N : Nat} (hH : zlHd l X zQ1 N) : zlSt l X zQ1 N 868 := zlrun_g zlr_868 (zAll_mem trivial) (fun φ => zOk_or (zk_131_ok l X 3000000 φ _) (zOk_no l X _ φ _)) hH (zAll_mem ⟨zls_878 hH, trivial⟩)
theorem zlr_901 : zlrun [] (zor zk_241_o (zon)) [] 901 = true := by decide +kernel
theorem zls_901 {l : Launch} {X : zx_X} {N : Nat} (hH : zlHd l X zQ1 N) : zlSt l X zQ1 N 901 := zlrun_g zlr_901 (zAll_mem trivial) (fun φ => zOk_or (zk_241_ok l X 3000000 φ _) (zOk_no l X _ φ _)) hH (by simp)
theorem zlr_891 : zlrun [] (zor zk_133_o (zon)) [901] 891 = true := by decide +kernel
theorem zls_891 {l : Launch} {X : zx_X} {N : Nat} (hH : zlHd l X zQ1 N) : zlSt l X zQ1 N 891 := zlrun_g zlr_891 (zAll_mem trivial) (fun φ => zOk_or (zk_133_ok l X 3000000 φ _) (zOk_no l X _ φ _)) hH (zAll_mem ⟨zls_901 hH, trivial⟩)
theorem zlr_924 : zlrun [] (zor zk_242_o (zon)) [] 924 = true := by decide +kernel
theorem zls_924 {l : Launch} {X : zx_X} {N : Nat} (hH : zlHd l X zQ1 N) : zlSt l X zQ1 N 924 := zlrun_g zlr_924 (zAll_mem trivial) (fun φ => zOk_or (zk_242_ok l X 3000000 φ _) (zOk_no l X _ φ _)) hH (by simp)
theorem zlr_914 : zlrun [] (zor zk_135_o (zon)) [924] 914 = true := by decide +kernel
theorem zls_914 {l : Launch} {X : zx_X} {N : Nat} (hH : zlHd l X zQ1 N) : zlSt l X zQ1 N 914 := zlrun_g zlr_914 (zAll_mem trivial) (fun φ => zOk_or (zk_135_ok l X 3000000 φ _) (zOk_no l X _ φ _)) hH (zAll_mem ⟨zls_924 hH, trivial⟩)
theorem zlr_952 : zlrun [] (zor zk_243_o (zon)) [] 952 = true := by decide +kernel
theorem zls_952 {l : Launch} {X : zx_X} {N : Nat} (hH : zlHd l X zQ1 N) : zlSt l X zQ1 N 952 := zlrun_g zlr_952 (zAll_mem trivial) (fun φ => zOk_or (zk_243_ok l X 3000000 φ _) (zOk_no l X _ φ _)) hH (by simp)
theorem zlr_937 : zlrun [] (zor zk_137_o (zon)) [952] 937 = true := by decide +kernel
theorem zls_937 {l : Launch} {X : zx_X} {N : Nat} (hH : zlHd l X zQ1 N) : zlSt l X zQ1 N 937 := zlrun_g zlr_937 (zAll_mem trivial) (fun φ => zOk_or (zk_137_ok l X 3000000 φ _) (zOk_no l X _ φ _)) hH (zAll_mem ⟨zls_952 hH, trivial⟩)
theorem zlr_980 : zlrun [] (zor zk_244_o (zon)) [] 980 = true := by decide +kernel
theorem zls_980 {l : Launch} {X : zx_X} {N : Nat} (hH : zlHd l X zQ1 N) : zlSt l X zQ1 N 980 := zlrun_g zlr_980 (zAll_mem trivial) (fun φ => zOk_or (zk_244_ok l X 3000000 φ _) (zOk_no l X _ φ _)) hH (by simp)
theorem zlr_970 : zlrun [] (zor zk_139_o (zon)) [980] 970 = true := by decide +kernel
theorem zls_970 {l : Launch} {X : zx_X} {N : Nat} (hH : zlHd l X zQ1 N) : zlSt l X zQ1 N 970 := zlrun_g zlr_970 (zAll_mem trivial) (fun φ => zOk_or (zk_139_ok l X 3000000 φ _) (zOk_no l X _ φ _)) hH (zAll_mem ⟨zls_980 hH, trivial⟩)
theorem zlr_998 : zlrun [] (zor zk_245_o (zon)) [] 998 = true := by decide +kernel
theorem zls_998 {l : Launch} {X : zx_X} {N : Nat} (hH : zlHd l X zQ1 N) : zlSt l X zQ1 N 998 := zlrun_g zlr_998 (zAll_mem trivial) (fun φ => zOk_or (zk_245_ok l X 3000000 φ _) (zOk_no l X _ φ _)) hH (by simp)
theorem zlr_993 : zlrun [] (zor zk_140_o (zon)) [998] 993 = true := by decide +kernel
theorem zls_993 {l : Launch} {X : zx_X} {N : Nat} (hH : zlHd l X zQ1 N) : zlSt l X zQ1 N 993 := zlrun_g zlr_993 (zAll_mem trivial) (fun φ => zOk_or (zk_140_ok l X 3000000 φ _) (zOk_no l X _ φ _)) hH (zAll_mem ⟨zls_998 hH, trivial⟩)
theorem zlr_1011 : zlrun [] (zor zk_246_o (zon)) [] 1011 = true := by decide +kernel
theorem zls_1011 {l : Launch} {X : zx_X} {N : Nat} (hH : zlHd l X zQ1 N) : zlSt l X zQ1 N 1011 := zlrun_g zlr_1011 (zAll_mem trivial) (fun φ => zOk_or (zk_246_ok l X 3000000 φ _) (zOk_no l X _ φ _)) hH (by simp)
theorem zlr_1006 : zlrun [] (zor zk_142_o (zon)) [1011] 1006 = true := by decide +kernel
theorem zls_1006 {l : Launch} {X : zx_X} {N : Nat} (hH : zlHd l X zQ1 N) : zlSt l X zQ1 N 1006 := zlrun_g zlr_1006 (zAll_mem trivial) (fun φ => zOk_or (zk_142_ok l X 3000000 φ _) (zOk_no l X _ φ _)) hH (zAll_mem ⟨zls_1011 hH, trivial⟩)
theorem zlr_1024 : zlrun [zj_176_e] (zon) [] 1024 = true := by decide +kernel
theorem zls_1024 {l : Launch} {X : zx_X} {N : Nat} (hH : zlHd l X zQ1 N) : zlSt l X zQ1 N 1024 := zlrun_g zlr_1024 (zAll_mem ⟨zj_176_c, trivial⟩) (fun φ => zOk_no l X _ φ _) hH (by simp)
theorem zlr_1019 : zlrun [zj_144_e] (zon) [1024] 1019 = true := by decide +kernel
theorem zls_1019 {l : Launch} {X : zx_X} {N : Nat} (hH : zlHd l X zQ1 N) : zlSt l X zQ1 N 1019 := zlrun_g zlr_1019 (zAll_mem ⟨zj_144_c, trivial⟩) (fun φ => zOk_no l X _ φ _) hH (zAll_mem ⟨zls_1024 hH, trivial⟩)
theorem zlr_1037 : zlrun [zj_177_e] (zon) [] 1037 = true := by decide +kernel
theorem zls_1037 {l : Launch} {X : zx_X} {N : Nat} (hH : zlHd l X zQ1 N) : zlSt l X zQ1 N 1037 := zlrun_g zlr_1037 (zAll_mem ⟨zj_177_c, trivial⟩) (fun φ => zOk_no l X _ φ _) hH (by simp)
theorem zlr_1032 : zlrun [zj_146_e] (zon) [1037] 1032 = true := by decide +kernel
theorem zls_1032 {l : Launch} {X : zx_X} {N : Nat} (hH : zlHd l X zQ1 N) : zlSt l X zQ1 N 1032 := zlrun_g zlr_1032 (zAll_mem ⟨zj_146_c, trivial⟩) (fun φ => zOk_no l X _ φ _) hH (zAll_mem ⟨zls_1037 hH, trivial⟩)
theorem zlr_1045 : zlrunN (zon) (27, 2, 43, 28) ((.ofNat 0), (.ofNat 50)) 1045 = true := by decide +kernel
theorem zls_1045 {l : Launch} {X : zx_X} {N : Nat} (hH : zlHd l X zQ1 N) : zlSt l X zQ1 N 1045 := zlrunN_g (p := (27, 2, 43, 28)) (q := ((.ofNat 0), (.ofNat 50))) (by decide) (by decide +kernel) (by decide +kernel) zlr_1045 (fun φ => zOk_no l X _ φ _) hH
theorem zlr_1088 : zlrun [] (zor zk_248_o (zon)) [] 1088 = true := by decide +kernel
theorem zls_1088 {l : Launch} {X : zx_X} {N : Nat} (hH : zlHd l X zQ1 N) : zlSt l X zQ1 N 1088 := zlrun_g zlr_1088 (zAll_mem trivial) (fun φ => zOk_or (zk_248_ok l X 3000000 φ _) (zOk_no l X _ φ _)) hH (by simp)
theorem zlr_1068 : zlrun [] (zor zk_152_o (zon)) [1088] 1068 = true := by decide +kernel
theorem zls_1068 {l : Launch} {X : zx_X} {N : Nat} (hH : zlHd l X zQ1 N) : zlSt l X zQ1 N 1068 := zlrun_g zlr_1068 (zAll_mem trivial) (fun φ => zOk_or (zk_152_ok l X 3000000 φ _) (zOk_no l X _ φ _)) hH (zAll_mem ⟨zls_1088 hH, trivial⟩)
theorem zlr_1121 : zlrun [] (zor zk_255_o (zon)) [] 1121 = true := by decide +kernel
theorem zls_1121 {l : Launch} {X : zx_X} {N : Nat} (hH : zlHd l X zQ1 N) : zlSt l X zQ1 N 1121 := zlrun_g zlr_1121 (zAll_mem trivial) (fun φ => zOk_or (zk_255_ok l X 3000000 φ _) (zOk_no l X _ φ _)) hH (by simp)
theorem zlr_1111 : zlrun [] (zor zk_159_o (zon)) [1121] 1111 = true := by decide +kernel
theorem zls_1111 {l : Launch} {X : zx_X} {N : Nat} (hH : zlHd l X zQ1 N) : zlSt l X zQ1 N 1111 := zlrun_g zlr_1111 (zAll_mem trivial) (fun φ => zOk_or (zk_159_ok l X 3000000 φ _) (zOk_no l X _ φ _)) hH (zAll_mem ⟨zls_1121 hH, trivial⟩)
