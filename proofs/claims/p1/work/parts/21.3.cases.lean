/-! PART 21, 3: cases of the law, run -/
set_option maxRecDepth 100000 in
theorem zr_7_0 : zxp 6 zfin1 zno zon 90000 0 2000 423 (zTs (zrf (zSk 7) (1, 1) (-2147483648, -1))) [] = true := by decide +kernel
set_option maxRecDepth 100000 in
theorem zr_7_1 : zxp 6 zfin1 zno zon 90000 0 2000 423 (zTs (zrf (zSk 7) (1, 1) (0, 3))) [] = true := by decide +kernel
set_option maxRecDepth 100000 in
theorem zr_7_2 : zxp 6 zfin1 zno zon 90000 0 2000 423 (zTs (zrf (zSk 7) (1, 1) (4, 7))) [] = true := by decide +kernel
set_option maxRecDepth 100000 in
theorem zr_7_3 : zxp 6 zfin1 zno zon 90000 0 2000 423 (zTs (zrf (zSk 7) (1, 1) (8, 11))) [] = true := by decide +kernel
set_option maxRecDepth 100000 in
theorem zr_7_4 : zxp 6 zfin1 zno zon 90000 0 2000 423 (zTs (zrf (zSk 7) (1, 1) (12, 15))) [] = true := by decide +kernel
set_option maxRecDepth 100000 in
theorem zr_7_5 : zxp 6 zfin1 zno zon 90000 0 2000 423 (zTs (zrf (zSk 7) (1, 1) (16, 19))) [] = true := by decide +kernel
set_option maxRecDepth 100000 in
theorem zr_7_6 : zxp 6 zfin1 zno zon 90000 0 2000 423 (zTs (zrf (zSk 7) (1, 1) (20, 23))) [] = true := by decide +kernel
set_option maxRecDepth 100000 in
theorem zr_7_7 : zxp 6 zfin1 zno zon 90000 0 2000 423 (zTs (zrf (zSk 7) (1, 1) (24, 2147483647))) [] = true := by decide +kernel
theorem zcs_7 (l : Launch) (X : zx_X) : zGood l X 6 423 (zTs (zSk 7)) := by
  refine zGood_split (i := 1) rfl (fun n h1 h2 => ?_)
  rcases (by omega : (-2147483648 ≤ n ∧ n ≤ -1) ∨ (0 ≤ n ∧ n ≤ 3) ∨ (4 ≤ n ∧ n ≤ 7) ∨ (8 ≤ n ∧ n ≤ 11) ∨ (12 ≤ n ∧ n ≤ 15) ∨ (16 ≤ n ∧ n ≤ 19) ∨ (20 ≤ n ∧ n ≤ 23) ∨ (24 ≤ n ∧ n ≤ 2147483647)) with h | h | h | h | h | h | h | h
  · exact ⟨(-2147483648, -1), h.1, h.2, zGood_run zr_7_0⟩
  · exact ⟨(0, 3), h.1, h.2, zGood_run zr_7_1⟩
  · exact ⟨(4, 7), h.1, h.2, zGood_run zr_7_2⟩
  · exact ⟨(8, 11), h.1, h.2, zGood_run zr_7_3⟩
  · exact ⟨(12, 15), h.1, h.2, zGood_run zr_7_4⟩
  · exact ⟨(16, 19), h.1, h.2, zGood_run zr_7_5⟩
  · exact ⟨(20, 23), h.1, h.2, zGood_run zr_7_6⟩
  · exact ⟨(24, 2147483647), h.1, h.2, zGood_run zr_7_7⟩
