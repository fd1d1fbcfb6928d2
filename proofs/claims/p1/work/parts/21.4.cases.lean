/-! PART 21, 4: cases of the law, run -/
set_option maxRecDepth 100000 in
theorem zr_22_0 : zxp 6 zfin1 zno zon 90000 0 2000 868 (zTs (zrf (zSk 22) (1, 1) (-2147483648, -1))) [] = true := by decide +kernel
set_option maxRecDepth 100000 in
theorem zr_22_1 : zxp 6 zfin1 zno zon 90000 0 2000 868 (zTs (zrf (zSk 22) (1, 1) (0, 5))) [] = true := by decide +kernel
set_option maxRecDepth 100000 in
theorem zr_22_2 : zxp 6 zfin1 zno zon 90000 0 2000 868 (zTs (zrf (zSk 22) (1, 1) (6, 11))) [] = true := by decide +kernel
set_option maxRecDepth 100000 in
theorem zr_22_3 : zxp 6 zfin1 zno zon 90000 0 2000 868 (zTs (zrf (zSk 22) (1, 1) (12, 17))) [] = true := by decide +kernel
set_option maxRecDepth 100000 in
theorem zr_22_4 : zxp 6 zfin1 zno zon 90000 0 2000 868 (zTs (zrf (zSk 22) (1, 1) (18, 23))) [] = true := by decide +kernel
set_option maxRecDepth 100000 in
theorem zr_22_5 : zxp 6 zfin1 zno zon 90000 0 2000 868 (zTs (zrf (zSk 22) (1, 1) (24, 2147483647))) [] = true := by decide +kernel
theorem zcs_22 (l : Launch) (X : zx_X) : zGood l X 6 868 (zTs (zSk 22)) := by
  refine zGood_split (i := 1) rfl (fun n h1 h2 => ?_)
  rcases (by omega : (-2147483648 ≤ n ∧ n ≤ -1) ∨ (0 ≤ n ∧ n ≤ 5) ∨ (6 ≤ n ∧ n ≤ 11) ∨ (12 ≤ n ∧ n ≤ 17) ∨ (18 ≤ n ∧ n ≤ 23) ∨ (24 ≤ n ∧ n ≤ 2147483647)) with h | h | h | h | h | h
  · exact ⟨(-2147483648, -1), h.1, h.2, zGood_run zr_22_0⟩
  · exact ⟨(0, 5), h.1, h.2, zGood_run zr_22_1⟩
  · exact ⟨(6, 11), h.1, h.2, zGood_run zr_22_2⟩
  · exact ⟨(12, 17), h.1, h.2, zGood_run zr_22_3⟩
  · exact ⟨(18, 23), h.1, h.2, zGood_run zr_22_4⟩
  · exact ⟨(24, 2147483647), h.1, h.2, zGood_run zr_22_5⟩
