/-! PART 21, 6: cases of the law, run -/
set_option maxRecDepth 100000 in
theorem zr_10_0 : zxp 6 zfin1 zno zon 90000 0 2000 502 (zTs (zrf (zSk 10) (1, 1) (-2147483648, -1))) [] = true := by decide +kernel
set_option maxRecDepth 100000 in
theorem zr_10_1 : zxp 6 zfin1 zno zon 90000 0 2000 502 (zTs (zrf (zSk 10) (1, 1) (0, 0))) [] = true := by decide +kernel
set_option maxRecDepth 100000 in
theorem zr_10_2 : zxp 6 zfin1 zno zon 90000 0 2000 502 (zTs (zrf (zSk 10) (1, 1) (1, 1))) [] = true := by decide +kernel
set_option maxRecDepth 100000 in
theorem zr_10_3 : zxp 6 zfin1 zno zon 90000 0 2000 502 (zTs (zrf (zSk 10) (1, 1) (2, 2147483647))) [] = true := by decide +kernel
theorem zcs_10 (l : Launch) (X : zx_X) : zGood l X 6 502 (zTs (zSk 10)) := by
  refine zGood_split (i := 1) rfl (fun n h1 h2 => ?_)
  rcases (by omega : (-2147483648 ≤ n ∧ n ≤ -1) ∨ (0 ≤ n ∧ n ≤ 0) ∨ (1 ≤ n ∧ n ≤ 1) ∨ (2 ≤ n ∧ n ≤ 2147483647)) with h | h | h | h
  · exact ⟨(-2147483648, -1), h.1, h.2, zGood_run zr_10_0⟩
  · exact ⟨(0, 0), h.1, h.2, zGood_run zr_10_1⟩
  · exact ⟨(1, 1), h.1, h.2, zGood_run zr_10_2⟩
  · exact ⟨(2, 2147483647), h.1, h.2, zGood_run zr_10_3⟩
