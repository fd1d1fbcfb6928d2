/-! PART 21, 5: cases of the law, run -/
set_option maxRecDepth 100000 in
theorem zr_35_0 : zxp 6 zfin1 zno zon 90000 0 2000 1167 (zTs (zrf (zSk 35) (1, 1) (-2147483648, -1))) [] = true := by decide +kernel
set_option maxRecDepth 100000 in
theorem zr_35_1 : zxp 6 zfin1 zno zon 90000 0 2000 1167 (zTs (zrf (zSk 35) (1, 1) (0, 0))) [] = true := by decide +kernel
set_option maxRecDepth 100000 in
theorem zr_35_2 : zxp 6 zfin1 zno zon 90000 0 2000 1167 (zTs (zrf (zSk 35) (1, 1) (1, 1))) [] = true := by decide +kernel
set_option maxRecDepth 100000 in
theorem zr_35_3 : zxp 6 zfin1 zno zon 90000 0 2000 1167 (zTs (zrf (zSk 35) (1, 1) (2, 2))) [] = true := by decide +kernel
set_option maxRecDepth 100000 in
theorem zr_35_4 : zxp 6 zfin1 zno zon 90000 0 2000 1167 (zTs (zrf (zSk 35) (1, 1) (3, 3))) [] = true := by decide +kernel
set_option maxRecDepth 100000 in
theorem zr_35_5 : zxp 6 zfin1 zno zon 90000 0 2000 1167 (zTs (zrf (zSk 35) (1, 1) (4, 4))) [] = true := by decide +kernel
set_option maxRecDepth 100000 in
theorem zr_35_6 : zxp 6 zfin1 zno zon 90000 0 2000 1167 (zTs (zrf (zSk 35) (1, 1) (5, 5))) [] = true := by decide +kernel
set_option maxRecDepth 100000 in
theorem zr_35_7 : zxp 6 zfin1 zno zon 90000 0 2000 1167 (zTs (zrf (zSk 35) (1, 1) (6, 2147483647))) [] = true := by decide +kernel
theorem zcs_35 (l : Launch) (X : zx_X) : zGood l X 6 1167 (zTs (zSk 35)) := by
  refine zGood_split (i := 1) rfl (fun n h1 h2 => ?_)
  rcases (by omega : (-2147483648 ≤ n ∧ n ≤ -1) ∨ (0 ≤ n ∧ n ≤ 0) ∨ (1 ≤ n ∧ n ≤ 1) ∨ (2 ≤ n ∧ n ≤ 2) ∨ (3 ≤ n ∧ n ≤ 3) ∨ (4 ≤ n ∧ n ≤ 4) ∨ (5 ≤ n ∧ n ≤ 5) ∨ (6 ≤ n ∧ n ≤ 2147483647)) with h | h | h | h | h | h | h | h
  · exact ⟨(-2147483648, -1), h.1, h.2, zGood_run zr_35_0⟩
  · exact ⟨(0, 0), h.1, h.2, zGood_run zr_35_1⟩
  · exact ⟨(1, 1), h.1, h.2, zGood_run zr_35_2⟩
  · exact ⟨(2, 2), h.1, h.2, zGood_run zr_35_3⟩
  · exact ⟨(3, 3), h.1, h.2, zGood_run zr_35_4⟩
  · exact ⟨(4, 4), h.1, h.2, zGood_run zr_35_5⟩
  · exact ⟨(5, 5), h.1, h.2, zGood_run zr_35_6⟩
  · exact ⟨(6, 2147483647), h.1, h.2, zGood_run zr_35_7⟩
