/-! PART 22, 4: the law's case of board -/
theorem zGood_runO {l : Launch} {X : zx_X} {XL n pc : Nat} {t : zA_T} (h : zxp XL zfin1 zno zorcB n 0 2000 pc t [] = true) : zGood l X XL pc t :=
  zxp_ok (l := l) (Q0 := zQ1) (φ := []) (P := zPt) zall (fun _ _ _ h => h) zfin1_ok (zOk_B l X XL []) (zCt_no l X XL [] zPt zQ1) n 0 2000 pc t [] (by decide) h
set_option maxRecDepth 100000 in
theorem zr_8_0 : zxp 6 zfin1 zno zorcB 90000 0 2000 446 (zTs (zrf (zSk 8) (1, 1) (-2147483648, -1))) [] = true := by decide +kernel
set_option maxRecDepth 100000 in
theorem zr_8_1 : zxp 6 zfin1 zno zorcB 90000 0 2000 446 (zTs (zrf (zSk 8) (1, 1) (0, 0))) [] = true := by decide +kernel
set_option maxRecDepth 100000 in
theorem zr_8_2 : zxp 6 zfin1 zno zorcB 90000 0 2000 446 (zTs (zrf (zSk 8) (1, 1) (1, 1))) [] = true := by decide +kernel
set_option maxRecDepth 100000 in
theorem zr_8_3 : zxp 6 zfin1 zno zorcB 90000 0 2000 446 (zTs (zrf (zSk 8) (1, 1) (2, 2))) [] = true := by decide +kernel
set_option maxRecDepth 100000 in
theorem zr_8_4 : zxp 6 zfin1 zno zorcB 90000 0 2000 446 (zTs (zrf (zSk 8) (1, 1) (3, 3))) [] = true := by decide +kernel
set_option maxRecDepth 100000 in
theorem zr_8_5 : zxp 6 zfin1 zno zorcB 90000 0 2000 446 (zTs (zrf (zSk 8) (1, 1) (4, 2147483647))) [] = true := by decide +kernel
theorem zcs_8 (l : Launch) (X : zx_X) : zGood l X 6 446 (zTs (zSk 8)) := by
  refine zGood_split (i := 1) rfl (fun n h1 h2 => ?_)
  rcases (by omega : (-2147483648 ≤ n ∧ n ≤ -1) ∨ (0 ≤ n ∧ n ≤ 0) ∨ (1 ≤ n ∧ n ≤ 1) ∨ (2 ≤ n ∧ n ≤ 2) ∨ (3 ≤ n ∧ n ≤ 3) ∨ (4 ≤ n ∧ n ≤ 2147483647)) with h | h | h | h | h | h
  · exact ⟨(-2147483648, -1), h.1, h.2, zGood_runO zr_8_0⟩
  · exact ⟨(0, 0), h.1, h.2, zGood_runO zr_8_1⟩
  · exact ⟨(1, 1), h.1, h.2, zGood_runO zr_8_2⟩
  · exact ⟨(2, 2), h.1, h.2, zGood_runO zr_8_3⟩
  · exact ⟨(3, 3), h.1, h.2, zGood_runO zr_8_4⟩
  · exact ⟨(4, 2147483647), h.1, h.2, zGood_runO zr_8_5⟩
