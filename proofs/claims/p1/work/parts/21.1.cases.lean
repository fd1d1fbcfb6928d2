/-! PART 21, 1: cases of the law, run -/
set_option maxRecDepth 100000 in
theorem zr_2 : zxp 6 zfin1 zno zon 90000 0 2000 278 (zTs (zSk 2)) [] = true := by decide +kernel
theorem zcs_2 (l : Launch) (X : zx_X) : zGood l X 6 278 (zTs (zSk 2)) := zGood_run zr_2
set_option maxRecDepth 100000 in
theorem zr_9 : zxp 6 zfin1 zno zon 90000 0 2000 469 (zTs (zSk 9)) [] = true := by decide +kernel
theorem zcs_9 (l : Launch) (X : zx_X) : zGood l X 6 469 (zTs (zSk 9)) := zGood_run zr_9
