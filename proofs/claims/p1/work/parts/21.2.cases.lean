/-! PART 21, 2: cases of the law, run -/
set_option maxRecDepth 100000 in
theorem zr_16 : zxp 6 zfin1 zno zon 90000 0 2000 670 (zTs (zSk 16)) [] = true := by decide +kernel
theorem zcs_16 (l : Launch) (X : zx_X) : zGood l X 6 670 (zTs (zSk 16)) := zGood_run zr_16
set_option maxRecDepth 100000 in
theorem zr_20 : zxp 6 zfin1 zno zon 90000 0 2000 802 (zTs (zSk 20)) [] = true := by decide +kernel
theorem zcs_20 (l : Launch) (X : zx_X) : zGood l X 6 802 (zTs (zSk 20)) := zGood_run zr_20
set_option maxRecDepth 100000 in
theorem zr_38 : zxp 6 zfin1 zno zon 90000 0 2000 1317 (zTs (zSk 38)) [] = true := by decide +kernel
theorem zcs_38 (l : Launch) (X : zx_X) : zGood l X 6 1317 (zTs (zSk 38)) := zGood_run zr_38
