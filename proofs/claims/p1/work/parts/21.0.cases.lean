/-! PART 21, 0: cases of the law, run -/
set_option maxRecDepth 100000 in
theorem zr_0 : zxp 6 zfin1 zno zon 90000 0 2000 212 (zTs (zSk 0)) [] = true := by decide +kernel
theorem zcs_0 (l : Launch) (X : zx_X) : zGood l X 6 212 (zTs (zSk 0)) := zGood_run zr_0
set_option maxRecDepth 100000 in
theorem zr_1 : zxp 6 zfin1 zno zon 90000 0 2000 235 (zTs (zSk 1)) [] = true := by decide +kernel
theorem zcs_1 (l : Launch) (X : zx_X) : zGood l X 6 235 (zTs (zSk 1)) := zGood_run zr_1
set_option maxRecDepth 100000 in
theorem zr_3 : zxp 6 zfin1 zno zon 90000 0 2000 321 (zTs (zSk 3)) [] = true := by decide +kernel
theorem zcs_3 (l : Launch) (X : zx_X) : zGood l X 6 321 (zTs (zSk 3)) := zGood_run zr_3
set_option maxRecDepth 100000 in
theorem zr_4 : zxp 6 zfin1 zno zon 90000 0 2000 354 (zTs (zSk 4)) [] = true := by decide +kernel
theorem zcs_4 (l : Launch) (X : zx_X) : zGood l X 6 354 (zTs (zSk 4)) := zGood_run zr_4
set_option maxRecDepth 100000 in
theorem zr_5 : zxp 6 zfin1 zno zon 90000 0 2000 377 (zTs (zSk 5)) [] = true := by decide +kernel
theorem zcs_5 (l : Launch) (X : zx_X) : zGood l X 6 377 (zTs (zSk 5)) := zGood_run zr_5
set_option maxRecDepth 100000 in
theorem zr_6 : zxp 6 zfin1 zno zon 90000 0 2000 390 (zTs (zSk 6)) [] = true := by decide +kernel
theorem zcs_6 (l : Launch) (X : zx_X) : zGood l X 6 390 (zTs (zSk 6)) := zGood_run zr_6
set_option maxRecDepth 100000 in
theorem zr_11 : zxp 6 zfin1 zno zon 90000 0 2000 525 (zTs (zSk 11)) [] = true := by decide +kernel
theorem zcs_11 (l : Launch) (X : zx_X) : zGood l X 6 525 (zTs (zSk 11)) := zGood_run zr_11
set_option maxRecDepth 100000 in
theorem zr_12 : zxp 6 zfin1 zno zon 90000 0 2000 548 (zTs (zSk 12)) [] = true := by decide +kernel
theorem zcs_12 (l : Launch) (X : zx_X) : zGood l X 6 548 (zTs (zSk 12)) := zGood_run zr_12
set_option maxRecDepth 100000 in
theorem zr_13 : zxp 6 zfin1 zno zon 90000 0 2000 581 (zTs (zSk 13)) [] = true := by decide +kernel
theorem zcs_13 (l : Launch) (X : zx_X) : zGood l X 6 581 (zTs (zSk 13)) := zGood_run zr_13
set_option maxRecDepth 100000 in
theorem zr_14 : zxp 6 zfin1 zno zon 90000 0 2000 604 (zTs (zSk 14)) [] = true := by decide +kernel
theorem zcs_14 (l : Launch) (X : zx_X) : zGood l X 6 604 (zTs (zSk 14)) := zGood_run zr_14
set_option maxRecDepth 100000 in
theorem zr_15 : zxp 6 zfin1 zno zon 90000 0 2000 637 (zTs (zSk 15)) [] = true := by decide +kernel
theorem zcs_15 (l : Launch) (X : zx_X) : zGood l X 6 637 (zTs (zSk 15)) := zGood_run zr_15
set_option maxRecDepth 100000 in
theorem zr_17 : zxp 6 zfin1 zno zon 90000 0 2000 713 (zTs (zSk 17)) [] = true := by decide +kernel
theorem zcs_17 (l : Launch) (X : zx_X) : zGood l X 6 713 (zTs (zSk 17)) := zGood_run zr_17
set_option maxRecDepth 100000 in
theorem zr_18 : zxp 6 zfin1 zno zon 90000 0 2000 746 (zTs (zSk 18)) [] = true := by decide +kernel
theorem zcs_18 (l : Launch) (X : zx_X) : zGood l X 6 746 (zTs (zSk 18)) := zGood_run zr_18
set_option maxRecDepth 100000 in
theorem zr_19 : zxp 6 zfin1 zno zon 90000 0 2000 779 (zTs (zSk 19)) [] = true := by decide +kernel
theorem zcs_19 (l : Launch) (X : zx_X) : zGood l X 6 779 (zTs (zSk 19)) := zGood_run zr_19
set_option maxRecDepth 100000 in
theorem zr_23 : zxp 6 zfin1 zno zon 90000 0 2000 891 (zTs (zSk 23)) [] = true := by decide +kernel
theorem zcs_23 (l : Launch) (X : zx_X) : zGood l X 6 891 (zTs (zSk 23)) := zGood_run zr_23
set_option maxRecDepth 100000 in
theorem zr_24 : zxp 6 zfin1 zno zon 90000 0 2000 914 (zTs (zSk 24)) [] = true := by decide +kernel
theorem zcs_24 (l : Launch) (X : zx_X) : zGood l X 6 914 (zTs (zSk 24)) := zGood_run zr_24
set_option maxRecDepth 100000 in
theorem zr_25 : zxp 6 zfin1 zno zon 90000 0 2000 937 (zTs (zSk 25)) [] = true := by decide +kernel
theorem zcs_25 (l : Launch) (X : zx_X) : zGood l X 6 937 (zTs (zSk 25)) := zGood_run zr_25
set_option maxRecDepth 100000 in
theorem zr_26 : zxp 6 zfin1 zno zon 90000 0 2000 970 (zTs (zSk 26)) [] = true := by decide +kernel
theorem zcs_26 (l : Launch) (X : zx_X) : zGood l X 6 970 (zTs (zSk 26)) := zGood_run zr_26
set_option maxRecDepth 100000 in
theorem zr_27 : zxp 6 zfin1 zno zon 90000 0 2000 993 (zTs (zSk 27)) [] = true := by decide +kernel
theorem zcs_27 (l : Launch) (X : zx_X) : zGood l X 6 993 (zTs (zSk 27)) := zGood_run zr_27
set_option maxRecDepth 100000 in
theorem zr_28 : zxp 6 zfin1 zno zon 90000 0 2000 1006 (zTs (zSk 28)) [] = true := by decide +kernel
theorem zcs_28 (l : Launch) (X : zx_X) : zGood l X 6 1006 (zTs (zSk 28)) := zGood_run zr_28
set_option maxRecDepth 100000 in
theorem zr_29 : zxp 6 zfin1 zno zon 90000 0 2000 1019 (zTs (zSk 29)) [] = true := by decide +kernel
theorem zcs_29 (l : Launch) (X : zx_X) : zGood l X 6 1019 (zTs (zSk 29)) := zGood_run zr_29
set_option maxRecDepth 100000 in
theorem zr_30 : zxp 6 zfin1 zno zon 90000 0 2000 1032 (zTs (zSk 30)) [] = true := by decide +kernel
theorem zcs_30 (l : Launch) (X : zx_X) : zGood l X 6 1032 (zTs (zSk 30)) := zGood_run zr_30
set_option maxRecDepth 100000 in
theorem zr_31 : zxp 6 zfin1 zno zon 90000 0 2000 1045 (zTs (zSk 31)) [] = true := by decide +kernel
theorem zcs_31 (l : Launch) (X : zx_X) : zGood l X 6 1045 (zTs (zSk 31)) := zGood_run zr_31
set_option maxRecDepth 100000 in
theorem zr_32 : zxp 6 zfin1 zno zon 90000 0 2000 1068 (zTs (zSk 32)) [] = true := by decide +kernel
theorem zcs_32 (l : Launch) (X : zx_X) : zGood l X 6 1068 (zTs (zSk 32)) := zGood_run zr_32
set_option maxRecDepth 100000 in
theorem zr_33 : zxp 6 zfin1 zno zon 90000 0 2000 1111 (zTs (zSk 33)) [] = true := by decide +kernel
theorem zcs_33 (l : Launch) (X : zx_X) : zGood l X 6 1111 (zTs (zSk 33)) := zGood_run zr_33
set_option maxRecDepth 100000 in
theorem zr_34 : zxp 6 zfin1 zno zon 90000 0 2000 1134 (zTs (zSk 34)) [] = true := by decide +kernel
theorem zcs_34 (l : Launch) (X : zx_X) : zGood l X 6 1134 (zTs (zSk 34)) := zGood_run zr_34
set_option maxRecDepth 100000 in
theorem zr_36 : zxp 6 zfin1 zno zon 90000 0 2000 1210 (zTs (zSk 36)) [] = true := by decide +kernel
theorem zcs_36 (l : Launch) (X : zx_X) : zGood l X 6 1210 (zTs (zSk 36)) := zGood_run zr_36
set_option maxRecDepth 100000 in
theorem zr_37 : zxp 6 zfin1 zno zon 90000 0 2000 1283 (zTs (zSk 37)) [] = true := by decide +kernel
theorem zcs_37 (l : Launch) (X : zx_X) : zGood l X 6 1283 (zTs (zSk 37)) := zGood_run zr_37
set_option maxRecDepth 100000 in
theorem zr_39 : zxp 6 zfin1 zno zon 90000 0 2000 1380 (zTs (zSk 39)) [] = true := by decide +kernel
theorem zcs_39 (l : Launch) (X : zx_X) : zGood l X 6 1380 (zTs (zSk 39)) := zGood_run zr_39
set_option maxRecDepth 100000 in
theorem zr_40 : zxp 6 zfin1 zno zon 90000 0 2000 1413 (zTs (zSk 40)) [] = true := by decide +kernel
theorem zcs_40 (l : Launch) (X : zx_X) : zGood l X 6 1413 (zTs (zSk 40)) := zGood_run zr_40
set_option maxRecDepth 100000 in
theorem zr_41 : zxp 6 zfin1 zno zon 90000 0 2000 1436 (zTs ([zqf, zqf, zqf, zqf, zqf, zqf, (41, 63, zD0)])) [] = true := by decide +kernel
theorem zcs_41 (l : Launch) (X : zx_X) : zGood l X 6 1436 (zTs ([zqf, zqf, zqf, zqf, zqf, zqf, (41, 63, zD0)])) := zGood_run zr_41
