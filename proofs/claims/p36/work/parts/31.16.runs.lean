/-! PART 31.16: runs of the law's body. -/
theorem zlr_1134_45 : (List.range' 45 3).all (fun k => zlrunN (zon) (27, 2, 43, 28) ((k : Int), (k : Int)) 1134) = true := by decide +kernel
