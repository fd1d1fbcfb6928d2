/-! PART 31.2: runs of the law's body. -/
theorem zlr_1134_3 : (List.range' 3 3).all (fun k => zlrunN (zon) (27, 2, 43, 28) ((k : Int), (k : Int)) 1134) = true := by decide +kernel
