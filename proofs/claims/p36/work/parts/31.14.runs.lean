/-! PART 31.14: runs of the law's body. -/
theorem zlr_1134_39 : (List.range' 39 3).all (fun k => zlrunN (zon) (27, 2, 43, 28) ((k : Int), (k : Int)) 1134) = true := by decide +kernel
