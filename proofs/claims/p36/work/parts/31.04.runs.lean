/-! PART 31.4: runs of the law's body. -/
theorem zlr_1134_9 : (List.range' 9 3).all (fun k => zlrunN (zon) (27, 2, 43, 28) ((k : Int), (k : Int)) 1134) = true := by decide +kernel
