/-! PART 09, 00: the law -/
def zchkm (m : Nat) : Bool := (List.range (zbd m)).all (fun pc => zchk m pc)
set_option maxRecDepth 100000 in
theorem zt_0_0 : (List.range' 0 75).all (fun pc => zchk 0 pc) = true := by decide +kernel
set_option maxRecDepth 100000 in
theorem zt_0_1 : (List.range' 75 75).all (fun pc => zchk 0 pc) = true := by decide +kernel
set_option maxRecDepth 100000 in
theorem zt_0_2 : (List.range' 150 75).all (fun pc => zchk 0 pc) = true := by decide +kernel
set_option maxRecDepth 100000 in
theorem zt_0_3 : (List.range' 225 75).all (fun pc => zchk 0 pc) = true := by decide +kernel
