/-! PART 16: the code in my words is the code of the Statement. -/
def zchkm (m : Nat) : Bool := (List.range 2000).all (fun pc => zchk m pc)
set_option maxRecDepth 100000 in
theorem zt_1 : (List.range' 1 20).all zchkm = true := by decide +kernel
