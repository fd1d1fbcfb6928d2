/-! PART 48.0: the law: its places, its calls of queries. Made by wip/v4/gen_law.py. -/
theorem zl_in {X : zx_X} {i c : Int32} (hX : X.1 ≤ 3072) (i0 : 0 ≤ i.toInt) (i6 : i.toInt + 6 ≤ X.1) (h0 : 0 ≤ c.toInt) (h5 : c.toInt ≤ 5) : zy_in (i + c) X.1 = true := zq_in.mpr (by rw [zq_add (by omega) (by omega)]; omega)
def zlP : Option Value → zy_S → Prop := fun u _ => u = some (.int 1)
