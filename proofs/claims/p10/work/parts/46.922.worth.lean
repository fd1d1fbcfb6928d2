/-! PART 46.922: what steps are worth. Made by wip/v6/gen_parse.py. -/
def zclp (v : Int32) : Int32 := if v.toInt < 0 then 0 else if 99 < v.toInt then 99 else v
/-- two joined by a sign -/
def zjw (c l r : Int32) : Int32 :=
  if c = 124 then (if l = 0 ∧ r = 0 then 0 else 1)
  else if c = 38 then (if l = 0 ∨ r = 0 then 0 else 1)
  else if c = 60 then (if l < r then 1 else 0)
  else if c = 61 then (if l = r then 1 else 0)
  else if c = 62 then (if r < l then 1 else 0)
  else if c = 43 then l + r
  else if c = 45 then l - r
  else if c = 42 then l * r
  else if c = 47 then (if r = 0 then 0 else l / r)
  else (if r = 0 then 0 else l - l / r * r)
theorem zjw_124 (l r : Int32) : zjw (124 : Int32) l r = if l = 0 ∧ r = 0 then 0 else 1 := by
  unfold zjw
  rw [if_pos rfl]
theorem zjw_38 (l r : Int32) : zjw (38 : Int32) l r = if l = 0 ∨ r = 0 then 0 else 1 := by
  unfold zjw
  rw [if_neg (by decide), if_pos rfl]
theorem zjw_60 (l r : Int32) : zjw (60 : Int32) l r = if l < r then 1 else 0 := by
  unfold zjw
  rw [if_neg (by decide), if_neg (by decide), if_pos rfl]
theorem zjw_61 (l r : Int32) : zjw (61 : Int32) l r = if l = r then 1 else 0 := by
  unfold zjw
  rw [if_neg (by decide), if_neg (by decide), if_neg (by decide), if_pos rfl]
theorem zjw_62 (l r : Int32) : zjw (62 : Int32) l r = if r < l then 1 else 0 := by
  unfold zjw
  rw [if_neg (by decide), if_neg (by decide), if_neg (by decide), if_neg (by decide), if_pos rfl]
theorem zjw_43 (l r : Int32) : zjw (43 : Int32) l r = l + r := by
  unfold zjw
  rw [if_neg (by decide), if_neg (by decide), if_neg (by decide), if_neg (by decide), if_neg (by decide), if_pos rfl]
theorem zjw_45 (l r : Int32) : zjw (45 : Int32) l r = l - r := by
  unfold zjw
  rw [if_neg (by decide), if_neg (by decide), if_neg (by decide), if_neg (by decide), if_neg (by decide), if_neg (by decide), if_pos rfl]
theorem zjw_42 (l r : Int32) : zjw (42 : Int32) l r = l * r := by
  unfold zjw
  rw [if_neg (by decide), if_neg (by decide), if_neg (by decide), if_neg (by decide), if_neg (by decide), if_neg (by decide), if_neg (by decide), if_pos rfl]
theorem zjw_47 (l r : Int32) : zjw (47 : Int32) l r = if r = 0 then 0 else l / r := by
  unfold zjw
  rw [if_neg (by decide), if_neg (by decide), if_neg (by decide), if_neg (by decide), if_neg (by decide), if_neg (by decide), if_neg (by decide), if_neg (by decide), if_pos rfl]
theorem zjw_37 (l r : Int32) : zjw (37 : Int32) l r = if r = 0 then 0 else l - l / r * r := by
  unfold zjw
  rw [if_neg (by decide), if_neg (by decide), if_neg (by decide), if_neg (by decide), if_neg (by decide), if_neg (by decide), if_neg (by decide), if_neg (by decide), if_neg (by decide)]
/-- steps from here on, with names, passing or not, over a stack -/
def zwv (nm : Nat → Int32) : List Int32 → Bool → List Int32 → Int32
  | [], _, _ => 0
  | c :: cs, p, st =>
    if p = true then zwv nm cs (decide (c.toInt ≠ -59)) st
    else if 0 ≤ c.toInt then zwv nm cs false ((if c.toInt < 10000 then c else nm (c - (10000 : Int32)).toNatClampNeg) :: st)
    else if c.toInt = -59 then zclp (st.headD 0)
    else if c.toInt = -63 then zwv nm cs (decide (st.headD 0 = 0)) st.tail
    else if c.toInt = -33 then zwv nm cs false ((if st.headD 0 = 0 then 1 else 0) :: st.tail)
    else if c.toInt = -126 then zwv nm cs false (-(st.headD 0) :: st.tail)
    else zwv nm cs false (zjw (-c) (st.tail.headD 0) (st.headD 0) :: st.tail.tail)
theorem zwv_s (nm : Nat → Int32) (c : Int32) (cs : List Int32) (p : Bool) (st : List Int32) : zwv nm (c :: cs) p st =
    if p = true then zwv nm cs (decide (c.toInt ≠ -59)) st
    else if 0 ≤ c.toInt then zwv nm cs false ((if c.toInt < 10000 then c else nm (c - (10000 : Int32)).toNatClampNeg) :: st)
    else if c.toInt = -59 then zclp (st.headD 0)
    else if c.toInt = -63 then zwv nm cs (decide (st.headD 0 = 0)) st.tail
    else if c.toInt = -33 then zwv nm cs false ((if st.headD 0 = 0 then 1 else 0) :: st.tail)
    else if c.toInt = -126 then zwv nm cs false (-(st.headD 0) :: st.tail)
    else zwv nm cs false (zjw (-c) (st.tail.headD 0) (st.headD 0) :: st.tail.tail) := rfl
/-- steps that leave one value -/
def zpE (nm : Nat → Int32) (cs : List Int32) (v : Int32) : Prop := (∀ rest st, zwv nm (cs ++ rest) true st = zwv nm rest true st) ∧ ∀ rest st, zwv nm (cs ++ rest) false st = zwv nm rest false (v :: st)
section ZE
variable {nm : Nat → Int32} {v w c : Int32} {a b : List Int32}
theorem zwv_t (h : c.toInt ≠ -59) (rest st : List Int32) : zwv nm (c :: rest) true st = zwv nm rest true st := by
  rw [zwv_s, if_pos rfl, decide_eq_true h]
theorem zpE_num (h0 : 0 ≤ v.toInt) (h1 : v.toInt < 10000) : zpE nm [v] v := by
  refine ⟨fun rest st => ?_, fun rest st => ?_⟩
  · show zwv nm (v :: rest) true st = _
    exact zwv_t (by omega) rest st
  · show zwv nm (v :: rest) false st = _
    rw [zwv_s, if_neg (by decide), if_pos h0, if_pos h1]
theorem zpE_nm (h0 : 0 ≤ v.toInt) (h1 : v.toInt ≤ 5) : zpE nm [(10000 : Int32) + v] (nm v.toNatClampNeg) := by
  have l : (10000 : Int32).toInt = 10000 := rfl
  have e : ((10000 : Int32) + v).toInt = 10000 + v.toInt := by rw [zq_add (by rw [l]; omega) (by rw [l]; omega), l]
  have e2 : (10000 : Int32) + v - (10000 : Int32) = v := zq_ext (by rw [zq_sub (by rw [l]; omega) (by rw [l]; omega), l, e]; omega)
  refine ⟨fun rest st => ?_, fun rest st => ?_⟩
  · show zwv nm (((10000 : Int32) + v) :: rest) true st = _
    exact zwv_t (by omega) rest st
  · show zwv nm (((10000 : Int32) + v) :: rest) false st = _
    rw [zwv_s, if_neg (by decide), if_pos (by omega), if_neg (by omega), e2]
theorem zpE_not (h : zpE nm a v) : zpE nm (a ++ [(-33 : Int32)]) (if v = 0 then 1 else 0) := by
  have l : (-33 : Int32).toInt = -33 := rfl
  refine ⟨fun rest st => ?_, fun rest st => ?_⟩
  · rw [List.append_assoc, h.1]
    exact zwv_t (by omega) rest st
  · rw [List.append_assoc, h.2]
    show zwv nm ((-33 : Int32) :: rest) false (v :: st) = _
    rw [zwv_s, if_neg (by decide), if_neg (by omega), if_neg (by omega), if_neg (by omega), if_pos l]
    try rfl
theorem zpE_neg (h : zpE nm a v) : zpE nm (a ++ [(-126 : Int32)]) (-v) := by
  have l : (-126 : Int32).toInt = -126 := rfl
  refine ⟨fun rest st => ?_, fun rest st => ?_⟩
  · rw [List.append_assoc, h.1]
    exact zwv_t (by omega) rest st
  · rw [List.append_assoc, h.2]
    show zwv nm ((-126 : Int32) :: rest) false (v :: st) = _
    rw [zwv_s, if_neg (by decide), if_neg (by omega), if_neg (by omega), if_neg (by omega), if_neg (by omega), if_pos l]
    try rfl
theorem zpE_jn (h : zpE nm a v) (k : zpE nm b w) (hc : 0 ≤ (zlv c).toInt) : zpE nm (a ++ (b ++ [-c])) (zjw c v w) := by
  have hz := zlvC c
  have e : (-c).toInt = -c.toInt := zq_neg (by omega)
  have e2 : -(-c) = c := zq_ext (by rw [zq_neg (by omega), e]; omega)
  refine ⟨fun rest st => ?_, fun rest st => ?_⟩
  · rw [List.append_assoc, h.1, List.append_assoc, k.1]
    exact zwv_t (by omega) rest st
  · rw [List.append_assoc, h.2, List.append_assoc, k.2]
    show zwv nm ((-c) :: rest) false (w :: v :: st) = _
    rw [zwv_s, if_neg (by decide), if_neg (by omega), if_neg (by omega), if_neg (by omega), if_neg (by omega), if_neg (by omega), e2]
    try rfl
end ZE
