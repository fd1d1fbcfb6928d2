/-! PARTS 10.table to 10b.0.callees -/
section
/-! PART 10: all of it. -/
theorem zall (m : Nat) (hm : m < 267) (pc : Nat) (hpc : pc < zbd m) : zchk m pc = true := by
  have key : zchkF m = true := by
    rcases Nat.lt_or_ge m 1 with h0 | h0
    · exact List.all_eq_true.mp zt_0 m (List.mem_range'_1.mpr ⟨by omega, by omega⟩)
    rcases Nat.lt_or_ge m 31 with h1 | h1
    · exact List.all_eq_true.mp zt_1 m (List.mem_range'_1.mpr ⟨by omega, by omega⟩)
    rcases Nat.lt_or_ge m 61 with h2 | h2
    · exact List.all_eq_true.mp zt_2 m (List.mem_range'_1.mpr ⟨by omega, by omega⟩)
    rcases Nat.lt_or_ge m 91 with h3 | h3
    · exact List.all_eq_true.mp zt_3 m (List.mem_range'_1.mpr ⟨by omega, by omega⟩)
    rcases Nat.lt_or_ge m 121 with h4 | h4
    · exact List.all_eq_true.mp zt_4 m (List.mem_range'_1.mpr ⟨by omega, by omega⟩)
    rcases Nat.lt_or_ge m 151 with h5 | h5
    · exact List.all_eq_true.mp zt_5 m (List.mem_range'_1.mpr ⟨by omega, by omega⟩)
    rcases Nat.lt_or_ge m 181 with h6 | h6
    · exact List.all_eq_true.mp zt_6 m (List.mem_range'_1.mpr ⟨by omega, by omega⟩)
    rcases Nat.lt_or_ge m 211 with h7 | h7
    · exact List.all_eq_true.mp zt_7 m (List.mem_range'_1.mpr ⟨by omega, by omega⟩)
    rcases Nat.lt_or_ge m 241 with h8 | h8
    · exact List.all_eq_true.mp zt_8 m (List.mem_range'_1.mpr ⟨by omega, by omega⟩)
    rcases Nat.lt_or_ge m 267 with h9 | h9
    · exact List.all_eq_true.mp zt_9 m (List.mem_range'_1.mpr ⟨by omega, by omega⟩)
    omega
  exact zchkF_g key pc hpc
end
section
/-! PART 10b: every callee, in one pass over the table. -/
def zkdy (y : zx_Y) : Cond := .code y.1 y.2.1 y.2.2.1 y.2.2.2
def zm_G : List Nat := [94, 7, 43, 21, 27, 24, 19, 9, 32, 29, 23, 54, 3, 3, 3, 3, 2, 3, 3, 3, 3, 3, 3, 3, 2, 3, 3, 3, 3, 6, 3, 3, 3, 3, 3, 3, 3, 3, 3, 3, 2, 3, 3, 2, 3, 2, 3, 4, 3, 3, 3, 7, 3, 2, 2, 3, 4, 2, 2, 2, 2, 6, 3, 3, 3, 2, 2, 3, 2, 4, 3, 3, 6, 3, 3, 3, 3, 3, 3, 3, 4, 2, 3, 3, 3, 3, 3, 3, 3, 3, 4, 3, 5, 3, 4, 3, 4, 4, 3, 4, 4, 4, 5, 6, 3, 4, 2, 2, 4, 4, 2, 2, 2, 3, 3, 2, 5, 3, 3, 4, 3, 3, 4, 3, 3, 3, 4, 3, 4, 5, 4, 3, 3, 3, 3, 4, 3, 3, 3, 5, 3, 3, 3, 4, 3, 3, 2, 3, 3, 3, 3, 3, 3, 8, 3, 3, 3, 3, 4, 4, 3, 3, 6, 3, 4, 3, 3, 4, 5, 2, 3, 4, 119, 3, 3, 3, 3, 3, 2, 6, 3, 3, 2, 4, 3, 3, 4, 3, 3, 3, 3, 3, 3, 3, 3, 3, 3, 2, 3, 4, 3, 3, 2, 2, 2, 2, 3, 3, 3, 3, 3, 3, 3, 4, 3, 3, 3, 4, 3, 3, 3, 3, 3, 5, 3, 3, 3, 3, 3, 4, 3, 3, 3, 3, 3, 3, 5, 3, 3, 3, 3, 3, 3, 3, 4, 3, 3, 3, 3, 3, 3, 3, 3, 3, 3, 3, 2, 3, 4, 3, 3, 2, 3]
def zm_H : List Nat := [1, 1, 0, 0, 0, 0, 0, 0, 0, 0, 0, 0, 0, 0, 0, 0, 0, 0, 0, 0, 0, 0, 0, 0, 0, 0, 0, 0, 0, 0, 0, 0, 0, 0, 0, 0, 0, 0, 0, 0, 0, 0, 0, 0, 0, 0, 0, 0, 0, 0, 0, 1, 0, 0, 0, 0, 0, 0, 0, 0, 0, 0, 0, 0, 0, 0, 0, 0, 0, 0, 0, 0, 0, 0, 0, 0, 0, 0, 0, 0, 0, 0, 0, 0, 0, 0, 0, 0, 0, 0, 0, 0, 0, 0, 0, 0, 0, 0, 0, 0, 0, 0, 0, 0, 0, 0, 0, 0, 0, 0, 0, 0, 0, 0, 0, 0, 0, 0, 0, 0, 0, 0, 0, 0, 0, 0, 0, 0, 0, 0, 0, 0, 0, 0, 0, 0, 0, 0, 0, 0, 0, 0, 0, 0, 0, 0, 0, 0, 0, 0, 0, 0, 0, 0, 0, 0, 0, 0, 0, 0, 0, 0, 1, 0, 0, 0, 0, 0, 0, 0, 0, 0, 0, 0, 0, 0, 0, 0, 0, 0, 0, 0, 0, 0, 0, 0, 0, 0, 0, 0, 0, 0, 0, 0, 0, 0, 0, 0, 0, 0, 0, 0, 0, 0, 0, 0, 0, 0, 0, 0, 0, 0, 0, 0, 0, 0, 0, 0, 0, 0, 0, 0, 0, 0, 0, 0, 0, 0, 0, 0, 0, 0, 0, 0, 0, 0, 0, 0, 0, 0, 0, 0, 0, 0, 0, 0, 0, 0, 0, 0, 0, 0, 0, 0, 0, 0, 0, 0, 0, 0, 0, 0, 0]
def zm_kx (t : Nat) : Nat := t - (cond (Nat.ble t 0) 0 1 + cond (Nat.ble t 2) 0 1 + cond (Nat.ble t 53) 0 1 + cond (Nat.ble t 165) 0 1)
set_option maxRecDepth 100000 in
theorem zm_pk : zpick zm_G lw_tbl = (zpick zm_H zm_L).map zkdy := rfl
set_option maxRecDepth 100000 in
theorem zm_ps : (List.range 267).all (fun t => !Nat.testBit zm_K t || (Nat.beq (zpos zm_H (zm_kx t)) t && (Nat.blt (zm_kx t) 263 && (match zm_P[t]? with
  | some q => Nat.beq (zpos zm_G (zm_kx t)) q.1 && Nat.blt q.1 1664
  | none => false)))) = true := by decide +kernel
noncomputable def zm_R (t : Nat) : Bool := match zm_P[t]? with
  | some q => zx_q q.2.1 (.initialized (zm t).1.cls) && decide ((zm t).1.cls ≠ "java/lang/invoke/MethodHandle" ∧ (zm t).1.cls ≠ "java/lang/invoke/VarHandle" ∧ (parseMethodDescriptor (zm t).1.desc).map (fun d => d.parameters.length) = some q.2.2 ∧ (zm t).2.2.1 ≤ 21 ∧ plainFor (zm t).1 = true)
  | none => false
set_option maxRecDepth 100000 in
theorem zm_rs : (List.range 267).all (fun t => !Nat.testBit zm_K t || zm_R t) = true := by decide +kernel
theorem zm_q1 {i : Nat} {y : zx_Y} (h0 : i < 1664) (h : lw_tbl[i]? = some (zkdy y)) : zx_q i (.code y.1 y.2.1 y.2.2.1 y.2.2.2) = true := zx_q_of h0 h rfl
set_option maxRecDepth 100000 in
theorem zm_ln : (zpick zm_H zm_L).length = 263 := by decide +kernel
theorem zm_Kg {t : Nat} (h : t < 267) (h0 : Nat.testBit zm_K t = true) : zm_B t = true := by
  have hr := List.all_eq_true.mp zm_rs t (List.mem_range.mpr h)
  have hp := List.all_eq_true.mp zm_ps t (List.mem_range.mpr h)
  rw [h0] at hr hp
  have hr : zm_R t = true := hr
  unfold zm_R at hr
  unfold zm_B
  cases hq : zm_P[t]? with
  | none => rw [hq] at hr; exact absurd (show false = true from hr) (by decide)
  | some q =>
    rw [hq] at hr hp
    have hp : (Nat.beq (zpos zm_H (zm_kx t)) t && (Nat.blt (zm_kx t) 263 && (Nat.beq (zpos zm_G (zm_kx t)) q.1 && Nat.blt q.1 1664))) = true := hp
    obtain ⟨p1, hp⟩ := Bool.and_eq_true_iff.mp hp
    obtain ⟨p2, hp⟩ := Bool.and_eq_true_iff.mp hp
    obtain ⟨p3, p4⟩ := Bool.and_eq_true_iff.mp hp
    have p4 : q.1 < 1664 := Nat.le_of_ble_eq_true p4
    have p1 := Nat.eq_of_beq_eq_true p1
    have p2 : zm_kx t < 263 := Nat.le_of_ble_eq_true p2
    have p3 := Nat.eq_of_beq_eq_true p3
    have hk : zm_kx t < (zpick zm_H zm_L).length := by rw [zm_ln]; exact p2
    have hz := zpick_g _ _ _ _ (List.getElem?_eq_getElem hk)
    rw [p1] at hz
    have hz : zm t = (zpick zm_H zm_L)[zm_kx t] := by unfold zm; simp only [List.getD, hz]; rfl
    have hm : (zpick zm_G lw_tbl)[zm_kx t]? = some (zkdy (zm t)) := by
      rw [zm_pk, hz, List.getElem?_map, List.getElem?_eq_getElem hk]
      rfl
    have hl := zpick_g _ _ _ _ hm
    rw [p3] at hl
    have hr : (zx_q q.2.1 (.initialized (zm t).1.cls) && decide _) = true := hr
    show (zx_q q.1 (.code (zm t).1 (zm t).2.1 (zm t).2.2.1 (zm t).2.2.2) && _) = true
    rw [zm_q1 p4 hl]
    exact hr
end
