/-! PART 14: dispatch. -/
theorem zm_cal {t : Nat} (h : zm_B t = true) : zCal (zm t) (zm_N t) ∧ plainFor (zm t).1 = true := by
  unfold zm_B at h
  split at h
  · next q hq =>
    obtain ⟨h1, h2⟩ := zw_and h
    obtain ⟨h3, h4⟩ := zw_and h2
    obtain ⟨e1, e2, e3, e4, e5⟩ := of_decide_eq_true h4
    have hn : zm_N t = q.2.2 := by unfold zm_N; rw [hq]
    rw [hn]
    exact ⟨⟨zx_of h1, zx_of h3, ⟨e1, e2, e3⟩, e4⟩, e5⟩
  · cases h
section ZK
variable {l : Launch} {d : Nat} {y : zx_Y} {X : zx_X} {mc ms XL : Nat} {φ : List z_C} {Q : Option Value → List z_C → Prop} {pc nx len : Nat} {ins : Instr} {o : List Int} {t : zA_T}
theorem zcal_fI : zCal y_fillI 2 := ⟨List.mem_filter.mpr ⟨by decide +kernel, rfl⟩, List.mem_filter.mpr ⟨by decide +kernel, rfl⟩, by decide +kernel, by decide⟩
theorem zcal_fJ : zCal y_fillJ 2 := ⟨List.mem_filter.mpr ⟨by decide +kernel, rfl⟩, List.mem_filter.mpr ⟨by decide +kernel, rfl⟩, by decide +kernel, by decide⟩
theorem zw_fI : Cond.static y_fillI.1 ∈ zx_tbl := List.mem_filter.mpr ⟨by decide +kernel, rfl⟩
theorem zw_fJ : Cond.static y_fillJ.1 ∈ zx_tbl := List.mem_filter.mpr ⟨by decide +kernel, rfl⟩
def ex67 (mc ms d nx : Nat) (t : zA_T) : zA_R := if d = 0 then none else zx_fil mc ms 0 nx t
theorem ok67 (hd : decode y.2.1 pc = .ok (ins, len)) (hc : ck67 y pc nx o ins len = true) : zSd l d y X mc ms XL φ Q pc t (ex67 mc ms d nx t) := by
  unfold ck67 at hc
  split at hc
  · obtain ⟨h1, h2⟩ := zw_and hc
    obtain ⟨rfl, rfl, rfl⟩ := of_decide_eq_true h1
    unfold ex67
    split
    · exact zSd_none
    · next hd0 =>
      exact zo_fil (by decide) (fun h1 h2' hst _ hi hn k => zs_callS (st := _) (zx_of h2) zw_fI zcal_fI (as := [.ref (_ + 3), .int _]) rfl hst (by omega : 0 + 1 ≤ d) h1 h2' hd (zfill_I _ hn hi) (fun v ph' hq => by obtain ⟨rfl, f', hf', rfl⟩ := hq; exact k f' hf')) (fun _ _ _ e => absurd e (by decide))
  · cases hc
def ex68 (mc ms d nx : Nat) (t : zA_T) : zA_R := if d = 0 then none else zx_fil mc ms 1 nx t
theorem ok68 (hd : decode y.2.1 pc = .ok (ins, len)) (hc : ck68 y pc nx o ins len = true) : zSd l d y X mc ms XL φ Q pc t (ex68 mc ms d nx t) := by
  unfold ck68 at hc
  split at hc
  · obtain ⟨h1, h2⟩ := zw_and hc
    obtain ⟨rfl, rfl, rfl⟩ := of_decide_eq_true h1
    unfold ex68
    split
    · exact zSd_none
    · next hd0 =>
      exact zo_fil (by decide) (fun _ _ _ e => absurd e (by decide)) (fun h1 h2' hst _ hi hn k => zs_callS (st := _) (zx_of h2) zw_fJ zcal_fJ (as := [.ref (_ + 3), .long _]) rfl hst (by omega : 0 + 1 ≤ d) h1 h2' hd (zfill_J _ hn hi) (fun v ph' hq => by obtain ⟨rfl, f', hf', rfl⟩ := hq; exact k f' hf'))
  · cases hc
/-- what an instruction does -/
def zex (XL mc ms d op nx pc : Nat) (o : List Int) (t : zA_T) : zA_R := if op = 0 then ex0 nx o t else if op = 1 then ex1 nx o t else if op = 2 then ex2 nx o t else if op = 3 then ex3 nx o t else if op = 6 then some [(nx, t)] else if op = 10 then zx_bin XL 10 nx pc t else if op = 26 then zx_ald XL 0 nx pc t else if op = 24 then ex24 nx o t else if op = 25 then ex25 nx o t else if op = 23 then ex23 nx o t else if op = 52 then ex52 nx o t else if op = 22 then ex22 nx o t else if op = 27 then zx_ast 0 nx pc t else if op = 11 then zx_bin XL 11 nx pc t else if op = 12 then zx_bin XL 12 nx pc t else if op = 13 then zx_bin XL 13 nx pc t else if op = 14 then zx_bin XL 14 nx pc t else if op = 15 then zx_bin XL 15 nx pc t else if op = 16 then zx_bin XL 16 nx pc t else if op = 17 then zx_bin XL 17 nx pc t else if op = 18 then zx_bin XL 18 nx pc t else if op = 19 then zx_bin XL 19 nx pc t else if op = 20 then zx_bin XL 20 nx pc t else if op = 33 then zx_dup 0 nx t else if op = 40 then zx_i2l nx t else if op = 36 then ex36 nx o t else if op = 44 then zx_lcmp nx t else if op = 28 then zx_ald XL 2 nx pc t else if op = 30 then zx_ald XL 1 nx pc t else if op = 21 then zx_neg nx t else if op = 31 then zx_ast 1 nx pc t else if op = 29 then zx_ast 2 nx pc t else if op = 32 then zx_len XL nx t else if op = 34 then zx_dup 1 nx t else if op = 35 then zx_dup 2 nx t else if op = 37 then ex37 nx o t else if op = 38 then ex38 nx o t else if op = 39 then ex39 nx o t else if op = 45 then zx_jop nx t 1 else if op = 46 then zx_jop nx t 1 else if op = 47 then zx_jop nx t 0 else if op = 50 then ex50 o t else if op = 51 then ex51 o t else if op = 53 then ex53 nx o t else if op = 54 then ex54 nx o t else if op = 55 then zx_nar mc ms 0 nx t else if op = 56 then zx_nar mc ms 1 nx t else if op = 57 then zx_nar mc ms 2 nx t else if op = 58 then ex58 mc ms nx o t else if op = 59 then ex59 d nx t else if op = 64 then ex64 d nx t else if op = 67 then ex67 mc ms d nx t else if op = 68 then ex68 mc ms d nx t else if op = 41 then zx_l2i nx t else if op = 42 then zx_i2w 23 nx t else if op = 43 then zx_i2w 24 nx t else if op = 48 then zx_ldr 19 nx t else if op = 49 then zx_ldr 20 nx t else if op = 70 then zx_pop2 nx t else none
theorem zex_ok {op : Nat} (hd : decode y.2.1 pc = .ok (ins, len)) (hc : zck y pc op nx o ins len = true) : zSd l d y X mc ms XL φ Q pc t (zex XL mc ms d op nx pc o t) := by
  unfold zex
  unfold zck at hc
  by_cases e0 : op = 0
  · rw [if_pos e0] at hc ⊢
    exact ok0 hd hc
  rw [if_neg e0] at hc ⊢
  by_cases e1 : op = 1
  · rw [if_pos e1] at hc ⊢
    exact ok1 hd hc
  rw [if_neg e1] at hc ⊢
  by_cases e2 : op = 2
  · rw [if_pos e2] at hc ⊢
    exact ok2 hd hc
  rw [if_neg e2] at hc ⊢
  by_cases e3 : op = 3
  · rw [if_pos e3] at hc ⊢
    exact ok3 hd hc
  rw [if_neg e3] at hc ⊢
  by_cases e6 : op = 6
  · rw [if_pos e6] at hc ⊢
    exact ok6 hd hc
  rw [if_neg e6] at hc ⊢
  by_cases e10 : op = 10
  · rw [if_pos e10] at hc ⊢
    exact ok10 hd hc
  rw [if_neg e10] at hc ⊢
  by_cases e26 : op = 26
  · rw [if_pos e26] at hc ⊢
    exact ok26 hd hc
  rw [if_neg e26] at hc ⊢
  by_cases e24 : op = 24
  · rw [if_pos e24] at hc ⊢
    exact ok24 hd hc
  rw [if_neg e24] at hc ⊢
  by_cases e25 : op = 25
  · rw [if_pos e25] at hc ⊢
    exact ok25 hd hc
  rw [if_neg e25] at hc ⊢
  by_cases e23 : op = 23
  · rw [if_pos e23] at hc ⊢
    exact ok23 hd hc
  rw [if_neg e23] at hc ⊢
  by_cases e52 : op = 52
  · rw [if_pos e52] at hc ⊢
    exact ok52 hd hc
  rw [if_neg e52] at hc ⊢
  by_cases e22 : op = 22
  · rw [if_pos e22] at hc ⊢
    exact ok22 hd hc
  rw [if_neg e22] at hc ⊢
  by_cases e27 : op = 27
  · rw [if_pos e27] at hc ⊢
    exact ok27 hd hc
  rw [if_neg e27] at hc ⊢
  by_cases e11 : op = 11
  · rw [if_pos e11] at hc ⊢
    exact ok11 hd hc
  rw [if_neg e11] at hc ⊢
  by_cases e12 : op = 12
  · rw [if_pos e12] at hc ⊢
    exact ok12 hd hc
  rw [if_neg e12] at hc ⊢
  by_cases e13 : op = 13
  · rw [if_pos e13] at hc ⊢
    exact ok13 hd hc
  rw [if_neg e13] at hc ⊢
  by_cases e14 : op = 14
  · rw [if_pos e14] at hc ⊢
    exact ok14 hd hc
  rw [if_neg e14] at hc ⊢
  by_cases e15 : op = 15
  · rw [if_pos e15] at hc ⊢
    exact ok15 hd hc
  rw [if_neg e15] at hc ⊢
  by_cases e16 : op = 16
  · rw [if_pos e16] at hc ⊢
    exact ok16 hd hc
  rw [if_neg e16] at hc ⊢
  by_cases e17 : op = 17
  · rw [if_pos e17] at hc ⊢
    exact ok17 hd hc
  rw [if_neg e17] at hc ⊢
  by_cases e18 : op = 18
  · rw [if_pos e18] at hc ⊢
    exact ok18 hd hc
  rw [if_neg e18] at hc ⊢
  by_cases e19 : op = 19
  · rw [if_pos e19] at hc ⊢
    exact ok19 hd hc
  rw [if_neg e19] at hc ⊢
  by_cases e20 : op = 20
  · rw [if_pos e20] at hc ⊢
    exact ok20 hd hc
  rw [if_neg e20] at hc ⊢
  by_cases e33 : op = 33
  · rw [if_pos e33] at hc ⊢
    exact ok33 hd hc
  rw [if_neg e33] at hc ⊢
  by_cases e40 : op = 40
  · rw [if_pos e40] at hc ⊢
    exact ok40 hd hc
  rw [if_neg e40] at hc ⊢
  by_cases e36 : op = 36
  · rw [if_pos e36] at hc ⊢
    exact ok36 hd hc
  rw [if_neg e36] at hc ⊢
  by_cases e44 : op = 44
  · rw [if_pos e44] at hc ⊢
    exact ok44 hd hc
  rw [if_neg e44] at hc ⊢
  by_cases e28 : op = 28
  · rw [if_pos e28] at hc ⊢
    exact ok28 hd hc
  rw [if_neg e28] at hc ⊢
  by_cases e30 : op = 30
  · rw [if_pos e30] at hc ⊢
    exact ok30 hd hc
  rw [if_neg e30] at hc ⊢
  by_cases e21 : op = 21
  · rw [if_pos e21] at hc ⊢
    exact ok21 hd hc
  rw [if_neg e21] at hc ⊢
  by_cases e31 : op = 31
  · rw [if_pos e31] at hc ⊢
    exact ok31 hd hc
  rw [if_neg e31] at hc ⊢
  by_cases e29 : op = 29
  · rw [if_pos e29] at hc ⊢
    exact ok29 hd hc
  rw [if_neg e29] at hc ⊢
  by_cases e32 : op = 32
  · rw [if_pos e32] at hc ⊢
    exact ok32 hd hc
  rw [if_neg e32] at hc ⊢
  by_cases e34 : op = 34
  · rw [if_pos e34] at hc ⊢
    exact ok34 hd hc
  rw [if_neg e34] at hc ⊢
  by_cases e35 : op = 35
  · rw [if_pos e35] at hc ⊢
    exact ok35 hd hc
  rw [if_neg e35] at hc ⊢
  by_cases e37 : op = 37
  · rw [if_pos e37] at hc ⊢
    exact ok37 hd hc
  rw [if_neg e37] at hc ⊢
  by_cases e38 : op = 38
  · rw [if_pos e38] at hc ⊢
    exact ok38 hd hc
  rw [if_neg e38] at hc ⊢
  by_cases e39 : op = 39
  · rw [if_pos e39] at hc ⊢
    exact ok39 hd hc
  rw [if_neg e39] at hc ⊢
  by_cases e45 : op = 45
  · rw [if_pos e45] at hc ⊢
    exact ok45 hd hc
  rw [if_neg e45] at hc ⊢
  by_cases e46 : op = 46
  · rw [if_pos e46] at hc ⊢
    exact ok46 hd hc
  rw [if_neg e46] at hc ⊢
  by_cases e47 : op = 47
  · rw [if_pos e47] at hc ⊢
    exact ok47 hd hc
  rw [if_neg e47] at hc ⊢
  by_cases e50 : op = 50
  · rw [if_pos e50] at hc ⊢
    exact ok50 hd hc
  rw [if_neg e50] at hc ⊢
  by_cases e51 : op = 51
  · rw [if_pos e51] at hc ⊢
    exact ok51 hd hc
  rw [if_neg e51] at hc ⊢
  by_cases e53 : op = 53
  · rw [if_pos e53] at hc ⊢
    exact ok53 hd hc
  rw [if_neg e53] at hc ⊢
  by_cases e54 : op = 54
  · rw [if_pos e54] at hc ⊢
    exact ok54 hd hc
  rw [if_neg e54] at hc ⊢
  by_cases e55 : op = 55
  · rw [if_pos e55] at hc ⊢
    exact ok55 hd hc
  rw [if_neg e55] at hc ⊢
  by_cases e56 : op = 56
  · rw [if_pos e56] at hc ⊢
    exact ok56 hd hc
  rw [if_neg e56] at hc ⊢
  by_cases e57 : op = 57
  · rw [if_pos e57] at hc ⊢
    exact ok57 hd hc
  rw [if_neg e57] at hc ⊢
  by_cases e58 : op = 58
  · rw [if_pos e58] at hc ⊢
    exact ok58 hd hc
  rw [if_neg e58] at hc ⊢
  by_cases e59 : op = 59
  · rw [if_pos e59] at hc ⊢
    exact ok59 hd hc
  rw [if_neg e59] at hc ⊢
  by_cases e64 : op = 64
  · rw [if_pos e64] at hc ⊢
    exact ok64 hd hc
  rw [if_neg e64] at hc ⊢
  by_cases e67 : op = 67
  · rw [if_pos e67] at hc ⊢
    exact ok67 hd hc
  rw [if_neg e67] at hc ⊢
  by_cases e68 : op = 68
  · rw [if_pos e68] at hc ⊢
    exact ok68 hd hc
  rw [if_neg e68] at hc ⊢
  by_cases e41 : op = 41
  · rw [if_pos e41] at hc ⊢
    exact ok41 hd hc
  rw [if_neg e41] at hc ⊢
  by_cases e42 : op = 42
  · rw [if_pos e42] at hc ⊢
    exact ok42 hd hc
  rw [if_neg e42] at hc ⊢
  by_cases e43 : op = 43
  · rw [if_pos e43] at hc ⊢
    exact ok43 hd hc
  rw [if_neg e43] at hc ⊢
  by_cases e48 : op = 48
  · rw [if_pos e48] at hc ⊢
    exact ok48 hd hc
  rw [if_neg e48] at hc ⊢
  by_cases e49 : op = 49
  · rw [if_pos e49] at hc ⊢
    exact ok49 hd hc
  rw [if_neg e49] at hc ⊢
  by_cases e70 : op = 70
  · rw [if_pos e70] at hc ⊢
    exact ok70 hd hc
  rw [if_neg e70] at hc ⊢
  exact zSd_none
end ZK
