/-! PART 14: dispatch. -/
theorem zm_cal {t : Nat} (h : zm_B t = true) : zCal (zm t) (zm_N t) ∧ plainFor (zm t).1 = true := by
  unfold zm_B at h
  split at h
  · next q hq =>
    obtain ⟨h1, h2⟩ := zw_and h
    obtain ⟨h3, h4⟩ := zw_and h2
    obtain ⟨e1, e2, e3, e4, e5⟩ := of_decide_eq_true h4
    have hn : zm_N t = q.2.2 := by unfold zm_N; rw [hq]
    rw [hn]
    exact ⟨⟨zx_of h1, zx_of h3, ⟨e1, e2, e3⟩, e4⟩, e5⟩
  · cases h
section ZK
variable {l : Launch} {d : Nat} {y : zx_Y} {X : zx_X} {mc ms XL : Nat} {φ : List z_C} {Q : Option Value → List z_C → Prop} {pc nx len : Nat} {ins : Instr} {o : List Int} {t : zA_T}
theorem zcal_fI : zCal y_fillI 2 := ⟨List.mem_filter.mpr ⟨by decide +kernel, rfl⟩, List.mem_filter.mpr ⟨by decide +kernel, rfl⟩, by decide +kernel, by decide⟩
theorem zcal_fJ : zCal y_fillJ 2 := ⟨List.mem_filter.mpr ⟨by decide +kernel, rfl⟩, List.mem_filter.mpr ⟨by decide +kernel, rfl⟩, by decide +kernel, by decide⟩
theorem zw_fI : Cond.static y_fillI.1 ∈ zx_tbl := List.mem_filter.mpr ⟨by decide +kernel, rfl⟩
theorem zw_fJ : Cond.static y_fillJ.1 ∈ zx_tbl := List.mem_filter.mpr ⟨by decide +kernel, rfl⟩
def ex67 (mc ms d nx : Nat) (t : zA_T) : zA_R := if d = 0 then none else zx_fil mc ms 0 nx t
theorem ok67 (hd : decode y.2.1 pc = .ok (ins, len)) (hc : ck67 y pc nx o ins len = true) : zSd l d y X mc ms XL φ Q pc t (ex67 mc ms d nx t) := by
  unfold ck67 at hc
  split at hc
  · obtain ⟨h1, h2⟩ := zw_and hc
    obtain ⟨rfl, rfl, rfl⟩ := of_decide_eq_true h1
    unfold ex67
    split
    · exact zSd_none
    · next hd0 =>
      exact zo_fil (by decide) (fun h1 h2' hst _ hi hn k => zs_callS (st := _) (zx_of h2) zw_fI zcal_fI (as := [.ref (_ + 3), .int _]) rfl hst (by omega : 0 + 1 ≤ d) h1 h2' hd (zfill_I _ hn hi) (fun v ph' hq => by obtain ⟨rfl, f', hf', rfl⟩ := hq; exact k f' hf')) (fun _ _ _ e => absurd e (by decide))
  · cases hc
def ex68 (mc ms d nx : Nat) (t : zA_T) : zA_R := if d = 0 then none else zx_fil mc ms 1 nx t
theorem ok68 (hd : decode y.2.1 pc = .ok (ins, len)) (hc : ck68 y pc nx o ins len = true) : zSd l d y X mc ms XL φ Q pc t (ex68 mc ms d nx t) := by
  unfold ck68 at hc
  split at hc
  · obtain ⟨h1, h2⟩ := zw_and hc
    obtain ⟨rfl, rfl, rfl⟩ := of_decide_eq_true h1
    unfold ex68
    split
    · exact zSd_none
    · next hd0 =>
      exact zo_fil (by decide) (fun _ _ _ e => absurd e (by decide)) (fun h1 h2' hst _ hi hn k => zs_callS (st := _) (zx_of h2) zw_fJ zcal_fJ (as := [.ref (_ + 3), .long _]) rfl hst (by omega : 0 + 1 ≤ d) h1 h2' hd (zfill_J _ hn hi) (fun v ph' hq => by obtain ⟨rfl, f', hf', rfl⟩ := hq; exact k f' hf'))
  · cases hc
/-- what an instruction does -/
def zex0 (XL mc ms d op nx pc : Nat) (o : List Int) (t : zA_T) : zA_R := if op = 0 then ex0 nx o t else if op = 1 then ex1 nx o t else if op = 2 then ex2 nx o t else if op = 3 then ex3 nx o t else if op = 6 then some [(nx, t)] else if op = 10 then zx_bin XL 10 nx pc t else if op = 26 then zx_ald XL 0 nx pc t else if op = 24 then ex24 nx o t else if op = 25 then ex25 nx o t else if op = 23 then ex23 nx o t else if op = 52 then ex52 nx o t else if op = 22 then ex22 nx o t else if op = 27 then zx_ast 0 nx pc t else if op = 11 then zx_bin XL 11 nx pc t else if op = 12 then zx_bin XL 12 nx pc t else if op = 13 then zx_bin XL 13 nx pc t else if op = 14 then zx_bin XL 14 nx pc t else if op = 15 then zx_bin XL 15 nx pc t else if op = 16 then zx_bin XL 16 nx pc t else if op = 17 then zx_bin XL 17 nx pc t else if op = 18 then zx_bin XL 18 nx pc t else if op = 19 then zx_bin XL 19 nx pc t else if op = 20 then zx_bin XL 20 nx pc t else if op = 33 then zx_dup 0 nx t else if op = 40 then zx_i2l nx t else if op = 36 then ex36 nx o t else if op = 44 then zx_lcmp nx t else if op = 28 then zx_ald XL 2 nx pc t else if op = 30 then zx_ald XL 1 nx pc t else if op = 21 then zx_neg nx t else if op = 31 then zx_ast 1 nx pc t else if op = 29 then zx_ast 2 nx pc t else if op = 32 then zx_len XL nx t else if op = 34 then zx_dup 1 nx t else if op = 35 then zx_dup 2 nx t else if op = 37 then ex37 nx o t else if op = 38 then ex38 nx o t else if op = 39 then ex39 nx o t else if op = 45 then zx_jop nx t 1 else if op = 46 then zx_jop nx t 1 else if op = 47 then zx_jop nx t 0 else if op = 50 then ex50 o t else if op = 51 then ex51 o t else if op = 53 then ex53 nx o t else if op = 54 then ex54 nx o t else if op = 55 then zx_nar mc ms 0 nx t else if op = 56 then zx_nar mc ms 1 nx t else if op = 57 then zx_nar mc ms 2 nx t else if op = 58 then ex58 mc ms nx o t else if op = 59 then ex59 d nx t else if op = 64 then ex64 d nx t else if op = 67 then ex67 mc ms d nx t else if op = 68 then ex68 mc ms d nx t else if op = 41 then zx_l2i nx t else if op = 42 then zx_i2w 23 nx t else if op = 43 then zx_i2w 24 nx t else if op = 48 then zx_ldr 19 nx t else if op = 49 then zx_ldr 20 nx t else if op = 70 then zx_pop2 nx t else none
theorem zex0_ok {op : Nat} (hd : decode y.2.1 pc = .ok (ins, len)) (hc : zck y pc op nx o ins len = true) : zSd l d y X mc ms XL φ Q pc t (zex0 XL mc ms d op nx pc o t) := by
  unfold zex0
  unfold zck at hc
  by_cases e0 : op = 0
  · rw [if_pos e0] at hc ⊢
    exact ok0 hd hc
  rw [if_neg e0] at hc ⊢
  by_cases e1 : op = 1
  · rw [if_pos e1] at hc ⊢
    exact ok1 hd hc
  rw [if_neg e1] at hc ⊢
  by_cases e2 : op = 2
  · rw [if_pos e2] at hc ⊢
    exact ok2 hd hc
  rw [if_neg e2] at hc ⊢
  by_cases e3 : op = 3
  · rw [if_pos e3] at hc ⊢
    exact ok3 hd hc
  rw [if_neg e3] at hc ⊢
  by_cases e6 : op = 6
  · rw [if_pos e6] at hc ⊢
    exact ok6 hd hc
  rw [if_neg e6] at hc ⊢
  by_cases e10 : op = 10
  · rw [if_pos e10] at hc ⊢
    exact ok10 hd hc
  rw [if_neg e10] at hc ⊢
  by_cases e26 : op = 26
  · rw [if_pos e26] at hc ⊢
    exact ok26 hd hc
  rw [if_neg e26] at hc ⊢
  by_cases e24 : op = 24
  · rw [if_pos e24] at hc ⊢
    exact ok24 hd hc
  rw [if_neg e24] at hc ⊢
  by_cases e25 : op = 25
  · rw [if_pos e25] at hc ⊢
    exact ok25 hd hc
  rw [if_neg e25] at hc ⊢
  by_cases e23 : op = 23
  · rw [if_pos e23] at hc ⊢
    exact ok23 hd hc
  rw [if_neg e23] at hc ⊢
  by_cases e52 : op = 52
  · rw [if_pos e52] at hc ⊢
    exact ok52 hd hc
  rw [if_neg e52] at hc ⊢
  by_cases e22 : op = 22
  · rw [if_pos e22] at hc ⊢
    exact ok22 hd hc
  rw [if_neg e22] at hc ⊢
  by_cases e27 : op = 27
  · rw [if_pos e27] at hc ⊢
    exact ok27 hd hc
  rw [if_neg e27] at hc ⊢
  by_cases e11 : op = 11
  · rw [if_pos e11] at hc ⊢
    exact ok11 hd hc
  rw [if_neg e11] at hc ⊢
  by_cases e12 : op = 12
  · rw [if_pos e12] at hc ⊢
    exact ok12 hd hc
  rw [if_neg e12] at hc ⊢
  by_cases e13 : op = 13
  · rw [if_pos e13] at hc ⊢
    exact ok13 hd hc
  rw [if_neg e13] at hc ⊢
  by_cases e14 : op = 14
  · rw [if_pos e14] at hc ⊢
    exact ok14 hd hc
  rw [if_neg e14] at hc ⊢
  by_cases e15 : op = 15
  · rw [if_pos e15] at hc ⊢
    exact ok15 hd hc
  rw [if_neg e15] at hc ⊢
  by_cases e16 : op = 16
  · rw [if_pos e16] at hc ⊢
    exact ok16 hd hc
  rw [if_neg e16] at hc ⊢
  by_cases e17 : op = 17
  · rw [if_pos e17] at hc ⊢
    exact ok17 hd hc
  rw [if_neg e17] at hc ⊢
  by_cases e18 : op = 18
  · rw [if_pos e18] at hc ⊢
    exact ok18 hd hc
  rw [if_neg e18] at hc ⊢
  by_cases e19 : op = 19
  · rw [if_pos e19] at hc ⊢
    exact ok19 hd hc
  rw [if_neg e19] at hc ⊢
  by_cases e20 : op = 20
  · rw [if_pos e20] at hc ⊢
    exact ok20 hd hc
  rw [if_neg e20] at hc ⊢
  by_cases e33 : op = 33
  · rw [if_pos e33] at hc ⊢
    exact ok33 hd hc
  rw [if_neg e33] at hc ⊢
  by_cases e40 : op = 40
  · rw [if_pos e40] at hc ⊢
    exact ok40 hd hc
  rw [if_neg e40] at hc ⊢
  by_cases e36 : op = 36
  · rw [if_pos e36] at hc ⊢
    exact ok36 hd hc
  rw [if_neg e36] at hc ⊢
  by_cases e44 : op = 44
  · rw [if_pos e44] at hc ⊢
    exact ok44 hd hc
  rw [if_neg e44] at hc ⊢
  by_cases e28 : op = 28
  · rw [if_pos e28] at hc ⊢
    exact ok28 hd hc
  rw [if_neg e28] at hc ⊢
  by_cases e30 : op = 30
  · rw [if_pos e30] at hc ⊢
    exact ok30 hd hc
  rw [if_neg e30] at hc ⊢
  by_cases e21 : op = 21
  · rw [if_pos e21] at hc ⊢
    exact ok21 hd hc
  rw [if_neg e21] at hc ⊢
  by_cases e31 : op = 31
  · rw [if_pos e31] at hc ⊢
    exact ok31 hd hc
  rw [if_neg e31] at hc ⊢
  by_cases e29 : op = 29
  · rw [if_pos e29] at hc ⊢
    exact ok29 hd hc
  rw [if_neg e29] at hc ⊢
  by_cases e32 : op = 32
  · rw [if_pos e32] at hc ⊢
    exact ok32 hd hc
  rw [if_neg e32] at hc ⊢
  by_cases e34 : op = 34
  · rw [if_pos e34] at hc ⊢
    exact ok34 hd hc
  rw [if_neg e34] at hc ⊢
  by_cases e35 : op = 35
  · rw [if_pos e35] at hc ⊢
    exact ok35 hd hc
  rw [if_neg e35] at hc ⊢
  by_cases e37 : op = 37
  · rw [if_pos e37] at hc ⊢
    exact ok37 hd hc
  rw [if_neg e37] at hc ⊢
  by_cases e38 : op = 38
  · rw [if_pos e38] at hc ⊢
    exact ok38 hd hc
  rw [if_neg e38] at hc ⊢
  by_cases e39 : op = 39
  · rw [if_pos e39] at hc ⊢
    exact ok39 hd hc
  rw [if_neg e39] at hc ⊢
  by_cases e45 : op = 45
  · rw [if_pos e45] at hc ⊢
    exact ok45 hd hc
  rw [if_neg e45] at hc ⊢
  by_cases e46 : op = 46
  · rw [if_pos e46] at hc ⊢
    exact ok46 hd hc
  rw [if_neg e46] at hc ⊢
  by_cases e47 : op = 47
  · rw [if_pos e47] at hc ⊢
    exact ok47 hd hc
  rw [if_neg e47] at hc ⊢
  by_cases e50 : op = 50
  · rw [if_pos e50] at hc ⊢
    exact ok50 hd hc
  rw [if_neg e50] at hc ⊢
  by_cases e51 : op = 51
  · rw [if_pos e51] at hc ⊢
    exact ok51 hd hc
  rw [if_neg e51] at hc ⊢
  by_cases e53 : op = 53
  · rw [if_pos e53] at hc ⊢
    exact ok53 hd hc
  rw [if_neg e53] at hc ⊢
  by_cases e54 : op = 54
  · rw [if_pos e54] at hc ⊢
    exact ok54 hd hc
  rw [if_neg e54] at hc ⊢
  by_cases e55 : op = 55
  · rw [if_pos e55] at hc ⊢
    exact ok55 hd hc
  rw [if_neg e55] at hc ⊢
  by_cases e56 : op = 56
  · rw [if_pos e56] at hc ⊢
    exact ok56 hd hc
  rw [if_neg e56] at hc ⊢
  by_cases e57 : op = 57
  · rw [if_pos e57] at hc ⊢
    exact ok57 hd hc
  rw [if_neg e57] at hc ⊢
  by_cases e58 : op = 58
  · rw [if_pos e58] at hc ⊢
    exact ok58 hd hc
  rw [if_neg e58] at hc ⊢
  by_cases e59 : op = 59
  · rw [if_pos e59] at hc ⊢
    exact ok59 hd hc
  rw [if_neg e59] at hc ⊢
  by_cases e64 : op = 64
  · rw [if_pos e64] at hc ⊢
    exact ok64 hd hc
  rw [if_neg e64] at hc ⊢
  by_cases e67 : op = 67
  · rw [if_pos e67] at hc ⊢
    exact ok67 hd hc
  rw [if_neg e67] at hc ⊢
  by_cases e68 : op = 68
  · rw [if_pos e68] at hc ⊢
    exact ok68 hd hc
  rw [if_neg e68] at hc ⊢
  by_cases e41 : op = 41
  · rw [if_pos e41] at hc ⊢
    exact ok41 hd hc
  rw [if_neg e41] at hc ⊢
  by_cases e42 : op = 42
  · rw [if_pos e42] at hc ⊢
    exact ok42 hd hc
  rw [if_neg e42] at hc ⊢
  by_cases e43 : op = 43
  · rw [if_pos e43] at hc ⊢
    exact ok43 hd hc
  rw [if_neg e43] at hc ⊢
  by_cases e48 : op = 48
  · rw [if_pos e48] at hc ⊢
    exact ok48 hd hc
  rw [if_neg e48] at hc ⊢
  by_cases e49 : op = 49
  · rw [if_pos e49] at hc ⊢
    exact ok49 hd hc
  rw [if_neg e49] at hc ⊢
  by_cases e70 : op = 70
  · rw [if_pos e70] at hc ⊢
    exact ok70 hd hc
  rw [if_neg e70] at hc ⊢
  exact zSd_none
/-- a told array that a value refers to -/
def z8i (H : zA_H) (a : zA_V) : Option (Nat × zA_C) := if a.1 = 2 ∧ 3 ≤ a.2.toNat then (match H[a.2.toNat - 3]? with
  | some c => if c.1 = 8 ∧ 0 < c.2.2.1 then some (a.2.toNat - 3, c) else none
  | none => none) else none
theorem z8i_g {H : zA_H} {a : zA_V} {q : Nat × zA_C} (h : z8i H a = some q) : a.1 = 2 ∧ 3 ≤ a.2.toNat ∧ q.1 = a.2.toNat - 3 ∧ H[q.1]? = some q.2 ∧ q.2.1 = 8 ∧ 0 < q.2.2.2.1 := by
  unfold z8i at h
  split at h
  · next h1 =>
    split at h
    · next c hc =>
      split at h
      · next h2 =>
        cases h
        exact ⟨h1.1, h1.2, rfl, hc, h2.1, h2.2⟩
      · cases h
    · cases h
  · cases h
/-- turned into a wide one -/
def z8c (c : zA_C) : zA_C := (1, if (c.2.2.2.1.headD (3, 0)).1 = 8 then 1 else 0, c.2.2.1, [c.2.2.2.1.headD (3, 0)], c.2.2.2.2)
theorem z8c_g {φ : List z_C} {ρ : List Int} {a : zA_C} {c : z_C} (h1 : a.1 = 8) (h2 : 0 < a.2.2.1) (g : zg_C φ ρ a c) : zg_C φ ρ (z8c a) c := by
  unfold z8c
  rcases g with ⟨-, -, g⟩ | ⟨g1, -⟩ | ⟨g1, -⟩ | ⟨g1, -⟩ | ⟨g1, -⟩
  · rcases g h2 with ⟨f, e, k, g, gy⟩ | ⟨f, e, k, g, gy⟩
    · rw [if_neg k]
      exact Or.inr (Or.inr (Or.inl ⟨rfl, rfl, f, e, fun j hj => g j hj, gy⟩))
    · rw [if_pos k]
      exact Or.inr (Or.inr (Or.inr (Or.inl ⟨rfl, rfl, f, e, fun j hj => g j hj, gy⟩)))
  all_goals omega
def z8l (H : zA_H) : List zA_V → Option (Nat × zA_C)
  | [] => none
  | a :: l => match z8i H a with
    | some q => some q
    | none => z8l H l
theorem z8l_g {H : zA_H} : ∀ {l : List zA_V} {q : Nat × zA_C}, z8l H l = some q → H[q.1]? = some q.2 ∧ q.2.1 = 8 ∧ 0 < q.2.2.2.1
  | [], _, h => by cases h
  | a :: l, q, h => by
    unfold z8l at h
    split at h
    · next q' hq =>
      cases h
      exact (z8i_g hq).2.2.2
    · exact z8l_g h
def z8op (op : Nat) : Bool := Nat.beq op 27 || (Nat.beq op 31 || (Nat.beq op 32 || (Nat.beq op 64 || (Nat.beq op 67 || Nat.beq op 68))))
/-- a place of a told array: told by its number, or by a name and kept in mind -/
def z8K (nx : Nat) (t : zA_T) (r : List zA_V) (i k : Nat) (c : zA_C) (v : zA_V) : zA_R := if v.1 < 6 then some [(nx, zt_st t (v :: r))] else
  some ((zwd t.1 v).map (fun p => (nx, (p.1, t.2.1.set i (8, c.2.1, c.2.2.1, c.2.2.2.1, (1000000 + k, p.2) :: c.2.2.2.2), t.2.2.1, p.2 :: r, t.2.2.2.2))))
def z8jn (S : zA_S) (c : zA_C) (j0 : zA_V) : zA_V := if j0.1 = 1 ∧ 6 ≤ (c.2.2.2.1.headD (3, 0)).1 ∧ c.2.2.2.2.all (fun q => Nat.ble 1000000 q.1) = true then j0 else zn S j0
theorem z8jn_g {ρ : List Int} {S : zA_S} {c : zA_C} {j0 : zA_V} {v : Value} (hS : zg_S ρ S) (g : zg_V ρ j0 v) : zg_V ρ (z8jn S c j0) v := by
  unfold z8jn
  split
  · exact g
  · exact zn_g hS g
def z8r (ty nx pc : Nat) (t : zA_T) (j0 : zA_V) (r : List zA_V) (i : Nat) (c : zA_C) : zA_R :=
  let j := z8jn t.1 c j0
  if zIs j = true then (match zrx t.1 j with
    | some q => if (ty = 1 ↔ (c.2.2.2.1.headD (3, 0)).1 = 8) ∧ 0 ≤ q.1 ∧ q.2 < c.2.2.1 then
        (if j.1 = 0 then zx_aldW nx t r (zx_el c j.2.toNat) else if zncr q c.2.2.2.2 = true ∧ c.2.2.1 ≤ 1000000 then (match c.2.2.2.2.lookup (1000000 + j.2.toNat) with
          | some v => zx_aldW nx t r v
          | none => z8K nx t r i j.2.toNat c (c.2.2.2.1.headD (3, 0)))
          else zx_again pc t (zSp t.1 j)) else none
    | none => none) else none
def z8rd (ty nx pc : Nat) (t : zA_T) : Option zA_R := match t.2.2.2.1 with
  | j0 :: a :: r => (match z8i t.2.1 a with
    | some q => some (z8r ty nx pc t j0 r q.1 q.2)
    | none => none)
  | _ => none
theorem z8rd_g {ty : Nat} {r : zA_R} (hty : ty < 2) (hI : ty = 0 → decode y.2.1 pc = .ok (.iaload, 1) ∧ nx = pc + 1) (hJ : ty = 1 → decode y.2.1 pc = .ok (.laload, 1) ∧ nx = pc + 1) (h : z8rd ty nx pc t = some r) : zSd l d y X mc ms XL φ Q pc t r := by
  obtain ⟨S, H, L, s0, cc, ns⟩ := t
  intro ts hts ρ ph lv st g k0
  have gT := g
  obtain ⟨g1, g2, g3, g4, g5⟩ := g
  unfold z8rd at h
  split at h
  · next j0 a r0 hst =>
    have hst : s0 = j0 :: a :: r0 := hst
    subst hst
    obtain ⟨vj, st1, rfl, gj0, gr1⟩ := zL2.cons1 g4
    obtain ⟨va, st2, rfl, ga, gr⟩ := zL2.cons1 gr1
    split at h
    · next q0 hq0 =>
      cases h
      obtain ⟨i, c⟩ := q0
      obtain ⟨a1, a2, a3, a4, a5, a6⟩ := z8i_g hq0
      dsimp only at a3 a4 a5 a6 hts
      have ea := zg_ref a1 ga
      subst ea
      rw [z_back3 a2, ← a3]
      obtain ⟨c', hc', gc⟩ := zL2.get g2 a4
      have gj := z8jn_g (c := c) g1 gj0
      unfold z8r at hts
      dsimp only at hts
      generalize hej : z8jn S c j0 = j at *
      split at hts
      · next hI0 =>
        obtain ⟨x, rfl, ex⟩ := zg_int hI0 gj
        split at hts
        · next q hq =>
          have bq := zrx_in g1 ex hq
          split at hts
          · next h4 =>
            obtain ⟨c4, c5, c6⟩ := h4
            have hin : vp_in x c.2.2.1 := vp_in_iff.mpr ⟨by omega, by omega⟩
            have hjl : x.toNatClampNeg < c.2.2.1 := z_in_lt hin
            obtain ⟨hφ, g8⟩ : φ[c.2.1]? = some c' ∧ zg_8 ρ c c' := by
              rcases gc with ⟨-, e1, e2⟩ | ⟨g1, -⟩ | ⟨g1, -⟩ | ⟨g1, -⟩ | ⟨g1, -⟩
              · exact ⟨e1, e2⟩
              all_goals omega
            have g8' := g8 a6
            have end_ : (∀ (el : Nat → Value), (∀ j, j < c.2.2.1 → zg_V ρ (zx_el c j) (el j)) → zg_Y ρ c.2.2.1 c.2.2.2.2 el → (∀ (ρ' : List Int) (ov : List (Nat × zA_V)), (∀ j, j < c.2.2.1 → zg_V ρ' ((ov.lookup j).getD (c.2.2.2.1.headD (3, 0))) (el j)) → zg_Y ρ' c.2.2.1 ov el → zg_C φ ρ' (8, c.2.1, c.2.2.1, c.2.2.2.1, ov) c') → ZW l d y X mc ms Q nx lv (el x.toNatClampNeg :: st2) ph cc ns) → ZW l d y X mc ms Q pc lv (.int x :: .ref (i + 3) :: st2) ph cc ns := by
              intro K
              rcases g8' with ⟨f, e, k, gf, gy⟩ | ⟨f, e, k, gf, gy⟩
              · have h0 : ty = 0 := by
                  rcases (by omega : ty = 0 ∨ ty = 1) with e | e
                  · exact e
                  · exact absurd (c4.mp e) k
                obtain ⟨hd, rfl⟩ := hI h0
                have hc2 := hc'
                rw [e] at hc2
                exact zs_iaload hd hc2 hin (K (fun j => .int (f j)) gf gy (fun ρ' ov g1 g2 => Or.inl ⟨rfl, hφ, fun _ => Or.inl ⟨f, e, k, g1, g2⟩⟩))
              · have h1 : ty = 1 := c4.mpr k
                obtain ⟨hd, rfl⟩ := hJ h1
                have hc2 := hc'
                rw [e] at hc2
                exact zs_laload hd hc2 hin (K (fun j => .long (f j)) gf gy (fun ρ' ov g1 g2 => Or.inl ⟨rfl, hφ, fun _ => Or.inr ⟨f, e, k, g1, g2⟩⟩))
            have fin : ∀ (v : zA_V), zx_aldW nx (S, H, L, j0 :: a :: r0, cc, ns) r0 v = some ts → ∀ u, zg_V ρ v u → ZW l d y X mc ms Q nx lv (u :: st2) ph cc ns := by
              intro v e u gu
              unfold zx_aldW at e
              split at e
              · cases e
                exact k0 _ (List.mem_singleton.mpr rfl) ρ ph lv _ (zLE.refl ρ) ⟨g1, g2, g3, ⟨gu, gr⟩, g5⟩
              · cases e
                obtain ⟨p, hp, ρ', hle, gS, gV⟩ := zwd_g g1 gu
                exact k0 _ (List.mem_map.mpr ⟨p, hp, rfl⟩) ρ' ph lv _ hle ⟨gS, zL2.mono (fun _ _ => zg_C.mono hle) g2, zL2.mono (fun _ _ q => ⟨q.1, q.2.mono hle⟩) g3, ⟨gV, zL2.mono (fun _ _ => zg_V.mono hle) gr⟩, g5.mono hle⟩
            split at hts
            · next hj0 =>
              have hx : x.toInt = j.2 := by rcases ex with ⟨-, e⟩ | ⟨e, -⟩ <;> omega
              have hxn : x.toNatClampNeg = j.2.toNat := by show x.toInt.toNat = _; rw [hx]
              exact end_ (fun el gf gy gC => fin _ hts _ (by rw [← hxn]; exact gf _ hjl))
            · next hj0 =>
              split at hts
              · next hov =>
                obtain ⟨hnc, hlen⟩ := hov
                have hbase : ∀ u, zg_V ρ (zx_el c x.toNatClampNeg) u → zg_V ρ (c.2.2.2.1.headD (3, 0)) u := by
                  intro u gu
                  unfold zx_el at gu
                  have hxn : (x.toNatClampNeg : Int) = x.toInt := by show ((x.toInt.toNat : Nat) : Int) = _; omega
                  rw [zncr_look hnc (by omega) (by omega) (by omega)] at gu
                  exact gu
                have ek : ρ[j.2.toNat]? = some x.toInt := by
                  rcases ex with ⟨h | h, e⟩ | ⟨-, e⟩
                  · exact absurd h hj0
                  · have := hI0
                    simp only [zIs, Bool.or_eq_true, beq_iff_eq] at this
                    omega
                  · exact e
                split at hts
                · next v hv =>
                  have hm := z_look_in hv
                  refine end_ (fun el gf gy gC => fin _ hts _ ?_)
                  obtain ⟨m, h1, h2⟩ := gy _ hm (Nat.le_add_right _ _)
                  have h1 : ρ[1000000 + j.2.toNat - 1000000]? = some m := h1
                  rw [Nat.add_sub_cancel_left, ek] at h1
                  cases h1
                  exact h2 (by omega) (by omega)
                · unfold z8K at hts
                  split at hts
                  · next h6 => exact end_ (fun el gf gy gC => fin (c.2.2.2.1.headD (3, 0)) (by unfold zx_aldW; rw [if_pos h6]; exact hts) _ (hbase _ (gf _ hjl)))
                  · cases hts
                    refine end_ (fun el gf gy gC => ?_)
                    obtain ⟨p, hp, ρ', hle, gS, gV⟩ := zwd_g g1 (hbase _ (gf _ hjl))
                    refine k0 _ (List.mem_map.mpr ⟨p, hp, rfl⟩) ρ' ph lv _ hle ⟨gS, zL2.setL' (gC ρ' ((1000000 + j.2.toNat, p.2) :: c.2.2.2.2) (fun i hi => ?_) (fun q hq hk => ?_)) _ (zL2.mono (fun _ _ => zg_C.mono hle) g2) hc', zL2.mono (fun _ _ q => ⟨q.1, q.2.mono hle⟩) g3, ⟨gV, zL2.mono (fun _ _ => zg_V.mono hle) gr⟩, g5.mono hle⟩
                    · rw [List.lookup_cons]
                      have : (i == 1000000 + j.2.toNat) = false := by
                        rw [beq_eq_false_iff_ne]
                        omega
                      rw [this]
                      exact (gf i hi).mono hle
                    · rcases List.mem_cons.mp hq with rfl | hq
                      · refine ⟨x.toInt, ?_, fun _ _ => gV⟩
                        show ρ'[1000000 + j.2.toNat - 1000000]? = _
                        rw [Nat.add_sub_cancel_left]
                        exact hle _ _ ek
                      · exact (gy.mono hle) q hq hk
              · obtain ⟨t', m, gt, e⟩ := zx_again_g hts rfl gT ex
                have := k0 _ m ρ ph lv _ (zLE.refl ρ) gt
                rw [e, z_back3 a2, ← a3] at this
                exact this
          · cases hts
        · cases hts
      · cases hts
    · cases h
  · cases h
def zex (XL mc ms d op nx pc : Nat) (o : List Int) (t : zA_T) : zA_R := if op = 26 then (match z8rd 0 nx pc t with
    | some r => r
    | none => zex0 XL mc ms d op nx pc o t) else if op = 30 then (match z8rd 1 nx pc t with
    | some r => r
    | none => zex0 XL mc ms d op nx pc o t) else if z8op op = true then (match z8l t.2.1 (t.2.2.2.1.take 5) with
    | some q => some [(pc, (t.1, t.2.1.set q.1 (z8c q.2), t.2.2))]
    | none => zex0 XL mc ms d op nx pc o t) else zex0 XL mc ms d op nx pc o t
theorem zex_ok {op : Nat} (hd : decode y.2.1 pc = .ok (ins, len)) (hc : zck y pc op nx o ins len = true) : zSd l d y X mc ms XL φ Q pc t (zex XL mc ms d op nx pc o t) := by
  unfold zex
  split
  · next e =>
    subst e
    split
    · next r hr =>
      have hc26 : ck26 y pc nx o ins len = true := hc
      obtain ⟨rfl, rfl, rfl⟩ := of_decide_eq_true hc26
      exact z8rd_g (by decide) (fun _ => ⟨hd, rfl⟩) (fun e => absurd e (by decide)) hr
    · exact zex0_ok hd hc
  · split
    · next e =>
      subst e
      split
      · next r hr =>
        have hc30 : ck30 y pc nx o ins len = true := hc
        obtain ⟨rfl, rfl, rfl⟩ := of_decide_eq_true hc30
        exact z8rd_g (by decide) (fun e => absurd e (by decide)) (fun _ => ⟨hd, rfl⟩) hr
      · exact zex0_ok hd hc
    · split
      · split
        · next q hq =>
          intro ts hts ρ ph lv st g k0
          cases hts
          obtain ⟨a1, a2, a3⟩ := z8l_g hq
          refine k0 _ (List.mem_singleton.mpr rfl) ρ ph lv st (zLE.refl ρ) ⟨g.1, zL2.setL q.1 g.2.1 (fun x hx => ?_), g.2.2⟩
          obtain ⟨x', ex, gx⟩ := zL2.get g.2.1 a1
          rw [hx] at ex
          cases ex
          exact z8c_g a2 a3 gx
        · exact zex0_ok hd hc
      · exact zex0_ok hd hc
end ZK
