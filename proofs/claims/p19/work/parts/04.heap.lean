/-! PART 04: fields, arrays, new cells. -/
def z_rf (r : Option Nat) : Value := match r with
  | some a => .ref a
  | none => .null
theorem z_rf_em (K : zx_K) (r : Option Nat) : z_em K (z_rf r) = va_rf (r.map (z_ad K)) := by cases r <;> rfl
def z_I (f : Nat → Int32) : z_S := .inl f
def z_J (f : Nat → Int64) : z_S := .inr (.inl f)
def z_O (f : Nat → Option Nat) : z_S := .inr (.inr (.inr (.inr f)))
theorem z_ad3 (K : zx_K) (i : Nat) : z_ad K (i + 3) = zk_z K + i := rfl
theorem z_in_lt {i : Int32} {n : Nat} (h : vp_in i n) : i.toNatClampNeg < n := Nat.not_le.mp fun q => h (Or.inr q)
section ZH
variable {l : Launch} {d : Nat} {y : zx_Y} {X : zx_X} {mc ms : Nat} {Q : Option Value → List z_C → Prop} {pc : Nat} {lv : List (Nat × Value)} {st : List Value} {ph : List z_C} {cc ns : Nat}
theorem zs_getfield {ix i ci k : Nat} {C : String} {T : u_T} {N : Nat} {fs : List Value} {v : Value} (hd : decode y.2.1 pc = .ok (.getfield ix, 3)) (hw : Cond.fieldLink y.1.cls ix (T k).1 (T k).2.1 (T k).2.2.1 ∈ zx_tbl) (hc : zc[ci]? = some (C, T, N)) (hk : k < N) (hi : ph[i]? = some (.inr (ci, fs))) (hv : fs[k]? = some v)
    (kk : ZW l d y X mc ms Q (pc + 3) lv (v :: st) ph cc ns) : ZW l d y X mc ms Q pc lv (.ref (i + 3) :: st) ph cc ns := by
  intro K p e R s m args below meth c H locs QF ls Cx w h4 r hl
  exact va_get Cx.1 Cx.2.1 Cx.2.2.2.2.1 (zc_in hc) Cx.2.2.2.1 Cx.2.2.2.2.2.1 w.2.1 i (z_ws_get hi) hc k hk (Cx.2.2.2.2.1 _ hw) (fun x h => h) (v := z_em K v) (by rw [List.getElem?_map, hv]; rfl) hd (kk K p e R s m args below meth c H locs QF ls Cx w h4 r hl)
theorem z_setF {K : zx_K} {ph : List z_C} {i k ci : Nat} {fs : List Value} {v : Value} : (z_ws K ph).set i (zk_z K + i, .inr (ci, (fs.map (z_em K)).set k (z_em K v))) = z_ws K (ph.set i (.inr (ci, fs.set k v))) := by
  rw [← z_ws_set]
  show _ = (z_ws K ph).set i (zk_z K + i, .inr (ci, (fs.set k v).map (z_em K)))
  rw [List.map_set]
theorem zWo.set {K : zx_K} {s : State} {H H1 : Heap} {locs locs1 : List Loc} {ph : List z_C} {cells i : Nat} {c : z_C} (w : zWo K s H locs ph cells) (hP : va_P (zk_D K) zc (z_ws K (ph.set i c)) H1) (hS : va_S (zk_A K) s.heap H1 locs1) : zWo K s H1 locs1 (ph.set i c) cells :=
  ⟨by rw [List.length_set]; exact w.1, hP, hS⟩
theorem zs_putfield {ix i ci k : Nat} {C : String} {T : u_T} {N : Nat} {fs : List Value} {v : Value} (hd : decode y.2.1 pc = .ok (.putfield ix, 3)) (hw : Cond.fieldLink y.1.cls ix (T k).1 (T k).2.1 (T k).2.2.1 ∈ zx_tbl) (hc : zc[ci]? = some (C, T, N)) (hk : k < N) (hi : ph[i]? = some (.inr (ci, fs))) (hlen : k < fs.length)
    (hfin : (T k).2.2.2 = false) (hty : ∀ K, narrow (zc_ty (C, T, N) k) (z_em K v) = z_em K v ∧ fits (zc_ty (C, T, N) k) (z_em K v) = true)
    (kk : ZW l d y X mc ms Q (pc + 3) lv st (ph.set i (.inr (ci, fs.set k v))) cc ns) : ZW l d y X mc ms Q pc lv (v :: .ref (i + 3) :: st) ph cc ns := by
  intro K p e R s m args below meth c H locs QF ls Cx w h4 r hl
  refine va_put Cx.1 Cx.2.1 Cx.2.2.2.2.1 (zc_in hc) (zc_ty (C, T, N)) (zc_tyOk hc) (zc_nm hc) Cx.2.2.2.1 Cx.2.2.2.2.2.1 w.2.1 (z_wsD K ph) w.2.2 i (z_ws_get hi) hc k hk (Cx.2.2.2.2.1 _ hw) (fun x h => h) hfin (zc_tyOk hc k hk) (hty K).1 (hty K).2 (by rw [List.length_map]; exact hlen) hd (fun H1 locs1 hP hD hS => ?_)
  rw [z_setF] at hP
  exact kk K p e R s m args below meth c H1 locs1 QF ls Cx (w.set hP hS) h4 r hl
theorem zs_putfinal {ix i ci k : Nat} {C : String} {T : u_T} {N : Nat} {fs : List Value} {v : Value} (hd : decode y.2.1 pc = .ok (.putfield ix, 3)) (hw : Cond.fieldLink y.1.cls ix (T k).1 (T k).2.1 (T k).2.2.1 ∈ zx_tbl) (hc : zc[ci]? = some (C, T, N)) (hk : k < N) (hi : ph[i]? = some (.inr (ci, fs))) (hlen : k < fs.length)
    (hfin : (T k).2.2.2 = true) (hin : y.1.name = "<init>") (hdc : (T k).1 = y.1.cls) (hty : ∀ K, narrow (zc_ty (C, T, N) k) (z_em K v) = z_em K v ∧ fits (zc_ty (C, T, N) k) (z_em K v) = true)
    (kk : ZW l d y X mc ms Q (pc + 3) lv st (ph.set i (.inr (ci, fs.set k v))) cc ns) : ZW l d y X mc ms Q pc lv (v :: .ref (i + 3) :: st) ph cc ns := by
  intro K p e R s m args below meth c H locs QF ls Cx w h4 r hl
  refine va_putF Cx.1 Cx.2.1 Cx.2.2.2.2.1 (zc_in hc) (zc_ty (C, T, N)) (zc_tyOk hc) (zc_nm hc) Cx.2.2.2.1 Cx.2.2.2.2.2.1 w.2.1 (z_wsD K ph) w.2.2 i (z_ws_get hi) hc k hk (Cx.2.2.2.2.1 _ hw) (fun x h => h) hfin (Cx.2.2.2.2.2.2.2.2 hin) hdc (zc_tyOk hc k hk) (hty K).1 (hty K).2 (by rw [List.length_map]; exact hlen) hd (fun H1 locs1 hP hD hS => ?_)
  rw [z_setF] at hP
  exact kk K p e R s m args below meth c H1 locs1 QF ls Cx (w.set hP hS) h4 r hl
theorem zs_iaload {i n : Nat} {f : Nat → Int32} {j : Int32} (hd : decode y.2.1 pc = .ok (.iaload, 1)) (hi : ph[i]? = some (.inl (0, n, z_I f))) (hin : vp_in j n)
    (kk : ZW l d y X mc ms Q (pc + 1) lv (.int (f j.toNatClampNeg) :: st) ph cc ns) : ZW l d y X mc ms Q pc lv (.int j :: .ref (i + 3) :: st) ph cc ns := by
  intro K p e R s m args below meth c H locs QF ls Cx w h4 r hl
  exact va_iald Cx.1 Cx.2.1 Cx.2.2.2.2.2.1 w.2.1 i 0 (z_ws_get hi) rfl hin hd (kk K p e R s m args below meth c H locs QF ls Cx w h4 r hl)
theorem zs_laload {i n : Nat} {f : Nat → Int64} {j : Int32} (hd : decode y.2.1 pc = .ok (.laload, 1)) (hi : ph[i]? = some (.inl (1, n, z_J f))) (hin : vp_in j n)
    (kk : ZW l d y X mc ms Q (pc + 1) lv (.long (f j.toNatClampNeg) :: st) ph cc ns) : ZW l d y X mc ms Q pc lv (.int j :: .ref (i + 3) :: st) ph cc ns := by
  intro K p e R s m args below meth c H locs QF ls Cx w h4 r hl
  exact va_lald Cx.1 Cx.2.1 Cx.2.2.2.2.2.1 w.2.1 i 1 (z_ws_get hi) rfl hin hd (kk K p e R s m args below meth c H locs QF ls Cx w h4 r hl)
theorem zs_aaload {i n : Nat} {f : Nat → Option Nat} {j : Int32} (hd : decode y.2.1 pc = .ok (.aaload, 1)) (hi : ph[i]? = some (.inl (2, n, z_O f))) (hin : vp_in j n)
    (kk : ZW l d y X mc ms Q (pc + 1) lv (z_rf (f j.toNatClampNeg) :: st) ph cc ns) : ZW l d y X mc ms Q pc lv (.int j :: .ref (i + 3) :: st) ph cc ns := by
  intro K p e R s m args below meth c H locs QF ls Cx w h4 r hl
  refine va_aldq Cx.1 Cx.2.1 Cx.2.2.2.2.2.1 w.2.1 i 2 (f := fun j => (f j).map (z_ad K)) (z_ws_get hi) rfl hin hd ?_
  have h := kk K p e R s m args below meth c H locs QF ls Cx w h4 r hl
  rw [List.map_cons, z_rf_em] at h
  exact h
theorem zs_alen {i t n : Nat} {x : z_S} {v : Int32} (ht : t < 3) (hv : Int32.ofNat n = v) (hd : decode y.2.1 pc = .ok (.arraylength, 1)) (hi : ph[i]? = some (.inl (t, n, x)))
    (kk : ZW l d y X mc ms Q (pc + 1) lv (.int v :: st) ph cc ns) : ZW l d y X mc ms Q pc lv (.ref (i + 3) :: st) ph cc ns := by
  intro K p e R s m args below meth c H locs QF ls Cx w h4 r hl
  have k2 := kk K p e R s m args below meth c H locs QF ls Cx w h4 r hl
  rcases (by omega : t = 0 ∨ t = 1 ∨ t = 2) with rfl | rfl | rfl
  · exact va_alen Cx.1 Cx.2.1 Cx.2.2.2.2.2.1 w.2.1 i 0 (z_ws_get hi) rfl hv hd k2
  · exact va_alen Cx.1 Cx.2.1 Cx.2.2.2.2.2.1 w.2.1 i 1 (z_ws_get hi) rfl hv hd k2
  · exact va_alen Cx.1 Cx.2.1 Cx.2.2.2.2.2.1 w.2.1 i 2 (z_ws_get hi) rfl hv hd k2
theorem zs_iastore {i n : Nat} {f : Nat → Int32} {j x : Int32} (hd : decode y.2.1 pc = .ok (.iastore, 1)) (hi : ph[i]? = some (.inl (0, n, z_I f))) (hin : vp_in j n)
    (kk : ZW l d y X mc ms Q (pc + 1) lv st (ph.set i (.inl (0, n, z_I (upd f j.toNatClampNeg x)))) cc ns) : ZW l d y X mc ms Q pc lv (.int x :: .int j :: .ref (i + 3) :: st) ph cc ns := by
  intro K p e R s m args below meth c H locs QF ls Cx w h4 r hl
  refine va_iast Cx.1 Cx.2.1 Cx.2.2.2.2.2.1 w.2.1 (z_wsD K ph) w.2.2 i 0 (z_ws_get hi) rfl hin hd (fun H1 locs1 hP hD hS => ?_)
  have hP := z_ws_set K ph i (.inl (0, n, z_I (upd f j.toNatClampNeg x))) ▸ hP
  exact kk K p e R s m args below meth c H1 locs1 QF ls Cx (w.set hP hS) h4 r hl
theorem zs_lastore {i n : Nat} {f : Nat → Int64} {j : Int32} {x : Int64} (hd : decode y.2.1 pc = .ok (.lastore, 1)) (hi : ph[i]? = some (.inl (1, n, z_J f))) (hin : vp_in j n)
    (kk : ZW l d y X mc ms Q (pc + 1) lv st (ph.set i (.inl (1, n, z_J (vp_updL f j.toNatClampNeg x)))) cc ns) : ZW l d y X mc ms Q pc lv (.long x :: .int j :: .ref (i + 3) :: st) ph cc ns := by
  intro K p e R s m args below meth c H locs QF ls Cx w h4 r hl
  refine va_last Cx.1 Cx.2.1 Cx.2.2.2.2.2.1 w.2.1 (z_wsD K ph) w.2.2 i 1 (z_ws_get hi) rfl hin hd (fun H1 locs1 hP hD hS => ?_)
  have hP := z_ws_set K ph i (.inl (1, n, z_J (vp_updL f j.toNatClampNeg x))) ▸ hP
  exact kk K p e R s m args below meth c H1 locs1 QF ls Cx (w.set hP hS) h4 r hl
theorem zs_aastore {i n q : Nat} {f : Nat → Option Nat} {j : Int32} {ci : Nat} {fs : List Value} {T : u_T} {N : Nat} (hd : decode y.2.1 pc = .ok (.aastore, 1)) (hi : ph[i]? = some (.inl (2, n, z_O f))) (hq : ph[q]? = some (.inr (ci, fs))) (hc : zc[ci]? = some (zs_S, T, N)) (hin : vp_in j n)
    (kk : ZW l d y X mc ms Q (pc + 1) lv st (ph.set i (.inl (2, n, z_O (va_up f j.toNatClampNeg (some (q + 3)))))) cc ns) : ZW l d y X mc ms Q pc lv (.ref (q + 3) :: .int j :: .ref (i + 3) :: st) ph cc ns := by
  intro K p e R s m args below meth c H locs QF ls Cx w h4 r hl
  refine va_astq Cx.1 Cx.2.1 Cx.2.2.2.2.2.1 w.2.1 (z_wsD K ph) w.2.2 i 2 q ci (f := fun j => (f j).map (z_ad K)) (r := (zs_S, T, N)) (z_ws_get hi) rfl (z_ws_get hq) hc hin hd (fun H1 locs1 hP hD hS => ?_)
  have e1 : (va_up (fun j => (f j).map (z_ad K)) j.toNatClampNeg (some (zk_z K + q))) = (fun k => (va_up f j.toNatClampNeg (some (q + 3)) k).map (z_ad K)) := by
    funext k
    by_cases h : k = j.toNatClampNeg
    · simp [va_up, h, z_ad3]
    · simp [va_up, h]
  rw [e1] at hP
  have hP := z_ws_set K ph i (.inl (2, n, z_O (va_up f j.toNatClampNeg (some (q + 3))))) ▸ hP
  exact kk K p e R s m args below meth c H1 locs1 QF ls Cx (w.set hP hS) h4 r hl
/-- a table's place -/
theorem zs_tabload {t n : Nat} {g : List Int32} {j : Int32} (ht : t = 0 ∧ n = 32 ∧ g = zs_own ∨ t = 1 ∧ n = 8 ∧ g = zs_abv) (hd : decode y.2.1 pc = .ok (.iaload, 1)) (hin : vp_in j n)
    (kk : ZW l d y X mc ms Q (pc + 1) lv (.int (g.getD j.toNatClampNeg 0) :: st) ph cc ns) : ZW l d y X mc ms Q pc lv (.int j :: .ref t :: st) ph cc ns := by
  intro K p e R s m args below meth c H locs QF ls Cx w h4 r hl
  have hT : va_T .int (z_ad K t) n (fun j => .int (g.getD j 0)) (zk_A K) s s.heap := by
    rcases ht with ⟨rfl, rfl, rfl⟩ | ⟨rfl, rfl, rfl⟩
    · exact Cx.2.2.2.2.2.2.1.2.2.1
    · exact Cx.2.2.2.2.2.2.1.2.2.2.1
  obtain ⟨cell, h1, h2, h3, h5, h6, h7, h8⟩ := hT
  have hlt := z_in_lt hin
  exact W.iald Cx.1 Cx.2.1 (by rw [w.2.2.2.1 _ (Array.getElem?_eq_some_iff.mp h1).1 h8]; exact h1) h2 h3 (fun q => q.elim (fun a => hin (Or.inl a)) (fun a => by omega)) (h7 _ hlt) rfl rfl hd (kk K p e R s m args below meth c H locs QF ls Cx w h4 r hl)
theorem zs_scrload {j : Int32} (hd : decode y.2.1 pc = .ok (.iaload, 1)) (hin : vp_in j X.1)
    (kk : ZW l d y X mc ms Q (pc + 1) lv (.int (X.2 j.toNatClampNeg) :: st) ph cc ns) : ZW l d y X mc ms Q pc lv (.int j :: .ref 2 :: st) ph cc ns := by
  intro K p e R s m args below meth c H locs QF ls Cx w h4 r hl
  obtain ⟨-, -, -, -, hX, hb, -⟩ := Cx.2.2.2.2.2.2.1
  exact va_sld Cx.1 Cx.2.1 hX (Nat.lt_of_lt_of_le hb Cx.2.2.2.2.2.2.2.1) (Nat.not_le.mpr hb) w.2.2 hin hd (kk K p e R s m args below meth c H locs QF ls Cx w h4 r hl)
theorem zs_scrlen (hd : decode y.2.1 pc = .ok (.arraylength, 1))
    (kk : ZW l d y X mc ms Q (pc + 1) lv (.int (Int32.ofNat X.1) :: st) ph cc ns) : ZW l d y X mc ms Q pc lv (.ref 2 :: st) ph cc ns := by
  intro K p e R s m args below meth c H locs QF ls Cx w h4 r hl
  obtain ⟨-, -, -, -, hX, hb, -⟩ := Cx.2.2.2.2.2.2.1
  exact va_slen Cx.1 Cx.2.1 hX (Nat.lt_of_lt_of_le hb Cx.2.2.2.2.2.2.2.1) (Nat.not_le.mpr hb) w.2.2 hd (kk K p e R s m args below meth c H locs QF ls Cx w h4 r hl)
theorem zs_getstatic {ix t : Nat} {f : String} (ht : t = 0 ∧ f = "OWN" ∨ t = 1 ∧ f = "ABOVE") (hw : Cond.fieldLink y.1.cls ix zs_B f "[I" ∈ zx_tbl) (hd : decode y.2.1 pc = .ok (.getstatic ix, 3))
    (kk : ZW l d y X mc ms Q (pc + 3) lv (.ref t :: st) ph cc ns) : ZW l d y X mc ms Q pc lv st ph cc ns := by
  intro K p e R s m args below meth c H locs QF ls Cx w h4 r hl
  have hZ : va_Z zs_B f "[I" (.ref (z_ad K t)) (zk_A K) s s.heap := by
    rcases ht with ⟨rfl, rfl⟩ | ⟨rfl, rfl⟩
    · exact Cx.2.2.2.2.2.2.1.1
    · exact Cx.2.2.2.2.2.2.1.2.1
  exact va_gets Cx.1 Cx.2.1 hZ w.2.2 Cx.2.2.2.1 (Cx.2.2.2.2.1 _ hw) (fun x h => h) hd (kk K p e R s m args below meth c H locs QF ls Cx w h4 r hl)
theorem z_va_push {K : zx_K} {s : State} {H H1 : Heap} {locs : List Loc} {ph : List z_C} {cells : Nat} {c : z_C} (w : zWo K s H locs ph cells) (hh : H.size = zk_z K + ph.length) (hat : va_at (zk_D K) zc (zk_z K + ph.length, z_ce K c) H1) (z1 : H1.size = H.size + 1) (o1 : ∀ q : Nat, q < H.size → H1[q]? = H[q]?) : zWo K s H1 locs (ph ++ [c]) (cells + 1) := by
  refine ⟨by rw [List.length_append]; have := w.1; simp only [List.length_singleton]; omega, ?_, ⟨by have := w.2.2.1; omega, fun q h1 h2 => by rw [o1 q (Nat.lt_of_lt_of_le h1 w.2.2.1)]; exact w.2.2.2.1 q h1 h2, w.2.2.2.2⟩⟩
  rw [z_ws_push]
  refine va_P.app (w.2.1.kept (fun k q hk => o1 q.1 (w.2.1 k q hk).lt)) (fun k q hk => ?_)
  have hz : k < 1 := (List.getElem?_eq_some_iff.mp hk).1
  rw [show k = 0 by omega] at hk
  cases hk
  exact hat
theorem zs_newI {n : Int32} {N : Nat} (hw : Cond.arrayClass .int ∈ zx_tbl) (hn : ¬ n < 0) (hN : n.toNatClampNeg = N) (hb : N * componentBytes .int ≤ 536870912) (hc : cc + 1 ≤ mc) (hs : ns + N ≤ ms) (hd : decode y.2.1 pc = .ok (.newarray .int, 2))
    (kk : ZW l d y X mc ms Q (pc + 2) lv (.ref (ph.length + 3) :: st) (ph ++ [.inl (0, N, z_I (fun _ => 0))]) (cc + 1) (ns + N)) : ZW l d y X mc ms Q pc lv (.int n :: st) ph cc ns := by
  intro K p e R s m args below meth c H locs QF ls Cx w h4 r hl T hT Xs
  have hz := z_size Xs Cx.2.2.2.2.2.2.2.1 (hT ▸ w)
  rw [hT] at hz
  refine (show W p l e R s m args below meth c H locs cc ns QF (F0 m pc ls ((Value.int n :: st).map (z_em K))) from ?_) T hT Xs
  refine va_newaK (atype := .int) (N := N) Cx.1 Cx.2.1 (Cx.2.2.2.2.1 _ hw) rfl hd rfl hn hN hb (Nat.le_trans hc h4.2.2.1) (Nat.le_trans hs h4.2.2.2) hz (fun H1 cA e1 z1 o1 hA hf => ?_)
  have hcA : cA = zk_c K 0 := by
    have h2 := (Cx.2.2.2.2.2.1.2 0 _ rfl).2
    exact Option.some.inj (hf.symm.trans h2)
  subst hcA
  have e2 : H1[zk_z K + ph.length]? = some (vp_cell (zk_c K 0) (N, .inl (fun _ => 0))) := e1
  exact kk K p e R s m args below meth c H1 locs QF ls Cx (z_va_push w hz e2 (by omega) (fun q hq => o1 q (by omega))) h4 r hl
theorem zs_newJ {n : Int32} {N : Nat} (hw : Cond.arrayClass .long ∈ zx_tbl) (hn : ¬ n < 0) (hN : n.toNatClampNeg = N) (hb : N * componentBytes .long ≤ 536870912) (hc : cc + 1 ≤ mc) (hs : ns + N ≤ ms) (hd : decode y.2.1 pc = .ok (.newarray .long, 2))
    (kk : ZW l d y X mc ms Q (pc + 2) lv (.ref (ph.length + 3) :: st) (ph ++ [.inl (1, N, z_J (fun _ => 0))]) (cc + 1) (ns + N)) : ZW l d y X mc ms Q pc lv (.int n :: st) ph cc ns := by
  intro K p e R s m args below meth c H locs QF ls Cx w h4 r hl T hT Xs
  have hz := z_size Xs Cx.2.2.2.2.2.2.2.1 (hT ▸ w)
  rw [hT] at hz
  refine (show W p l e R s m args below meth c H locs cc ns QF (F0 m pc ls ((Value.int n :: st).map (z_em K))) from ?_) T hT Xs
  refine va_newaK (atype := .long) (N := N) Cx.1 Cx.2.1 (Cx.2.2.2.2.1 _ hw) rfl hd rfl hn hN hb (Nat.le_trans hc h4.2.2.1) (Nat.le_trans hs h4.2.2.2) hz (fun H1 cA e1 z1 o1 hA hf => ?_)
  have hcA : cA = zk_c K 1 := by
    have h2 := (Cx.2.2.2.2.2.1.2 1 _ rfl).2
    exact Option.some.inj (hf.symm.trans h2)
  subst hcA
  have e2 : H1[zk_z K + ph.length]? = some (vp_cell (zk_c K 1) (N, .inr (.inl (fun _ => 0)))) := e1
  exact kk K p e R s m args below meth c H1 locs QF ls Cx (z_va_push w hz e2 (by omega) (fun q hq => o1 q (by omega))) h4 r hl
theorem zs_newO {ix : Nat} {n : Int32} {N : Nat} (hw : Cond.classLink y.1.cls ix zs_S ∈ zx_tbl) (hn : ¬ n < 0) (hN : n.toNatClampNeg = N) (hb : n.toNatClampNeg * 4 ≤ 536870912) (hc : cc + 1 ≤ mc) (hs : ns + N ≤ ms) (hd : decode y.2.1 pc = .ok (.anewarray ix, 3))
    (kk : ZW l d y X mc ms Q (pc + 3) lv (.ref (ph.length + 3) :: st) (ph ++ [.inl (2, N, z_O (fun _ => none))]) (cc + 1) (ns + N)) : ZW l d y X mc ms Q pc lv (.int n :: st) ph cc ns := by
  intro K p e R s m args below meth c H locs QF ls Cx w h4 r hl T hT Xs
  have hz := z_size Xs Cx.2.2.2.2.2.2.2.1 (hT ▸ w)
  rw [hT] at hz
  subst hN
  refine (show W p l e R s m args below meth c H locs cc ns QF (F0 m pc ls ((Value.int n :: st).map (z_em K))) from ?_) T hT Xs
  refine W.anew (C := zs_S) Cx.1 Cx.2.1 Cx.2.2.2.1 (Cx.2.2.2.2.1 _ hw) (va_AO.use Cx.2.2.2.2.2.2.1.2.2.2.2.2.2.1) rfl hd rfl hn hb (Nat.le_trans hc h4.2.2.1) (Nat.le_trans hs h4.2.2.2) (fun cA kA comp f1 f2 f3 f4 => ?_)
  have hcA : cA = zk_c K 2 := by
    obtain ⟨kA', comp', g1, g2, g3, g4⟩ := (Cx.2.2.2.2.2.1.2 2 _ rfl).2
    exact Option.some.inj (f1.symm.trans g4)
  subst hcA
  have e0 : ({ cls := zk_c K 2, slots := Array.replicate n.toNatClampNeg .null, vm := .none } : Cell) = vp_cell (zk_c K 2) (n.toNatClampNeg, .inr (.inr (.inr (.inr (fun _ => none))))) := by
    rw [vp_cell_q]
    show _ = arrV _ _ _
    rw [arrV]
    congr 1
    apply Array.ext
    · simp
    · intro i h1 h2
      simp [va_rf]
  rw [e0, hz]
  have e2 : (H.push (vp_cell (zk_c K 2) (n.toNatClampNeg, .inr (.inr (.inr (.inr (fun _ => none)))))))[zk_z K + ph.length]? = some (vp_cell (zk_c K 2) (n.toNatClampNeg, .inr (.inr (.inr (.inr (fun _ => none)))))) := by
    rw [← hz]; simp
  exact kk K p e R s m args below meth c _ locs QF ls Cx (z_va_push (c := .inl (2, n.toNatClampNeg, z_O (fun _ => none))) w hz e2 (by simp) (fun q hq => by rw [Array.getElem?_push, if_neg (Nat.ne_of_lt hq)])) h4 r hl
/-- an object as it is made -/
def zc_fs (q : vw_C) : List Value := (List.range q.2.2).map (fun k => defaultValue (zc_ty q k))
theorem zc_fsOk {q : vw_C} {j : Nat} (hj : j < q.2.2) : vp_V (zc_fs q) j = defaultValue (zc_ty q j) := by
  simp [vp_V, zc_fs, hj]
theorem z_dflt (K : zx_K) (t : FieldType) : z_em K (defaultValue t) = defaultValue t := by cases t <;> rfl
theorem zc_fsEm (K : zx_K) (q : vw_C) : (zc_fs q).map (z_em K) = zc_fs q := by
  simp [zc_fs, z_dflt]
theorem zs_new {ix ci : Nat} {C : String} {T : u_T} {N : Nat} (hw : Cond.classLink y.1.cls ix C ∈ zx_tbl) (hw2 : Cond.instantiable C N ∈ zx_tbl) (hw3 : Cond.initialized C ∈ zx_tbl) (hc : zc[ci]? = some (C, T, N)) (hcc : cc + 1 ≤ mc) (hs : ns + N ≤ ms) (hd : decode y.2.1 pc = .ok (.new ix, 3))
    (kk : ZW l d y X mc ms Q (pc + 3) lv (.ref (ph.length + 3) :: st) (ph ++ [.inr (ci, zc_fs (C, T, N))]) (cc + 1) (ns + N)) : ZW l d y X mc ms Q pc lv st ph cc ns := by
  intro K p e R s m args below meth c H locs QF ls Cx w h4 r hl Ts hT Xs
  have hz := z_size Xs Cx.2.2.2.2.2.2.2.1 (hT ▸ w)
  rw [hT] at hz
  have hKn := Cx.2.2.2.2.2.1.1 ci _ hc
  refine (show W p l e R s m args below meth c H locs cc ns QF (F0 m pc ls (st.map (z_em K))) from ?_) Ts hT Xs
  refine W.newcK Cx.1 Cx.2.1 Cx.2.2.2.1 (Cx.2.2.2.2.1 _ hw) (Cx.2.2.2.2.1 _ hw2) (Cx.2.2.2.2.1 _ hw3) rfl hd (Nat.le_trans hcc h4.2.2.1) (Nat.le_trans hs h4.2.2.2) hKn.2.1 hz (fun H1 kC hkC e1 z1 o1 => ?_)
  have hat : va_at (zk_D K) zc (zk_z K + ph.length, z_ce K (.inr (ci, zc_fs (C, T, N)))) H1 := by
    refine ⟨(C, T, N), hc, ?_⟩
    show t_OB _ _ _ _ _ (vp_V ((zc_fs (C, T, N)).map (z_em K)))
    rw [zc_fsEm]
    exact (u_born (zc_ty (C, T, N)) Cx.2.2.2.2.1 (zc_in hc) hKn hkC e1 (zc_tyOk hc)).to (fun k hk => (zc_fsOk (q := (C, T, N)) hk).symm)
  exact kk K p e R s m args below meth c H1 locs QF ls Cx (z_va_push w hz hat (by omega) (fun q hq => o1 q (by omega))) h4 r hl
theorem zs_objInit {ix a : Nat} (hw : Cond.methodLink y.1.cls ix Lib.objectInit ∈ zx_tbl) (hw2 : Cond.instanceMethod Lib.objectInit ∈ zx_tbl) (hw3 : Cond.code Lib.objectInit ⟨#[0xb1]⟩ 1 none ∈ zx_tbl) (hdd : 1 ≤ d) (hst : (st.map (fun v => v.category)).sum ≤ 8) (hd : decode y.2.1 pc = .ok (.invokespecial ix, 3))
    (kk : ZW l d y X mc ms Q (pc + 3) lv st ph cc ns) : ZW l d y X mc ms Q pc lv (.ref a :: st) ph cc ns := by
  intro K p e R s m args below meth c H locs QF ls Cx w h4 r hl
  refine W.objInit Cx.1 Cx.2.1 Cx.2.2.2.1 (Cx.2.2.2.2.1 _ hw) (Cx.2.2.2.2.1 _ hw2) (Cx.2.2.2.2.1 _ hw3) rfl (by rw [Cx.2.2.1]; exact hl.1) rfl hd (Nat.le_trans hdd h4.1) ?_ (kk K p e R s m args below meth c H locs QF ls Cx w h4 r hl)
  have e1 : ((st.map (z_em K)).map fun v => v.category) = st.map (fun v => v.category) := by
    rw [List.map_map]
    exact List.map_congr_left (fun v _ => z_emc K v)
  rw [e1]
  have := h4.2.1
  show 2 * 0 + _ + 12 ≤ R.locals
  omega
end ZH
