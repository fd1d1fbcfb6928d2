/-! THE CLAIM OUT OF ONE WALK OF THE LAW'S BODY. Your part is whole_start (and what it stands on); all else here is the same for every law, but numbers. -/
def R_law : String := "NineOpinionsLaw"
def lw_P (b : Addr) (xs : List Int32) (args : Array Value) (s : State) : Prop := args = #[.ref b] ∧ s.IntsAt b xs ∧ xs.length ≤ 3072 ∧ (Jvm.Cond.and given_1 narrow_1).before args s = true
def lw_Q (_ : Array Value) (s : State) (o : Outcome) (t : State) : Prop := o = .returned (some (.int 1)) ∧ Framed s o t [] 600000 7302250
def lw_Z (below : List Frame) (a : Array Value) (s : State) : State → Prop := fun t => ∃ o, t.status = .running ∧ Ended t below o ∧ lw_Q a s o t
/-- the law's own end, with 1 on the stack, nothing written that was there before, its room as the claim has it -/
theorem lw_ret {p : Program} {l : Launch} {e : Env} {s : State} {m : MethodId} {below : List Frame} {meth : Method} {c : Code} {b : Nat} (hx : p.tables.exec = Jvm.exec) (hb : c.code = code) (hr : meth.sig.returnType = ret) (hlocks : meth.locks = false) {pc : Nat} {H : Heap} {ls : Array Slot} (hdg : decode code pc = .ok (.ireturn, 1)) : W p l e room_1 s m #[Value.ref b] below meth c H [] 600000 7302250 (lw_Z below #[Value.ref b] s) (F0 m pc ls [.int 1]) := by
  intro T hT X
  obtain ⟨fs, hret, hrun, hended, hW, hframe⟩ := X.leave (v := some (.int 1)) (hlocks := hlocks) (fun h => by rw [hr] at h; cases h)
  have hmeth' : T.vm.method? m = some meth := X.method'
  refine ⟨T.setFrames fs, ?_, .returned (some (.int 1)), hrun, hended, rfl, ⟨_, rfl⟩, hW, hframe⟩
  jvm_step X.here [X.here.top, hx, hb, hdg, hmeth', hr, ret, narrow_b1]
  (try refine ⟨rfl, ?_⟩); (try refine ⟨rfl, ?_⟩)
  first | (intro acts; rw [hret _ acts rfl rfl rfl]) | rw [hret _ _ rfl rfl rfl]
  exact Steps.refl _
/-- what holds at the law's entry: the machine, the code, the tables' words (any of lw_tbl by 'hts w (by decide +kernel)'), the script of L ints xs at the cell b, what the Statement gives of the start (any of its parts by flat_of_before) -/
def lw_At (p : Program) (s : State) (m : MethodId) (meth : Method) (c : Code) (b L : Nat) (xs : Nat → Int32) : Prop :=
  p.tables.exec = Jvm.exec ∧ c.code = code ∧ meth.sig.returnType = ret ∧ c.maxLocals = 4 ∧ s.vm.findClass R_law = some m.cls ∧ (∀ w ∈ lw_tbl, w.before #[Value.ref b] s = true) ∧ va_X b L xs s s.heap ∧ b < s.heap.size ∧ meth.locks = false ∧ (Jvm.Cond.and given_1 narrow_1).before #[Value.ref b] s = true
/-! the law's start over the pure world -/
def y_law : zx_Y := (x, code, 4, ret)
theorem zl_arr {args : Array Value} {s : State} {ty : FieldType} (h : (Cond.arrayClass ty).before args s = true) : ∃ cA : ClassId, ArrOfT s cA ty ∧ s.vm.findClass ("[" ++ ty.toString) = some cA := by
  obtain ⟨c, k, comp, h1, h2, h3⟩ := Cond.arrayClass_spec h
  exact ⟨c, fun n z => ⟨fun k h => (by cases h), k, h2, comp, h3⟩, h1⟩
theorem zl_arrO {args : Array Value} {s : State} {C : String} (h : (Cond.arrayOver (.object C)).before args s = true) : ∃ cA : ClassId, ArrOfT s cA (.object C) ∧ va_RA s cA (.object C) := by
  obtain ⟨comp, c, k, h1, h2, h3, h4, h5⟩ := Cond.arrayOver_spec h
  exact ⟨c, fun n z => ⟨fun k h => (by cases h), k, h3, comp, h4⟩, k, comp, h3, h4, h1, h5⟩
def zl_tm (f : String) : Term := .static zs_B f "[I"
theorem zl_flatO : ∀ j, j < 32 → Cond.eq (.elem (zl_tm "OWN") (.int (Int32.ofNat j))) (.int (zs_own.getD j 0)) ∈ flatC (Jvm.Cond.and given_1 narrow_1) := by decide +kernel
theorem zl_flatA : ∀ j, j < 8 → Cond.eq (.elem (zl_tm "ABOVE") (.int (Int32.ofNat j))) (.int (zs_abv.getD j 0)) ∈ flatC (Jvm.Cond.and given_1 narrow_1) := by decide +kernel
theorem zl_inst : ∀ ci, ci < 12 → ∃ q, zc[ci]? = some q ∧ Cond.instantiable q.1 q.2.2 ∈ lw_tbl := by
  have h : (List.range 12).all (fun ci => match zc[ci]? with | some q => decide (Cond.instantiable q.1 q.2.2 ∈ lw_tbl) | none => false) = true := by decide +kernel
  intro ci hci
  have h1 := List.all_eq_true.mp h ci (List.mem_range.mpr hci)
  cases hq : zc[ci]? with
  | none => rw [hq] at h1; cases h1
  | some q => rw [hq] at h1; exact ⟨q, rfl, by simpa using h1⟩
theorem zl_nest : ∀ q ∈ zn_L, Cond.methodLinkNest q.1 q.2.1 q.2.2.1 q.2.2.2 ∈ lw_tbl := by
  have h : zn_L.all (fun q => decide (Cond.methodLinkNest q.1 q.2.1 q.2.2.1 q.2.2.2 ∈ lw_tbl)) = true := by decide +kernel
  exact fun q hq => of_decide_eq_true (List.all_eq_true.mp h q hq)
theorem zl_K {s : State} {b L : Nat} {xs : Nat → Int32} (hts : ∀ w ∈ lw_tbl, w.before #[Value.ref b] s = true) (hX : va_X b L xs s s.heap) (hb : b < s.heap.size) (hg : (Jvm.Cond.and given_1 narrow_1).before #[Value.ref b] s = true) :
    ∃ K : zx_K, zk_z K = s.heap.size ∧ zk_b K = b ∧ va_K (zk_D K) zc (z_tys K) s ∧ z_St K (L, xs) s s.heap := by
  have hs := flat_of_before _ hg
  have hA : ∀ a : Nat, a < s.heap.size → ¬ (fun q : Nat => s.heap.size ≤ q) a := fun a h => Nat.not_le.mpr h
  obtain ⟨tO, hO, hTO⟩ := va_Tof (tm := zl_tm "OWN") (ty := .int) (N := 32) (f := fun j => .int (zs_own.getD j 0)) (A := fun q : Nat => s.heap.size ≤ q) (by decide) (hs _ (by decide +kernel)) (va_eqt (hs (Cond.eq (.length (zl_tm "OWN")) (.int 32)) (by decide +kernel))) (fun j hj => va_eqt (hs _ (zl_flatO j hj))) hA
  obtain ⟨tA, hAb, hTA⟩ := va_Tof (tm := zl_tm "ABOVE") (ty := .int) (N := 8) (f := fun j => .int (zs_abv.getD j 0)) (A := fun q : Nat => s.heap.size ≤ q) (by decide) (hs _ (by decide +kernel)) (va_eqt (hs (Cond.eq (.length (zl_tm "ABOVE")) (.int 8)) (by decide +kernel))) (fun j hj => va_eqt (hs _ (zl_flatA j hj))) hA
  have hZO := va_Zof (hts (.laysStatic zs_B "OWN" "[I") (by decide +kernel)) (hts (.initialized zs_B) (by decide +kernel)) hO hA
  have hZA := va_Zof (hts (.laysStatic zs_B "ABOVE" "[I") (by decide +kernel)) (hts (.initialized zs_B) (by decide +kernel)) hAb hA
  have hcl : ∀ ci : Nat, ∃ (c : ClassId) (iS : Nat → Nat), ∀ q : vw_C, zc[ci]? = some q → u_Kn s q.1 q.2.1 q.2.2 c iS := by
    intro ci
    by_cases hci : ci < 12
    · obtain ⟨q, hq, hw⟩ := zl_inst ci hci
      obtain ⟨c, iS, hk⟩ := u_known (ws := lw_tbl) (C := q.1) (T := q.2.1) (N := q.2.2) (n := q.2.2) hts (fun w h => (List.mem_filter.mp (zc_in hq w h)).1) (hts _ hw)
      refine ⟨c, iS, fun q' hq' => ?_⟩
      cases hq.symm.trans hq'
      exact hk
    · refine ⟨0, fun _ => 0, fun q hq => absurd (zc_lt hq) hci⟩
  obtain ⟨cI, hI1, hI2⟩ := zl_arr (hts (.arrayClass .int) (by decide +kernel))
  obtain ⟨cJ, hJ1, hJ2⟩ := zl_arr (hts (.arrayClass .long) (by decide +kernel))
  have hAO := hts (.arrayOver (.object zs_S)) (by decide +kernel)
  obtain ⟨cS, hS1, hS2⟩ := zl_arrO hAO
  refine ⟨((s.heap.size, tO, tA, b), (fun ci => Classical.choose (hcl ci), fun ci => Classical.choose (Classical.choose_spec (hcl ci))), fun k => if k = 0 then cI else if k = 1 then cJ else cS), rfl, rfl, ⟨fun ci q hq => Classical.choose_spec (Classical.choose_spec (hcl ci)) q hq, fun k q hk => ?_⟩, hZO, hZA, hTO, hTA, hX, hb, va_AO.of hAO, fun q hq => va_Nw.of rfl (hts _ (zl_nest q hq))⟩
  match k, hk with
  | 0, hk => cases hk; exact ⟨hI1, hI2⟩
  | 1, hk => cases hk; exact ⟨hJ1, hJ2⟩
  | 2, hk => cases hk; exact ⟨hS1, hS2⟩
  | k + 3, hk => simp [z_tys] at hk
/-- the law comes to its end with true, if the pure machine does -/
theorem zl_start {p : Program} {e : Env} {s : State} {m : MethodId} {below : List Frame} {meth : Method} {c : Code} (l : Launch) {b L : Nat} {xs : Nat → Int32} (C0 : lw_At p s m meth c b L xs) {mc ms : Nat} (hmc : mc ≤ 600000) (hms : ms ≤ 7302250)
    (hZ : ZW l 2000 y_law (L, xs) mc ms (fun v _ => v = some (.int 1)) 0 [(0, .ref 2)] [] [] 0 0) :
    W p l e room_1 s m #[Value.ref b] below meth c s.heap [] 0 0 (lw_Z below #[Value.ref b] s) (entryFrame m ([Value.ref b] : List Value).toArray 4) := by
  obtain ⟨hx, hb, hr, hml, hown, hts, hX, hbl, hlocks, hgv⟩ := id C0
  obtain ⟨K, hz, hkb, hK, hSt⟩ := zl_K hts hX hbl hgv
  have hl := lv_entry ([.ref b]) (n := 4) (Nat.le_of_ble_eq_true rfl)
  rw [lg_entry_eq]
  generalize (lg_sl ([.ref b]) ++ List.replicate (4 - (lg_sl ([.ref b])).length) Slot.unset).toArray = ls at hl ⊢
  have hl : lv_has ls y_law.2.2.1 (zLs K [(0, .ref 2)]) := by
    have e1 : zLs K [(0, .ref 2)] = [(0, .ref b)] := by
      show [(0, Value.ref (zk_b K))] = _
      rw [hkb]
    rw [e1]
    exact hl
  refine hZ K p e room_1 s m #[Value.ref b] below meth c s.heap [] _ ls ⟨hx, hb, hml, hown, fun w hw => hts w (List.mem_filter.mp hw).1, hK, hSt, by omega, fun h => absurd h (by decide +kernel)⟩ ⟨by rw [hz]; rfl, fun k q h => by simp [z_ws] at h, va_S.rf⟩ ⟨Nat.le_of_ble_eq_true rfl, Nat.le_of_ble_eq_true rfl, hmc, hms⟩ ?_ hl
  intro v ph H locs ns pc ls' hq hns w hen
  subst hq
  rcases hen with ⟨x1, ty, e1, hd, hrt, hn⟩ | ⟨x1, e1, hd, hrt⟩ | ⟨e1, hd, hrt⟩
  · cases e1
    refine va_forget (fun q hq => by have h := w.2.2.2.2 q hq; have h' : zk_z K ≤ q.base := h; omega) ?_
    refine W.widen hmc (Nat.le_trans hns hms) ?_
    exact lw_ret hx hb hr hlocks hd
  · cases e1
  · cases e1
