/-! PART 05: calls. -/
theorem zg_cons {w : Cond} {ws : List Cond} (h : w ∈ zx_tbl) (g : GoodIn zx_tbl ws) : GoodIn zx_tbl (w :: ws) := fun x hx => (List.mem_cons.mp hx).elim (fun e => by rw [e]; exact zx_good w h) (g x)
theorem z_blind (K : zx_K) (X : zx_X) (as : List Value) (ph : List z_C) : FrameBlind (zPc K X as ph) := fun a U g mk h =>
  ⟨h.1, h.2.1, h.2.2.1, va_K.moved (u := U) (U := U.calling g mk a) (Vm.Alike.refl U.vm) h.2.2.2.1, z_St.moved (u := U) (U := U.calling g mk a) (Vm.Alike.refl U.vm) (fun hh q hq => va_Nw.same (u := U) (U := U.calling g mk a) rfl rfl (hh q hq)) h.2.2.2.2⟩
section ZC
variable {p : Program} {l : Launch} {e : Env} {R : Room} {s : State} {m : MethodId} {args : Array Value} {below : List Frame} {meth : Method} {c : Code} {H : Heap} {locs : List Loc} {cc ns : Nat} {QF : State → Prop} {K : zx_K} {X : zx_X} {ph : List z_C}
theorem z_pre (hK : va_K (zk_D K) zc (z_tys K) s) (hSt : z_St K X s s.heap) (hz : zk_z K ≤ s.heap.size) (w : zWo K s H locs ph cc) (hsz : H.size = zk_z K + ph.length) (as : List Value) : ∀ U : State, U.heap = H → s.WarmedH U.vm → zPc K X as ph (as.map (z_em K)).toArray U := by
  intro U hU hW
  refine ⟨rfl, by rw [hU]; exact hsz, by rw [hU]; exact w.2.1, va_K.moved hW.alike hK, ?_⟩
  rw [hU]
  exact z_St.moved hW.alike (fun hh q hq => va_Nw.warmM hW (hh q hq)) (hSt.kept hz (fun q h1 h2 => w.2.2.2.1 q h1 h2))
theorem z_call {pc : Nat} {ls : Array Slot} {st0 st : List Value} {mc' ms' : Nat} {Q' : Option Value → List z_C → Prop} {a : Array Value}
    (hr : va_Run p l e R s m args below meth c H locs cc ns mc' ms' (F0 m pc ls st0) (st.map (z_em K)) (zQc K ph mc' Q' a) (zk_A K)) (w : zWo K s H locs ph cc)
    (kk : ∀ (v : Option Value) (ph' : List z_C) (H1 : Heap) (locs1 : List Loc), Q' v ph' → zWo K s H1 locs1 ph' (cc + mc') → W p l e R s m args below meth c H1 locs1 (cc + mc') (ns + ms') QF (F0 m (pc + 3) ls ((v.toList ++ st).map (z_em K)))) :
    W p l e R s m args below meth c H locs cc ns QF (F0 m pc ls st0) := by
  intro T hT Xs
  obtain ⟨v, st₀, t, T', L, h0, X', hL, e1, e2, ⟨⟨v', ph', hv, hq, hem, hlen, hP⟩, hz, hk⟩, sp⟩ := hr T hT Xs
  cases hv
  rw [h0] at hz hk
  have w' : zWo K s T'.heap (locs ++ L) ph' (cc + mc') := by
    refine ⟨by have := w.1; omega, by rw [e1]; exact hP, ⟨Nat.le_trans w.2.2.1 (by rw [e1]; exact hz), fun q h1 h2 => by rw [e1, hk q (Nat.lt_of_lt_of_le h1 w.2.2.1) h2]; exact w.2.2.2.1 q h1 h2, fun q hq' => ?_⟩⟩
    rcases List.mem_append.mp hq' with h | h
    · exact w.2.2.2.2 q h
    · exact hL q h
  obtain ⟨t2, a1, b1⟩ := kk v ph' T'.heap (locs ++ L) hq w' T' rfl X'
  refine ⟨t2, sp t2 ?_, b1⟩
  have e3 : (v.toList ++ st).map (z_em K) = v.toList ++ st.map (z_em K) := by
    rw [List.map_append]
    congr 1
    cases v with
    | none => rfl
    | some x => exact congrArg (fun o => o.toList) hem
  rw [e3] at a1
  exact a1
end ZC
theorem z_catR {K : zx_K} {m : MethodId} {pc : Nat} {ls : Array Slot} {st0 st : List Value} (h : (st.map (fun v => v.category)).sum ≤ 8) : 2 * (F0 m pc ls st0).monitorRoom + ((st.map (z_em K)).map fun v => v.category).sum ≤ 8 := by
  have e1 : ((st.map (z_em K)).map fun v => v.category) = st.map (fun v => v.category) := by
    rw [List.map_map]
    exact List.map_congr_left (fun v _ => z_emc K v)
  rw [e1]
  show 2 * 0 + _ ≤ 8
  omega
/-- what is said of a callee by the tables -/
def zCal (y' : zx_Y) (n : Nat) : Prop := Cond.code y'.1 y'.2.1 y'.2.2.1 y'.2.2.2 ∈ zx_tbl ∧ Cond.initialized y'.1.cls ∈ zx_tbl ∧ (y'.1.cls ≠ "java/lang/invoke/MethodHandle" ∧ y'.1.cls ≠ "java/lang/invoke/VarHandle" ∧ (parseMethodDescriptor y'.1.desc).map (fun d => d.parameters.length) = some n) ∧ y'.2.2.1 ≤ 21
section ZD
variable {l : Launch} {d : Nat} {y : zx_Y} {X : zx_X} {mc ms : Nat} {Q : Option Value → List z_C → Prop} {pc : Nat} {lv : List (Nat × Value)} {st : List Value} {ph : List z_C} {cc ns : Nat}
variable {d' mc' ms' n ix : Nat} {y' : zx_Y} {Q' : Option Value → List z_C → Prop} {as : List Value}

theorem zs_callS (hlk : Cond.methodLink y.1.cls ix y'.1 ∈ zx_tbl) (hsc : Cond.static y'.1 ∈ zx_tbl) (hcal : zCal y' n) (hn : as.length = n) (hst : (st.map (fun v => v.category)).sum ≤ 8) (hdd : d' + 1 ≤ d) (hcc : cc + mc' ≤ mc) (hss : ns + ms' ≤ ms) (hd : decode y.2.1 pc = .ok (.invokestatic ix, 3)) (hM : ZM l d' y' X (as) ph mc' ms' Q')
    (kk : ∀ (v : Option Value) (ph' : List z_C), Q' v ph' → ZW l d y X mc ms Q (pc + 3) lv (v.toList ++ st) ph' (cc + mc') (ns + ms')) : ZW l d y X mc ms Q pc lv (as.reverse ++ st) ph cc ns := by
  intro K p e R s m args below meth c H locs QF ls Cx w h4 r hl T hT Xs
  have hz := z_size Xs Cx.2.2.2.2.2.2.2.1 (hT ▸ w)
  rw [hT] at hz
  obtain ⟨hcode, hini, hpl, hml⟩ := hcal
  have hpre := z_pre (X := X) Cx.2.2.2.2.2.1 Cx.2.2.2.2.2.2.1 Cx.2.2.2.2.2.2.2.1 w hz (as)
  have hG : GoodIn zx_tbl (zx_wd y') := zg_cons hcode zx_good
  have hR : d' + 1 ≤ R.frames ∧ 8 + (y'.2.2.1 + 11) + 40 * (d' + 1) ≤ R.locals := ⟨Nat.le_trans hdd h4.1, by have := h4.2.1; omega⟩
  have hF : CallFix p m c y.2.1 y.2.2.1 s args zx_tbl y.1.cls := ⟨Cx.1, Cx.2.1, Cx.2.2.1, Cx.2.2.2.1, Cx.2.2.2.2.1⟩
  have hfc : cc + mc' ≤ R.cells ∧ ns + ms' ≤ R.slots := ⟨Nat.le_trans hcc h4.2.2.1, Nat.le_trans hss h4.2.2.2⟩
  refine (show W p l e R s m args below meth c H locs cc ns QF (F0 m pc ls ((as.reverse ++ st).map (z_em K))) from ?_) T hT Xs
  refine z_call (va_runS (As := as.map (z_em K)) hF (hM K) (va_cwS n Cx.2.2.2.2.1 (zg_cons hlk (zg_cons hsc (zg_cons hini hG))) rfl rfl rfl hpl hR) ⟨z_blind K X _ ph, hpre⟩ rfl (by rw [List.length_map]; exact hn) hl.1 (by rw [List.map_append, List.map_reverse]) (z_catR hst) hd hfc) w (fun v ph' H1 locs1 hq w1 => ?_)
  exact kk v ph' hq K p e R s m args below meth c H1 locs1 QF ls Cx w1 h4 r hl
theorem zs_callSN {host : String} (hlk : (y.1.cls, ix, y'.1, host) ∈ zn_L) (hsc : Cond.static y'.1 ∈ zx_tbl) (hcal : zCal y' n) (hn : as.length = n) (hst : (st.map (fun v => v.category)).sum ≤ 8) (hdd : d' + 1 ≤ d) (hcc : cc + mc' ≤ mc) (hss : ns + ms' ≤ ms) (hd : decode y.2.1 pc = .ok (.invokestatic ix, 3)) (hM : ZM l d' y' X (as) ph mc' ms' Q')
    (kk : ∀ (v : Option Value) (ph' : List z_C), Q' v ph' → ZW l d y X mc ms Q (pc + 3) lv (v.toList ++ st) ph' (cc + mc') (ns + ms')) : ZW l d y X mc ms Q pc lv (as.reverse ++ st) ph cc ns := by
  intro K p e R s m args below meth c H locs QF ls Cx w h4 r hl T hT Xs
  have hz := z_size Xs Cx.2.2.2.2.2.2.2.1 (hT ▸ w)
  rw [hT] at hz
  obtain ⟨hcode, hini, hpl, hml⟩ := hcal
  have hpre := z_pre (X := X) Cx.2.2.2.2.2.1 Cx.2.2.2.2.2.2.1 Cx.2.2.2.2.2.2.2.1 w hz (as)
  have hG : GoodIn zx_tbl (zx_wd y') := zg_cons hcode zx_good
  have hR : d' + 1 ≤ R.frames ∧ 8 + (y'.2.2.1 + 11) + 40 * (d' + 1) ≤ R.locals := ⟨Nat.le_trans hdd h4.1, by have := h4.2.1; omega⟩
  have hF : CallFix p m c y.2.1 y.2.2.1 s args zx_tbl y.1.cls := ⟨Cx.1, Cx.2.1, Cx.2.2.1, Cx.2.2.2.1, Cx.2.2.2.2.1⟩
  have hfc : cc + mc' ≤ R.cells ∧ ns + ms' ≤ R.slots := ⟨Nat.le_trans hcc h4.2.2.1, Nat.le_trans hss h4.2.2.2⟩
  refine (show W p l e R s m args below meth c H locs cc ns QF (F0 m pc ls ((as.reverse ++ st).map (z_em K))) from ?_) T hT Xs
  refine z_call (va_runSN (As := as.map (z_em K)) hF (hM K) ⟨va_cnB n Cx.2.2.2.2.1 hG rfl rfl rfl (Cx.2.2.2.2.2.2.1.2.2.2.2.2.2.2 _ hlk) (Cx.2.2.2.2.1 _ hini) hpl hR, Cx.2.2.2.2.1 _ hsc, trivial⟩ ⟨z_blind K X _ ph, hpre⟩ rfl (by rw [List.length_map]; exact hn) hl.1 (by rw [List.map_append, List.map_reverse]) (z_catR hst) hd hfc) w (fun v ph' H1 locs1 hq w1 => ?_)
  exact kk v ph' hq K p e R s m args below meth c H1 locs1 QF ls Cx w1 h4 r hl
theorem zs_callV {i ci : Nat} {fs : List Value} {T : u_T} {N : Nat} (hlk : Cond.methodLink y.1.cls ix y'.1 ∈ zx_tbl) (him : Cond.instanceMethod y'.1 ∈ zx_tbl) (hse : Cond.selects y'.1.cls y'.1 y'.1 ∈ zx_tbl) (hi : ph[i]? = some (.inr (ci, fs))) (hc : zc[ci]? = some (y'.1.cls, T, N)) (hcal : zCal y' n) (hn : as.length = n) (hst : (st.map (fun v => v.category)).sum ≤ 8) (hdd : d' + 1 ≤ d) (hcc : cc + mc' ≤ mc) (hss : ns + ms' ≤ ms) (hd : decode y.2.1 pc = .ok (.invokevirtual ix, 3)) (hM : ZM l d' y' X (.ref (i + 3) :: as) ph mc' ms' Q')
    (kk : ∀ (v : Option Value) (ph' : List z_C), Q' v ph' → ZW l d y X mc ms Q (pc + 3) lv (v.toList ++ st) ph' (cc + mc') (ns + ms')) : ZW l d y X mc ms Q pc lv (as.reverse ++ .ref (i + 3) :: st) ph cc ns := by
  intro K p e R s m args below meth c H locs QF ls Cx w h4 r hl T hT Xs
  have hz := z_size Xs Cx.2.2.2.2.2.2.2.1 (hT ▸ w)
  rw [hT] at hz
  obtain ⟨hcode, hini, hpl, hml⟩ := hcal
  have hpre := z_pre (X := X) Cx.2.2.2.2.2.1 Cx.2.2.2.2.2.2.1 Cx.2.2.2.2.2.2.2.1 w hz (.ref (i + 3) :: as)
  have hG : GoodIn zx_tbl (zx_wd y') := zg_cons hcode zx_good
  have hR : d' + 1 ≤ R.frames ∧ 8 + (y'.2.2.1 + 11) + 40 * (d' + 1) ≤ R.locals := ⟨Nat.le_trans hdd h4.1, by have := h4.2.1; omega⟩
  have hF : CallFix p m c y.2.1 y.2.2.1 s args zx_tbl y.1.cls := ⟨Cx.1, Cx.2.1, Cx.2.2.1, Cx.2.2.2.1, Cx.2.2.2.2.1⟩
  have hfc : cc + mc' ≤ R.cells ∧ ns + ms' ≤ R.slots := ⟨Nat.le_trans hcc h4.2.2.1, Nat.le_trans hss h4.2.2.2⟩
  refine (show W p l e R s m args below meth c H locs cc ns QF (F0 m pc ls ((as.reverse ++ .ref (i + 3) :: st).map (z_em K))) from ?_) T hT Xs
  refine z_call (va_runV (As := as.map (z_em K)) (b := zk_z K + i) (C := y'.1.cls) hF (hM K) (cwV n Cx.2.2.2.2.1 (zg_cons hlk (zg_cons him (zg_cons hse (zg_cons hini hG)))) rfl rfl rfl ⟨rfl, hpl⟩ hR) ⟨z_blind K X _ ph, va_recv Cx.2.2.2.2.2.1 w.2.1 hc (z_ws_get hi), hpre⟩ rfl (by rw [List.length_map]; exact hn) hl.1 (by rw [List.map_append, List.map_reverse]; rfl) (z_catR hst) hd hfc) w (fun v ph' H1 locs1 hq w1 => ?_)
  exact kk v ph' hq K p e R s m args below meth c H1 locs1 QF ls Cx w1 h4 r hl
theorem zs_callI {a : Nat} (hnone : y'.2.2.2 = none) (hnm : y'.1.name = "<init>") (hlk : Cond.methodLink y.1.cls ix y'.1 ∈ zx_tbl) (him : Cond.instanceMethod y'.1 ∈ zx_tbl) (hcal : zCal y' n) (hn : as.length = n) (hst : (st.map (fun v => v.category)).sum ≤ 8) (hdd : d' + 1 ≤ d) (hcc : cc + mc' ≤ mc) (hss : ns + ms' ≤ ms) (hd : decode y.2.1 pc = .ok (.invokespecial ix, 3)) (hM : ZM l d' y' X (.ref a :: as) ph mc' ms' Q')
    (kk : ∀ (v : Option Value) (ph' : List z_C), Q' v ph' → ZW l d y X mc ms Q (pc + 3) lv (v.toList ++ st) ph' (cc + mc') (ns + ms')) : ZW l d y X mc ms Q pc lv (as.reverse ++ .ref a :: st) ph cc ns := by
  intro K p e R s m args below meth c H locs QF ls Cx w h4 r hl T hT Xs
  have hz := z_size Xs Cx.2.2.2.2.2.2.2.1 (hT ▸ w)
  rw [hT] at hz
  obtain ⟨hcode, hini, hpl, hml⟩ := hcal
  have hpre := z_pre (X := X) Cx.2.2.2.2.2.1 Cx.2.2.2.2.2.2.1 Cx.2.2.2.2.2.2.2.1 w hz (.ref a :: as)
  have hG : GoodIn zx_tbl (zx_wd y') := zg_cons hcode zx_good
  have hR : d' + 1 ≤ R.frames ∧ 8 + (y'.2.2.1 + 11) + 40 * (d' + 1) ≤ R.locals := ⟨Nat.le_trans hdd h4.1, by have := h4.2.1; omega⟩
  have hF : CallFix p m c y.2.1 y.2.2.1 s args zx_tbl y.1.cls := ⟨Cx.1, Cx.2.1, Cx.2.2.1, Cx.2.2.2.1, Cx.2.2.2.2.1⟩
  have hfc : cc + mc' ≤ R.cells ∧ ns + ms' ≤ R.slots := ⟨Nat.le_trans hcc h4.2.2.1, Nat.le_trans hss h4.2.2.2⟩
  refine (show W p l e R s m args below meth c H locs cc ns QF (F0 m pc ls ((as.reverse ++ .ref a :: st).map (z_em K))) from ?_) T hT Xs
  refine z_call (va_runI (As := as.map (z_em K)) (b := z_ad K a) (bytes := y'.2.1) (maxL := y'.2.2.1) hF (hM K) (cwI n Cx.2.2.2.2.1 hG (by rw [zx_wd, hnone]) rfl rfl (Cx.2.2.2.2.1 _ hini) (Cx.2.2.2.2.1 _ hlk) (Cx.2.2.2.2.1 _ him) hnm hpl hR) ⟨z_blind K X _ ph, hpre⟩ rfl (by rw [List.length_map]; exact hn) hl.1 (by rw [List.map_append, List.map_reverse]; rfl) (z_catR hst) hd hfc) w (fun v ph' H1 locs1 hq w1 => ?_)
  exact kk v ph' hq K p e R s m args below meth c H1 locs1 QF ls Cx w1 h4 r hl
theorem zs_callIN {a : Nat} {host : String} (hnone : y'.2.2.2 = none) (hnm : y'.1.name = "<init>") (hlk : (y.1.cls, ix, y'.1, host) ∈ zn_L) (him : Cond.instanceMethod y'.1 ∈ zx_tbl) (hcal : zCal y' n) (hn : as.length = n) (hst : (st.map (fun v => v.category)).sum ≤ 8) (hdd : d' + 1 ≤ d) (hcc : cc + mc' ≤ mc) (hss : ns + ms' ≤ ms) (hd : decode y.2.1 pc = .ok (.invokespecial ix, 3)) (hM : ZM l d' y' X (.ref a :: as) ph mc' ms' Q')
    (kk : ∀ (v : Option Value) (ph' : List z_C), Q' v ph' → ZW l d y X mc ms Q (pc + 3) lv (v.toList ++ st) ph' (cc + mc') (ns + ms')) : ZW l d y X mc ms Q pc lv (as.reverse ++ .ref a :: st) ph cc ns := by
  intro K p e R s m args below meth c H locs QF ls Cx w h4 r hl T hT Xs
  have hz := z_size Xs Cx.2.2.2.2.2.2.2.1 (hT ▸ w)
  rw [hT] at hz
  obtain ⟨hcode, hini, hpl, hml⟩ := hcal
  have hpre := z_pre (X := X) Cx.2.2.2.2.2.1 Cx.2.2.2.2.2.2.1 Cx.2.2.2.2.2.2.2.1 w hz (.ref a :: as)
  have hG : GoodIn zx_tbl (zx_wd y') := zg_cons hcode zx_good
  have hR : d' + 1 ≤ R.frames ∧ 8 + (y'.2.2.1 + 11) + 40 * (d' + 1) ≤ R.locals := ⟨Nat.le_trans hdd h4.1, by have := h4.2.1; omega⟩
  have hF : CallFix p m c y.2.1 y.2.2.1 s args zx_tbl y.1.cls := ⟨Cx.1, Cx.2.1, Cx.2.2.1, Cx.2.2.2.1, Cx.2.2.2.2.1⟩
  have hfc : cc + mc' ≤ R.cells ∧ ns + ms' ≤ R.slots := ⟨Nat.le_trans hcc h4.2.2.1, Nat.le_trans hss h4.2.2.2⟩
  refine (show W p l e R s m args below meth c H locs cc ns QF (F0 m pc ls ((as.reverse ++ .ref a :: st).map (z_em K))) from ?_) T hT Xs
  refine z_call (va_runIN (As := as.map (z_em K)) (b := z_ad K a) (bytes := y'.2.1) (maxL := y'.2.2.1) hF (hM K) ⟨va_cnB n Cx.2.2.2.2.1 hG (by rw [zx_wd, hnone]) rfl rfl (Cx.2.2.2.2.2.2.1.2.2.2.2.2.2.2 _ hlk) (Cx.2.2.2.2.1 _ hini) hpl hR, hnm, Cx.2.2.2.2.1 _ him⟩ ⟨z_blind K X _ ph, hpre⟩ rfl (by rw [List.length_map]; exact hn) hl.1 (by rw [List.map_append, List.map_reverse]; rfl) (z_catR hst) hd hfc) w (fun v ph' H1 locs1 hq w1 => ?_)
  exact kk v ph' hq K p e R s m args below meth c H1 locs1 QF ls Cx w1 h4 r hl
theorem z_natW : nativeFrameWords "java/lang/System" "arraycopy" 5 + 11 ≤ 60 := by decide +kernel
theorem zs_copyI {i0 i1 n0 n1 : Nat} {f g : Nat → Int32} {sp dp k : Int32} (hlk : Cond.methodLink y.1.cls ix arraycopyName ∈ zx_tbl) (hnat : Cond.native arraycopyName ∈ zx_tbl) (hsc : Cond.static arraycopyName ∈ zx_tbl) (hini : Cond.initialized "java/lang/System" ∈ zx_tbl)
    (h0 : ph[i0]? = some (.inl (0, n0, z_I f))) (h1 : ph[i1]? = some (.inl (0, n1, z_I g))) (g1 : ¬ sp < 0) (g2 : ¬ dp < 0) (g3 : ¬ k < 0) (g4 : sp.toNatClampNeg + k.toNatClampNeg ≤ n0) (g5 : dp.toNatClampNeg + k.toNatClampNeg ≤ n1) (hdd : 1 ≤ d) (hst : (st.map (fun v => v.category)).sum ≤ 8) (hd : decode y.2.1 pc = .ok (.invokestatic ix, 3))
    (kk : ZW l d y X mc ms Q (pc + 3) lv st (ph.set i1 (.inl (0, n1, z_I (va_cpy f g sp.toNatClampNeg dp.toNatClampNeg k.toNatClampNeg)))) cc ns) : ZW l d y X mc ms Q pc lv (.int k :: .int dp :: .ref (i1 + 3) :: .int sp :: .ref (i0 + 3) :: st) ph cc ns := by
  intro K p e R s m args below meth c H locs QF ls Cx w h4 r hl
  have hnw := z_natW
  have hloc : ((st.map (z_em K)).map fun v => v.category).sum + (nativeFrameWords "java/lang/System" "arraycopy" 5 + 11) ≤ R.locals := by
    have e1 : ((st.map (z_em K)).map fun v => v.category) = st.map (fun v => v.category) := by
      rw [List.map_map]
      exact List.map_congr_left (fun v _ => z_emc K v)
    rw [e1]
    have := h4.2.1
    omega
  refine va_copyi Cx.1 Cx.2.1 (Cx.2.2.1.trans hl.1.symm) Cx.2.2.2.1 (Cx.2.2.2.2.1 _ hlk) (Cx.2.2.2.2.1 _ hnat) (Cx.2.2.2.2.1 _ hsc) (Cx.2.2.2.2.1 _ hini) Cx.2.2.2.2.2.1 w.2.1 (z_wsD K ph) w.2.2 i0 i1 0 0 (z_ws_get h0) (z_ws_get h1) rfl rfl rfl g1 g2 g3 g4 g5 (fun _ _ => rfl) (Nat.le_trans hdd h4.1) hloc hd (fun H1 locs1 hP hD hS => ?_)
  have hP := z_ws_set K ph i1 (.inl (0, n1, z_I (va_cpy f g sp.toNatClampNeg dp.toNatClampNeg k.toNatClampNeg))) ▸ hP
  exact kk K p e R s m args below meth c H1 locs1 QF ls Cx (w.set hP hS) h4 r hl
theorem zs_copyJ {i0 i1 n0 n1 : Nat} {f g : Nat → Int64} {sp dp k : Int32} (hlk : Cond.methodLink y.1.cls ix arraycopyName ∈ zx_tbl) (hnat : Cond.native arraycopyName ∈ zx_tbl) (hsc : Cond.static arraycopyName ∈ zx_tbl) (hini : Cond.initialized "java/lang/System" ∈ zx_tbl)
    (h0 : ph[i0]? = some (.inl (1, n0, z_J f))) (h1 : ph[i1]? = some (.inl (1, n1, z_J g))) (g1 : ¬ sp < 0) (g2 : ¬ dp < 0) (g3 : ¬ k < 0) (g4 : sp.toNatClampNeg + k.toNatClampNeg ≤ n0) (g5 : dp.toNatClampNeg + k.toNatClampNeg ≤ n1) (hdd : 1 ≤ d) (hst : (st.map (fun v => v.category)).sum ≤ 8) (hd : decode y.2.1 pc = .ok (.invokestatic ix, 3))
    (kk : ZW l d y X mc ms Q (pc + 3) lv st (ph.set i1 (.inl (1, n1, z_J (va_cpy f g sp.toNatClampNeg dp.toNatClampNeg k.toNatClampNeg)))) cc ns) : ZW l d y X mc ms Q pc lv (.int k :: .int dp :: .ref (i1 + 3) :: .int sp :: .ref (i0 + 3) :: st) ph cc ns := by
  intro K p e R s m args below meth c H locs QF ls Cx w h4 r hl
  have hnw := z_natW
  have hloc : ((st.map (z_em K)).map fun v => v.category).sum + (nativeFrameWords "java/lang/System" "arraycopy" 5 + 11) ≤ R.locals := by
    have e1 : ((st.map (z_em K)).map fun v => v.category) = st.map (fun v => v.category) := by
      rw [List.map_map]
      exact List.map_congr_left (fun v _ => z_emc K v)
    rw [e1]
    have := h4.2.1
    omega
  refine va_copyl Cx.1 Cx.2.1 (Cx.2.2.1.trans hl.1.symm) Cx.2.2.2.1 (Cx.2.2.2.2.1 _ hlk) (Cx.2.2.2.2.1 _ hnat) (Cx.2.2.2.2.1 _ hsc) (Cx.2.2.2.2.1 _ hini) Cx.2.2.2.2.2.1 w.2.1 (z_wsD K ph) w.2.2 i0 i1 1 1 (z_ws_get h0) (z_ws_get h1) rfl rfl rfl g1 g2 g3 g4 g5 (fun _ _ => rfl) (Nat.le_trans hdd h4.1) hloc hd (fun H1 locs1 hP hD hS => ?_)
  have hP := z_ws_set K ph i1 (.inl (1, n1, z_J (va_cpy f g sp.toNatClampNeg dp.toNatClampNeg k.toNatClampNeg))) ▸ hP
  exact kk K p e R s m args below meth c H1 locs1 QF ls Cx (w.set hP hS) h4 r hl
end ZD
