/-! PART 03: ZW, the machine over the pure world: a row an instruction. -/
/-- a method: its name, its bytes, how many locals, what it returns -/
abbrev zx_Y : Type := MethodName × ByteArray × Nat × Option FieldType
def zx_wd (y : zx_Y) : List Cond := .code y.1 y.2.1 y.2.2.1 y.2.2.2 :: zx_tbl
def zCx (K : zx_K) (X : zx_X) (y : zx_Y) (p : Program) (s : State) (m : MethodId) (args : Array Value) (meth : Method) (c : Code) : Prop :=
  p.tables.exec = Jvm.exec ∧ c.code = y.2.1 ∧ c.maxLocals = y.2.2.1 ∧ s.vm.findClass y.1.cls = some m.cls ∧ (∀ w ∈ zx_tbl, w.before args s = true) ∧
  va_K (zk_D K) zc (z_tys K) s ∧ z_St K X s s.heap ∧ zk_z K ≤ s.heap.size ∧ (y.1.name = "<init>" → meth.name = "<init>")
/-- how a method ends: which instruction with which answer -/
def zEn (y : zx_Y) (pc : Nat) (v : Option Value) : Prop :=
  (∃ (x : Int32) (ty : FieldType), v = some (.int x) ∧ decode y.2.1 pc = .ok (.ireturn, 1) ∧ y.2.2.2 = some ty ∧ narrow ty (.int x) = .int x) ∨
  (∃ x : Int64, v = some (.long x) ∧ decode y.2.1 pc = .ok (.lreturn, 1) ∧ y.2.2.2 = some .long) ∨
  (v = none ∧ decode y.2.1 pc = .ok (.return_, 1) ∧ y.2.2.2 = none)
def zRt (y : zx_Y) (mc ms : Nat) (Q : Option Value → List z_C → Prop) (K : zx_K) (p : Program) (l : Launch) (e : Env) (R : Room) (s : State) (m : MethodId) (args : Array Value) (below : List Frame) (meth : Method) (c : Code) (QF : State → Prop) : Prop :=
  ∀ (v : Option Value) (ph : List z_C) (H : Heap) (locs : List Loc) (ns pc : Nat) (ls : Array Slot), Q v ph → ns ≤ ms → zWo K s H locs ph mc → zEn y pc v →
    W p l e R s m args below meth c H locs mc ns QF (F0 m pc ls v.toList)
def zLs (K : zx_K) (lv : List (Nat × Value)) : List (Nat × Value) := lv.map (fun q => (q.1, z_em K q.2))
/-- from here the method comes to its end with an answer and a heap of which Q holds, with d frames more, mc new cells in all, ms new slots at most -/
def ZW (l : Launch) (d : Nat) (y : zx_Y) (X : zx_X) (mc ms : Nat) (Q : Option Value → List z_C → Prop) (pc : Nat) (lv : List (Nat × Value)) (st : List Value) (ph : List z_C) (cc ns : Nat) : Prop :=
  ∀ (K : zx_K) (p : Program) (e : Env) (R : Room) (s : State) (m : MethodId) (args : Array Value) (below : List Frame) (meth : Method) (c : Code) (H : Heap) (locs : List Loc) (QF : State → Prop) (ls : Array Slot),
    zCx K X y p s m args meth c → zWo K s H locs ph cc → d ≤ R.frames ∧ 40 * (d + 1) ≤ R.locals ∧ mc ≤ R.cells ∧ ms ≤ R.slots → zRt y mc ms Q K p l e R s m args below meth c QF → lv_has ls y.2.2.1 (zLs K lv) →
    W p l e R s m args below meth c H locs cc ns QF (F0 m pc ls (st.map (z_em K)))
def zPc (K : zx_K) (X : zx_X) (as : List Value) (ph : List z_C) : Array Value → State → Prop :=
  va_Pc (as.map (z_em K)) (fun U => U.heap.size = zk_z K + ph.length ∧ va_P (zk_D K) zc (z_ws K ph) U.heap ∧ va_K (zk_D K) zc (z_tys K) U ∧ z_St K X U U.heap)
def zQc (K : zx_K) (ph : List z_C) (mc : Nat) (Q : Option Value → List z_C → Prop) : Array Value → State → Outcome → State → Prop := fun _ st o t =>
  (∃ (v : Option Value) (ph' : List z_C), o = .returned v ∧ Q v ph' ∧ v.map (z_em K) = v ∧ ph'.length = ph.length + mc ∧ va_P (zk_D K) zc (z_ws K ph') t.heap) ∧ va_F (zk_A K) st t
/-- the contract of a method at these arguments and this heap -/
def ZM (l : Launch) (d : Nat) (y : zx_Y) (X : zx_X) (as : List Value) (ph : List z_C) (mc ms : Nat) (Q : Option Value → List z_C → Prop) : Prop :=
  ∀ K : zx_K, Met l y.1 (zx_wd y) { frames := d, cells := mc, slots := ms, locals := 40 * (d + 1) } (zPc K X as ph) (zQc K ph mc Q) mc ms (zk_A K)
theorem zLs_args (K : zx_K) (as : List Value) (n : Nat) : lv_args n (as.map (z_em K)) = zLs K (lv_args n as) := by
  induction as generalizing n with
  | nil => rfl
  | cons v vs ih =>
    show (n, z_em K v) :: lv_args _ (vs.map (z_em K)) = (n, z_em K v) :: zLs K (lv_args _ vs)
    rw [z_emc, ih]
theorem z_slLen (K : zx_K) (as : List Value) : (lg_sl (as.map (z_em K))).length = (lg_sl as).length := by
  induction as with
  | nil => rfl
  | cons v vs ih =>
    have e1 : ∀ (w : Value) (ws : List Value), (lg_sl (w :: ws)).length = (if w.category = 2 then 2 else 1) + (lg_sl ws).length := by
      intro w ws
      simp only [lg_sl, List.flatMap_cons, List.length_append]
      by_cases h : w.category = 2 <;> simp [h]
    rw [List.map_cons, e1, e1, z_emc, ih]
theorem zWo.app {K : zx_K} {s : State} {H : Heap} {locs : List Loc} {ph : List z_C} {cells : Nat} (w : zWo K s H locs ph cells) : va_D (zk_A K) (z_ws K ph) := z_wsD K ph
/-- a body's walk makes its contract: a method that no entry of the platform's own replaces -/
theorem zx_ofW {l : Launch} {y : MethodName} {ws ws' : List Cond} {rm : Room} {Pc : Array Value → State → Prop} {Qc : Array Value → State → Outcome → State → Prop} {mc ms : Nat} {free : Addr → Prop} {cc : ByteArray} {maxL : Nat} {ret : Option FieldType}
    (hy : plainFor y = true) (hw : ws = Cond.code y cc maxL ret :: ws')
    (body : ∀ p e s m args below meth c s₁, BodyLoose p l y (headSpec ws rm) cc maxL ret e s m args below meth c s₁ → c.maxLocals = maxL → Pc args s →
      W p l e (headSpec ws rm).room s m args below meth c s.heap [] 0 0 (MQ below Qc args s mc ms free) (entryFrame m args maxL)) : Met l y ws rm Pc Qc mc ms free := by
  refine MetFree.of_bodySF (code := cc) (maxLocals := maxL) (ret := ret) hy ?_ ?_
  · intro args s m h hn
    obtain ⟨meth, c, h1, h2, h3, h4, h5, h6, -, -⟩ := Cond.code_spec hn (atoms_spec (ws := ws) h _ (by rw [hw]; exact List.mem_cons_self))
    exact ⟨meth, c, h1, h2, h3, h4, h5, h6⟩
  · intro p e s m args below meth c s₁ B hml hP _
    have hh0 : s₁.heap = s.heap := by rw [B.state]; rfl
    obtain ⟨t, a1, o, b1, b2, b3⟩ := body p e s m args below meth c s₁ B hml hP s₁ hh0 (Stand.of_body B)
    exact ⟨t, o, a1, b1, b2, ⟨b3.1, b3.2⟩⟩
section ZR
variable {l : Launch} {d : Nat} {y : zx_Y} {X : zx_X} {mc ms : Nat} {Q : Option Value → List z_C → Prop} {pc : Nat} {lv : List (Nat × Value)} {st : List Value} {ph : List z_C} {cc ns : Nat}
/-- the start of a method -/
theorem ZM.of {as : List Value} (hy : plainFor y.1 = true) (ha : (lg_sl as).length ≤ y.2.2.1) (hw : ZW l d y X mc ms Q 0 (lv_args 0 as) [] ph 0 0) : ZM l d y X as ph mc ms Q := by
  intro K
  refine zx_ofW (cc := y.2.1) (maxL := y.2.2.1) (ret := y.2.2.2) (ws' := zx_tbl) hy rfl ?_
  intro p e s m args below meth c s₁ B hml hv
  obtain ⟨rfl, hsz, hP, hK, hSt⟩ := hv
  have hx := B.exec
  have hb := B.bytes
  have hr := B.returns
  have hts := atoms_spec (ws := zx_wd y) B.pre
  have hown : s.vm.findClass y.1.cls = some m.cls := findClass_of_methodNamed B.named
  have hlocks := B.notSynchronized
  have hnm : meth.name = y.1.name := (name_of_methodNamed B.named B.method).1
  have hl := lv_entry (as.map (z_em K)) (n := y.2.2.1) (by rw [z_slLen]; exact ha)
  rw [lg_entry_eq]
  generalize (lg_sl (as.map (z_em K)) ++ List.replicate (y.2.2.1 - (lg_sl (as.map (z_em K))).length) Slot.unset).toArray = ls at hl ⊢
  rw [zLs_args] at hl
  refine hw K p e _ s m _ below meth c s.heap [] _ ls ⟨hx, hb, hml, hown, fun w hw' => hts w (List.mem_cons_of_mem _ hw'), hK, hSt, by omega, fun h => hnm.trans h⟩ ⟨by omega, hP, va_S.rf⟩ ⟨Nat.le_refl _, Nat.le_refl _, Nat.le_refl _, Nat.le_refl _⟩ ?_ hl
  intro v ph' H locs ns' pc' ls' hq hns hwo hen
  have hlen : ph'.length = ph.length + mc := by have := hwo.1; omega
  refine W.widen (Nat.le_refl _) hns ?_
  rcases hen with ⟨x, ty, rfl, hd, hrt, hn⟩ | ⟨x, rfl, hd, hrt⟩ | ⟨rfl, hd, hrt⟩
  · exact W.zret hx hb (hr.trans hrt) hn (fun t ht hW => ⟨⟨_, ph', rfl, hq, rfl, hlen, by rw [ht]; exact hwo.2.1⟩, hwo.2.2.F ht⟩) hwo.2.2.2.2 hd
  · exact W.lret hx hb (hr.trans hrt) (fun t ht hW => ⟨⟨_, ph', rfl, hq, rfl, hlen, by rw [ht]; exact hwo.2.1⟩, hwo.2.2.F ht⟩) hwo.2.2.2.2 hd
  · exact W.vret hx hb (hr.trans hrt) (fun t ht hW => ⟨⟨_, ph', rfl, hq, rfl, hlen, by rw [ht]; exact hwo.2.1⟩, hwo.2.2.F ht⟩) hwo.2.2.2.2 hd
/-- the end of a method -/
theorem zs_ret {v : Option Value} (hv : st = v.toList) (he : zEn y pc v) (hc : cc = mc) (hs : ns ≤ ms) (hq : Q v ph) : ZW l d y X mc ms Q pc lv st ph cc ns := by
  intro K p e R s m args below meth c H locs QF ls C w h4 r hl
  subst hv
  subst hc
  have h := r v ph H locs ns pc ls hq hs w he
  have e1 : v.toList.map (z_em K) = v.toList := by
    rcases he with ⟨x, ty, rfl, -⟩ | ⟨x, rfl, -⟩ | ⟨rfl, -⟩ <;> rfl
  rw [e1]
  exact h
/-- an instruction that changes pc and stack alone -/
theorem zw_s {pc' : Nat} {st' : List Value}
    (h : ∀ (K : zx_K) (p : Program) (e : Env) (R : Room) (s : State) (m : MethodId) (args : Array Value) (below : List Frame) (meth : Method) (c : Code) (H : Heap) (locs : List Loc) (QF : State → Prop) (ls : Array Slot), p.tables.exec = Jvm.exec → c.code = y.2.1 →
      s.vm.findClass y.1.cls = some m.cls → (∀ w ∈ zx_tbl, w.before args s = true) → lv_has ls y.2.2.1 (zLs K lv) →
      W p l e R s m args below meth c H locs cc ns QF (F0 m pc' ls (st'.map (z_em K))) → W p l e R s m args below meth c H locs cc ns QF (F0 m pc ls (st.map (z_em K))))
    (k : ZW l d y X mc ms Q pc' lv st' ph cc ns) : ZW l d y X mc ms Q pc lv st ph cc ns :=
  fun K p e R s m args below meth c H locs QF ls C w h4 r hl => h K p e R s m args below meth c H locs QF ls C.1 C.2.1 C.2.2.2.1 C.2.2.2.2.1 hl (k K p e R s m args below meth c H locs QF ls C w h4 r hl)
theorem z_at {K : zx_K} {ls : Array Slot} {nL i : Nat} {v : Value} (h : lv_has ls nL (zLs K lv)) (hl : lv.lookup i = some v) : ls[i]? = some (.val (z_em K v)) := by
  have hm : (i, v) ∈ lv := by
    clear h
    induction lv with
    | nil => cases hl
    | cons a r ih =>
      obtain ⟨j, w⟩ := a
      rw [List.lookup_cons] at hl
      by_cases hij : (i == j) = true
      · rw [hij] at hl
        have e1 : w = v := Option.some.inj hl
        have e2 : i = j := by simpa using hij
        rw [e1, e2]
        exact List.mem_cons_self
      · have e3 : (i == j) = false := by simpa using hij
        rw [e3] at hl
        exact List.mem_cons_of_mem _ (ih hl)
  exact h.2.2 (i, z_em K v) (List.mem_map.mpr ⟨(i, v), hm, rfl⟩)

theorem zs_iconst {n : Int} {v : Int32} (hv : Int32.ofInt n = v) (hd : decode y.2.1 pc = .ok (.iconst n, 1)) (k : ZW l d y X mc ms Q (pc + 1) lv (.int v :: st) ph cc ns) : ZW l d y X mc ms Q pc lv st ph cc ns :=
  zw_s (fun K p e R s m args below meth c H locs QF ls hx hb hown hts hl k => lv_iconst hx hb hd hv k) k
theorem zs_bipush {n : Int} {v : Int32} (hv : (Int8.ofInt n).toInt32 = v) (hd : decode y.2.1 pc = .ok (.bipush n, 2)) (k : ZW l d y X mc ms Q (pc + 2) lv (.int v :: st) ph cc ns) : ZW l d y X mc ms Q pc lv st ph cc ns :=
  zw_s (fun K p e R s m args below meth c H locs QF ls hx hb hown hts hl k => lv_bipush hx hb hd hv k) k
theorem zs_sipush {n : Int} {v : Int32} (hv : (Int16.ofInt n).toInt32 = v) (hd : decode y.2.1 pc = .ok (.sipush n, 3)) (k : ZW l d y X mc ms Q (pc + 3) lv (.int v :: st) ph cc ns) : ZW l d y X mc ms Q pc lv st ph cc ns :=
  zw_s (fun K p e R s m args below meth c H locs QF ls hx hb hown hts hl k => lv_sipush hx hb hd hv k) k
theorem zs_ldc {i : Nat} {v : Int32} (hw : Cond.constant y.1.cls i v ∈ zx_tbl) (hd : decode y.2.1 pc = .ok (.ldc i, 2)) (k : ZW l d y X mc ms Q (pc + 2) lv (.int v :: st) ph cc ns) : ZW l d y X mc ms Q pc lv st ph cc ns :=
  zw_s (fun K p e R s m args below meth c H locs QF ls hx hb hown hts hl k => W.ldc hx hb hown (hts _ hw) rfl hd k) k
theorem zs_ldcw {i : Nat} {v : Int32} (hw : Cond.constant y.1.cls i v ∈ zx_tbl) (hd : decode y.2.1 pc = .ok (.ldc_w i, 3)) (k : ZW l d y X mc ms Q (pc + 3) lv (.int v :: st) ph cc ns) : ZW l d y X mc ms Q pc lv st ph cc ns :=
  zw_s (fun K p e R s m args below meth c H locs QF ls hx hb hown hts hl k => lv_ldcw hx hb hown (hts _ hw) hd k) k
theorem zs_ldc2 {i : Nat} {v : Int64} (hw : Cond.constantLong y.1.cls i v ∈ zx_tbl) (hd : decode y.2.1 pc = .ok (.ldc2_w i, 3)) (k : ZW l d y X mc ms Q (pc + 3) lv (.long v :: st) ph cc ns) : ZW l d y X mc ms Q pc lv st ph cc ns :=
  zw_s (fun K p e R s m args below meth c H locs QF ls hx hb hown hts hl k => lv_ldc2 hx hb hown (hts _ hw) hd k) k
theorem zs_lconst {n : Fin 2} {v : Int64} (hv : Int64.ofNat (n : Nat) = v) (hd : decode y.2.1 pc = .ok (.lconst n, 1)) (k : ZW l d y X mc ms Q (pc + 1) lv (.long v :: st) ph cc ns) : ZW l d y X mc ms Q pc lv st ph cc ns :=
  zw_s (fun K p e R s m args below meth c H locs QF ls hx hb hown hts hl k => lv_lconst hx hb hd hv k) k
theorem zs_iload_n {q : Fin 4} {i : Nat} {x : Int32} (hi : (q : Nat) = i) (hv : lv.lookup i = some (.int x)) (hd : decode y.2.1 pc = .ok (.iload_n q, 1)) (k : ZW l d y X mc ms Q (pc + 1) lv (.int x :: st) ph cc ns) : ZW l d y X mc ms Q pc lv st ph cc ns :=
  zw_s (fun K p e R s m args below meth c H locs QF ls hx hb hown hts hl k => lv_iload_n hx hb hd hi (z_at hl hv) k) k
theorem zs_iload {i : Nat} {x : Int32} (hv : lv.lookup i = some (.int x)) (hd : decode y.2.1 pc = .ok (.iload i, 2)) (k : ZW l d y X mc ms Q (pc + 2) lv (.int x :: st) ph cc ns) : ZW l d y X mc ms Q pc lv st ph cc ns :=
  zw_s (fun K p e R s m args below meth c H locs QF ls hx hb hown hts hl k => lv_iload hx hb hd (z_at hl hv) k) k
theorem zs_lload_n {q : Fin 4} {i : Nat} {x : Int64} (hi : (q : Nat) = i) (hv : lv.lookup i = some (.long x)) (hd : decode y.2.1 pc = .ok (.lload_n q, 1)) (k : ZW l d y X mc ms Q (pc + 1) lv (.long x :: st) ph cc ns) : ZW l d y X mc ms Q pc lv st ph cc ns :=
  zw_s (fun K p e R s m args below meth c H locs QF ls hx hb hown hts hl k => lv_lload_n hx hb hd hi (z_at hl hv) k) k
theorem zs_lload {i : Nat} {x : Int64} (hv : lv.lookup i = some (.long x)) (hd : decode y.2.1 pc = .ok (.lload i, 2)) (k : ZW l d y X mc ms Q (pc + 2) lv (.long x :: st) ph cc ns) : ZW l d y X mc ms Q pc lv st ph cc ns :=
  zw_s (fun K p e R s m args below meth c H locs QF ls hx hb hown hts hl k => lv_lload hx hb hd (z_at hl hv) k) k
theorem zs_aload_n {q : Fin 4} {i : Nat} {x : Nat} (hi : (q : Nat) = i) (hv : lv.lookup i = some (.ref x)) (hd : decode y.2.1 pc = .ok (.aload_n q, 1)) (k : ZW l d y X mc ms Q (pc + 1) lv (.ref x :: st) ph cc ns) : ZW l d y X mc ms Q pc lv st ph cc ns :=
  zw_s (fun K p e R s m args below meth c H locs QF ls hx hb hown hts hl k => lv_aload_n hx hb hd hi (z_at hl hv) k) k
theorem zs_aload {i : Nat} {x : Nat} (hv : lv.lookup i = some (.ref x)) (hd : decode y.2.1 pc = .ok (.aload i, 2)) (k : ZW l d y X mc ms Q (pc + 2) lv (.ref x :: st) ph cc ns) : ZW l d y X mc ms Q pc lv st ph cc ns :=
  zw_s (fun K p e R s m args below meth c H locs QF ls hx hb hown hts hl k => lv_aload hx hb hd (z_at hl hv) k) k
theorem zs_iadd {a b : Int32} (hd : decode y.2.1 pc = .ok (.iadd, 1))  (k : ZW l d y X mc ms Q (pc + 1) lv (.int (a + b) :: st) ph cc ns) : ZW l d y X mc ms Q pc lv (.int b :: .int a :: st) ph cc ns :=
  zw_s (fun K p e R s m args below meth c H locs QF ls hx hb hown hts hl k => lv_iadd hx hb hd k) k
theorem zs_isub {a b : Int32} (hd : decode y.2.1 pc = .ok (.isub, 1))  (k : ZW l d y X mc ms Q (pc + 1) lv (.int (a - b) :: st) ph cc ns) : ZW l d y X mc ms Q pc lv (.int b :: .int a :: st) ph cc ns :=
  zw_s (fun K p e R s m args below meth c H locs QF ls hx hb hown hts hl k => lv_isub hx hb hd k) k
theorem zs_imul {a b : Int32} (hd : decode y.2.1 pc = .ok (.imul, 1))  (k : ZW l d y X mc ms Q (pc + 1) lv (.int (a * b) :: st) ph cc ns) : ZW l d y X mc ms Q pc lv (.int b :: .int a :: st) ph cc ns :=
  zw_s (fun K p e R s m args below meth c H locs QF ls hx hb hown hts hl k => lv_imul hx hb hd k) k
theorem zs_iand {a b : Int32} (hd : decode y.2.1 pc = .ok (.iand, 1))  (k : ZW l d y X mc ms Q (pc + 1) lv (.int (a &&& b) :: st) ph cc ns) : ZW l d y X mc ms Q pc lv (.int b :: .int a :: st) ph cc ns :=
  zw_s (fun K p e R s m args below meth c H locs QF ls hx hb hown hts hl k => lv_iand hx hb hd k) k
theorem zs_ior {a b : Int32} (hd : decode y.2.1 pc = .ok (.ior, 1))  (k : ZW l d y X mc ms Q (pc + 1) lv (.int (a ||| b) :: st) ph cc ns) : ZW l d y X mc ms Q pc lv (.int b :: .int a :: st) ph cc ns :=
  zw_s (fun K p e R s m args below meth c H locs QF ls hx hb hown hts hl k => lv_ior hx hb hd k) k
theorem zs_ixor {a b : Int32} (hd : decode y.2.1 pc = .ok (.ixor, 1))  (k : ZW l d y X mc ms Q (pc + 1) lv (.int (a ^^^ b) :: st) ph cc ns) : ZW l d y X mc ms Q pc lv (.int b :: .int a :: st) ph cc ns :=
  zw_s (fun K p e R s m args below meth c H locs QF ls hx hb hown hts hl k => lv_ixor hx hb hd k) k
theorem zs_ishl {a b : Int32} (hd : decode y.2.1 pc = .ok (.ishl, 1))  (k : ZW l d y X mc ms Q (pc + 1) lv (.int (a <<< (b &&& 31)) :: st) ph cc ns) : ZW l d y X mc ms Q pc lv (.int b :: .int a :: st) ph cc ns :=
  zw_s (fun K p e R s m args below meth c H locs QF ls hx hb hown hts hl k => lv_ishl hx hb hd k) k
theorem zs_ishr {a b : Int32} (hd : decode y.2.1 pc = .ok (.ishr, 1))  (k : ZW l d y X mc ms Q (pc + 1) lv (.int (a >>> (b &&& 31)) :: st) ph cc ns) : ZW l d y X mc ms Q pc lv (.int b :: .int a :: st) ph cc ns :=
  zw_s (fun K p e R s m args below meth c H locs QF ls hx hb hown hts hl k => lv_ishr hx hb hd k) k
theorem zs_idiv {a b : Int32} (hne : ¬ b = 0) (hd : decode y.2.1 pc = .ok (.idiv, 1))  (k : ZW l d y X mc ms Q (pc + 1) lv (.int (a / b) :: st) ph cc ns) : ZW l d y X mc ms Q pc lv (.int b :: .int a :: st) ph cc ns :=
  zw_s (fun K p e R s m args below meth c H locs QF ls hx hb hown hts hl k => lv_idiv hx hb hd hne k) k
theorem zs_irem {a b : Int32} (hne : ¬ b = 0) (hd : decode y.2.1 pc = .ok (.irem, 1))  (k : ZW l d y X mc ms Q (pc + 1) lv (.int (a - a / b * b) :: st) ph cc ns) : ZW l d y X mc ms Q pc lv (.int b :: .int a :: st) ph cc ns :=
  zw_s (fun K p e R s m args below meth c H locs QF ls hx hb hown hts hl k => lv_irem hx hb hd hne k) k
theorem zs_iushr {a b : Int32} (hd : decode y.2.1 pc = .ok (.iushr, 1))  (k : ZW l d y X mc ms Q (pc + 1) lv (.int (a.toUInt32 >>> (b.toUInt32 &&& Int32.toUInt32 31)).toInt32 :: st) ph cc ns) : ZW l d y X mc ms Q pc lv (.int b :: .int a :: st) ph cc ns :=
  zw_s (fun K p e R s m args below meth c H locs QF ls hx hb hown hts hl k => lv_iushr hx hb hd rfl k) k
theorem zs_ineg {a : Int32} (hd : decode y.2.1 pc = .ok (.ineg, 1))  (k : ZW l d y X mc ms Q (pc + 1) lv (.int (-a) :: st) ph cc ns) : ZW l d y X mc ms Q pc lv (.int a :: st) ph cc ns :=
  zw_s (fun K p e R s m args below meth c H locs QF ls hx hb hown hts hl k => lv_ineg hx hb hd k) k
theorem zs_ladd {a b : Int64} (hd : decode y.2.1 pc = .ok (.ladd, 1))  (k : ZW l d y X mc ms Q (pc + 1) lv (.long (a + b) :: st) ph cc ns) : ZW l d y X mc ms Q pc lv (.long b :: .long a :: st) ph cc ns :=
  zw_s (fun K p e R s m args below meth c H locs QF ls hx hb hown hts hl k => lv_ladd hx hb hd k) k
theorem zs_lsub {a b : Int64} (hd : decode y.2.1 pc = .ok (.lsub, 1))  (k : ZW l d y X mc ms Q (pc + 1) lv (.long (a - b) :: st) ph cc ns) : ZW l d y X mc ms Q pc lv (.long b :: .long a :: st) ph cc ns :=
  zw_s (fun K p e R s m args below meth c H locs QF ls hx hb hown hts hl k => lv_lsub hx hb hd k) k
theorem zs_lmul {a b : Int64} (hd : decode y.2.1 pc = .ok (.lmul, 1))  (k : ZW l d y X mc ms Q (pc + 1) lv (.long (a * b) :: st) ph cc ns) : ZW l d y X mc ms Q pc lv (.long b :: .long a :: st) ph cc ns :=
  zw_s (fun K p e R s m args below meth c H locs QF ls hx hb hown hts hl k => lv_lmul hx hb hd k) k
theorem zs_land {a b : Int64} (hd : decode y.2.1 pc = .ok (.land, 1))  (k : ZW l d y X mc ms Q (pc + 1) lv (.long (a &&& b) :: st) ph cc ns) : ZW l d y X mc ms Q pc lv (.long b :: .long a :: st) ph cc ns :=
  zw_s (fun K p e R s m args below meth c H locs QF ls hx hb hown hts hl k => lv_land hx hb hd k) k
theorem zs_lor {a b : Int64} (hd : decode y.2.1 pc = .ok (.lor, 1))  (k : ZW l d y X mc ms Q (pc + 1) lv (.long (a ||| b) :: st) ph cc ns) : ZW l d y X mc ms Q pc lv (.long b :: .long a :: st) ph cc ns :=
  zw_s (fun K p e R s m args below meth c H locs QF ls hx hb hown hts hl k => lv_lor hx hb hd k) k
theorem zs_ldiv {a b : Int64} (hne : ¬ b = 0) (hd : decode y.2.1 pc = .ok (.ldiv, 1))  (k : ZW l d y X mc ms Q (pc + 1) lv (.long (a / b) :: st) ph cc ns) : ZW l d y X mc ms Q pc lv (.long b :: .long a :: st) ph cc ns :=
  zw_s (fun K p e R s m args below meth c H locs QF ls hx hb hown hts hl k => lv_ldiv hx hb hd hne k) k
theorem zs_lrem {a b v : Int64} (hne : ¬ b = 0) (hv : a - a / b * b = v) (hd : decode y.2.1 pc = .ok (.lrem, 1))  (k : ZW l d y X mc ms Q (pc + 1) lv (.long v :: st) ph cc ns) : ZW l d y X mc ms Q pc lv (.long b :: .long a :: st) ph cc ns :=
  zw_s (fun K p e R s m args below meth c H locs QF ls hx hb hown hts hl k => lv_lrem hx hb hd hne (hv ▸ k)) k
theorem zs_lshl {a : Int64} {b : Int32} (hd : decode y.2.1 pc = .ok (.lshl, 1))  (k : ZW l d y X mc ms Q (pc + 1) lv (.long (a <<< (b.toInt64 &&& 63)) :: st) ph cc ns) : ZW l d y X mc ms Q pc lv (.int b :: .long a :: st) ph cc ns :=
  zw_s (fun K p e R s m args below meth c H locs QF ls hx hb hown hts hl k => lv_lshl hx hb hd rfl k) k
theorem zs_lcmp {a b : Int64} (hd : decode y.2.1 pc = .ok (.lcmp, 1))  (k : ZW l d y X mc ms Q (pc + 1) lv (.int (lg_cmp a b) :: st) ph cc ns) : ZW l d y X mc ms Q pc lv (.long b :: .long a :: st) ph cc ns :=
  zw_s (fun K p e R s m args below meth c H locs QF ls hx hb hown hts hl k => W.lcmp hx hb hd k) k
theorem zs_i2l {a : Int32} (hd : decode y.2.1 pc = .ok (.i2l, 1))  (k : ZW l d y X mc ms Q (pc + 1) lv (.long a.toInt64 :: st) ph cc ns) : ZW l d y X mc ms Q pc lv (.int a :: st) ph cc ns :=
  zw_s (fun K p e R s m args below meth c H locs QF ls hx hb hown hts hl k => lv_i2l hx hb hd rfl k) k
theorem zs_l2i {a : Int64} (hd : decode y.2.1 pc = .ok (.l2i, 1))  (k : ZW l d y X mc ms Q (pc + 1) lv (.int a.toInt32 :: st) ph cc ns) : ZW l d y X mc ms Q pc lv (.long a :: st) ph cc ns :=
  zw_s (fun K p e R s m args below meth c H locs QF ls hx hb hown hts hl k => lv_l2i hx hb hd rfl k) k
theorem zs_i2b {a : Int32} (hd : decode y.2.1 pc = .ok (.i2b, 1))  (k : ZW l d y X mc ms Q (pc + 1) lv (.int a.toInt8.toInt32 :: st) ph cc ns) : ZW l d y X mc ms Q pc lv (.int a :: st) ph cc ns :=
  zw_s (fun K p e R s m args below meth c H locs QF ls hx hb hown hts hl k => lv_i2b hx hb hd rfl k) k
theorem zs_i2s {a : Int32} (hd : decode y.2.1 pc = .ok (.i2s, 1))  (k : ZW l d y X mc ms Q (pc + 1) lv (.int a.toInt16.toInt32 :: st) ph cc ns) : ZW l d y X mc ms Q pc lv (.int a :: st) ph cc ns :=
  zw_s (fun K p e R s m args below meth c H locs QF ls hx hb hown hts hl k => lv_i2s hx hb hd rfl k) k
theorem zs_dup {va : Value} (hc : va.category = 1) (hd : decode y.2.1 pc = .ok (.dup, 1))  (k : ZW l d y X mc ms Q (pc + 1) lv (va :: va :: st) ph cc ns) : ZW l d y X mc ms Q pc lv (va :: st) ph cc ns :=
  zw_s (fun K p e R s m args below meth c H locs QF ls hx hb hown hts hl k => lv_dup hx hb hd (by rw [z_emc]; exact hc) k) k
theorem zs_pop {va : Value} (hc : va.category = 1) (hd : decode y.2.1 pc = .ok (.pop, 1))  (k : ZW l d y X mc ms Q (pc + 1) lv (st) ph cc ns) : ZW l d y X mc ms Q pc lv (va :: st) ph cc ns :=
  zw_s (fun K p e R s m args below meth c H locs QF ls hx hb hown hts hl k => lv_pop hx hb hd (by rw [z_emc]; exact hc) k) k
theorem zs_pop2 {va : Value} (hc : va.category = 2) (hd : decode y.2.1 pc = .ok (.pop2, 1))  (k : ZW l d y X mc ms Q (pc + 1) lv (st) ph cc ns) : ZW l d y X mc ms Q pc lv (va :: st) ph cc ns :=
  zw_s (fun K p e R s m args below meth c H locs QF ls hx hb hown hts hl k => lv_pop2_2 hx hb hd (by rw [z_emc]; exact hc) k) k
theorem zs_dup2 {va vb : Value} (hc : va.category = 1) (hc2 : vb.category = 1) (hd : decode y.2.1 pc = .ok (.dup2, 1))  (k : ZW l d y X mc ms Q (pc + 1) lv (va :: vb :: va :: vb :: st) ph cc ns) : ZW l d y X mc ms Q pc lv (va :: vb :: st) ph cc ns :=
  zw_s (fun K p e R s m args below meth c H locs QF ls hx hb hown hts hl k => lv_dup2_11 hx hb hd (by rw [z_emc]; exact hc) (by rw [z_emc]; exact hc2) k) k
theorem zs_goto {off : Int} {tgt : Nat} (hd : decode y.2.1 pc = .ok (.goto off, 3)) (ht : (pc : Int) + off = (tgt : Int)) (k : ZW l d y X mc ms Q tgt lv st ph cc ns) : ZW l d y X mc ms Q pc lv st ph cc ns :=
  zw_s (fun K p e R s m args below meth c H locs QF ls hx hb hown hts hl k => lv_goto hx hb hd ht k) k
theorem zs_if_eq {a : Int32} {off : Int} {tgt : Nat} (hd : decode y.2.1 pc = .ok (.ifCond .eq off, 3)) (ht : (pc : Int) + off = (tgt : Int)) (kt : a = 0 → ZW l d y X mc ms Q tgt lv st ph cc ns) (kf : ¬ a = 0 → ZW l d y X mc ms Q (pc + 3) lv st ph cc ns) : ZW l d y X mc ms Q pc lv (.int a :: st) ph cc ns :=
  fun K p e R s m args below meth c H locs QF ls C w h4 r hl => lv_if_eq C.1 C.2.1 hd ht (fun h => kt h K p e R s m args below meth c H locs QF ls C w h4 r hl) (fun h => kf h K p e R s m args below meth c H locs QF ls C w h4 r hl)
theorem zs_if_ne {a : Int32} {off : Int} {tgt : Nat} (hd : decode y.2.1 pc = .ok (.ifCond .ne off, 3)) (ht : (pc : Int) + off = (tgt : Int)) (kt : a ≠ 0 → ZW l d y X mc ms Q tgt lv st ph cc ns) (kf : ¬ a ≠ 0 → ZW l d y X mc ms Q (pc + 3) lv st ph cc ns) : ZW l d y X mc ms Q pc lv (.int a :: st) ph cc ns :=
  fun K p e R s m args below meth c H locs QF ls C w h4 r hl => lv_if_ne C.1 C.2.1 hd ht (fun h => kt h K p e R s m args below meth c H locs QF ls C w h4 r hl) (fun h => kf (fun q => q h) K p e R s m args below meth c H locs QF ls C w h4 r hl)
theorem zs_if_lt {a : Int32} {off : Int} {tgt : Nat} (hd : decode y.2.1 pc = .ok (.ifCond .lt off, 3)) (ht : (pc : Int) + off = (tgt : Int)) (kt : a < 0 → ZW l d y X mc ms Q tgt lv st ph cc ns) (kf : ¬ a < 0 → ZW l d y X mc ms Q (pc + 3) lv st ph cc ns) : ZW l d y X mc ms Q pc lv (.int a :: st) ph cc ns :=
  fun K p e R s m args below meth c H locs QF ls C w h4 r hl => lv_if_lt C.1 C.2.1 hd ht (fun h => kt h K p e R s m args below meth c H locs QF ls C w h4 r hl) (fun h => kf h K p e R s m args below meth c H locs QF ls C w h4 r hl)
theorem zs_if_ge {a : Int32} {off : Int} {tgt : Nat} (hd : decode y.2.1 pc = .ok (.ifCond .ge off, 3)) (ht : (pc : Int) + off = (tgt : Int)) (kt : 0 ≤ a → ZW l d y X mc ms Q tgt lv st ph cc ns) (kf : ¬ 0 ≤ a → ZW l d y X mc ms Q (pc + 3) lv st ph cc ns) : ZW l d y X mc ms Q pc lv (.int a :: st) ph cc ns :=
  fun K p e R s m args below meth c H locs QF ls C w h4 r hl => lv_if_ge C.1 C.2.1 hd ht (fun h => kt h K p e R s m args below meth c H locs QF ls C w h4 r hl) (fun h => kf h K p e R s m args below meth c H locs QF ls C w h4 r hl)
theorem zs_if_gt {a : Int32} {off : Int} {tgt : Nat} (hd : decode y.2.1 pc = .ok (.ifCond .gt off, 3)) (ht : (pc : Int) + off = (tgt : Int)) (kt : 0 < a → ZW l d y X mc ms Q tgt lv st ph cc ns) (kf : ¬ 0 < a → ZW l d y X mc ms Q (pc + 3) lv st ph cc ns) : ZW l d y X mc ms Q pc lv (.int a :: st) ph cc ns :=
  fun K p e R s m args below meth c H locs QF ls C w h4 r hl => lv_if_gt C.1 C.2.1 hd ht (fun h => kt h K p e R s m args below meth c H locs QF ls C w h4 r hl) (fun h => kf h K p e R s m args below meth c H locs QF ls C w h4 r hl)
theorem zs_if_le {a : Int32} {off : Int} {tgt : Nat} (hd : decode y.2.1 pc = .ok (.ifCond .le off, 3)) (ht : (pc : Int) + off = (tgt : Int)) (kt : a ≤ 0 → ZW l d y X mc ms Q tgt lv st ph cc ns) (kf : ¬ a ≤ 0 → ZW l d y X mc ms Q (pc + 3) lv st ph cc ns) : ZW l d y X mc ms Q pc lv (.int a :: st) ph cc ns :=
  fun K p e R s m args below meth c H locs QF ls C w h4 r hl => lv_if_le C.1 C.2.1 hd ht (fun h => kt h K p e R s m args below meth c H locs QF ls C w h4 r hl) (fun h => kf h K p e R s m args below meth c H locs QF ls C w h4 r hl)
theorem zs_icmp_eq {a b : Int32} {off : Int} {tgt : Nat} (hd : decode y.2.1 pc = .ok (.if_icmp .eq off, 3)) (ht : (pc : Int) + off = (tgt : Int)) (kt : a = b → ZW l d y X mc ms Q tgt lv st ph cc ns) (kf : ¬ a = b → ZW l d y X mc ms Q (pc + 3) lv st ph cc ns) : ZW l d y X mc ms Q pc lv (.int b :: .int a :: st) ph cc ns :=
  fun K p e R s m args below meth c H locs QF ls C w h4 r hl => lv_icmp_eq C.1 C.2.1 hd ht (fun h => kt h K p e R s m args below meth c H locs QF ls C w h4 r hl) (fun h => kf h K p e R s m args below meth c H locs QF ls C w h4 r hl)
theorem zs_icmp_ne {a b : Int32} {off : Int} {tgt : Nat} (hd : decode y.2.1 pc = .ok (.if_icmp .ne off, 3)) (ht : (pc : Int) + off = (tgt : Int)) (kt : a ≠ b → ZW l d y X mc ms Q tgt lv st ph cc ns) (kf : ¬ a ≠ b → ZW l d y X mc ms Q (pc + 3) lv st ph cc ns) : ZW l d y X mc ms Q pc lv (.int b :: .int a :: st) ph cc ns :=
  fun K p e R s m args below meth c H locs QF ls C w h4 r hl => lv_icmp_ne C.1 C.2.1 hd ht (fun h => kt h K p e R s m args below meth c H locs QF ls C w h4 r hl) (fun h => kf (fun q => q h) K p e R s m args below meth c H locs QF ls C w h4 r hl)
theorem zs_icmp_lt {a b : Int32} {off : Int} {tgt : Nat} (hd : decode y.2.1 pc = .ok (.if_icmp .lt off, 3)) (ht : (pc : Int) + off = (tgt : Int)) (kt : a < b → ZW l d y X mc ms Q tgt lv st ph cc ns) (kf : ¬ a < b → ZW l d y X mc ms Q (pc + 3) lv st ph cc ns) : ZW l d y X mc ms Q pc lv (.int b :: .int a :: st) ph cc ns :=
  fun K p e R s m args below meth c H locs QF ls C w h4 r hl => lv_icmp_lt C.1 C.2.1 hd ht (fun h => kt h K p e R s m args below meth c H locs QF ls C w h4 r hl) (fun h => kf h K p e R s m args below meth c H locs QF ls C w h4 r hl)
theorem zs_icmp_ge {a b : Int32} {off : Int} {tgt : Nat} (hd : decode y.2.1 pc = .ok (.if_icmp .ge off, 3)) (ht : (pc : Int) + off = (tgt : Int)) (kt : b ≤ a → ZW l d y X mc ms Q tgt lv st ph cc ns) (kf : ¬ b ≤ a → ZW l d y X mc ms Q (pc + 3) lv st ph cc ns) : ZW l d y X mc ms Q pc lv (.int b :: .int a :: st) ph cc ns :=
  fun K p e R s m args below meth c H locs QF ls C w h4 r hl => lv_icmp_ge C.1 C.2.1 hd ht (fun h => kt h K p e R s m args below meth c H locs QF ls C w h4 r hl) (fun h => kf h K p e R s m args below meth c H locs QF ls C w h4 r hl)
theorem zs_icmp_gt {a b : Int32} {off : Int} {tgt : Nat} (hd : decode y.2.1 pc = .ok (.if_icmp .gt off, 3)) (ht : (pc : Int) + off = (tgt : Int)) (kt : b < a → ZW l d y X mc ms Q tgt lv st ph cc ns) (kf : ¬ b < a → ZW l d y X mc ms Q (pc + 3) lv st ph cc ns) : ZW l d y X mc ms Q pc lv (.int b :: .int a :: st) ph cc ns :=
  fun K p e R s m args below meth c H locs QF ls C w h4 r hl => lv_icmp_gt C.1 C.2.1 hd ht (fun h => kt h K p e R s m args below meth c H locs QF ls C w h4 r hl) (fun h => kf h K p e R s m args below meth c H locs QF ls C w h4 r hl)
theorem zs_icmp_le {a b : Int32} {off : Int} {tgt : Nat} (hd : decode y.2.1 pc = .ok (.if_icmp .le off, 3)) (ht : (pc : Int) + off = (tgt : Int)) (kt : a ≤ b → ZW l d y X mc ms Q tgt lv st ph cc ns) (kf : ¬ a ≤ b → ZW l d y X mc ms Q (pc + 3) lv st ph cc ns) : ZW l d y X mc ms Q pc lv (.int b :: .int a :: st) ph cc ns :=
  fun K p e R s m args below meth c H locs QF ls C w h4 r hl => lv_icmp_le C.1 C.2.1 hd ht (fun h => kt h K p e R s m args below meth c H locs QF ls C w h4 r hl) (fun h => kf h K p e R s m args below meth c H locs QF ls C w h4 r hl)
theorem zs_lookup {df : Int} {ps : Array (Int × Int)} {len : Nat} {a : Int32} {off : Int} {tgt : Nat} (hd : decode y.2.1 pc = .ok (.lookupswitch df ps, len)) (hp : (ps.toList.zip (ps.toList.drop 1)).all (fun (a, next) => a.1 < next.1) = true) (ho : Op.lookupswitch.offset ps.toList df a.toInt = off) (ht : (pc : Int) + off = (tgt : Int))
    (k : ZW l d y X mc ms Q tgt lv st ph cc ns) : ZW l d y X mc ms Q pc lv (.int a :: st) ph cc ns :=
  zw_s (fun K p e R s m args below meth c H locs QF ls hx hb hown hts hl k => lv_lookup hx hb hd hp ho ht k) k
theorem zs_tabOut {df lo hi : Int} {offs : Array Int} {len : Nat} {a : Int32} {tgt : Nat} (hd : decode y.2.1 pc = .ok (.tableswitch df lo hi offs, len)) (h : a.toInt < lo ∨ hi < a.toInt) (ht : (pc : Int) + df = (tgt : Int))
    (k : ZW l d y X mc ms Q tgt lv st ph cc ns) : ZW l d y X mc ms Q pc lv (.int a :: st) ph cc ns :=
  zw_s (fun K p e R s m args below meth c H locs QF ls hx hb hown hts hl k => lv_tableOut hx hb hd h ht k) k
theorem zs_tabIn {df lo hi : Int} {offs : Array Int} {len : Nat} {a : Int32} {off : Int} {tgt : Nat} (hd : decode y.2.1 pc = .ok (.tableswitch df lo hi offs, len)) (h1 : ¬ a.toInt < lo) (h2 : ¬ hi < a.toInt) (ho : offs[(a.toInt - lo).toNat]? = some off) (ht : (pc : Int) + off = (tgt : Int))
    (k : ZW l d y X mc ms Q tgt lv st ph cc ns) : ZW l d y X mc ms Q pc lv (.int a :: st) ph cc ns :=
  zw_s (fun K p e R s m args below meth c H locs QF ls hx hb hown hts hl k => lv_tableIn hx hb hd h1 h2 ho ht k) k
def z_st1 (lv : List (Nat × Value)) (i : Nat) (v : Value) : List (Nat × Value) := (i, v) :: lv.filter (fun q => !(q.1 == i) && !(q.1 + 1 == i && q.2.category == 2))
def z_st2 (lv : List (Nat × Value)) (i : Nat) (v : Value) : List (Nat × Value) := (i, v) :: lv.filter (fun q => !(q.1 == i) && (!(q.1 == i + 1) && !(q.1 + 1 == i && q.2.category == 2)))
theorem z_st1_m (K : zx_K) (lv : List (Nat × Value)) (i : Nat) (v : Value) : (i, z_em K v) :: (zLs K lv).filter (fun q => !(q.1 == i) && !(q.1 + 1 == i && q.2.category == 2)) = zLs K (z_st1 lv i v) := by
  simp only [zLs, z_st1, List.map_cons, List.filter_map, Function.comp_def, z_emc]
theorem z_st2_m (K : zx_K) (lv : List (Nat × Value)) (i : Nat) (v : Value) : (i, z_em K v) :: (zLs K lv).filter (fun q => !(q.1 == i) && (!(q.1 == i + 1) && !(q.1 + 1 == i && q.2.category == 2))) = zLs K (z_st2 lv i v) := by
  simp only [zLs, z_st2, List.map_cons, List.filter_map, Function.comp_def, z_emc]

theorem zs_istore_n {q : Fin 4} {i : Nat} {x : Int32} (hi : (q : Nat) = i) (hn : i < y.2.2.1) (hd : decode y.2.1 pc = .ok (.istore_n q, 1)) (k : ZW l d y X mc ms Q (pc + 1) (z_st1 lv i (.int x)) st ph cc ns) : ZW l d y X mc ms Q pc lv (.int x :: st) ph cc ns :=
  fun K p e R s m args below meth c H locs QF ls C w h4 r hl => lv_istore_n C.1 C.2.1 hd hi hl hn (z_st1_m K lv i (.int x)) (fun ls' hl' => k K p e R s m args below meth c H locs QF ls' C w h4 r hl')
theorem zs_istore {i : Nat} {x : Int32} (hn : i < y.2.2.1) (hd : decode y.2.1 pc = .ok (.istore i, 2)) (k : ZW l d y X mc ms Q (pc + 2) (z_st1 lv i (.int x)) st ph cc ns) : ZW l d y X mc ms Q pc lv (.int x :: st) ph cc ns :=
  fun K p e R s m args below meth c H locs QF ls C w h4 r hl => lv_istore C.1 C.2.1 hd hl hn (z_st1_m K lv i (.int x)) (fun ls' hl' => k K p e R s m args below meth c H locs QF ls' C w h4 r hl')
theorem zs_astore_n {q : Fin 4} {i : Nat} {x : Nat} (hi : (q : Nat) = i) (hn : i < y.2.2.1) (hd : decode y.2.1 pc = .ok (.astore_n q, 1)) (k : ZW l d y X mc ms Q (pc + 1) (z_st1 lv i (.ref x)) st ph cc ns) : ZW l d y X mc ms Q pc lv (.ref x :: st) ph cc ns :=
  fun K p e R s m args below meth c H locs QF ls C w h4 r hl => lv_astore_n C.1 C.2.1 hd hi hl hn (z_st1_m K lv i (.ref x)) (fun ls' hl' => k K p e R s m args below meth c H locs QF ls' C w h4 r hl')
theorem zs_astore {i : Nat} {x : Nat} (hn : i < y.2.2.1) (hd : decode y.2.1 pc = .ok (.astore i, 2)) (k : ZW l d y X mc ms Q (pc + 2) (z_st1 lv i (.ref x)) st ph cc ns) : ZW l d y X mc ms Q pc lv (.ref x :: st) ph cc ns :=
  fun K p e R s m args below meth c H locs QF ls C w h4 r hl => lv_astore C.1 C.2.1 hd hl hn (z_st1_m K lv i (.ref x)) (fun ls' hl' => k K p e R s m args below meth c H locs QF ls' C w h4 r hl')
theorem zs_lstore_n {q : Fin 4} {i : Nat} {x : Int64} (hi : (q : Nat) = i) (hn : i + 1 < y.2.2.1) (hd : decode y.2.1 pc = .ok (.lstore_n q, 1)) (k : ZW l d y X mc ms Q (pc + 1) (z_st2 lv i (.long x)) st ph cc ns) : ZW l d y X mc ms Q pc lv (.long x :: st) ph cc ns :=
  fun K p e R s m args below meth c H locs QF ls C w h4 r hl => lv_lstore_n C.1 C.2.1 hd hi hl hn (z_st2_m K lv i (.long x)) (fun ls' hl' => k K p e R s m args below meth c H locs QF ls' C w h4 r hl')
theorem zs_lstore {i : Nat} {x : Int64} (hn : i + 1 < y.2.2.1) (hd : decode y.2.1 pc = .ok (.lstore i, 2)) (k : ZW l d y X mc ms Q (pc + 2) (z_st2 lv i (.long x)) st ph cc ns) : ZW l d y X mc ms Q pc lv (.long x :: st) ph cc ns :=
  fun K p e R s m args below meth c H locs QF ls C w h4 r hl => lv_lstore C.1 C.2.1 hd hl hn (z_st2_m K lv i (.long x)) (fun ls' hl' => k K p e R s m args below meth c H locs QF ls' C w h4 r hl')
theorem z_lookup_get {lv : List (Nat × Value)} {i : Nat} {v : Value} (hl : lv.lookup i = some v) : ∃ k : Nat, lv[k]? = some (i, v) := by
  induction lv with
  | nil => cases hl
  | cons a r ih =>
    obtain ⟨j, w⟩ := a
    rw [List.lookup_cons] at hl
    by_cases hij : (i == j) = true
    · rw [hij] at hl
      have e1 : w = v := Option.some.inj hl
      have e2 : i = j := by simpa using hij
      exact ⟨0, by rw [e1, e2]; rfl⟩
    · have e3 : (i == j) = false := by simpa using hij
      rw [e3] at hl
      obtain ⟨k, hk⟩ := ih hl
      exact ⟨k + 1, hk⟩
theorem zs_iinc {i : Nat} {n : Int} {x v : Int32} (hv : x + Int32.ofInt n = v) (hn : i < y.2.2.1) (hi : lv.lookup i = some (.int x)) (hd : decode y.2.1 pc = .ok (.iinc i n, 3)) (k : ZW l d y X mc ms Q (pc + 3) (z_st1 lv i (.int v)) st ph cc ns) : ZW l d y X mc ms Q pc lv st ph cc ns := by
  intro K p e R s m args below meth c H locs QF ls C w h4 r hl
  obtain ⟨j, hj⟩ := z_lookup_get hi
  have hj' : (zLs K lv)[j]? = some (i, .int x) := by
    show (lv.map _)[j]? = _
    rw [List.getElem?_map, hj]
    rfl
  exact lv_iinc C.1 C.2.1 hd hl hj' hv hn (z_st1_m K lv i (.int v)) (fun ls' hl' => k K p e R s m args below meth c H locs QF ls' C w h4 r hl')
end ZR
