/-! PART 13: what an instruction of mine is checked against, and what it then owes. -/
theorem zw_arrI : Cond.arrayClass .int ∈ zx_tbl := List.mem_filter.mpr ⟨by decide +kernel, rfl⟩
theorem zw_arrJ : Cond.arrayClass .long ∈ zx_tbl := List.mem_filter.mpr ⟨by decide +kernel, rfl⟩
theorem zw_obj1 : Cond.instanceMethod Lib.objectInit ∈ zx_tbl := List.mem_filter.mpr ⟨by decide +kernel, rfl⟩
theorem zw_obj2 : Cond.code Lib.objectInit ⟨#[0xb1]⟩ 1 none ∈ zx_tbl := List.mem_filter.mpr ⟨by decide +kernel, rfl⟩
theorem zw_nat1 : Cond.native arraycopyName ∈ zx_tbl := List.mem_filter.mpr ⟨by decide +kernel, rfl⟩
theorem zw_nat2 : Cond.static arraycopyName ∈ zx_tbl := List.mem_filter.mpr ⟨by decide +kernel, rfl⟩
theorem zw_nat3 : Cond.initialized "java/lang/System" ∈ zx_tbl := List.mem_filter.mpr ⟨by decide +kernel, rfl⟩
theorem zw_and {a b : Bool} (h : (a && b) = true) : a = true ∧ b = true := by simpa using h
section ZK
variable {l : Launch} {d : Nat} {y : zx_Y} {X : zx_X} {mc ms XL : Nat} {φ : List z_C} {Q : Option Value → List z_C → Prop} {pc nx len : Nat} {ins : Instr} {o : List Int} {t : zA_T}
theorem zSd_none : zSd l d y X mc ms XL φ Q pc t none := fun ts h => by cases h

def ex0 (nx : Nat) (o : List Int) (t : zA_T) : zA_R := match o with | [i] => zx_load 2 i.toNat nx t | _ => none
theorem ok0 (hd : decode y.2.1 pc = .ok (ins, len)) (hc : ck0 y pc nx o ins len = true) : zSd l d y X mc ms XL φ Q pc t (ex0 nx o t) := by
  unfold ck0 at hc
  split at hc
  · rcases zw_or hc with h | h
    · obtain ⟨rfl, rfl, e1, rfl⟩ := of_decide_eq_true h
      exact zo_load (fun hl h0 h1 h2 k => by
        obtain ⟨x, rfl⟩ := h2 (by decide) (by decide)
        exact zs_aload_n (by omega) hl hd k)
    · obtain ⟨rfl, rfl, rfl⟩ := of_decide_eq_true h
      exact zo_load (fun hl h0 h1 h2 k => by
        obtain ⟨x, rfl⟩ := h2 (by decide) (by decide)
        exact zs_aload hl hd k)
  · cases hc
def ex2 (nx : Nat) (o : List Int) (t : zA_T) : zA_R := match o with | [i] => zx_load 0 i.toNat nx t | _ => none
theorem ok2 (hd : decode y.2.1 pc = .ok (ins, len)) (hc : ck2 y pc nx o ins len = true) : zSd l d y X mc ms XL φ Q pc t (ex2 nx o t) := by
  unfold ck2 at hc
  split at hc
  · rcases zw_or hc with h | h
    · obtain ⟨rfl, rfl, e1, rfl⟩ := of_decide_eq_true h
      exact zo_load (fun hl h0 h1 h2 k => by
        obtain ⟨x, rfl⟩ := h0 rfl
        exact zs_iload_n (by omega) hl hd k)
    · obtain ⟨rfl, rfl, rfl⟩ := of_decide_eq_true h
      exact zo_load (fun hl h0 h1 h2 k => by
        obtain ⟨x, rfl⟩ := h0 rfl
        exact zs_iload hl hd k)
  · cases hc
def ex37 (nx : Nat) (o : List Int) (t : zA_T) : zA_R := match o with | [i] => zx_load 1 i.toNat nx t | _ => none
theorem ok37 (hd : decode y.2.1 pc = .ok (ins, len)) (hc : ck37 y pc nx o ins len = true) : zSd l d y X mc ms XL φ Q pc t (ex37 nx o t) := by
  unfold ck37 at hc
  split at hc
  · rcases zw_or hc with h | h
    · obtain ⟨rfl, rfl, e1, rfl⟩ := of_decide_eq_true h
      exact zo_load (fun hl h0 h1 h2 k => by
        obtain ⟨x, rfl⟩ := h1 rfl
        exact zs_lload_n (by omega) hl hd k)
    · obtain ⟨rfl, rfl, rfl⟩ := of_decide_eq_true h
      exact zo_load (fun hl h0 h1 h2 k => by
        obtain ⟨x, rfl⟩ := h1 rfl
        exact zs_lload hl hd k)
  · cases hc
def ex23 (nx : Nat) (o : List Int) (t : zA_T) : zA_R := match o with | [i] => zx_store 0 i.toNat nx t | _ => none
theorem ok23 (hd : decode y.2.1 pc = .ok (ins, len)) (hc : ck23 y pc nx o ins len = true) : zSd l d y X mc ms XL φ Q pc t (ex23 nx o t) := by
  unfold ck23 at hc
  split at hc
  · obtain ⟨hb, hc⟩ := zw_and hc
    have hb := of_decide_eq_true hb
    rcases zw_or hc with h | h
    · obtain ⟨rfl, rfl, e1, rfl⟩ := of_decide_eq_true h
      exact zo_store (fun h0 h1 h2 k => by
        obtain ⟨x, rfl⟩ := h0 rfl
        exact zs_istore_n (by omega) hb hd k)
    · obtain ⟨rfl, rfl, rfl⟩ := of_decide_eq_true h
      exact zo_store (fun h0 h1 h2 k => by
        obtain ⟨x, rfl⟩ := h0 rfl
        exact zs_istore hb hd k)
  · cases hc
def ex39 (nx : Nat) (o : List Int) (t : zA_T) : zA_R := match o with | [i] => zx_store 2 i.toNat nx t | _ => none
theorem ok39 (hd : decode y.2.1 pc = .ok (ins, len)) (hc : ck39 y pc nx o ins len = true) : zSd l d y X mc ms XL φ Q pc t (ex39 nx o t) := by
  unfold ck39 at hc
  split at hc
  · obtain ⟨hb, hc⟩ := zw_and hc
    have hb := of_decide_eq_true hb
    rcases zw_or hc with h | h
    · obtain ⟨rfl, rfl, e1, rfl⟩ := of_decide_eq_true h
      exact zo_store (fun h0 h1 h2 k => by
        obtain ⟨x, rfl⟩ := h2 (by decide) (by decide)
        exact zs_astore_n (by omega) hb hd k)
    · obtain ⟨rfl, rfl, rfl⟩ := of_decide_eq_true h
      exact zo_store (fun h0 h1 h2 k => by
        obtain ⟨x, rfl⟩ := h2 (by decide) (by decide)
        exact zs_astore hb hd k)
  · cases hc
def ex38 (nx : Nat) (o : List Int) (t : zA_T) : zA_R := match o with | [i] => zx_store 1 i.toNat nx t | _ => none
theorem ok38 (hd : decode y.2.1 pc = .ok (ins, len)) (hc : ck38 y pc nx o ins len = true) : zSd l d y X mc ms XL φ Q pc t (ex38 nx o t) := by
  unfold ck38 at hc
  split at hc
  · obtain ⟨hb, hc⟩ := zw_and hc
    have hb := of_decide_eq_true hb
    rcases zw_or hc with h | h
    · obtain ⟨rfl, rfl, e1, rfl⟩ := of_decide_eq_true h
      exact zo_store (fun h0 h1 h2 k => by
        obtain ⟨x, rfl⟩ := h1 rfl
        exact zs_lstore_n (by omega) hb hd k)
    · obtain ⟨rfl, rfl, rfl⟩ := of_decide_eq_true h
      exact zo_store (fun h0 h1 h2 k => by
        obtain ⟨x, rfl⟩ := h1 rfl
        exact zs_lstore hb hd k)
  · cases hc
def ex3 (nx : Nat) (o : List Int) (t : zA_T) : zA_R := match o with | c :: _ => zx_push (0, c) nx t | [] => none
theorem ok3 (hd : decode y.2.1 pc = .ok (ins, len)) (hc : ck3 y pc nx o ins len = true) : zSd l d y X mc ms XL φ Q pc t (ex3 nx o t) := by
  unfold ck3 at hc
  split at hc
  · rcases zw_or hc with h | h
    · obtain ⟨rfl, rfl, rfl, e2⟩ := of_decide_eq_true h
      exact zo_pushI e2 (fun k => zs_iconst rfl hd k)
    · rcases zw_or h with h | h
      · obtain ⟨rfl, rfl, rfl, e2⟩ := of_decide_eq_true h
        exact zo_pushI e2 (fun k => zs_bipush rfl hd k)
      · obtain ⟨rfl, rfl, rfl, e2⟩ := of_decide_eq_true h
        exact zo_pushI e2 (fun k => zs_sipush rfl hd k)
  · obtain ⟨h1, h2⟩ := zw_and hc
    rcases zw_or h1 with h | h
    · obtain ⟨rfl, rfl, rfl, e2⟩ := of_decide_eq_true h
      exact zo_pushI e2 (fun k => zs_ldc (zx_of h2) hd k)
    · obtain ⟨rfl, rfl, rfl, e2⟩ := of_decide_eq_true h
      exact zo_pushI e2 (fun k => zs_ldcw (zx_of h2) hd k)
  · cases hc
def ex36 (nx : Nat) (o : List Int) (t : zA_T) : zA_R := match o with | c :: _ => zx_push (4, c) nx t | [] => none
theorem ok36 (hd : decode y.2.1 pc = .ok (ins, len)) (hc : ck36 y pc nx o ins len = true) : zSd l d y X mc ms XL φ Q pc t (ex36 nx o t) := by
  unfold ck36 at hc
  split at hc
  · obtain ⟨rfl, rfl, rfl, e2⟩ := of_decide_eq_true hc
    exact zo_pushJ e2 (fun k => zs_lconst rfl hd k)
  · obtain ⟨h1, h2⟩ := zw_and hc
    obtain ⟨rfl, rfl, rfl, e2⟩ := of_decide_eq_true h1
    exact zo_pushJ e2 (fun k => zs_ldc2 (zx_of h2) hd k)
  · cases hc
def ex1 (nx : Nat) (o : List Int) (t : zA_T) : zA_R := match o with | [k, ci, _, _] => zx_get k.toNat ci.toNat nx t | _ => none
theorem ok1 (hd : decode y.2.1 pc = .ok (ins, len)) (hc : ck1 y pc nx o ins len = true) : zSd l d y X mc ms XL φ Q pc t (ex1 nx o t) := by
  unfold ck1 at hc
  split at hc
  · split at hc
    · next q hq =>
      obtain ⟨h1, h2⟩ := zw_and hc
      obtain ⟨rfl, rfl, rfl, e2⟩ := of_decide_eq_true h1
      exact zo_get (fun hi hv k => zs_getfield (C := q.1) (T := q.2.1) (N := q.2.2) hd (zx_of h2) hq e2 hi hv k)
    · cases hc
  · cases hc
theorem zx_tc_g {tc : Int} {ty : FieldType} {v : Value} (h : zx_tc tc ty = true) (h0 : tc.toNat = 0 → ∃ x, v = .int x) (h1 : tc.toNat = 1 → v = .int 0 ∨ v = .int 1) (h2 : tc.toNat ≠ 0 → tc.toNat ≠ 1 → ∃ a, v = .ref a) : ∀ K, narrow ty (z_em K v) = z_em K v ∧ fits ty (z_em K v) = true := by
  intro K
  cases ty with
  | int =>
    have e := of_decide_eq_true h
    obtain ⟨x, rfl⟩ := h0 (by omega)
    exact ⟨rfl, rfl⟩
  | boolean =>
    have e := of_decide_eq_true h
    rcases h1 (by omega) with rfl | rfl
    · exact ⟨rfl, rfl⟩
    · exact ⟨rfl, rfl⟩
  | object n =>
    have e := of_decide_eq_true h
    obtain ⟨x, rfl⟩ := h2 (by omega) (by omega)
    exact ⟨rfl, rfl⟩
  | array n =>
    have e := of_decide_eq_true h
    obtain ⟨x, rfl⟩ := h2 (by omega) (by omega)
    exact ⟨rfl, rfl⟩
  | _ => cases h
def ex52 (nx : Nat) (o : List Int) (t : zA_T) : zA_R := match o with | [k, ci, tc, _, _] => zx_put k.toNat ci.toNat tc.toNat nx t | _ => none
theorem ok52 (hd : decode y.2.1 pc = .ok (ins, len)) (hc : ck52 y pc nx o ins len = true) : zSd l d y X mc ms XL φ Q pc t (ex52 nx o t) := by
  unfold ck52 at hc
  split at hc
  · split at hc
    · next q hq =>
      obtain ⟨h1, h2⟩ := zw_and hc
      obtain ⟨h3, h4⟩ := zw_and h2
      obtain ⟨rfl, rfl, rfl, e2, e3⟩ := of_decide_eq_true h1
      exact zo_put (fun hi hl f0 f1 f2 k => zs_putfield (C := q.1) (T := q.2.1) (N := q.2.2) hd (zx_of h4) hq e2 hi hl e3 (zx_tc_g h3 f0 f1 f2) k)
    · cases hc
  · cases hc
def ex53 (nx : Nat) (o : List Int) (t : zA_T) : zA_R := match o with | [k, ci, tc, _, _] => zx_put k.toNat ci.toNat tc.toNat nx t | _ => none
theorem ok53 (hd : decode y.2.1 pc = .ok (ins, len)) (hc : ck53 y pc nx o ins len = true) : zSd l d y X mc ms XL φ Q pc t (ex53 nx o t) := by
  unfold ck53 at hc
  split at hc
  · split at hc
    · next q hq =>
      obtain ⟨h1, h2⟩ := zw_and hc
      obtain ⟨h3, h4⟩ := zw_and h2
      obtain ⟨rfl, rfl, rfl, e2, e3⟩ := of_decide_eq_true h1
      exact zo_put (fun hi hl f0 f1 f2 k => zs_putfinal (C := q.1) (T := q.2.1) (N := q.2.2) hd (zx_of h4) hq e2 hi hl e3.1 e3.2.1 e3.2.2 (zx_tc_g h3 f0 f1 f2) k)
    · cases hc
  · cases hc
theorem ok10 (hd : decode y.2.1 pc = .ok (ins, len)) (hc : ck10 y pc nx o ins len = true) : zSd l d y X mc ms XL φ Q pc t (zx_bin XL 10 nx pc t) := by
  obtain ⟨rfl, rfl, rfl⟩ := of_decide_eq_true hc
  exact zo_bin (by decide) (fun hne k => zs_iadd hd k)
theorem ok11 (hd : decode y.2.1 pc = .ok (ins, len)) (hc : ck11 y pc nx o ins len = true) : zSd l d y X mc ms XL φ Q pc t (zx_bin XL 11 nx pc t) := by
  obtain ⟨rfl, rfl, rfl⟩ := of_decide_eq_true hc
  exact zo_bin (by decide) (fun hne k => zs_isub hd k)
theorem ok12 (hd : decode y.2.1 pc = .ok (ins, len)) (hc : ck12 y pc nx o ins len = true) : zSd l d y X mc ms XL φ Q pc t (zx_bin XL 12 nx pc t) := by
  obtain ⟨rfl, rfl, rfl⟩ := of_decide_eq_true hc
  exact zo_bin (by decide) (fun hne k => zs_imul hd k)
theorem ok13 (hd : decode y.2.1 pc = .ok (ins, len)) (hc : ck13 y pc nx o ins len = true) : zSd l d y X mc ms XL φ Q pc t (zx_bin XL 13 nx pc t) := by
  obtain ⟨rfl, rfl, rfl⟩ := of_decide_eq_true hc
  exact zo_bin (by decide) (fun hne k => zs_iand hd k)
theorem ok14 (hd : decode y.2.1 pc = .ok (ins, len)) (hc : ck14 y pc nx o ins len = true) : zSd l d y X mc ms XL φ Q pc t (zx_bin XL 14 nx pc t) := by
  obtain ⟨rfl, rfl, rfl⟩ := of_decide_eq_true hc
  exact zo_bin (by decide) (fun hne k => zs_ior hd k)
theorem ok15 (hd : decode y.2.1 pc = .ok (ins, len)) (hc : ck15 y pc nx o ins len = true) : zSd l d y X mc ms XL φ Q pc t (zx_bin XL 15 nx pc t) := by
  obtain ⟨rfl, rfl, rfl⟩ := of_decide_eq_true hc
  exact zo_bin (by decide) (fun hne k => zs_ixor hd k)
theorem ok16 (hd : decode y.2.1 pc = .ok (ins, len)) (hc : ck16 y pc nx o ins len = true) : zSd l d y X mc ms XL φ Q pc t (zx_bin XL 16 nx pc t) := by
  obtain ⟨rfl, rfl, rfl⟩ := of_decide_eq_true hc
  exact zo_bin (by decide) (fun hne k => zs_ishl hd k)
theorem ok17 (hd : decode y.2.1 pc = .ok (ins, len)) (hc : ck17 y pc nx o ins len = true) : zSd l d y X mc ms XL φ Q pc t (zx_bin XL 17 nx pc t) := by
  obtain ⟨rfl, rfl, rfl⟩ := of_decide_eq_true hc
  exact zo_bin (by decide) (fun hne k => zs_ishr hd k)
theorem ok18 (hd : decode y.2.1 pc = .ok (ins, len)) (hc : ck18 y pc nx o ins len = true) : zSd l d y X mc ms XL φ Q pc t (zx_bin XL 18 nx pc t) := by
  obtain ⟨rfl, rfl, rfl⟩ := of_decide_eq_true hc
  exact zo_bin (by decide) (fun hne k => zs_iushr hd k)
theorem ok19 (hd : decode y.2.1 pc = .ok (ins, len)) (hc : ck19 y pc nx o ins len = true) : zSd l d y X mc ms XL φ Q pc t (zx_bin XL 19 nx pc t) := by
  obtain ⟨rfl, rfl, rfl⟩ := of_decide_eq_true hc
  exact zo_bin (by decide) (fun hne k => zs_idiv (hne (by decide)) hd k)
theorem ok20 (hd : decode y.2.1 pc = .ok (ins, len)) (hc : ck20 y pc nx o ins len = true) : zSd l d y X mc ms XL φ Q pc t (zx_bin XL 20 nx pc t) := by
  obtain ⟨rfl, rfl, rfl⟩ := of_decide_eq_true hc
  exact zo_bin (by decide) (fun hne k => zs_irem (hne (by decide)) hd k)
theorem ok21 (hd : decode y.2.1 pc = .ok (ins, len)) (hc : ck21 y pc nx o ins len = true) : zSd l d y X mc ms XL φ Q pc t (zx_neg nx t) := by
  obtain ⟨rfl, rfl, rfl⟩ := of_decide_eq_true hc
  exact zo_neg (fun k => zs_ineg hd k)
theorem ok26 (hd : decode y.2.1 pc = .ok (ins, len)) (hc : ck26 y pc nx o ins len = true) : zSd l d y X mc ms XL φ Q pc t (zx_ald XL 0 nx pc t) := by
  obtain ⟨rfl, rfl, rfl⟩ := of_decide_eq_true hc
  exact zo_ald (by decide) (fun _ hi hin k => zs_iaload hd hi hin k) (fun e => absurd e (by decide)) (fun e => absurd e (by decide)) (fun _ ht hin k => zs_tabload ht hd hin k) (fun _ hin k => zs_scrload hd hin k)
theorem ok30 (hd : decode y.2.1 pc = .ok (ins, len)) (hc : ck30 y pc nx o ins len = true) : zSd l d y X mc ms XL φ Q pc t (zx_ald XL 1 nx pc t) := by
  obtain ⟨rfl, rfl, rfl⟩ := of_decide_eq_true hc
  exact zo_ald (by decide) (fun e => absurd e (by decide)) (fun _ hi hin k => zs_laload hd hi hin k) (fun e => absurd e (by decide)) (fun e => absurd e (by decide)) (fun e => absurd e (by decide))
theorem ok28 (hd : decode y.2.1 pc = .ok (ins, len)) (hc : ck28 y pc nx o ins len = true) : zSd l d y X mc ms XL φ Q pc t (zx_ald XL 2 nx pc t) := by
  obtain ⟨rfl, rfl, rfl⟩ := of_decide_eq_true hc
  exact zo_ald (by decide) (fun e => absurd e (by decide)) (fun e => absurd e (by decide)) (fun _ hi hin k => zs_aaload hd hi hin k) (fun e => absurd e (by decide)) (fun e => absurd e (by decide))
theorem zc_10 : ∃ T N, zc[10]? = some (zs_S, T, N) := ⟨_, _, rfl⟩
theorem ok27 (hd : decode y.2.1 pc = .ok (ins, len)) (hc : ck27 y pc nx o ins len = true) : zSd l d y X mc ms XL φ Q pc t (zx_ast 0 nx pc t) := by
  obtain ⟨rfl, rfl, rfl⟩ := of_decide_eq_true hc
  exact zo_ast (by decide) (fun _ hi hin k => zs_iastore hd hi hin k) (fun e => absurd e (by decide)) (fun e => absurd e (by decide))
theorem ok31 (hd : decode y.2.1 pc = .ok (ins, len)) (hc : ck31 y pc nx o ins len = true) : zSd l d y X mc ms XL φ Q pc t (zx_ast 1 nx pc t) := by
  obtain ⟨rfl, rfl, rfl⟩ := of_decide_eq_true hc
  exact zo_ast (by decide) (fun e => absurd e (by decide)) (fun _ hi hin k => zs_lastore hd hi hin k) (fun e => absurd e (by decide))
theorem ok29 (hd : decode y.2.1 pc = .ok (ins, len)) (hc : ck29 y pc nx o ins len = true) : zSd l d y X mc ms XL φ Q pc t (zx_ast 2 nx pc t) := by
  obtain ⟨rfl, rfl, rfl⟩ := of_decide_eq_true hc
  exact zo_ast (by decide) (fun e => absurd e (by decide)) (fun e => absurd e (by decide)) (fun _ hi hq hin k => by obtain ⟨T, N, hz⟩ := zc_10; exact zs_aastore hd hi hq hz hin k)
theorem ok32 (hd : decode y.2.1 pc = .ok (ins, len)) (hc : ck32 y pc nx o ins len = true) : zSd l d y X mc ms XL φ Q pc t (zx_len XL nx t) := by
  obtain ⟨rfl, rfl, rfl⟩ := of_decide_eq_true hc
  exact zo_len (fun hk hi k => zs_alen hk rfl hd hi k) (fun k => zs_scrlen hd k)
theorem ok33 (hd : decode y.2.1 pc = .ok (ins, len)) (hc : ck33 y pc nx o ins len = true) : zSd l d y X mc ms XL φ Q pc t (zx_dup 0 nx t) := by
  obtain ⟨rfl, rfl, rfl⟩ := of_decide_eq_true hc
  exact zo_dup (fun _ hc k => zs_dup hc hd k) (fun e => absurd e (by decide)) (fun e => absurd rfl e)
theorem ok34 (hd : decode y.2.1 pc = .ok (ins, len)) (hc : ck34 y pc nx o ins len = true) : zSd l d y X mc ms XL φ Q pc t (zx_dup 1 nx t) := by
  obtain ⟨rfl, rfl, rfl⟩ := of_decide_eq_true hc
  exact zo_dup (fun e => absurd e (by decide)) (fun _ hc k => zs_pop hc hd k) (fun _ e => absurd rfl e)
theorem ok35 (hd : decode y.2.1 pc = .ok (ins, len)) (hc : ck35 y pc nx o ins len = true) : zSd l d y X mc ms XL φ Q pc t (zx_dup 2 nx t) := by
  obtain ⟨rfl, rfl, rfl⟩ := of_decide_eq_true hc
  exact zo_dup (fun e => absurd e (by decide)) (fun e => absurd e (by decide)) (fun _ _ h1 h2 k => zs_dup2 h1 h2 hd k)
theorem ok40 (hd : decode y.2.1 pc = .ok (ins, len)) (hc : ck40 y pc nx o ins len = true) : zSd l d y X mc ms XL φ Q pc t (zx_i2l nx t) := by
  obtain ⟨rfl, rfl, rfl⟩ := of_decide_eq_true hc
  exact zo_i2l (fun k => zs_i2l hd k)
theorem ok41 (hd : decode y.2.1 pc = .ok (ins, len)) (hc : ck41 y pc nx o ins len = true) : zSd l d y X mc ms XL φ Q pc t (zx_l2i nx t) := by
  obtain ⟨rfl, rfl, rfl⟩ := of_decide_eq_true hc
  exact zo_l2i (fun k => zs_l2i hd k)
theorem ok42 (hd : decode y.2.1 pc = .ok (ins, len)) (hc : ck42 y pc nx o ins len = true) : zSd l d y X mc ms XL φ Q pc t (zx_i2w 23 nx t) := by
  obtain ⟨rfl, rfl, rfl⟩ := of_decide_eq_true hc
  exact zo_i2w (Or.inl rfl) (fun {_ _ _ _ _ a z} hz k => zs_i2b hd (by
    have e : a.toInt8.toInt32 = z := Int32.toInt_inj.mp (by rw [hz, Int8.toInt_toInt32, Int32.toInt_toInt8]; rfl)
    rw [e]
    exact k))
theorem ok43 (hd : decode y.2.1 pc = .ok (ins, len)) (hc : ck43 y pc nx o ins len = true) : zSd l d y X mc ms XL φ Q pc t (zx_i2w 24 nx t) := by
  obtain ⟨rfl, rfl, rfl⟩ := of_decide_eq_true hc
  exact zo_i2w (Or.inr rfl) (fun {_ _ _ _ _ a z} hz k => zs_i2s hd (by
    have e : a.toInt16.toInt32 = z := Int32.toInt_inj.mp (by rw [hz, Int16.toInt_toInt32, Int32.toInt_toInt16]; rfl)
    rw [e]
    exact k))
theorem ok48 (hd : decode y.2.1 pc = .ok (ins, len)) (hc : ck48 y pc nx o ins len = true) : zSd l d y X mc ms XL φ Q pc t (zx_ldr 19 nx t) := by
  obtain ⟨rfl, rfl, rfl⟩ := of_decide_eq_true hc
  exact zo_ldr (Or.inl rfl) (fun hne h1 h2 k => zs_ldiv hne hd (by rw [← h1 rfl]; exact k))
theorem ok49 (hd : decode y.2.1 pc = .ok (ins, len)) (hc : ck49 y pc nx o ins len = true) : zSd l d y X mc ms XL φ Q pc t (zx_ldr 20 nx t) := by
  obtain ⟨rfl, rfl, rfl⟩ := of_decide_eq_true hc
  exact zo_ldr (Or.inr rfl) (fun hne h1 h2 k => zs_lrem hne (h2 rfl) hd k)
theorem ok70 (hd : decode y.2.1 pc = .ok (ins, len)) (hc : ck70 y pc nx o ins len = true) : zSd l d y X mc ms XL φ Q pc t (zx_pop2 nx t) := by
  obtain ⟨rfl, rfl, rfl⟩ := of_decide_eq_true hc
  exact zo_pop2 (fun hc k => zs_pop2 hc hd k)
theorem ok44 (hd : decode y.2.1 pc = .ok (ins, len)) (hc : ck44 y pc nx o ins len = true) : zSd l d y X mc ms XL φ Q pc t (zx_lcmp nx t) := by
  obtain ⟨rfl, rfl, rfl⟩ := of_decide_eq_true hc
  exact zo_lcmp (fun k => zs_lcmp hd k)
theorem ok45 (hd : decode y.2.1 pc = .ok (ins, len)) (hc : ck45 y pc nx o ins len = true) : zSd l d y X mc ms XL φ Q pc t (zx_jop nx t 1) := by
  obtain ⟨rfl, rfl, rfl⟩ := of_decide_eq_true hc
  exact zo_jop (by decide) (fun _ => ⟨_, fun k => zs_land hd k⟩) (fun e => absurd e (by decide))
theorem ok46 (hd : decode y.2.1 pc = .ok (ins, len)) (hc : ck46 y pc nx o ins len = true) : zSd l d y X mc ms XL φ Q pc t (zx_jop nx t 1) := by
  obtain ⟨rfl, rfl, rfl⟩ := of_decide_eq_true hc
  exact zo_jop (by decide) (fun _ => ⟨_, fun k => zs_lor hd k⟩) (fun e => absurd e (by decide))
theorem ok47 (hd : decode y.2.1 pc = .ok (ins, len)) (hc : ck47 y pc nx o ins len = true) : zSd l d y X mc ms XL φ Q pc t (zx_jop nx t 0) := by
  obtain ⟨rfl, rfl, rfl⟩ := of_decide_eq_true hc
  exact zo_jop (by decide) (fun e => absurd e (by decide)) (fun _ => ⟨_, fun k => zs_lshl hd k⟩)
def ex22 (nx : Nat) (o : List Int) (t : zA_T) : zA_R := match o with | [i, c] => zx_inc i.toNat c nx t | _ => none
theorem ok22 (hd : decode y.2.1 pc = .ok (ins, len)) (hc : ck22 y pc nx o ins len = true) : zSd l d y X mc ms XL φ Q pc t (ex22 nx o t) := by
  unfold ck22 at hc
  split at hc
  · obtain ⟨rfl, rfl, rfl, e4, e5⟩ := of_decide_eq_true hc
    exact zo_inc e5 (fun hl k => zs_iinc rfl e4 hl hd k)
  · cases hc
def ex24 (nx : Nat) (o : List Int) (t : zA_T) : zA_R := match o with | [c, tg] => zx_if c.toNat tg.toNat nx t | _ => none
theorem ok24 (hd : decode y.2.1 pc = .ok (ins, len)) (hc : ck24 y pc nx o ins len = true) : zSd l d y X mc ms XL φ Q pc t (ex24 nx o t) := by
  unfold ck24 at hc
  split at hc
  · next c tg =>
    obtain ⟨rfl, rfl, e3, rfl, e5, e6⟩ := of_decide_eq_true hc
    have ht : (pc : Int) + (tg - pc) = (tg.toNat : Int) := by omega
    rcases (by omega : c = 0 ∨ c = 1 ∨ c = 2 ∨ c = 3 ∨ c = 4 ∨ c = 5) with rfl | rfl | rfl | rfl | rfl | rfl
    · exact zo_if (fun kt kf => zs_if_eq hd ht (fun h => kt h) (fun h => kf h))
    · exact zo_if (fun kt kf => zs_if_ne hd ht (fun h => kt h) (fun h => kf h))
    · exact zo_if (fun kt kf => zs_if_lt hd ht (fun h => kt h) (fun h => kf h))
    · exact zo_if (fun kt kf => zs_if_ge hd ht (fun h => kt h) (fun h => kf h))
    · exact zo_if (fun kt kf => zs_if_gt hd ht (fun h => kt h) (fun h => kf h))
    · exact zo_if (fun kt kf => zs_if_le hd ht (fun h => kt h) (fun h => kf h))
  · cases hc
def ex25 (nx : Nat) (o : List Int) (t : zA_T) : zA_R := match o with | [c, tg] => zx_icmp c.toNat tg.toNat nx t | _ => none
theorem ok25 (hd : decode y.2.1 pc = .ok (ins, len)) (hc : ck25 y pc nx o ins len = true) : zSd l d y X mc ms XL φ Q pc t (ex25 nx o t) := by
  unfold ck25 at hc
  split at hc
  · next c tg =>
    obtain ⟨rfl, rfl, e3, rfl, e5, e6⟩ := of_decide_eq_true hc
    have ht : (pc : Int) + (tg - pc) = (tg.toNat : Int) := by omega
    rcases (by omega : c = 0 ∨ c = 1 ∨ c = 2 ∨ c = 3 ∨ c = 4 ∨ c = 5) with rfl | rfl | rfl | rfl | rfl | rfl
    · exact zo_icmp (fun kt kf => zs_icmp_eq hd ht (fun h => kt h) (fun h => kf h))
    · exact zo_icmp (fun kt kf => zs_icmp_ne hd ht (fun h => kt h) (fun h => kf h))
    · exact zo_icmp (fun kt kf => zs_icmp_lt hd ht (fun h => kt h) (fun h => kf h))
    · exact zo_icmp (fun kt kf => zs_icmp_ge hd ht (fun h => kt h) (fun h => kf h))
    · exact zo_icmp (fun kt kf => zs_icmp_gt hd ht (fun h => kt h) (fun h => kf h))
    · exact zo_icmp (fun kt kf => zs_icmp_le hd ht (fun h => kt h) (fun h => kf h))
  · cases hc
theorem ok6 (hd : decode y.2.1 pc = .ok (ins, len)) (hc : ck6 y pc nx o ins len = true) : zSd l d y X mc ms XL φ Q pc t (some [(nx, t)]) := by
  unfold ck6 at hc
  split at hc
  · obtain ⟨rfl, rfl, e1⟩ := of_decide_eq_true hc
    exact zo_goto (fun k => zs_goto hd e1 k)
  · cases hc
def ex50 (o : List Int) (t : zA_T) : zA_R := match o with | lo :: df :: gs => zx_tab lo df gs t | _ => none
theorem ok50 (hd : decode y.2.1 pc = .ok (ins, len)) (hc : ck50 y pc nx o ins len = true) : zSd l d y X mc ms XL φ Q pc t (ex50 o t) := by
  unfold ck50 at hc
  split at hc
  · next lo d2 gs =>
    obtain ⟨h1, h2⟩ := zw_and hc
    obtain ⟨rfl, e3⟩ := of_decide_eq_true h1
    refine zo_tab (fun kd kt => ?_)
    rename_i lv st ph cc ns a
    by_cases hr : a.toInt < lo ∨ lo + gs.length - 1 < a.toInt
    · exact zs_tabOut (tgt := d2.toNat) hd hr (by omega) (kd (by omega))
    · have hi1 : (a.toInt - lo).toNat < gs.length := by omega
      have hge : gs[(a.toInt - lo).toNat]? = some gs[(a.toInt - lo).toNat] := List.getElem?_eq_getElem hi1
      have ho : (gs.map (fun g => g - (pc : Int))).toArray[(a.toInt - lo).toNat]? = some (gs[(a.toInt - lo).toNat] - pc) := by
        rw [List.getElem?_toArray, List.getElem?_map, hge]
        rfl
      have hgd : gs.getD (a.toInt - lo).toNat 0 = gs[(a.toInt - lo).toNat] := by
        rw [List.getD_eq_getElem?_getD, hge]
        rfl
      have hpos := of_decide_eq_true (List.all_eq_true.mp h2 _ (List.getElem_mem hi1))
      refine zs_tabIn (tgt := (gs.getD (a.toInt - lo).toNat 0).toNat) hd (by omega) (by omega) ho ?_ (kt _ hi1 (by omega))
      rw [hgd]
      omega
  · cases hc
theorem zlk_off {pc : Nat} {df n : Int} : ∀ (qs : List (Int × Int)), zx_lk0 n df qs = (pc : Int) + Op.lookupswitch.offset (qs.map (fun q => (q.1, q.2 - (pc : Int)))) (df - pc) n
  | [] => by rw [List.map_nil, Op.lookupswitch.offset_nil]; unfold zx_lk0; omega
  | (a, o) :: r => by
    rw [List.map_cons, Op.lookupswitch.offset_cons]
    unfold zx_lk0
    by_cases h : n = a
    · rw [if_pos h, if_pos h.symm]
      show o = pc + (o - pc)
      omega
    · rw [if_neg h, if_neg (fun e => h e.symm)]
      exact zlk_off r
theorem zlk_pos {n df : Int} (hd : 0 ≤ df) : ∀ (qs : List (Int × Int)), qs.all (fun q => decide (0 ≤ q.2)) = true → 0 ≤ zx_lk0 n df qs
  | [], _ => hd
  | q :: qs, h => by
    simp only [List.all_cons, Bool.and_eq_true, decide_eq_true_eq] at h
    unfold zx_lk0
    split
    · exact h.1
    · exact zlk_pos hd qs (by simpa using h.2)
def ex51 (o : List Int) (t : zA_T) : zA_R := match o with | d2 :: qs => zx_lk d2 (zpair qs) t | _ => none
theorem ok51 (hd : decode y.2.1 pc = .ok (ins, len)) (hc : ck51 y pc nx o ins len = true) : zSd l d y X mc ms XL φ Q pc t (ex51 o t) := by
  unfold ck51 at hc
  split at hc
  · next d2 qs =>
    obtain ⟨h1, h2⟩ := zw_and hc
    obtain ⟨h3, h4⟩ := zw_and h2
    obtain ⟨rfl, e2⟩ := of_decide_eq_true h1
    refine zo_lk (fun k => zs_lookup hd h4 rfl ?_ k)
    rename_i a
    rw [Int.toNat_of_nonneg (zlk_pos e2 _ h3), zlk_off (pc := pc)]
  · cases hc
def ex54 (nx : Nat) (o : List Int) (t : zA_T) : zA_R := match o with | i :: _ => zx_push (2, i) nx t | [] => none
theorem ok54 (hd : decode y.2.1 pc = .ok (ins, len)) (hc : ck54 y pc nx o ins len = true) : zSd l d y X mc ms XL φ Q pc t (ex54 nx o t) := by
  unfold ck54 at hc
  split at hc
  · obtain ⟨h1, h2⟩ := zw_and hc
    obtain ⟨rfl, rfl, rfl⟩ := of_decide_eq_true h1
    rcases zw_or h2 with h | h
    · obtain ⟨h3, h4⟩ := zw_and h
      have e3 := of_decide_eq_true h3
      subst e3
      exact zo_pushR (i := 0) (fun k => zs_getstatic (Or.inl ⟨rfl, rfl⟩) (zx_of h4) hd k)
    · obtain ⟨h3, h4⟩ := zw_and h
      have e3 := of_decide_eq_true h3
      subst e3
      exact zo_pushR (i := 1) (fun k => zs_getstatic (Or.inr ⟨rfl, rfl⟩) (zx_of h4) hd k)
  · cases hc
theorem ok55 (hd : decode y.2.1 pc = .ok (ins, len)) (hc : ck55 y pc nx o ins len = true) : zSd l d y X mc ms XL φ Q pc t (zx_nar mc ms 0 nx t) := by
  obtain ⟨rfl, rfl, rfl⟩ := of_decide_eq_true hc
  exact zo_nar (by decide) (fun hn hN hb hcc hs k => zs_newI zw_arrI hn hN (by show _ * 4 ≤ _; omega) hcc hs hd k)
theorem ok56 (hd : decode y.2.1 pc = .ok (ins, len)) (hc : ck56 y pc nx o ins len = true) : zSd l d y X mc ms XL φ Q pc t (zx_nar mc ms 1 nx t) := by
  obtain ⟨rfl, rfl, rfl⟩ := of_decide_eq_true hc
  exact zo_nar (by decide) (fun hn hN hb hcc hs k => zs_newJ zw_arrJ hn hN (by show _ * 8 ≤ _; omega) hcc hs hd k)
theorem ok57 (hd : decode y.2.1 pc = .ok (ins, len)) (hc : ck57 y pc nx o ins len = true) : zSd l d y X mc ms XL φ Q pc t (zx_nar mc ms 2 nx t) := by
  unfold ck57 at hc
  split at hc
  · obtain ⟨h1, h2⟩ := zw_and hc
    obtain ⟨rfl, rfl, rfl⟩ := of_decide_eq_true h1
    exact zo_nar (by decide) (fun hn hN hb hcc hs k => zs_newO (zx_of h2) hn hN (by rw [hN]; omega) hcc hs hd k)
  · cases hc
def ex58 (mc ms nx : Nat) (o : List Int) (t : zA_T) : zA_R := match o with | ci :: _ => zx_obj mc ms ci.toNat (zx_df ci.toNat).length nx t | [] => none
theorem zx_df_len {ci : Nat} {q : vw_C} (h : zc[ci]? = some q) : q.2.2 = (zx_df ci).length := by
  unfold zx_df
  rw [h]
  simp
theorem ok58 (hd : decode y.2.1 pc = .ok (ins, len)) (hc : ck58 y pc nx o ins len = true) : zSd l d y X mc ms XL φ Q pc t (ex58 mc ms nx o t) := by
  unfold ck58 at hc
  split at hc
  · split at hc
    · next q hq =>
      obtain ⟨h1, h2⟩ := zw_and hc
      obtain ⟨h3, h4⟩ := zw_and h2
      obtain ⟨h5, h6⟩ := zw_and h4
      obtain ⟨rfl, rfl, rfl⟩ := of_decide_eq_true h1
      have hN := zx_df_len hq
      exact zo_obj hq hN (fun hcc hs k => zs_new (C := q.1) (T := q.2.1) (N := q.2.2) (zx_of h3) (zx_of h5) (zx_of h6) hq hcc (by rw [hN]; exact hs) hd (by rw [← hN] at k; exact k))
    · cases hc
  · cases hc
def ex59 (d nx : Nat) (t : zA_T) : zA_R := if d = 0 then none else zx_oin nx t
theorem ok59 (hd : decode y.2.1 pc = .ok (ins, len)) (hc : ck59 y pc nx o ins len = true) : zSd l d y X mc ms XL φ Q pc t (ex59 d nx t) := by
  unfold ck59 at hc
  split at hc
  · obtain ⟨h1, h2⟩ := zw_and hc
    obtain ⟨rfl, rfl, rfl⟩ := of_decide_eq_true h1
    unfold ex59
    split
    · exact zSd_none
    · next hd0 => exact zo_oin (fun hst k => zs_objInit (zx_of h2) zw_obj1 zw_obj2 (by omega) hst hd k)
  · cases hc
def zx_cty (t : zA_T) : Nat := match t.2.2.2.1[4]? with
  | some a => (match t.2.1[a.2.toNat - 3]? with
      | some c => c.2.1
      | none => 9)
  | none => 9
def ex64 (d nx : Nat) (t : zA_T) : zA_R := if d = 0 then none else if zx_cty t = 0 then zx_cpy 0 nx t else if zx_cty t = 1 then zx_cpy 1 nx t else none
theorem ok64 (hd : decode y.2.1 pc = .ok (ins, len)) (hc : ck64 y pc nx o ins len = true) : zSd l d y X mc ms XL φ Q pc t (ex64 d nx t) := by
  unfold ck64 at hc
  split at hc
  · obtain ⟨h1, h2⟩ := zw_and hc
    obtain ⟨rfl, rfl, rfl⟩ := of_decide_eq_true h1
    unfold ex64
    split
    · exact zSd_none
    · next hd0 =>
      split
      · exact zo_cpy (by decide) (fun hst _ h0 h1 g1 g2 g3 g4 g5 k => zs_copyI (zx_of h2) zw_nat1 zw_nat2 zw_nat3 h0 h1 g1 g2 g3 g4 g5 (by omega) hst hd k) (fun _ e => absurd e (by decide))
      · split
        · exact zo_cpy (by decide) (fun _ e => absurd e (by decide)) (fun hst _ h0 h1 g1 g2 g3 g4 g5 k => zs_copyJ (zx_of h2) zw_nat1 zw_nat2 zw_nat3 h0 h1 g1 g2 g3 g4 g5 (by omega) hst hd k)
        · exact zSd_none
  · cases hc
/-! the two fills, by hand -/
theorem z_st1_self (lv : List (Nat × Value)) (i : Nat) (v : Value) : (z_st1 lv i v).lookup i = some v := by
  unfold z_st1
  rw [List.lookup_cons]
  simp
theorem z_st1_look {lv : List (Nat × Value)} {i j : Nat} {v w : Value} (h : lv.lookup j = some w) (hw : ¬ (j + 1 = i ∧ w.category = 2)) (hij : j ≠ i) : (z_st1 lv i v).lookup j = some w := by
  unfold z_st1
  have h0 : (j == i) = false := by simpa using hij
  rw [List.lookup_cons, h0]
  dsimp only
  induction lv with
  | nil => cases h
  | cons a r ih =>
    obtain ⟨k, u⟩ := a
    rw [List.lookup_cons] at h
    rw [List.filter_cons]
    cases hjk : j == k with
    | true =>
      rw [hjk] at h
      have e : u = w := Option.some.inj h
      have e2 : j = k := by simpa using hjk
      subst e; subst e2
      have hk : (!(j == i) && !(j + 1 == i && u.category == 2)) = true := by
        have h5 : (j + 1 == i && u.category == 2) = false := by
          cases h6 : (j + 1 == i && u.category == 2) with
          | false => rfl
          | true => exact absurd (by simpa using h6) hw
        simp [h0, h5]
      simp only [hk, if_true]
      rw [List.lookup_cons, hjk]
    | false =>
      rw [hjk] at h
      split
      · rw [List.lookup_cons, hjk]
        exact ih h
      · exact ih h
theorem dfI_0 : decode prog_18_method_103_code 0 = .ok (.iconst 0, 1) := by decide +kernel
theorem dfI_1 : decode prog_18_method_103_code 1 = .ok (.istore_n 2, 1) := by decide +kernel
theorem dfI_2 : decode prog_18_method_103_code 2 = .ok (.aload_n 0, 1) := by decide +kernel
theorem dfI_3 : decode prog_18_method_103_code 3 = .ok (.arraylength, 1) := by decide +kernel
theorem dfI_4 : decode prog_18_method_103_code 4 = .ok (.istore_n 3, 1) := by decide +kernel
theorem dfI_5 : decode prog_18_method_103_code 5 = .ok (.iload_n 2, 1) := by decide +kernel
theorem dfI_6 : decode prog_18_method_103_code 6 = .ok (.iload_n 3, 1) := by decide +kernel
theorem dfI_7 : decode prog_18_method_103_code 7 = .ok (.if_icmp .ge 13, 3) := by decide +kernel
theorem dfI_10 : decode prog_18_method_103_code 10 = .ok (.aload_n 0, 1) := by decide +kernel
theorem dfI_11 : decode prog_18_method_103_code 11 = .ok (.iload_n 2, 1) := by decide +kernel
theorem dfI_12 : decode prog_18_method_103_code 12 = .ok (.iload_n 1, 1) := by decide +kernel
theorem dfI_13 : decode prog_18_method_103_code 13 = .ok (.iastore, 1) := by decide +kernel
theorem dfI_14 : decode prog_18_method_103_code 14 = .ok (.iinc 2 1, 3) := by decide +kernel
theorem dfI_17 : decode prog_18_method_103_code 17 = .ok (.goto (-12), 3) := by decide +kernel
theorem dfI_20 : decode prog_18_method_103_code 20 = .ok (.return_, 1) := by decide +kernel
theorem zfill_I_loop {i n : Nat} {x : Int32} {phi : List z_C} (hn : n < 2147483648) (hlen : i < phi.length) : ∀ (c k : Nat) (f : Nat → Int32) (lv : List (Nat × Value)), k + c = n → (∀ j, j < k → f j = x) → lv.lookup 0 = some (.ref (i + 3)) → lv.lookup 1 = some (.int x) → lv.lookup 2 = some (.int (nI k)) → lv.lookup 3 = some (.int (nI n)) →
    ZW l d y_fillI X 0 0 (fun r ph' => r = none ∧ ∃ f' : Nat → Int32, (∀ j, j < n → f' j = x) ∧ ph' = phi.set i (.inl (0, n, z_I f'))) 5 lv [] (phi.set i (.inl (0, n, z_I f))) 0 0 := by
  intro c
  induction c with
  | zero =>
    intro k f lv hk hf h0 h1 h2 h3
    have hkn : k = n := by omega
    subst hkn
    refine zs_iload_n rfl h2 dfI_5 ?_
    refine zs_iload_n rfl h3 dfI_6 ?_
    refine zs_icmp_ge (tgt := 20) dfI_7 (by decide) (fun _ => ?_) (fun q => absurd (Int32.le_refl _) q)
    exact zs_ret (v := none) rfl (Or.inr (Or.inr ⟨rfl, dfI_20, rfl⟩)) rfl (Nat.le_refl _) ⟨rfl, f, hf, rfl⟩
  | succ c ih =>
    intro k f lv hk hf h0 h1 h2 h3
    have hi : (phi.set i (.inl (0, n, z_I f)))[i]? = some (.inl (0, n, z_I f)) := by rw [List.getElem?_set_self hlen]
    have hkin : vp_in (nI k) n := vp_in_nI (by omega) (by omega)
    have hkc : (nI k).toNatClampNeg = k := Int32.toNatClampNeg_ofNat_of_lt (by omega)
    refine zs_iload_n rfl h2 dfI_5 ?_
    refine zs_iload_n rfl h3 dfI_6 ?_
    refine zs_icmp_ge (tgt := 20) dfI_7 (by decide) (fun q => ?_) (fun _ => ?_)
    · exfalso
      rw [Int32.le_iff_toInt_le] at q
      have e1 : (nI k).toInt = k := zN_toInt (by omega)
      have e2 : (nI n).toInt = n := zN_toInt hn
      omega
    refine zs_aload_n rfl h0 dfI_10 ?_
    refine zs_iload_n rfl h2 dfI_11 ?_
    refine zs_iload_n rfl h1 dfI_12 ?_
    refine zs_iastore dfI_13 hi hkin ?_
    rw [List.set_set, hkc]
    refine zs_iinc (v := nI (k + 1)) (nI_1 k) (by decide) h2 dfI_14 ?_
    refine zs_goto (tgt := 5) dfI_17 (by decide) ?_
    refine ih (k + 1) _ _ (by omega) (fun j hj => ?_) (z_st1_look h0 (fun q => absurd (show (1 : Nat) = 2 from q.2) (by decide)) (by decide)) (z_st1_look h1 (fun q => absurd (show (1 : Nat) = 2 from q.2) (by decide)) (by decide)) (z_st1_self _ _ _) (z_st1_look h3 (fun q => absurd (show (1 : Nat) = 2 from q.2) (by decide)) (by decide))
    by_cases hjk : j = k
    · simp [upd, hjk]
    · simp only [upd, if_neg hjk]
      exact hf j (by omega)
theorem zfill_I {i n : Nat} {f : Nat → Int32} (x : Int32) {phi : List z_C} (hn : n < 2147483648) (hi : phi[i]? = some (.inl (0, n, z_I f))) :
    ZM l d y_fillI X [.ref (i + 3), .int x] phi 0 0 (fun r ph' => r = none ∧ ∃ f' : Nat → Int32, (∀ j, j < n → f' j = x) ∧ ph' = phi.set i (.inl (0, n, z_I f'))) := by
  have hlen := (List.getElem?_eq_some_iff.mp hi).1
  have hset : phi.set i (.inl (0, n, z_I f)) = phi := by
    apply List.ext_getElem?
    intro j
    by_cases hij : i = j
    · subst hij; rw [List.getElem?_set_self hlen, hi]
    · rw [List.getElem?_set_ne hij]
  refine ZM.of (by decide +kernel) (by simp [lg_sl, Value.category, y_fillI]) ?_
  refine zs_iconst (v := 0) (by decide) dfI_0 ?_
  refine zs_istore_n (i := 2) rfl (by decide) dfI_1 ?_
  refine zs_aload_n (i := 0) (x := i + 3) rfl rfl dfI_2 ?_
  refine zs_alen (v := nI n) (by decide) rfl dfI_3 hi ?_
  refine zs_istore_n (i := 3) rfl (by decide) dfI_4 ?_
  have h := zfill_I_loop (l := l) (d := d) (X := X) (x := x) hn hlen n 0 f [(3, .int (nI n)), (2, .int (nI 0)), (0, .ref (i + 3)), (1, .int x)] (by omega) (fun j hj => absurd hj (Nat.not_lt_zero j)) rfl rfl rfl rfl
  rw [hset] at h
  exact h
theorem dfJ_0 : decode prog_18_method_101_code 0 = .ok (.iconst 0, 1) := by decide +kernel
theorem dfJ_1 : decode prog_18_method_101_code 1 = .ok (.istore_n 3, 1) := by decide +kernel
theorem dfJ_2 : decode prog_18_method_101_code 2 = .ok (.aload_n 0, 1) := by decide +kernel
theorem dfJ_3 : decode prog_18_method_101_code 3 = .ok (.arraylength, 1) := by decide +kernel
theorem dfJ_4 : decode prog_18_method_101_code 4 = .ok (.istore 4, 2) := by decide +kernel
theorem dfJ_6 : decode prog_18_method_101_code 6 = .ok (.iload_n 3, 1) := by decide +kernel
theorem dfJ_7 : decode prog_18_method_101_code 7 = .ok (.iload 4, 2) := by decide +kernel
theorem dfJ_9 : decode prog_18_method_101_code 9 = .ok (.if_icmp .ge 13, 3) := by decide +kernel
theorem dfJ_12 : decode prog_18_method_101_code 12 = .ok (.aload_n 0, 1) := by decide +kernel
theorem dfJ_13 : decode prog_18_method_101_code 13 = .ok (.iload_n 3, 1) := by decide +kernel
theorem dfJ_14 : decode prog_18_method_101_code 14 = .ok (.lload_n 1, 1) := by decide +kernel
theorem dfJ_15 : decode prog_18_method_101_code 15 = .ok (.lastore, 1) := by decide +kernel
theorem dfJ_16 : decode prog_18_method_101_code 16 = .ok (.iinc 3 1, 3) := by decide +kernel
theorem dfJ_19 : decode prog_18_method_101_code 19 = .ok (.goto (-13), 3) := by decide +kernel
theorem dfJ_22 : decode prog_18_method_101_code 22 = .ok (.return_, 1) := by decide +kernel
theorem zfill_J_loop {i n : Nat} {x : Int64} {phi : List z_C} (hn : n < 2147483648) (hlen : i < phi.length) : ∀ (c k : Nat) (f : Nat → Int64) (lv : List (Nat × Value)), k + c = n → (∀ j, j < k → f j = x) → lv.lookup 0 = some (.ref (i + 3)) → lv.lookup 1 = some (.long x) → lv.lookup 3 = some (.int (nI k)) → lv.lookup 4 = some (.int (nI n)) →
    ZW l d y_fillJ X 0 0 (fun r ph' => r = none ∧ ∃ f' : Nat → Int64, (∀ j, j < n → f' j = x) ∧ ph' = phi.set i (.inl (1, n, z_J f'))) 6 lv [] (phi.set i (.inl (1, n, z_J f))) 0 0 := by
  intro c
  induction c with
  | zero =>
    intro k f lv hk hf h0 h1 h2 h3
    have hkn : k = n := by omega
    subst hkn
    refine zs_iload_n rfl h2 dfJ_6 ?_
    refine zs_iload h3 dfJ_7 ?_
    refine zs_icmp_ge (tgt := 22) dfJ_9 (by decide) (fun _ => ?_) (fun q => absurd (Int32.le_refl _) q)
    exact zs_ret (v := none) rfl (Or.inr (Or.inr ⟨rfl, dfJ_22, rfl⟩)) rfl (Nat.le_refl _) ⟨rfl, f, hf, rfl⟩
  | succ c ih =>
    intro k f lv hk hf h0 h1 h2 h3
    have hi : (phi.set i (.inl (1, n, z_J f)))[i]? = some (.inl (1, n, z_J f)) := by rw [List.getElem?_set_self hlen]
    have hkin : vp_in (nI k) n := vp_in_nI (by omega) (by omega)
    have hkc : (nI k).toNatClampNeg = k := Int32.toNatClampNeg_ofNat_of_lt (by omega)
    refine zs_iload_n rfl h2 dfJ_6 ?_
    refine zs_iload h3 dfJ_7 ?_
    refine zs_icmp_ge (tgt := 22) dfJ_9 (by decide) (fun q => ?_) (fun _ => ?_)
    · exfalso
      rw [Int32.le_iff_toInt_le] at q
      have e1 : (nI k).toInt = k := zN_toInt (by omega)
      have e2 : (nI n).toInt = n := zN_toInt hn
      omega
    refine zs_aload_n rfl h0 dfJ_12 ?_
    refine zs_iload_n rfl h2 dfJ_13 ?_
    refine zs_lload_n rfl h1 dfJ_14 ?_
    refine zs_lastore dfJ_15 hi hkin ?_
    rw [List.set_set, hkc]
    refine zs_iinc (v := nI (k + 1)) (nI_1 k) (by decide) h2 dfJ_16 ?_
    refine zs_goto (tgt := 6) dfJ_19 (by decide) ?_
    refine ih (k + 1) _ _ (by omega) (fun j hj => ?_) (z_st1_look h0 (fun q => absurd (show (1 : Nat) = 2 from q.2) (by decide)) (by decide)) (z_st1_look h1 (fun q => absurd q.1 (by decide)) (by decide)) (z_st1_self _ _ _) (z_st1_look h3 (fun q => absurd (show (1 : Nat) = 2 from q.2) (by decide)) (by decide))
    by_cases hjk : j = k
    · simp [vp_updL, hjk]
    · simp only [vp_updL, if_neg hjk]
      exact hf j (by omega)
theorem zfill_J {i n : Nat} {f : Nat → Int64} (x : Int64) {phi : List z_C} (hn : n < 2147483648) (hi : phi[i]? = some (.inl (1, n, z_J f))) :
    ZM l d y_fillJ X [.ref (i + 3), .long x] phi 0 0 (fun r ph' => r = none ∧ ∃ f' : Nat → Int64, (∀ j, j < n → f' j = x) ∧ ph' = phi.set i (.inl (1, n, z_J f'))) := by
  have hlen := (List.getElem?_eq_some_iff.mp hi).1
  have hset : phi.set i (.inl (1, n, z_J f)) = phi := by
    apply List.ext_getElem?
    intro j
    by_cases hij : i = j
    · subst hij; rw [List.getElem?_set_self hlen, hi]
    · rw [List.getElem?_set_ne hij]
  refine ZM.of (by decide +kernel) (by simp [lg_sl, Value.category, y_fillJ]) ?_
  refine zs_iconst (v := 0) (by decide) dfJ_0 ?_
  refine zs_istore_n (i := 3) rfl (by decide) dfJ_1 ?_
  refine zs_aload_n (i := 0) (x := i + 3) rfl rfl dfJ_2 ?_
  refine zs_alen (v := nI n) (by decide) rfl dfJ_3 hi ?_
  refine zs_istore (by decide) dfJ_4 ?_
  have h := zfill_J_loop (l := l) (d := d) (X := X) (x := x) hn hlen n 0 f [(4, .int (nI n)), (3, .int (nI 0)), (0, .ref (i + 3)), (1, .long x)] (by omega) (fun j hj => absurd hj (Nat.not_lt_zero j)) rfl rfl rfl rfl
  rw [hset] at h
  exact h
end ZK
