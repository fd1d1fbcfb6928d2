/-! PART 18v.1: fills, exactly; shelves; calls that fill. Made by wip/v4/gen_v1.py out of part 16. -/
section ZK
variable {l : Launch} {d : Nat} {y : zx_Y} {X : zx_X} {mc ms : Nat} {Q : Option Value → List z_C → Prop}
theorem zyfill_I_loop {i n : Nat} {x : Int32} {f0 : Nat → Int32} {phi : List z_C} (hn : n < 2147483648) (hlen : i < phi.length) : ∀ (c k : Nat) (f : Nat → Int32) (lv : List (Nat × Value)), k + c = n → (∀ j, f j = if j < k then x else f0 j) → lv.lookup 0 = some (.ref (i + 3)) → lv.lookup 1 = some (.int x) → lv.lookup 2 = some (.int (nI k)) → lv.lookup 3 = some (.int (nI n)) →
    ZW l d y_fillI X 0 0 (fun r ph' => r = none ∧ ph' = phi.set i (.inl (0, n, z_I (fun j => if j < n then x else f0 j)))) 5 lv [] (phi.set i (.inl (0, n, z_I f))) 0 0 := by
  intro c
  induction c with
  | zero =>
    intro k f lv hk hf h0 h1 h2 h3
    have hkn : k = n := by omega
    subst hkn
    refine zs_iload_n rfl h2 dfI_5 ?_
    refine zs_iload_n rfl h3 dfI_6 ?_
    refine zs_icmp_ge (tgt := 20) dfI_7 (by decide) (fun _ => ?_) (fun q => absurd (Int32.le_refl _) q)
    exact zs_ret (v := none) rfl (Or.inr (Or.inr ⟨rfl, dfI_20, rfl⟩)) rfl (Nat.le_refl _) ⟨rfl, congrArg (fun g => phi.set i (.inl (0, _, z_I g))) (funext hf)⟩
  | succ c ih =>
    intro k f lv hk hf h0 h1 h2 h3
    have hi : (phi.set i (.inl (0, n, z_I f)))[i]? = some (.inl (0, n, z_I f)) := by rw [List.getElem?_set_self hlen]
    have hkin : vp_in (nI k) n := vp_in_nI (by omega) (by omega)
    have hkc : (nI k).toNatClampNeg = k := Int32.toNatClampNeg_ofNat_of_lt (by omega)
    refine zs_iload_n rfl h2 dfI_5 ?_
    refine zs_iload_n rfl h3 dfI_6 ?_
    refine zs_icmp_ge (tgt := 20) dfI_7 (by decide) (fun q => ?_) (fun _ => ?_)
    · exfalso
      rw [Int32.le_iff_toInt_le] at q
      have e1 : (nI k).toInt = k := zN_toInt (by omega)
      have e2 : (nI n).toInt = n := zN_toInt hn
      omega
    refine zs_aload_n rfl h0 dfI_10 ?_
    refine zs_iload_n rfl h2 dfI_11 ?_
    refine zs_iload_n rfl h1 dfI_12 ?_
    refine zs_iastore dfI_13 hi hkin ?_
    rw [List.set_set, hkc]
    refine zs_iinc (v := nI (k + 1)) (nI_1 k) (by decide) h2 dfI_14 ?_
    refine zs_goto (tgt := 5) dfI_17 (by decide) ?_
    refine ih (k + 1) _ _ (by omega) (fun j => ?_) (z_st1_look h0 (fun q => absurd (show (1 : Nat) = 2 from q.2) (by decide)) (by decide)) (z_st1_look h1 (fun q => absurd (show (1 : Nat) = 2 from q.2) (by decide)) (by decide)) (z_st1_self _ _ _) (z_st1_look h3 (fun q => absurd (show (1 : Nat) = 2 from q.2) (by decide)) (by decide))
    by_cases hjk : j = k
    · simp [upd, hjk]
    · simp only [upd, if_neg hjk]
      rw [hf j]
      by_cases h4 : j < k
      · rw [if_pos h4, if_pos (by omega)]
      · rw [if_neg h4, if_neg (by omega)]
theorem zyfill_I {i n : Nat} {f : Nat → Int32} (x : Int32) {phi : List z_C} (hn : n < 2147483648) (hi : phi[i]? = some (.inl (0, n, z_I f))) :
    ZM l d y_fillI X [.ref (i + 3), .int x] phi 0 0 (fun r ph' => r = none ∧ ph' = phi.set i (.inl (0, n, z_I (fun j => if j < n then x else f j)))) := by
  have hlen := (List.getElem?_eq_some_iff.mp hi).1
  have hset : phi.set i (.inl (0, n, z_I f)) = phi := by
    apply List.ext_getElem?
    intro j
    by_cases hij : i = j
    · subst hij; rw [List.getElem?_set_self hlen, hi]
    · rw [List.getElem?_set_ne hij]
  refine ZM.of (by decide +kernel) (by simp [lg_sl, Value.category, y_fillI]) ?_
  refine zs_iconst (v := 0) (by decide) dfI_0 ?_
  refine zs_istore_n (i := 2) rfl (by decide) dfI_1 ?_
  refine zs_aload_n (i := 0) (x := i + 3) rfl rfl dfI_2 ?_
  refine zs_alen (v := nI n) (by decide) rfl dfI_3 hi ?_
  refine zs_istore_n (i := 3) rfl (by decide) dfI_4 ?_
  have h := zyfill_I_loop (l := l) (d := d) (X := X) (x := x) (f0 := f) hn hlen n 0 f [(3, .int (nI n)), (2, .int (nI 0)), (0, .ref (i + 3)), (1, .int x)] (by omega) (fun j => by rw [if_neg (Nat.not_lt_zero j)]) rfl rfl rfl rfl
  rw [hset] at h
  exact h

theorem zyfill_J_loop {i n : Nat} {x : Int64} {f0 : Nat → Int64} {phi : List z_C} (hn : n < 2147483648) (hlen : i < phi.length) : ∀ (c k : Nat) (f : Nat → Int64) (lv : List (Nat × Value)), k + c = n → (∀ j, f j = if j < k then x else f0 j) → lv.lookup 0 = some (.ref (i + 3)) → lv.lookup 1 = some (.long x) → lv.lookup 3 = some (.int (nI k)) → lv.lookup 4 = some (.int (nI n)) →
    ZW l d y_fillJ X 0 0 (fun r ph' => r = none ∧ ph' = phi.set i (.inl (1, n, z_J (fun j => if j < n then x else f0 j)))) 6 lv [] (phi.set i (.inl (1, n, z_J f))) 0 0 := by
  intro c
  induction c with
  | zero =>
    intro k f lv hk hf h0 h1 h2 h3
    have hkn : k = n := by omega
    subst hkn
    refine zs_iload_n rfl h2 dfJ_6 ?_
    refine zs_iload h3 dfJ_7 ?_
    refine zs_icmp_ge (tgt := 22) dfJ_9 (by decide) (fun _ => ?_) (fun q => absurd (Int32.le_refl _) q)
    exact zs_ret (v := none) rfl (Or.inr (Or.inr ⟨rfl, dfJ_22, rfl⟩)) rfl (Nat.le_refl _) ⟨rfl, congrArg (fun g => phi.set i (.inl (1, _, z_J g))) (funext hf)⟩
  | succ c ih =>
    intro k f lv hk hf h0 h1 h2 h3
    have hi : (phi.set i (.inl (1, n, z_J f)))[i]? = some (.inl (1, n, z_J f)) := by rw [List.getElem?_set_self hlen]
    have hkin : vp_in (nI k) n := vp_in_nI (by omega) (by omega)
    have hkc : (nI k).toNatClampNeg = k := Int32.toNatClampNeg_ofNat_of_lt (by omega)
    refine zs_iload_n rfl h2 dfJ_6 ?_
    refine zs_iload h3 dfJ_7 ?_
    refine zs_icmp_ge (tgt := 22) dfJ_9 (by decide) (fun q => ?_) (fun _ => ?_)
    · exfalso
      rw [Int32.le_iff_toInt_le] at q
      have e1 : (nI k).toInt = k := zN_toInt (by omega)
      have e2 : (nI n).toInt = n := zN_toInt hn
      omega
    refine zs_aload_n rfl h0 dfJ_12 ?_
    refine zs_iload_n rfl h2 dfJ_13 ?_
    refine zs_lload_n rfl h1 dfJ_14 ?_
    refine zs_lastore dfJ_15 hi hkin ?_
    rw [List.set_set, hkc]
    refine zs_iinc (v := nI (k + 1)) (nI_1 k) (by decide) h2 dfJ_16 ?_
    refine zs_goto (tgt := 6) dfJ_19 (by decide) ?_
    refine ih (k + 1) _ _ (by omega) (fun j => ?_) (z_st1_look h0 (fun q => absurd (show (1 : Nat) = 2 from q.2) (by decide)) (by decide)) (z_st1_look h1 (fun q => absurd q.1 (by decide)) (by decide)) (z_st1_self _ _ _) (z_st1_look h3 (fun q => absurd (show (1 : Nat) = 2 from q.2) (by decide)) (by decide))
    by_cases hjk : j = k
    · simp [vp_updL, hjk]
    · simp only [vp_updL, if_neg hjk]
      rw [hf j]
      by_cases h4 : j < k
      · rw [if_pos h4, if_pos (by omega)]
      · rw [if_neg h4, if_neg (by omega)]
theorem zyfill_J {i n : Nat} {f : Nat → Int64} (x : Int64) {phi : List z_C} (hn : n < 2147483648) (hi : phi[i]? = some (.inl (1, n, z_J f))) :
    ZM l d y_fillJ X [.ref (i + 3), .long x] phi 0 0 (fun r ph' => r = none ∧ ph' = phi.set i (.inl (1, n, z_J (fun j => if j < n then x else f j)))) := by
  have hlen := (List.getElem?_eq_some_iff.mp hi).1
  have hset : phi.set i (.inl (1, n, z_J f)) = phi := by
    apply List.ext_getElem?
    intro j
    by_cases hij : i = j
    · subst hij; rw [List.getElem?_set_self hlen, hi]
    · rw [List.getElem?_set_ne hij]
  refine ZM.of (by decide +kernel) (by simp [lg_sl, Value.category, y_fillJ]) ?_
  refine zs_iconst (v := 0) (by decide) dfJ_0 ?_
  refine zs_istore_n (i := 3) rfl (by decide) dfJ_1 ?_
  refine zs_aload_n (i := 0) (x := i + 3) rfl rfl dfJ_2 ?_
  refine zs_alen (v := nI n) (by decide) rfl dfJ_3 hi ?_
  refine zs_istore (by decide) dfJ_4 ?_
  have h := zyfill_J_loop (l := l) (d := d) (X := X) (x := x) (f0 := f) hn hlen n 0 f [(4, .int (nI n)), (3, .int (nI 0)), (0, .ref (i + 3)), (1, .long x)] (by omega) (fun j => by rw [if_neg (Nat.not_lt_zero j)]) rfl rfl rfl rfl
  rw [hset] at h
  exact h

end ZK
section ZY
variable {X : zx_X} {d d' m pc nx c n : Nat} {lv L : List (Option Value)} {st rest : List Value} {s s1 : zy_S} {u : Option Value} {P P' : Option Value → zy_S → Prop} {fs : List (Option Nat)}
theorem zy_67 {x : Int32} {t na ml w sp ini j : Int} (h : zy_g m pc = some (67, nx, [t, na, ml, w, sp, ini, j])) (hT : zy_tm[c]? = some (1, n, fs)) (hn : n < 2147483648) (hcat : (st.map (fun v => v.category)).sum ≤ 8) (hdd : 1 ≤ d)
    (kk : zyR X d m nx lv st (zy_ua s c (fun j => if j < n then x else s.1 c j)) P) : zyR X d m pc lv (.int x :: .ref (c + 3) :: st) s P := by
  obtain ⟨hm, ins, len, hd, hc⟩ := zy_ck h
  have hc : ck67 (zm m) pc nx [t, na, ml, w, sp, ini, j] ins len = true := hc
  unfold ck67 at hc
  obtain ⟨h1, h2⟩ := zw_and hc
  obtain ⟨rfl, rfl, rfl⟩ := of_decide_eq_true h1
  intro l Q hQ
  exact zs_callS (zx_of h2) zw_fI zcal_fI (as := [.ref (c + 3), .int x]) rfl hcat (d' := 0) hdd (Nat.le_refl _) (Nat.le_refl _) hd (zyfill_I x hn (zy_at hT)) (fun v ph' hq => by obtain ⟨e1, e2⟩ := hq; rw [e1, e2, zy_setR hT]; exact kk l Q hQ)
theorem zy_68 {x : Int64} {t na ml w sp ini j : Int} (h : zy_g m pc = some (68, nx, [t, na, ml, w, sp, ini, j])) (hT : zy_tm[c]? = some (2, n, fs)) (hn : n < 2147483648) (hcat : (st.map (fun v => v.category)).sum ≤ 8) (hdd : 1 ≤ d)
    (kk : zyR X d m nx lv st (zy_ub s c (fun j => if j < n then x else s.2.1 c j)) P) : zyR X d m pc lv (.long x :: .ref (c + 3) :: st) s P := by
  obtain ⟨hm, ins, len, hd, hc⟩ := zy_ck h
  have hc : ck68 (zm m) pc nx [t, na, ml, w, sp, ini, j] ins len = true := hc
  unfold ck68 at hc
  obtain ⟨h1, h2⟩ := zw_and hc
  obtain ⟨rfl, rfl, rfl⟩ := of_decide_eq_true h1
  intro l Q hQ
  exact zs_callS (zx_of h2) zw_fJ zcal_fJ (as := [.ref (c + 3), .long x]) rfl hcat (d' := 0) hdd (Nat.le_refl _) (Nat.le_refl _) hd (zyfill_J x hn (zy_at hT)) (fun v ph' hq => by obtain ⟨e1, e2⟩ := hq; rw [e1, e2, zy_setQ hT]; exact kk l Q hQ)
end ZY
/-- a shelf's two cells -/
def zy_isSh (c : Nat) : Prop := zy_tm[c]? = some (0, 10, [some (c + 1 + 3), none, none, none]) ∧ zy_tm[c + 1]? = some (2, 60, [])
theorem zy_isSh_of {k : Nat} (h : k < 6) : zy_isSh (zy_sh k) := by
  rcases (by omega : k = 0 ∨ k = 1 ∨ k = 2 ∨ k = 3 ∨ k = 4 ∨ k = 5) with rfl | rfl | rfl | rfl | rfl | rfl <;> exact ⟨rfl, rfl⟩
theorem zy_in_lt {j : Int32} {n : Nat} (h : zy_in j n = true) : j.toNatClampNeg < n := by
  have h := of_decide_eq_true h
  have e : j.toNatClampNeg = j.toInt.toNat := rfl
  omega
def zy_Wb (s : zy_S) : Bool := (List.range 6).all (fun k => decide (s.2.2 k = some (zy_sh k + 3)))
theorem zy_Wb_g {s : zy_S} (h : zy_Wb s = true) : zy_W s := fun k hk => of_decide_eq_true (List.all_eq_true.mp h k (List.mem_range.mpr hk))
theorem zy_ifp {α : Type} {c : Prop} {hc : Decidable c} {a b : Option α} {x : α} (h : @ite _ c hc a b = some x) (g : c) : a = some x := by rwa [if_pos g] at h
theorem zy_ifn {α : Type} {c : Prop} {hc : Decidable c} {a b : Option α} {x : α} (h : @ite _ c hc a b = some x) (g : ¬ c) : b = some x := by rwa [if_neg g] at h
theorem zy_swp {P : Nat → Prop} {a : Int32} {df : Int} {q : Int × Int} {qs : List (Int × Int)} (h1 : a = Int32.ofInt q.1 → P q.2.toNat) (h2 : ¬ a = Int32.ofInt q.1 → zy_sw P a df qs) : zy_sw P a df (q :: qs) := by
  unfold zy_sw
  by_cases e : a = Int32.ofInt q.1
  · rw [if_pos e]; exact h1 e
  · rw [if_neg e]; exact h2 e
/-- how often a loop may go round -/
def zy_fu : Nat := 10000
