/-! PART 30.1: the law's head, its end, its start. -/
def zQ1 (v : Option Value) (_ : List z_C) : Prop := v = some (.int 1)
def zfin1 (_ : zA_T) (r : Option zA_V) : Bool := match r with
  | some a => zVeq a (0, 1)
  | none => false
theorem zfin1_ok {φ : List z_C} {P : List Int → Prop} : zFn φ P zQ1 zfin1 := by
  intro t r h ρ ph v hp gS gH gR
  unfold zfin1 at h
  split at h
  · have e := zVeq_eq _ _ h
    subst e
    cases v with
    | none => exact gR.elim
    | some u =>
      obtain ⟨x, rfl, ex⟩ := zg_int (a := (0, 1)) rfl gR
      have e1 : x.toInt = 1 := by rcases ex with ⟨-, e⟩ | ⟨e, -⟩; exact e; exact absurd e (by decide)
      have e2 : x = 1 := Int32.toInt_inj.mp (show x.toInt = (1 : Int32).toInt from e1)
      show some (Value.int x) = _
      rw [e2]
  · cases h
theorem zl_r1441 : zx1 2000000 zfin1 zno zon 100 0 2000 1441 ztH [] = true := by decide +kernel
theorem zl_d18 : decode (zm 0).2.1 18 = .ok (.iload_n 3, 1) := by decide +kernel
theorem zl_d19 : decode (zm 0).2.1 19 = .ok (.aload_n 0, 1) := by decide +kernel
theorem zl_d20 : decode (zm 0).2.1 20 = .ok (.arraylength, 1) := by decide +kernel
theorem zl_d21 : decode (zm 0).2.1 21 = .ok (.bipush 6, 2) := by decide +kernel
theorem zl_d23 : decode (zm 0).2.1 23 = .ok (.isub, 1) := by decide +kernel
theorem zl_d24 : decode (zm 0).2.1 24 = .ok (.if_icmp .gt 1417, 3) := by decide +kernel
theorem zl_E (x : Int32) : zg_E [] x.toInt (-2147483648, 2147483647, zD0) := ⟨Int32.le_toInt x, by have := Int32.toInt_lt x; show x.toInt ≤ 2147483647; omega, Or.inl rfl⟩
theorem zl_Eu {ρ : List Int} (x : Int32) : zg_E ρ x.toInt (-2147483648, 2147483647, zD0) := ⟨Int32.le_toInt x, by have := Int32.toInt_lt x; show x.toInt ≤ 2147483647; omega, Or.inl rfl⟩
theorem zl_18 {l : Launch} {X : zx_X} {N : Nat} (hB : zlSt l X zQ1 N 27) : zlHd l X zQ1 (N + 1) := by
  intro φ hj ρ ph lv st cst hp g gs
  cases cst with
  | cons a b => exact gs.elim
  | nil =>
    have gT := g
    obtain ⟨g1, g2, g3, g4, g5⟩ := g
    obtain ⟨ns, hle, i, rfl, b1, b2, b3⟩ := hp
    have r0 : ρ[0]? = some (i : Int) := hle 0 _ rfl
    have hst := zL2.nil1 g4
    subst hst
    obtain ⟨v3, l3, u3⟩ := zg_L.look (i := 3) (a := (1, 0)) g3 rfl
    obtain ⟨v0, l0, u0⟩ := zg_L.look (i := 0) (a := (2, 2)) g3 rfl
    obtain ⟨x, rfl, ex⟩ := zg_int (a := (1, 0)) rfl u3
    have e0 := zg_ref (a := (2, 2)) rfl u0
    subst e0
    have ex : x.toInt = (i : Int) := zE_fun ex (zEk (j := 0) r0)
    refine zs_iload_n (q := 3) rfl l3 zl_d18 ?_
    refine zs_aload_n (q := 0) rfl l0 zl_d19 ?_
    refine zs_scrlen zl_d20 ?_
    refine zs_bipush (v := 6) (by decide) zl_d21 ?_
    refine zs_isub zl_d23 ?_
    have hX : (Int32.ofNat X.1).toInt = (X.1 : Int) := zN_toInt (by omega)
    have h6 : (Int32.ofNat X.1 - 6).toInt = (X.1 : Int) - 6 := by
      have e6 : (6 : Int32).toInt = 6 := by decide
      rw [Int32.toInt_sub, hX, e6]
      exact Int.bmod_eq_of_le (by omega) (by omega)
    refine zs_icmp_gt (tgt := 1441) zl_d24 (by decide) (fun hc => ?_) (fun hc => ?_)
    · exact zGd_run (P := zPt) (fun _ _ _ h => h) zfin1_ok (zOk_no l X _ φ _) (zCt_no l X _ φ _ zQ1) (by decide) zl_r1441 ρ ph lv [] [] trivial gT trivial
    · rw [Int32.lt_iff_toInt_lt, h6, ex] at hc
      have hi : i + 6 ≤ X.1 := by omega
      have hf : ∀ j, j < 6 → ([(X.2 (i + 0)).toInt, (X.2 (i + 1)).toInt, (X.2 (i + 2)).toInt, (X.2 (i + 3)).toInt, (X.2 (i + 4)).toInt, (X.2 (i + 5)).toInt, (i : Int)] : List Int)[j]? = some (X.2 (i + j)).toInt := by
        intro j hj
        rcases (by omega : j = 0 ∨ j = 1 ∨ j = 2 ∨ j = 3 ∨ j = 4 ∨ j = 5) with rfl | rfl | rfl | rfl | rfl | rfl <;> rfl
      refine hB φ hj [(X.2 (i + 0)).toInt, (X.2 (i + 1)).toInt, (X.2 (i + 2)).toInt, (X.2 (i + 3)).toInt, (X.2 (i + 4)).toInt, (X.2 (i + 5)).toInt, (i : Int)] ph lv [] [] (zPf_self ⟨rfl, i, rfl, hi, b2, by omega⟩) ⟨?_, ?_, ?_, trivial, ?_⟩ trivial
      · exact ⟨zl_Eu _, zl_Eu _, zl_Eu _, zl_Eu _, zl_Eu _, zl_Eu _, ⟨by show (0 : Int) ≤ i; omega, by show (i : Int) ≤ 3066; omega, Or.inl rfl⟩, trivial⟩
      · exact zmH_g (σ := []) (S := ztH.1) g1 rfl (by decide +kernel : zLeq (zmC ztH.1 []) zHT zHT = true) g2 |> zg_C.up
      · match lv, g3 with
        | [(_, w3), (_, w2), (_, w1), (_, w0)], ⟨⟨rfl, k3⟩, ⟨rfl, k2⟩, ⟨rfl, k1⟩, ⟨rfl, k0⟩, _⟩ =>
          have e3 : w3 = .int x := by
            have : some w3 = some (Value.int x) := l3
            exact Option.some.inj this
          have ref_ : ∀ {ρ ρ' : List Int} {k : Int} {w : Value}, zg_V ρ (2, k) w → zg_V ρ' (2, k) w := fun g => zcnV_g rfl g
          refine ⟨⟨rfl, ?_⟩, ⟨rfl, ref_ k2⟩, ⟨rfl, ref_ k1⟩, ⟨rfl, ref_ k0⟩, trivial⟩
          show zg_V _ (1, 6) w3
          rw [e3]
          exact Or.inr (Or.inl ⟨rfl, x, rfl, by show some (i : Int) = _; rw [ex]⟩)
      · exact ⟨fun h => absurd h (by decide), fun _ => ⟨i, rfl, hi, by omega, hf⟩⟩
/-! the heap as the constructors leave it -/
def zs0 (b : zA_C) : zA_C := (b.1, b.2.1, b.2.2.1, b.2.2.2.1, if b.1 = 0 then [] else b.2.2.2.2)
def zH0c (S : zA_S) : zA_H → zA_H → Bool
  | [], [] => true
  | a :: as, b :: bs => (b.1 == 8 || zmC S [] a (zs0 b)) && zH0c S as bs
  | _, _ => false
theorem zH0c_len {S : zA_S} : ∀ {H H0 : zA_H}, zH0c S H H0 = true → H.length = H0.length
  | [], [], _ => rfl
  | a :: as, b :: bs, h => congrArg (· + 1) (zH0c_len (zw_and h).2)
  | [], _ :: _, h => by cases h
  | _ :: _, [], h => by cases h
theorem zH0c_at {S : zA_S} : ∀ {H H0 : zA_H}, zH0c S H H0 = true → ∀ (j : Nat) (b : zA_C), H0[j]? = some b → b.1 ≠ 8 → ∃ a, H[j]? = some a ∧ zmC S [] a (zs0 b) = true
  | [], [], _, j, b, hj, _ => by cases hj
  | a :: as, b0 :: bs, h, 0, b, hj, hn => by
    cases hj
    refine ⟨a, rfl, ?_⟩
    rcases zw_or (zw_and h).1 with h | h
    · exact absurd (by simpa using h) hn
    · exact h
  | a :: as, b0 :: bs, h, j + 1, b, hj, hn => zH0c_at (zw_and h).2 j b hj hn
  | [], _ :: _, h, _, _, _, _ => by cases h
  | _ :: _, [], h, _, _, _, _ => by cases h
def zjGb (J : zjD) (t : zA_T) : Bool := J.1.all (zjI t.2.1) && (zjKb t.1 t.2.1 J.2.1 J.2.2.1 J.2.2.2.1 && (List.range 40).all (fun k => J.2.2.2.2.any (fun al => zB2 (zjQ t.1) al (J.1.map (fun c => zjV t.2.1 c k)))))
theorem zjGb_g {φ : List z_C} {ρ : List Int} {J : zjD} {t : zA_T} {ph : List z_C} (h : zjGb J t = true) (hS : zg_S ρ t.1) (gH : zL2 (zg_C φ ρ) t.2.1 ph) : zjG J ph := by
  unfold zjGb at h
  obtain ⟨h2, h⟩ := zw_and h
  obtain ⟨h5, h3⟩ := zw_and h
  have h2 := List.all_eq_true.mp h2
  refine ⟨⟨fun c hc => ?_, fun k hk => ?_⟩, zjKb_g hS gH h5⟩
  · have hI := h2 c hc
    unfold zjI at hI
    split at hI
    · next a ha =>
      obtain ⟨i1, i2, i3⟩ := of_decide_eq_true hI
      obtain ⟨x, ex, gx⟩ := zL2.get gH ha
      obtain ⟨f, rfl, -, -⟩ := zg_CI i1 i2 gx
      rw [i3] at ex
      exact ⟨f, ex⟩
    · cases hI
  · obtain ⟨al, m, hz⟩ := List.any_eq_true.mp (List.all_eq_true.mp h3 k (List.mem_range.mpr hk))
    exact ⟨al, m, zB2_g hS gH hk h2 hz⟩
/-- the value of a field -/
def zvf (H : zA_H) (c f : Nat) : Option zA_V := match H[c]? with
  | some o => if o.1 = 0 then o.2.2.2.1[f]? else none
  | none => none
theorem zvf_g {φ : List z_C} {ρ : List Int} {H : zA_H} {ph : List z_C} {c f : Nat} {a : zA_V} (h : zvf H c f = some a) (g : zL2 (zg_C φ ρ) H ph) : ∃ m fs v, ph[c]? = some (.inr (m, fs)) ∧ fs[f]? = some v ∧ zg_V ρ a v := by
  unfold zvf at h
  split at h
  · next o ho =>
    split at h
    · next h0 =>
      obtain ⟨x, ex, gx⟩ := zL2.get g ho
      obtain ⟨fs, rfl, gf, -⟩ := zg_C0 h0 gx
      obtain ⟨v, ev, gv⟩ := zL2.get gf h
      exact ⟨_, fs, v, ex, ev, gv⟩
    · cases h
  · cases h
/-- two fields hold alike -/
def zpeq2 (S : zA_S) (a b : Option zA_V) : Bool := match a with
  | none => false
  | some a => (match b with
    | none => false
    | some b => zIs a && (zIs b && zleq0 S [(1, a), (-1, b)] 0))
def zpeq (S : zA_S) (H : zA_H) (p : Nat × Nat × Nat × Nat) : Bool := zpeq2 S (zvf H p.1 p.2.1) (zvf H p.2.2.1 p.2.2.2)
theorem zpeq_g {φ : List z_C} {ρ : List Int} {S : zA_S} {H : zA_H} {ph : List z_C} {p : Nat × Nat × Nat × Nat} (hS : zg_S ρ S) (g : zL2 (zg_C φ ρ) H ph) (h : zpeq S H p = true) : ∃ (n m : Nat) (gs hs : List Value) (v : Value), ph[p.1]? = some (.inr (n, gs)) ∧ gs[p.2.1]? = some v ∧ ph[p.2.2.1]? = some (.inr (m, hs)) ∧ hs[p.2.2.2]? = some v := by
  unfold zpeq at h
  generalize ha : zvf H p.1 p.2.1 = a at h
  generalize hb : zvf H p.2.2.1 p.2.2.2 = b at h
  cases a with
  | none => cases h
  | some a =>
    cases b with
    | none => cases h
    | some b =>
      obtain ⟨h1, z1⟩ := zw_and h
      obtain ⟨h2, h3⟩ := zw_and z1
      obtain ⟨n, gs, v, e1, e2, gv⟩ := zvf_g ha g
      obtain ⟨m, hs, w, e3, e4, gw⟩ := zvf_g hb g
      obtain ⟨x, rfl, ex⟩ := zg_int h1 gv
      obtain ⟨y, rfl, ey⟩ := zg_int h2 gw
      have u := zl_2 (zleq0_g hS h3)
      rw [zval_E h1 ex, zval_E h2 ey] at u
      have e : y = x := Int32.toInt_inj.mp (by omega)
      rw [e] at e4
      exact ⟨n, m, gs, hs, _, e1, e2, e3, e4⟩
def zst0 (t : zA_T) : Bool := zH0c t.1 t.2.1 zHT && (zjGb zjDC t && ((zjGb zjDM t && zPs.all (zpeq t.1 t.2.1)) && (zmL t.1 [(0, 0)] t.2.2.1 ztH.2.2.1 && (t.2.2.2.1.isEmpty && decide (t.2.2.2.2 = ztH.2.2.2.2)))))
def zcut0 (m d pc : Nat) (t : zA_T) (stk : List zA_F) : Bool := match stk with
  | _ :: _ => false
  | [] => Nat.beq pc 18 && (Nat.beq m 0 && (Nat.beq d 2000 && zst0 t))
theorem zst0_g {l : Launch} {X : zx_X} (hX : X.1 ≤ 3072) (hH : ∀ N, zlHd l X zQ1 N) {t : zA_T} (h : zst0 t = true) : zGd l X 2000000 [] zPt zQ1 0 2000 18 t [] := by
  intro ρ ph lv st cst hp g gs
  cases cst with
  | cons a b => exact gs.elim
  | nil =>
    obtain ⟨g1, g2, g3, g4, g5⟩ := g
    unfold zst0 at h
    obtain ⟨h1, q1⟩ := zw_and h
    obtain ⟨h2, q2⟩ := zw_and q1
    obtain ⟨h3, q3⟩ := zw_and q2
    obtain ⟨h4, q4⟩ := zw_and q3
    obtain ⟨h5, h6⟩ := zw_and q4
    have h6 := of_decide_eq_true h6
    have e1 : t.2.2.2.1 = [] := List.isEmpty_iff.mp h5
    rw [e1] at g4
    have hst := zL2.nil1 g4
    subst hst
    obtain ⟨h3a, h3b⟩ := zw_and h3
    have hJ : zJ ph := ⟨zjGb_g h2 g1 g2, zjGb_g h3a g1 g2, fun p hp => zpeq_g g1 g2 (List.all_eq_true.mp h3b p hp)⟩
    have gH : zL2 (zg_C ph []) zHT ph := zself zHT_8 (φ := []) ((zH0c_len h1).symm.trans (zL2.len g2)) (fun i b hb h8 x hx => by
      obtain ⟨a, ha, hz⟩ := zH0c_at h1 i b hb h8
      obtain ⟨x', ex, gx⟩ := zL2.get g2 ha
      rw [hx] at ex
      cases ex
      exact zmC_g (σ := []) g1 rfl hz gx)
    obtain ⟨lv0, gl, hm0⟩ := zmL_g (σ := [(0, 0)]) g1 rfl g3 h4
    have k := hH (X.1 + 1) ph hJ [0] ph lv0 [] [] (zPf_self ⟨0, rfl, Nat.zero_le _, hX, by omega⟩) ⟨⟨⟨by decide, by decide, Or.inl rfl⟩, trivial⟩, zg_C.up gH, gl, trivial, zg_Xno _ _ _ (by decide) (by decide)⟩ trivial
    have k := k.lsub hm0
    rw [← h6] at k
    exact k
theorem zcut0_g {l : Launch} {X : zx_X} (hX : X.1 ≤ 3072) (hH : ∀ N, zlHd l X zQ1 N) : ∀ (m d pc : Nat) (t : zA_T) (stk : List zA_F), zcut0 m d pc t stk = true → zGd l X 2000000 [] zPt zQ1 m d pc t stk := by
  intro m d pc t stk h
  unfold zcut0 at h
  split at h
  · cases h
  · obtain ⟨h1, q1⟩ := zw_and h
    obtain ⟨h2, q2⟩ := zw_and q1
    obtain ⟨h3, h4⟩ := zw_and q2
    rw [Nat.eq_of_beq_eq_true h1, Nat.eq_of_beq_eq_true h2, Nat.eq_of_beq_eq_true h3]
    exact zst0_g hX hH h4
def zstE : zA_T := ([], [], [(0, (2, 2))], [], 0, 0)
theorem zl_r0 : zx1 2000000 znf zcut0 zon 60000 0 2000 0 zstE [] = true := by decide +kernel
theorem y_law0 : zm 0 = y_law := rfl
theorem zlaw (l : Launch) (X : zx_X) (hX : X.1 ≤ 3072) (hB : ∀ N, zlHd l X zQ1 N → zlSt l X zQ1 N 27) : ZW l 2000 y_law X 64 4062 (fun v _ => v = some (.int 1)) 0 [(0, .ref 2)] [] [] 0 0 := by
  have hH : ∀ N, zlHd l X zQ1 N := by
    intro N
    induction N with
    | zero =>
      intro φ hj ρ ph lv st cst hp g gs
      obtain ⟨ns, hle, i, rfl, b1, b2, b3⟩ := hp
      exact absurd b3 (Nat.not_lt_zero _)
    | succ N ih => exact zl_18 (hB N ih)
  have h := zGd_run (l := l) (X := X) (XL := 2000000) (φ := []) (Q0 := zQ1) (P := zPt) (fun _ _ _ h => h) (znf_ok _) (zOk_no l _ _ _ _) (zcut0_g hX hH) (by decide) zl_r0 [] [] [(0, .ref 2)] [] [] trivial ⟨trivial, trivial, ⟨⟨rfl, zg_ofR (i := 2)⟩, trivial⟩, trivial, zg_Xno _ _ _ (by decide) (by decide)⟩ trivial
  rw [← y_law0]
  exact h
