/-! PART 15b: longs made ints, and divided. -/
section ZO
variable {l : Launch} {d : Nat} {y : zx_Y} {X : zx_X} {mc ms XL : Nat} {φ : List z_C} {Q : Option Value → List z_C → Prop}
def zx_l2i (nx : Nat) (t : zA_T) : zA_R := match t.2.2.2.1 with
  | a0 :: r => let a := zn t.1 a0
    if a.1 = 4 then some [(nx, zt_st t ((0, zw32 a.2) :: r))] else if a.1 = 5 then (match zat t.1 a.2.toNat with
      | some q => if -2147483648 ≤ q.1 ∧ q.2 ≤ 2147483647 then some [(nx, zt_st t ((1, a.2) :: r))] else zx_new zfull (22, a, (0, 0)) nx t r
      | none => none) else none
  | [] => none
theorem zo_l2i {pc nx : Nat} {t : zA_T} (hs : ∀ {lv st ph cc ns} {a : Int64}, ZW l d y X mc ms Q nx lv (.int a.toInt32 :: st) ph cc ns → ZW l d y X mc ms Q pc lv (.long a :: st) ph cc ns) : zSd l d y X mc ms XL φ Q pc t (zx_l2i nx t) := by
  obtain ⟨S, H, L, s0, cc, ns⟩ := t
  intro ts hts ρ ph lv st g k0
  obtain ⟨g1, g2, g3, g4, g5⟩ := g
  unfold zx_l2i at hts
  split at hts
  · next a0 r hst =>
    have hst : s0 = a0 :: r := hst
    subst hst
    obtain ⟨va, st1, rfl, ga0, gr⟩ := zL2.cons1 g4
    have ga := zn_g g1 ga0
    dsimp only at hts
    generalize hea : zn S a0 = a at *
    split at hts
    · next h0 =>
      cases hts
      obtain ⟨x, rfl, ex⟩ := zg_long (a := a) (by simp [zIsJ, h0]) ga
      have hx : x.toInt = a.2 := by rcases ex with ⟨-, e⟩ | ⟨e, -⟩ <;> omega
      refine hs (k0 _ (List.mem_singleton.mpr rfl) ρ ph lv _ (zLE.refl ρ) ⟨g1, g2, g3, ⟨zg_ofI ?_, gr⟩, g5⟩)
      rw [Int64.toInt_toInt32, hx, zw32_eq]
    · split at hts
      · next h1 =>
        obtain ⟨x, rfl, ex⟩ := zg_long (a := a) (by simp [zIsJ, h1]) ga
        have ek : ρ[a.2.toNat]? = some x.toInt := by
          rcases ex with ⟨h | h, e⟩ | ⟨-, e⟩
          · omega
          · omega
          · exact e
        split at hts
        · next q hq =>
          have b := zat_in g1 hq ek
          split at hts
          · next hr =>
            cases hts
            refine hs (k0 _ (List.mem_singleton.mpr rfl) ρ ph lv _ (zLE.refl ρ) ⟨g1, g2, g3, ⟨Or.inr (Or.inl ⟨rfl, _, rfl, ?_⟩), gr⟩, g5⟩)
            rw [Int64.toInt_toInt32, Int.bmod_eq_of_le (by omega) (by omega)]
            exact ek
          · obtain ⟨t', ρ', m, hle, gt, e⟩ := zx_new_g (φ := φ) (x := x.toInt32) hts g1 g2 g3 gr g5 (zfull_in _).1 (zfull_in _).2 (Or.inr ⟨x.toInt, 0, ex, Or.inl ⟨Or.inl rfl, rfl⟩, by rw [Int64.toInt_toInt32]; exact (zw32_eq _).symm⟩)
            have := k0 _ m ρ' ph lv _ hle gt
            rw [e] at this
            exact hs this
        · cases hts
      · cases hts
  · cases hts
/-- i2b (23), i2s (24) -/
def zwq (w : Nat) : zI2 := if w = 23 then (-128, 127) else (-32768, 32767)
def zwc (w : Nat) (z : Int) : Int := if w = 23 then z.bmod 256 else z.bmod 65536
theorem zwc_in {w : Nat} (hw : w = 23 ∨ w = 24) (z : Int) : (zwq w).1 ≤ zwc w z ∧ zwc w z ≤ (zwq w).2 := by
  have u1 := Int.bmod_lt (x := z) (m := 256) (by decide)
  have u2 := Int.le_bmod (x := z) (m := 256) (by decide)
  have u3 := Int.bmod_lt (x := z) (m := 65536) (by decide)
  have u4 := Int.le_bmod (x := z) (m := 65536) (by decide)
  rcases hw with rfl | rfl
  · exact ⟨by show (-128 : Int) ≤ z.bmod 256; omega, by show z.bmod 256 ≤ (127 : Int); omega⟩
  · exact ⟨by show (-32768 : Int) ≤ z.bmod 65536; omega, by show z.bmod 65536 ≤ (32767 : Int); omega⟩
theorem zwc_id {w : Nat} (hw : w = 23 ∨ w = 24) {z : Int} (h1 : (zwq w).1 ≤ z) (h2 : z ≤ (zwq w).2) : z = zwc w z := by
  rcases hw with rfl | rfl
  · have h1 : (-128 : Int) ≤ z := h1
    have h2 : z ≤ (127 : Int) := h2
    exact (Int.bmod_eq_of_le (by omega) (by omega)).symm
  · have h1 : (-32768 : Int) ≤ z := h1
    have h2 : z ≤ (32767 : Int) := h2
    exact (Int.bmod_eq_of_le (by omega) (by omega)).symm
theorem zwc_c {w : Nat} (hw : w = 23 ∨ w = 24) (z v : Int) : zwc w z = zb_c w z v := by
  rcases hw with rfl | rfl
  · rfl
  · rfl
def zx_i2w (w nx : Nat) (t : zA_T) : zA_R := match t.2.2.2.1 with
  | a0 :: r => let a := zn t.1 a0
    if a.1 = 0 then some [(nx, zt_st t ((0, zwc w a.2) :: r))] else if a.1 = 1 then (match zat t.1 a.2.toNat with
      | some p => if (zwq w).1 ≤ p.1 ∧ p.2 ≤ (zwq w).2 then some [(nx, zt_st t (a :: r))] else zx_new (zwq w) (w, a, (0, 0)) nx t r
      | none => none) else none
  | [] => none
theorem zo_i2w {w pc nx : Nat} {t : zA_T} (hw : w = 23 ∨ w = 24) (hs : ∀ {lv st ph cc ns} {a z : Int32}, z.toInt = zwc w a.toInt → ZW l d y X mc ms Q nx lv (.int z :: st) ph cc ns → ZW l d y X mc ms Q pc lv (.int a :: st) ph cc ns) : zSd l d y X mc ms XL φ Q pc t (zx_i2w w nx t) := by
  obtain ⟨S, H, L, s0, cc, ns⟩ := t
  intro ts hts ρ ph lv st g k0
  obtain ⟨g1, g2, g3, g4, g5⟩ := g
  unfold zx_i2w at hts
  split at hts
  · next a0 r hst =>
    have hst : s0 = a0 :: r := hst
    subst hst
    obtain ⟨va, st1, rfl, ga0, gr⟩ := zL2.cons1 g4
    have ga := zn_g g1 ga0
    dsimp only at hts
    generalize hea : zn S a0 = a at *
    have hz : ∀ x : Int32, ∃ z : Int32, z.toInt = zwc w x.toInt := by
      intro x
      have u := zwc_in hw x.toInt
      have v1 : -32768 ≤ (zwq w).1 := by rcases hw with rfl | rfl <;> decide
      have v2 : (zwq w).2 ≤ 32767 := by rcases hw with rfl | rfl <;> decide
      exact ⟨Int32.ofInt (zwc w x.toInt), Int32.toInt_ofInt_of_le (by omega) (by omega)⟩
    split at hts
    · next h0 =>
      cases hts
      obtain ⟨x, rfl, ex⟩ := zg_int (a := a) (by simp [zIs, h0]) ga
      have hx : x.toInt = a.2 := by rcases ex with ⟨-, e⟩ | ⟨e, -⟩ <;> omega
      obtain ⟨z, ez⟩ := hz x
      refine hs (a := x) ez (k0 _ (List.mem_singleton.mpr rfl) ρ ph lv _ (zLE.refl ρ) ⟨g1, g2, g3, ⟨zg_ofI ?_, gr⟩, g5⟩)
      rw [ez, hx]
    · split at hts
      · next h1 =>
        obtain ⟨x, rfl, ex⟩ := zg_int (a := a) (by simp [zIs, h1]) ga
        have ek : ρ[a.2.toNat]? = some x.toInt := by
          rcases ex with ⟨h | h, e⟩ | ⟨-, e⟩
          · omega
          · omega
          · exact e
        obtain ⟨z, ez⟩ := hz x
        have hqx := zwc_in hw x.toInt
        rw [← ez] at hqx
        split at hts
        · next p hp =>
          have b := zat_in g1 hp ek
          split at hts
          · next hr =>
            cases hts
            exact hs (a := x) (z := x) (zwc_id hw (Int.le_trans hr.1 b.1) (Int.le_trans b.2 hr.2)) (k0 _ (List.mem_singleton.mpr rfl) ρ ph lv _ (zLE.refl ρ) ⟨g1, g2, g3, ⟨ga, gr⟩, g5⟩)
          · obtain ⟨t', ρ', m, hle, gt, e⟩ := zx_new_g (φ := φ) (x := z) hts g1 g2 g3 gr g5 hqx.1 hqx.2 (Or.inr ⟨x.toInt, 0, ex, Or.inl ⟨Or.inl rfl, rfl⟩, by rw [ez]; exact zwc_c hw _ _⟩)
            have := k0 _ m ρ' ph lv _ hle gt
            rw [e] at this
            exact hs (a := x) ez this
        · cases hts
      · cases hts
  · cases hts
/-- a result that is a long -/
def zx_newL (q : zI2) (D : zA_D) (nx : Nat) (t : zA_T) (r : List zA_V) : zA_R := if q.1 = q.2 then some [(nx, zt_st t ((4, q.1) :: r))] else
  match (if D.1 = 0 then none else zfd D t.1 0) with
  | some j => some [(nx, zt_st t ((5, (j : Int)) :: r))]
  | none => some [(nx, zt_Sst t (t.1 ++ [(q.1, q.2, D)]) ((5, (t.1.length : Int)) :: r))]
theorem zx_newL_g {q : zI2} {D : zA_D} {nx : Nat} {t : zA_T} {r : List zA_V} {ρ : List Int} {ph : List z_C} {lv : List (Nat × Value)} {st : List Value} {x : Int64} {ts : List (Nat × zA_T)} (h : zx_newL q D nx t r = some ts) (g1 : zg_S ρ t.1) (g2 : zL2 (zg_C φ ρ) t.2.1 ph) (g3 : zg_L ρ t.2.2.1 lv) (gr : zL2 (zg_V ρ) r st) (g5 : zg_X ρ XL X) (h1 : q.1 ≤ x.toInt) (h2 : x.toInt ≤ q.2) (h3 : zg_D ρ x.toInt D) :
    ∃ t' ρ', (nx, t') ∈ ts ∧ zLE ρ ρ' ∧ zg_T XL X φ ρ' t' ph lv (.long x :: st) ∧ t'.2.2.2.2 = t.2.2.2.2 := by
  unfold zx_newL at h
  split at h
  · next e =>
    cases h
    exact ⟨_, ρ, List.mem_singleton.mpr rfl, zLE.refl ρ, ⟨g1, g2, g3, ⟨zg_ofJ (by omega), gr⟩, g5⟩, rfl⟩
  · split at h
    · next j hj =>
      cases h
      split at hj
      · cases hj
      · next hD =>
        have e : ρ[j]? = some x.toInt := by
          refine zfd_g g1 hj hD (fun u v hu hv => ?_)
          rcases h3 with h0 | ⟨u', v', hu', hv', e⟩
          · exact absurd h0 hD
          · rw [zE_fun hu hu', zE_fun hv hv']
            exact e
        exact ⟨_, ρ, List.mem_singleton.mpr rfl, zLE.refl ρ, ⟨g1, g2, g3, ⟨zg_ofKJ e, gr⟩, g5⟩, rfl⟩
    · cases h
      have hle := zLE.app ρ x.toInt
      exact ⟨_, ρ ++ [x.toInt], List.mem_singleton.mpr rfl, hle, ⟨g1.pushD h1 h2 h3, zL2.mono (fun _ _ => zg_C.mono hle) g2, zL2.mono (fun _ _ q => ⟨q.1, q.2.mono hle⟩) g3, ⟨zg_ofKJ (g1.at _), zL2.mono (fun _ _ => zg_V.mono hle) gr⟩, g5.mono hle⟩, rfl⟩
/-- a long as an int's constant or name -/
def zasI (a : zA_V) : zA_V := if a.1 = 4 then (0, a.2) else (1, a.2)
theorem zasI_E {ρ : List Int} {a : zA_V} {n : Int} (h : zIsJ a = true) (g : zE ρ a n) : zE ρ (zasI a) n := by
  unfold zasI
  simp only [zIsJ, Bool.or_eq_true, beq_iff_eq] at h
  rcases g with ⟨g1, g2⟩ | ⟨g1, g2⟩
  · rw [if_pos (by omega)]
    exact Or.inl ⟨Or.inl rfl, g2⟩
  · rw [if_neg (by omega)]
    exact Or.inr ⟨Or.inl rfl, g2⟩
/-- ldiv (19), lrem (20) of small longs, not below 0 -/
def zx_ldr (k nx : Nat) (t : zA_T) : zA_R := match t.2.2.2.1 with
  | b0 :: a0 :: r =>
    let a := zn t.1 a0
    let b := zn t.1 b0
    if zIsJ a = true ∧ zIsJ b = true then (match zr t.1 a, zr t.1 b with
      | some p, some q => if 0 ≤ p.1 ∧ p.2 ≤ 2147483647 ∧ 0 < q.1 ∧ q.2 ≤ 2147483647 then zx_newL (zb_r k p q) (k, zasI a, zasI b) nx t r else none
      | _, _ => none) else none
  | _ => none
theorem zo_ldr {k pc nx : Nat} {t : zA_T} (hk : k = 19 ∨ k = 20) (hs : ∀ {lv st ph cc ns} {a b v : Int64}, ¬ b = 0 → (k = 19 → v = a / b) → (k = 20 → a - a / b * b = v) → ZW l d y X mc ms Q nx lv (.long v :: st) ph cc ns → ZW l d y X mc ms Q pc lv (.long b :: .long a :: st) ph cc ns) : zSd l d y X mc ms XL φ Q pc t (zx_ldr k nx t) := by
  obtain ⟨S, H, L, s0, cc, ns⟩ := t
  intro ts hts ρ ph lv st g k0
  obtain ⟨g1, g2, g3, g4, g5⟩ := g
  unfold zx_ldr at hts
  split at hts
  · next b0 a0 r hst =>
    have hst : s0 = b0 :: a0 :: r := hst
    subst hst
    obtain ⟨vb, st1, rfl, gb0, gr1⟩ := zL2.cons1 g4
    obtain ⟨va, st2, rfl, ga0, gr⟩ := zL2.cons1 gr1
    have ga := zn_g g1 ga0
    have gb := zn_g g1 gb0
    dsimp only at hts
    generalize hea : zn S a0 = a at *
    generalize heb : zn S b0 = b at *
    split at hts
    · next hI =>
      obtain ⟨x, rfl, ex⟩ := zg_long hI.1 ga
      obtain ⟨z, rfl, ez⟩ := zg_long hI.2 gb
      split at hts
      · next p q hp hq =>
        have b1 := zr_in g1 ex hp
        have b2 := zr_in g1 ez hq
        split at hts
        · next hc =>
          obtain ⟨c1, c2, c3, c4⟩ := hc
          have eu : (Int32.ofInt x.toInt).toInt = x.toInt := Int32.toInt_ofInt_of_le (by omega) (by omega)
          have ev : (Int32.ofInt z.toInt).toInt = z.toInt := Int32.toInt_ofInt_of_le (by omega) (by omega)
          have hb := zb_r_in (k := k) (p := p) (q := q) (a := Int32.ofInt x.toInt) (b := Int32.ofInt z.toInt) (by omega) (by omega) (by omega) (by omega) (by omega)
          rw [zb_cEq k _ _ (by omega), eu, ev] at hb
          obtain ⟨d1, d2⟩ := zldr_c (u := x.toInt) (v := z.toInt) (by omega) (by omega) (by omega) (by omega)
          have hne : ¬ z = 0 := fun e => by
            have : z.toInt = 0 := by rw [e]; rfl
            omega
          have q1 : 0 ≤ x.toInt / z.toInt := Int.ediv_nonneg (by omega) (by omega)
          have q2 : x.toInt / z.toInt ≤ x.toInt := Int.ediv_le_self _ (by omega)
          have q3 : x.toInt / z.toInt * z.toInt ≤ x.toInt := Int.ediv_mul_le _ (by omega)
          have q4 : 0 ≤ x.toInt / z.toInt * z.toInt := Int.mul_nonneg q1 (by omega)
          have hdiv : (x / z).toInt = x.toInt / z.toInt := by
            rw [Int64.toInt_div, Int.tdiv_eq_ediv_of_nonneg (by omega)]
            exact Int.bmod_eq_of_le (by omega) (by omega)
          have hrem : (x - x / z * z).toInt = x.toInt - x.toInt / z.toInt * z.toInt := by
            rw [Int64.toInt_sub, Int64.toInt_mul, hdiv, Int.bmod_eq_of_le (n := x.toInt / z.toInt * z.toInt) (by omega) (by omega)]
            exact Int.bmod_eq_of_le (by omega) (by omega)
          rcases hk with e | e
          · subst e
            obtain ⟨t', ρ', m, hle, gt, e⟩ := zx_newL_g (φ := φ) (x := x / z) hts g1 g2 g3 gr g5 (by rw [hdiv, ← d1]; exact hb.1) (by rw [hdiv, ← d1]; exact hb.2) (Or.inr ⟨x.toInt, z.toInt, zasI_E hI.1 ex, zasI_E hI.2 ez, by rw [hdiv]; exact d1.symm⟩)
            have := k0 _ m ρ' ph lv _ hle gt
            rw [e] at this
            exact hs hne (fun _ => rfl) (fun h => absurd h (by decide)) this
          · subst e
            obtain ⟨t', ρ', m, hle, gt, e⟩ := zx_newL_g (φ := φ) (x := x - x / z * z) hts g1 g2 g3 gr g5 (by rw [hrem, ← d2]; exact hb.1) (by rw [hrem, ← d2]; exact hb.2) (Or.inr ⟨x.toInt, z.toInt, zasI_E hI.1 ex, zasI_E hI.2 ez, by rw [hrem]; exact d2.symm⟩)
            have := k0 _ m ρ' ph lv _ hle gt
            rw [e] at this
            exact hs hne (fun h => absurd h (by decide)) (fun _ => rfl) this
        · cases hts
      · cases hts
    · cases hts
  · cases hts
def zx_pop2 (nx : Nat) (t : zA_T) : zA_R := match t.2.2.2.1 with
  | a :: r => if zcat a = 2 then some [(nx, zt_st t r)] else none
  | [] => none
theorem zo_pop2 {pc nx : Nat} {t : zA_T} (hs : ∀ {lv st ph cc ns} {v : Value}, v.category = 2 → ZW l d y X mc ms Q nx lv st ph cc ns → ZW l d y X mc ms Q pc lv (v :: st) ph cc ns) : zSd l d y X mc ms XL φ Q pc t (zx_pop2 nx t) := by
  obtain ⟨S, H, L, s0, cc, ns⟩ := t
  intro ts hts ρ ph lv st g k0
  obtain ⟨g1, g2, g3, g4, g5⟩ := g
  unfold zx_pop2 at hts
  split at hts
  · next a r hst =>
    have hst : s0 = a :: r := hst
    subst hst
    obtain ⟨va, st1, rfl, ga, gr⟩ := zL2.cons1 g4
    split at hts
    · next h =>
      cases hts
      exact hs ((zg_cat ga).trans h) (k0 _ (List.mem_singleton.mpr rfl) ρ ph lv _ (zLE.refl ρ) ⟨g1, g2, g3, gr, g5⟩)
    · cases hts
  · cases hts
end ZO
