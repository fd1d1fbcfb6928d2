/-! PART 13b: linear bounds. -/
/-- coefficients of names, the highest first -/
abbrev zF_ : Type := List (Int × Nat)
def zfs (ρ : List Int) : zF_ → Int
  | [] => 0
  | q :: F => q.1 * ρ.getD q.2 0 + zfs ρ F
def zfi (e : Int) (k : Nat) : zF_ → zF_
  | [] => [(e, k)]
  | q :: F => if q.2 = k then (q.1 + e, k) :: F else if q.2 < k then (e, k) :: q :: F else q :: zfi e k F
theorem zfi_g (ρ : List Int) (e : Int) (k : Nat) : ∀ F : zF_, zfs ρ (zfi e k F) = e * ρ.getD k 0 + zfs ρ F
  | [] => rfl
  | q :: F => by
    unfold zfi
    split
    · next h =>
      show (q.1 + e) * ρ.getD k 0 + zfs ρ F = e * ρ.getD k 0 + (q.1 * ρ.getD q.2 0 + zfs ρ F)
      rw [h, Int.add_mul]
      omega
    · split
      · rfl
      · show q.1 * ρ.getD q.2 0 + zfs ρ (zfi e k F) = e * ρ.getD k 0 + (q.1 * ρ.getD q.2 0 + zfs ρ F)
        rw [zfi_g ρ e k F]
        omega
/-- e times a constant or a name -/
def zfv (e : Int) (a : zA_V) (F : zF_) (c : Int) : zF_ × Int := if a.1 = 1 then (zfi e a.2.toNat F, c) else (F, c + e * a.2)
theorem zfv_g {ρ : List Int} {e : Int} {a : zA_V} {n : Int} (ha : a.1 = 0 ∨ a.1 = 1) (h : zE ρ a n) (F : zF_) (c : Int) : zfs ρ (zfv e a F c).1 + (zfv e a F c).2 = e * n + (zfs ρ F + c) := by
  unfold zfv
  rcases h with ⟨h1, h2⟩ | ⟨h1, h2⟩
  · rw [if_neg (by omega), h2]
    show zfs ρ F + (c + e * a.2) = _
    omega
  · rw [if_pos (by omega)]
    show zfs ρ (zfi e a.2.toNat F) + c = _
    rw [zfi_g, List.getD_eq_getElem?_getD, h2]
    show e * n + zfs ρ F + c = _
    omega
/-- a name made by + or -, or one that takes something off the form -/
def zopn (F : zF_) (up : Bool) (S : zA_S) (a : zA_V) : Bool := decide (a.1 = 1) && (match S[a.2.toNat]? with
  | some q => Nat.beq q.2.2.1 10 || (Nat.beq q.2.2.1 11 || F.any (fun e => Nat.beq e.2 a.2.toNat && decide (if up = true then e.1 < 0 else 0 < e.1)))
  | none => false)
/-- what is known of a name beside its bounds: x with n ≤ x + c (up), or x + c ≤ n -/
def zft (F : zF_) (k : Nat) (up : Bool) : Nat → zA_S → zA_S → Option (zA_V × Int)
  | _, _, [] => none
  | n, S0, (lo, hi, (op, x, y)) :: S => match Nat.beq op 11 with
    | false => zft F k up n S0 S
    | true => (match (if x.1 = 1 ∧ x.2 = (k : Int) ∧ y.1 ≤ 1 ∧ zopn F up S0 y = true then (match znw S0 x y true with
        | some _ => some (y, if up = true then hi else lo)
        | none => none) else if y.1 = 1 ∧ y.2 = (k : Int) ∧ x.1 ≤ 1 ∧ zopn F up S0 x = true then (match znw S0 x y true with
        | some _ => some (x, if up = true then -lo else -hi)
        | none => none) else none) with
      | some q => (match n with
        | 0 => some q
        | n + 1 => zft F k up n S0 S)
      | none => zft F k up n S0 S)
def zfts (k : Nat) (n : Int) (up : Bool) (x : zA_V) (c : Int) (ρ : List Int) : Prop := ∃ m : Int, (x.1 = 0 ∨ x.1 = 1) ∧ zE ρ x m ∧ (if up = true then n ≤ m + c else m + c ≤ n)
theorem zft_g {ρ : List Int} {F : zF_} {S0 : zA_S} {k : Nat} {n : Int} {up : Bool} (hS0 : zg_S ρ S0) (hk : ρ[k]? = some n) : ∀ {r : List Int} {S : zA_S} {i : Nat} {x : zA_V} {c : Int}, zL2 (zg_E ρ) r S → zft F k up i S0 S = some (x, c) → zfts k n up x c ρ
  | [], [], _, _, _, _, h => by cases h
  | m :: r, (lo, hi, (op, x, y)) :: S, i, u, c, hS, h => by
    unfold zft at h
    split at h
    · exact zft_g hS0 hk hS.2 h
    · next h11 =>
      have h11 : op = 11 := Nat.eq_of_beq_eq_true h11
      obtain ⟨b1, b2, b3⟩ := hS.1
      have b1 : lo ≤ m := b1
      have b2 : m ≤ hi := b2
      split at h
      · next q hq =>
        cases i with
        | succ i => exact zft_g hS0 hk hS.2 h
        | zero =>
        cases h
        rcases b3 with b3 | ⟨a1, a2, w1, w2, w3⟩
        · have b3 : op = 0 := b3
          omega
        · have w3 : m = zb_c op a1 a2 := w3
          rw [h11] at w3
          have hkE : zE ρ (1, (k : Int)) n := Or.inr ⟨Or.inl rfl, by simpa using hk⟩
          split at hq
          · next hx =>
            split at hq
            · next pq hpq =>
              cases hq
              obtain ⟨v1, -⟩ := znw_sub hS0 hpq w1 w2
              have ex : a1 = n := zE_fun w1 (by
                have : x = (1, (k : Int)) := Prod.ext hx.1 hx.2.1
                rw [this]; exact hkE)
              refine ⟨a2, by omega, w2, ?_⟩
              cases up
              · show a2 + lo ≤ n
                omega
              · show n ≤ a2 + hi
                omega
            · cases hq
          · split at hq
            · next hy =>
              split at hq
              · next pq hpq =>
                cases hq
                obtain ⟨v1, -⟩ := znw_sub hS0 hpq w1 w2
                have ey : a2 = n := zE_fun w2 (by
                  have : y = (1, (k : Int)) := Prod.ext hy.1 hy.2.1
                  rw [this]; exact hkE)
                refine ⟨a1, by omega, w1, ?_⟩
                cases up
                · show a1 + -hi ≤ n
                  omega
                · show n ≤ a1 + -lo
                  omega
              · cases hq
            · cases hq
      · exact zft_g hS0 hk hS.2 h
  | [], _ :: _, _, _, _, h, _ => h.elim
  | _ :: _, [], _, _, _, h, _ => h.elim
/-- a product with a number in a form -/
def zubm (S : zA_S) (x y : zA_V) (e : Int) (F : zF_) (c : Int) : Option (zF_ × Int) := if x.1 ≤ 1 ∧ y.1 = 0 ∧ 0 < y.2 then (match zr S x with
  | some p => if -2147483648 ≤ p.1 * y.2 ∧ p.2 * y.2 ≤ 2147483647 then some (zfv (e * y.2) x F c) else none
  | none => none) else none
theorem zubm_g {ρ : List Int} {S : zA_S} (hS : zg_S ρ S) {x y : zA_V} {e n c : Int} {F : zF_} {q : zF_ × Int} (hd : zg_D ρ n (12, x, y)) (h : zubm S x y e F c = some q) : zfs ρ q.1 + q.2 = e * n + (zfs ρ F + c) := by
  unfold zubm at h
  split at h
  · next h12 =>
    split at h
    · next p hp =>
      split at h
      · next hc =>
        cases h
        rcases hd with hd | ⟨a1, a2, w1, w2, w3⟩
        · cases hd
        · have w3 : n = zb_c 12 a1 a2 := w3
          have w1 : zE ρ x a1 := w1
          have w2 : zE ρ y a2 := w2
          have bx := zr_in hS w1 hp
          have ev : a2 = y.2 := by rcases w2 with ⟨-, w2⟩ | ⟨w2 | w2, -⟩ <;> omega
          subst ev
          rw [z_mulr h12.2.2 bx.1 bx.2 hc.1 hc.2] at w3
          rw [zfv_g (by omega) w1, Int.mul_assoc, Int.mul_comm y.2 a1, ← w3]
      · cases h
    · cases h
  · cases h
/-- plain bounds -/
def zubi (S : zA_S) : zF_ → Int → Option Int
  | [], c => some c
  | (e, k) :: G, c => match S[k]? with
    | none => none
    | some q => zubi S G (c + (if 0 < e then e * q.2.1 else e * q.1))
theorem zubi_g {ρ : List Int} {S : zA_S} (hS : zg_S ρ S) : ∀ {G : zF_} {c u : Int}, zubi S G c = some u → c + zfs ρ G ≤ u
  | [], c, u, h => by
    cases h
    show c + 0 ≤ c
    omega
  | (e, k) :: G, c, u, h => by
    unfold zubi at h
    split at h
    · cases h
    · next q hk =>
      obtain ⟨n, en, b1, b2, -⟩ := zL2.getR hS hk
      have eg : ρ.getD k 0 = n := by rw [List.getD_eq_getElem?_getD, en]; rfl
      have r := zubi_g hS h
      show c + (e * ρ.getD k 0 + zfs ρ G) ≤ u
      rw [eg]
      split at r
      · next h0 =>
        have := Int.mul_le_mul_of_nonneg_left b2 (by omega : 0 ≤ e)
        omega
      · next h0 =>
        have := Int.mul_le_mul_of_nonpos_left (a := e) (b := n) (c := q.1) (by omega) b1
        omega
/-- an upper bound of a linear form, with what is known of names beside their bounds or without -/
def zubf (t : Option (Nat × Bool)) (S : zA_S) : Nat → zF_ → zF_ → Int → Option Int
  | _, [], G, c => zubi S G c
  | 0, _ :: _, _, _ => none
  | f + 1, (e, k) :: F, G, c => if e = 0 then zubf t S f F G c else match S[k]? with
    | none => none
    | some (lo, hi, (op, x, y)) =>
      (match (if op = 10 ∧ x.1 ≤ 1 ∧ y.1 ≤ 1 then (match znw S x y false with
          | some _ => some (zfv e x (zfv e y F c).1 (zfv e y F c).2)
          | none => none) else if op = 11 ∧ x.1 ≤ 1 ∧ y.1 ≤ 1 then (match znw S x y true with
          | some _ => some (zfv e x (zfv (-e) y F c).1 (zfv (-e) y F c).2)
          | none => none) else if op = 12 then zubm S (if y.1 = 0 then x else y) (if y.1 = 0 then y else x) e F c else none) with
        | some q => zubf t S f q.1 G q.2
        | none => (match (match t with
          | some i => zft (if i.2 = true then F ++ G else []) k (decide (0 < e)) i.1 S S
          | none => none) with
          | some (z, d) => zubf t S f (zfv e z F (c + e * d)).1 G (zfv e z F (c + e * d)).2
          | none => zubf t S f F (zfi e k G) c))
theorem zubf_g {ρ : List Int} {S : zA_S} {t : Option (Nat × Bool)} (hS : zg_S ρ S) : ∀ (f : Nat) (F G : zF_) (c u : Int), zubf t S f F G c = some u → zfs ρ F + c + zfs ρ G ≤ u
  | n, [], G, c, u, h => by
    have e : zubi S G c = some u := by
      cases n
      · exact h
      · exact h
    have := zubi_g hS e
    show 0 + c + zfs ρ G ≤ u
    omega
  | 0, _ :: _, _, _, _, h => by cases h
  | f + 1, (e, k) :: F, G, c, u, h => by
    unfold zubf at h
    show e * ρ.getD k 0 + zfs ρ F + c + zfs ρ G ≤ u
    split at h
    · next he =>
      have := zubf_g hS f F G c u h
      rw [he]
      omega
    · next he =>
      split at h
      · cases h
      · next lo hi op x y hk =>
        obtain ⟨n, en, b1, b2, b3⟩ := zL2.getR hS hk
        have b1 : lo ≤ n := b1
        have b2 : n ≤ hi := b2
        have eg : ρ.getD k 0 = n := by rw [List.getD_eq_getElem?_getD, en]; rfl
        rw [eg]
        split at h
        · next q hq =>
          split at hq
          · next h10 =>
            split at hq
            · next pq hpq =>
              cases hq
              rcases b3 with b3 | ⟨a1, a2, w1, w2, w3⟩
              · have b3 : op = 0 := b3
                omega
              · have w3 : n = zb_c op a1 a2 := w3
                rw [h10.1] at w3
                have w1 : zE ρ x a1 := w1
                have w2 : zE ρ y a2 := w2
                obtain ⟨v1, -⟩ := znw_add hS hpq w1 w2
                have r1 := zubf_g hS f _ _ _ u h
                rw [zfv_g (by omega) w1, zfv_g (by omega) w2] at r1
                rw [w3, v1, Int.mul_add]
                omega
            · cases hq
          · split at hq
            · next h11 =>
              split at hq
              · next pq hpq =>
                cases hq
                rcases b3 with b3 | ⟨a1, a2, w1, w2, w3⟩
                · have b3 : op = 0 := b3
                  omega
                · have w3 : n = zb_c op a1 a2 := w3
                  rw [h11.1] at w3
                  have w1 : zE ρ x a1 := w1
                  have w2 : zE ρ y a2 := w2
                  obtain ⟨v1, -⟩ := znw_sub hS hpq w1 w2
                  have r1 := zubf_g hS f _ _ _ u h
                  rw [zfv_g (by omega) w1, zfv_g (by omega) w2, Int.neg_mul] at r1
                  rw [w3, v1, Int.mul_sub]
                  omega
              · cases hq
            · split at hq
              · next h12 =>
                rw [h12] at b3
                have hd : zg_D ρ n (12, if y.1 = 0 then x else y, if y.1 = 0 then y else x) := by
                  split
                  · exact b3
                  · exact b3.comm12
                have r1 := zubf_g hS f _ _ _ u h
                rw [zubm_g hS hd hq] at r1
                omega
              · cases hq
        · split at h
          · next z d hz =>
            have hz : ∃ F' i, zft F' k (decide (0 < e)) i S S = some (z, d) := by
              split at hz
              · exact ⟨_, _, hz⟩
              · cases hz
            obtain ⟨F', i, hz⟩ := hz
            obtain ⟨m, m0, m1, m2⟩ := zft_g hS en hS hz
            have r1 := zubf_g hS f _ _ _ u h
            rw [zfv_g m0 m1] at r1
            rcases Int.lt_or_gt_of_ne he with h0 | h0
            · rw [decide_eq_false (by omega), if_neg (by decide)] at m2
              have := Int.mul_le_mul_of_nonpos_left (a := e) (b := n) (c := m + d) (by omega) m2
              rw [Int.mul_add] at this
              omega
            · rw [decide_eq_true (by omega), if_pos rfl] at m2
              have := Int.mul_le_mul_of_nonneg_left m2 (by omega : 0 ≤ e)
              rw [Int.mul_add] at this
              omega
          · have r1 := zubf_g hS f F _ _ u h
            rw [zfi_g, eg] at r1
            omega
def zmin (a b : Option Int) : Option Int := match a with
  | none => b
  | some u => (match b with
    | none => some u
    | some v => some (if u ≤ v then u else v))
theorem zmin_g {a b : Option Int} {n u : Int} (ha : ∀ v, a = some v → n ≤ v) (hb : ∀ v, b = some v → n ≤ v) (h : zmin a b = some u) : n ≤ u := by
  unfold zmin at h
  split at h
  · exact hb u h
  · next v =>
    have r1 := ha v rfl
    split at h
    · cases h
      exact r1
    · next w =>
      have r2 := hb w rfl
      cases h
      split <;> omega
/-- an upper bound: the best of five -/
def zub (S : zA_S) (f : Nat) (F : zF_) (c : Int) : Option Int := zmin (zubf none S f F [] c) (zmin (zmin (zubf (some (0, true)) S f F [] c) (zubf (some (1, true)) S f F [] c)) (zmin (zubf (some (0, false)) S f F [] c) (zubf (some (1, false)) S f F [] c)))
theorem zub_g {ρ : List Int} {S : zA_S} (hS : zg_S ρ S) (f : Nat) (F : zF_) (c u : Int) (h : zub S f F c = some u) : zfs ρ F + c ≤ u :=
  have k : ∀ (t : Option (Nat × Bool)) (v : Int), zubf t S f F [] c = some v → zfs ρ F + c ≤ v := fun t v h => by
    have r := zubf_g hS f F [] c v h
    have e0 : zfs ρ [] = 0 := rfl
    omega
  zmin_g (k _) (fun v h => zmin_g (fun v h => zmin_g (k _) (k _) h) (fun v h => zmin_g (k _) (k _) h) h) h
/-- a lower bound -/
def zlb (S : zA_S) (a : zA_V) : Int := match zr S a with
  | some p => p.1
  | none => -9223372036854775808
theorem zlb_g {ρ : List Int} {S : zA_S} {a : zA_V} {n c : Int} (hS : zg_S ρ S) (h : zE ρ a n) (hc : zlb S a ≥ c) (h0 : -9223372036854775808 < c := by decide) : c ≤ n := by
  unfold zlb at hc
  split at hc
  · next p hp =>
    have := zr_in hS h hp
    omega
  · omega
/-- a + b ≤ n -/
def zle2 (S : zA_S) (a b : zA_V) (n : Nat) : Bool := decide (a.1 ≤ 1 ∧ b.1 ≤ 1) && (match zub S 16 (zfv 1 a (zfv 1 b [] 0).1 (zfv 1 b [] 0).2).1 (zfv 1 a (zfv 1 b [] 0).1 (zfv 1 b [] 0).2).2 with
  | some u => decide (u ≤ (n : Int))
  | none => false)
theorem zle2_g {ρ : List Int} {S : zA_S} {a b : zA_V} {x y : Int} {n : Nat} (hS : zg_S ρ S) (h1 : zE ρ a x) (h2 : zE ρ b y) (h : zle2 S a b n = true) : x + y ≤ n := by
  unfold zle2 at h
  rw [Bool.and_eq_true] at h
  obtain ⟨h3, h4⟩ := h
  have h3 := of_decide_eq_true h3
  split at h4
  · next u hu =>
    have r := zub_g hS _ _ _ _ hu
    rw [zfv_g (by omega) h1, zfv_g (by omega) h2] at r
    have h4 := of_decide_eq_true h4
    have e0 : zfs ρ [] = 0 := rfl
    omega
  · cases h4
/-- the bounds of a place: by the form where the plain ones are too wide -/
def zrx (S : zA_S) (j : zA_V) : Option zI2 := match zr S j with
  | none => none
  | some q => if j.1 = 1 ∧ ¬ (0 ≤ q.1 ∧ q.2 < 360) then some ((match zub S 24 [((-1 : Int), j.2.toNat)] 0 with
      | some u => max q.1 (-u)
      | none => q.1), (match zub S 24 [((1 : Int), j.2.toNat)] 0 with
      | some u => min q.2 u
      | none => q.2)) else some q
theorem zrx_in {ρ : List Int} {S : zA_S} {j : zA_V} {x : Int} {q : zI2} (hS : zg_S ρ S) (h : zE ρ j x) (hq : zrx S j = some q) : q.1 ≤ x ∧ x ≤ q.2 := by
  unfold zrx at hq
  split at hq
  · cases hq
  · next p hp =>
    have b := zr_in hS h hp
    split at hq
    · next hc =>
      cases hq
      have e : ρ[j.2.toNat]? = some x := by
        rcases h with ⟨h | h, -⟩ | ⟨-, h⟩
        · omega
        · omega
        · exact h
      have eg : ρ.getD j.2.toNat 0 = x := by rw [List.getD_eq_getElem?_getD, e]; rfl
      have r1 : (match zub S 24 [((-1 : Int), j.2.toNat)] 0 with
          | some u => max p.1 (-u)
          | none => p.1) ≤ x := by
        split
        · next u hu =>
          have r := zub_g hS _ _ _ _ hu
          have r : -1 * ρ.getD j.2.toNat 0 + 0 + 0 ≤ u := r
          rw [eg] at r
          exact Int.max_le.mpr ⟨b.1, by omega⟩
        · exact b.1
      have r2 : x ≤ (match zub S 24 [((1 : Int), j.2.toNat)] 0 with
          | some u => min p.2 u
          | none => p.2) := by
        split
        · next u hu =>
          have r := zub_g hS _ _ _ _ hu
          have r : 1 * ρ.getD j.2.toNat 0 + 0 + 0 ≤ u := r
          rw [eg] at r
          exact Int.le_min.mpr ⟨b.2, by omega⟩
        · exact b.2
      exact ⟨r1, r2⟩
    · cases hq
      exact b
