/-! PART 13b: linear bounds. -/
/-- coefficients of names, the highest first -/
abbrev zF_ : Type := List (Int × Nat)
def zfs (ρ : List Int) : zF_ → Int
  | [] => 0
  | q :: F => q.1 * ρ.getD q.2 0 + zfs ρ F
def zfi (e : Int) (k : Nat) : zF_ → zF_
  | [] => [(e, k)]
  | q :: F => if q.2 = k then (q.1 + e, k) :: F else if q.2 < k then (e, k) :: q :: F else q :: zfi e k F
theorem zfi_g (ρ : List Int) (e : Int) (k : Nat) : ∀ F : zF_, zfs ρ (zfi e k F) = e * ρ.getD k 0 + zfs ρ F
  | [] => rfl
  | q :: F => by
    unfold zfi
    split
    · next h =>
      show (q.1 + e) * ρ.getD k 0 + zfs ρ F = e * ρ.getD k 0 + (q.1 * ρ.getD q.2 0 + zfs ρ F)
      rw [h, Int.add_mul]
      omega
    · split
      · rfl
      · show q.1 * ρ.getD q.2 0 + zfs ρ (zfi e k F) = e * ρ.getD k 0 + (q.1 * ρ.getD q.2 0 + zfs ρ F)
        rw [zfi_g ρ e k F]
        omega
/-- e times a constant or a name -/
def zfv (e : Int) (a : zA_V) (F : zF_) (c : Int) : zF_ × Int := if a.1 = 1 then (zfi e a.2.toNat F, c) else (F, c + e * a.2)
theorem zfv_g {ρ : List Int} {e : Int} {a : zA_V} {n : Int} (ha : a.1 = 0 ∨ a.1 = 1) (h : zE ρ a n) (F : zF_) (c : Int) : zfs ρ (zfv e a F c).1 + (zfv e a F c).2 = e * n + (zfs ρ F + c) := by
  unfold zfv
  rcases h with ⟨h1, h2⟩ | ⟨h1, h2⟩
  · rw [if_neg (by omega), h2]
    show zfs ρ F + (c + e * a.2) = _
    omega
  · rw [if_pos (by omega)]
    show zfs ρ (zfi e a.2.toNat F) + c = _
    rw [zfi_g, List.getD_eq_getElem?_getD, h2]
    show e * n + zfs ρ F + c = _
    omega
/-- a name made by + or - -/
def zopn (S : zA_S) (a : zA_V) : Bool := decide (a.1 = 1) && (match S[a.2.toNat]? with
  | some q => Nat.beq q.2.2.1 10 || Nat.beq q.2.2.1 11
  | none => false)
/-- what is known of a name beside its bounds: x with n ≤ x + c (up), or x + c ≤ n -/
def zft (k : Nat) (up : Bool) : Nat → zA_S → zA_S → Option (zA_V × Int)
  | _, _, [] => none
  | n, S0, (lo, hi, (op, x, y)) :: S => match Nat.beq op 11 with
    | false => zft k up n S0 S
    | true => (match (if x.1 = 1 ∧ x.2 = (k : Int) ∧ y.1 ≤ 1 ∧ zopn S0 y = true then (match znw S0 x y true with
        | some _ => some (y, if up = true then hi else lo)
        | none => none) else if y.1 = 1 ∧ y.2 = (k : Int) ∧ x.1 ≤ 1 ∧ zopn S0 x = true then (match znw S0 x y true with
        | some _ => some (x, if up = true then -lo else -hi)
        | none => none) else none) with
      | some q => (match n with
        | 0 => some q
        | n + 1 => zft k up n S0 S)
      | none => zft k up n S0 S)
def zfts (k : Nat) (n : Int) (up : Bool) (x : zA_V) (c : Int) (ρ : List Int) : Prop := ∃ m : Int, (x.1 = 0 ∨ x.1 = 1) ∧ zE ρ x m ∧ (if up = true then n ≤ m + c else m + c ≤ n)
theorem zft_g {ρ : List Int} {S0 : zA_S} {k : Nat} {n : Int} {up : Bool} (hS0 : zg_S ρ S0) (hk : ρ[k]? = some n) : ∀ {r : List Int} {S : zA_S} {i : Nat} {x : zA_V} {c : Int}, zL2 (zg_E ρ) r S → zft k up i S0 S = some (x, c) → zfts k n up x c ρ
  | [], [], _, _, _, _, h => by cases h
  | m :: r, (lo, hi, (op, x, y)) :: S, i, u, c, hS, h => by
    unfold zft at h
    split at h
    · exact zft_g hS0 hk hS.2 h
    · next h11 =>
      have h11 : op = 11 := Nat.eq_of_beq_eq_true h11
      obtain ⟨b1, b2, b3⟩ := hS.1
      have b1 : lo ≤ m := b1
      have b2 : m ≤ hi := b2
      split at h
      · next q hq =>
        cases i with
        | succ i => exact zft_g hS0 hk hS.2 h
        | zero =>
        cases h
        rcases b3 with b3 | ⟨a1, a2, w1, w2, w3⟩
        · have b3 : op = 0 := b3
          omega
        · have w3 : m = zb_c op a1 a2 := w3
          rw [h11] at w3
          have hkE : zE ρ (1, (k : Int)) n := Or.inr ⟨Or.inl rfl, by simpa using hk⟩
          split at hq
          · next hx =>
            split at hq
            · next pq hpq =>
              cases hq
              obtain ⟨v1, -⟩ := znw_sub hS0 hpq w1 w2
              have ex : a1 = n := zE_fun w1 (by
                have : x = (1, (k : Int)) := Prod.ext hx.1 hx.2.1
                rw [this]; exact hkE)
              refine ⟨a2, by omega, w2, ?_⟩
              cases up
              · show a2 + lo ≤ n
                omega
              · show n ≤ a2 + hi
                omega
            · cases hq
          · split at hq
            · next hy =>
              split at hq
              · next pq hpq =>
                cases hq
                obtain ⟨v1, -⟩ := znw_sub hS0 hpq w1 w2
                have ey : a2 = n := zE_fun w2 (by
                  have : y = (1, (k : Int)) := Prod.ext hy.1 hy.2.1
                  rw [this]; exact hkE)
                refine ⟨a1, by omega, w1, ?_⟩
                cases up
                · show a1 + -hi ≤ n
                  omega
                · show n ≤ a1 + -lo
                  omega
              · cases hq
            · cases hq
      · exact zft_g hS0 hk hS.2 h
  | [], _ :: _, _, _, _, h, _ => h.elim
  | _ :: _, [], _, _, _, h, _ => h.elim
/-- an upper bound of a linear form, with what is known of names beside their bounds or without -/
def zubf (t : Option Nat) (S : zA_S) : Nat → zF_ → Int → Option Int
  | _, [], c => some c
  | 0, _, _ => none
  | f + 1, (e, k) :: F, c => if e = 0 then zubf t S f F c else match S[k]? with
    | none => none
    | some (lo, hi, (op, x, y)) =>
      (match (if op = 10 ∧ x.1 ≤ 1 ∧ y.1 ≤ 1 then (match znw S x y false with
          | some _ => some (zfv e x (zfv e y F c).1 (zfv e y F c).2)
          | none => none) else if op = 11 ∧ x.1 ≤ 1 ∧ y.1 ≤ 1 then (match znw S x y true with
          | some _ => some (zfv e x (zfv (-e) y F c).1 (zfv (-e) y F c).2)
          | none => none) else none) with
        | some q => zubf t S f q.1 q.2
        | none => (match (match t with
          | some i => zft k (decide (0 < e)) i S S
          | none => none) with
          | some (z, d) => zubf t S f (zfv e z F (c + e * d)).1 (zfv e z F (c + e * d)).2
          | none => zubf t S f F (c + (if 0 < e then e * hi else e * lo))))
theorem zubf_g {ρ : List Int} {S : zA_S} {t : Option Nat} (hS : zg_S ρ S) : ∀ (f : Nat) (F : zF_) (c u : Int), zubf t S f F c = some u → zfs ρ F + c ≤ u
  | n, [], c, u, h => by
    have e : some c = some u := by
      cases n
      · exact h
      · exact h
    cases e
    show 0 + c ≤ c
    omega
  | 0, _ :: _, _, _, h => by cases h
  | f + 1, (e, k) :: F, c, u, h => by
    unfold zubf at h
    show e * ρ.getD k 0 + zfs ρ F + c ≤ u
    split at h
    · next he =>
      have := zubf_g hS f F c u h
      rw [he]
      omega
    · next he =>
      split at h
      · cases h
      · next lo hi op x y hk =>
        obtain ⟨n, en, b1, b2, b3⟩ := zL2.getR hS hk
        have b1 : lo ≤ n := b1
        have b2 : n ≤ hi := b2
        have eg : ρ.getD k 0 = n := by rw [List.getD_eq_getElem?_getD, en]; rfl
        rw [eg]
        split at h
        · next q hq =>
          split at hq
          · next h10 =>
            split at hq
            · next pq hpq =>
              cases hq
              rcases b3 with b3 | ⟨a1, a2, w1, w2, w3⟩
              · have b3 : op = 0 := b3
                omega
              · have w3 : n = zb_c op a1 a2 := w3
                rw [h10.1] at w3
                have w1 : zE ρ x a1 := w1
                have w2 : zE ρ y a2 := w2
                obtain ⟨v1, -⟩ := znw_add hS hpq w1 w2
                have r1 := zubf_g hS f _ _ u h
                rw [zfv_g (by omega) w1, zfv_g (by omega) w2] at r1
                rw [w3, v1, Int.mul_add]
                omega
            · cases hq
          · split at hq
            · next h11 =>
              split at hq
              · next pq hpq =>
                cases hq
                rcases b3 with b3 | ⟨a1, a2, w1, w2, w3⟩
                · have b3 : op = 0 := b3
                  omega
                · have w3 : n = zb_c op a1 a2 := w3
                  rw [h11.1] at w3
                  have w1 : zE ρ x a1 := w1
                  have w2 : zE ρ y a2 := w2
                  obtain ⟨v1, -⟩ := znw_sub hS hpq w1 w2
                  have r1 := zubf_g hS f _ _ u h
                  rw [zfv_g (by omega) w1, zfv_g (by omega) w2, Int.neg_mul] at r1
                  rw [w3, v1, Int.mul_sub]
                  omega
              · cases hq
            · cases hq
        · split at h
          · next z d hz =>
            have hz : ∃ i, zft k (decide (0 < e)) i S S = some (z, d) := by
              split at hz
              · exact ⟨_, hz⟩
              · cases hz
            obtain ⟨i, hz⟩ := hz
            obtain ⟨m, m0, m1, m2⟩ := zft_g hS en hS hz
            have r1 := zubf_g hS f _ _ u h
            rw [zfv_g m0 m1] at r1
            rcases Int.lt_or_gt_of_ne he with h0 | h0
            · rw [decide_eq_false (by omega), if_neg (by decide)] at m2
              have := Int.mul_le_mul_of_nonpos_left (a := e) (b := n) (c := m + d) (by omega) m2
              rw [Int.mul_add] at this
              omega
            · rw [decide_eq_true (by omega), if_pos rfl] at m2
              have := Int.mul_le_mul_of_nonneg_left m2 (by omega : 0 ≤ e)
              rw [Int.mul_add] at this
              omega
          · have r1 := zubf_g hS f F _ u h
            split at r1
            · next h0 =>
              have := Int.mul_le_mul_of_nonneg_left b2 (by omega : 0 ≤ e)
              omega
            · next h0 =>
              have := Int.mul_le_mul_of_nonpos_left (a := e) (b := n) (c := lo) (by omega) b1
              omega
def zmin (a b : Option Int) : Option Int := match a with
  | none => b
  | some u => (match b with
    | none => some u
    | some v => some (if u ≤ v then u else v))
theorem zmin_g {a b : Option Int} {n u : Int} (ha : ∀ v, a = some v → n ≤ v) (hb : ∀ v, b = some v → n ≤ v) (h : zmin a b = some u) : n ≤ u := by
  unfold zmin at h
  split at h
  · exact hb u h
  · next v =>
    have r1 := ha v rfl
    split at h
    · cases h
      exact r1
    · next w =>
      have r2 := hb w rfl
      cases h
      split <;> omega
/-- an upper bound: the best of three -/
def zub (S : zA_S) (f : Nat) (F : zF_) (c : Int) : Option Int := zmin (zubf none S f F c) (zmin (zubf (some 0) S f F c) (zubf (some 1) S f F c))
theorem zub_g {ρ : List Int} {S : zA_S} (hS : zg_S ρ S) (f : Nat) (F : zF_) (c u : Int) (h : zub S f F c = some u) : zfs ρ F + c ≤ u :=
  zmin_g (fun v => zubf_g hS f F c v) (fun v h => zmin_g (fun v => zubf_g hS f F c v) (fun v => zubf_g hS f F c v) h) h
/-- a lower bound -/
def zlb (S : zA_S) (a : zA_V) : Int := match zr S a with
  | some p => p.1
  | none => -9223372036854775808
theorem zlb_g {ρ : List Int} {S : zA_S} {a : zA_V} {n c : Int} (hS : zg_S ρ S) (h : zE ρ a n) (hc : zlb S a ≥ c) (h0 : -9223372036854775808 < c := by decide) : c ≤ n := by
  unfold zlb at hc
  split at hc
  · next p hp =>
    have := zr_in hS h hp
    omega
  · omega
/-- a + b ≤ n -/
def zle2 (S : zA_S) (a b : zA_V) (n : Nat) : Bool := decide (a.1 ≤ 1 ∧ b.1 ≤ 1) && (match zub S 16 (zfv 1 a (zfv 1 b [] 0).1 (zfv 1 b [] 0).2).1 (zfv 1 a (zfv 1 b [] 0).1 (zfv 1 b [] 0).2).2 with
  | some u => decide (u ≤ (n : Int))
  | none => false)
theorem zle2_g {ρ : List Int} {S : zA_S} {a b : zA_V} {x y : Int} {n : Nat} (hS : zg_S ρ S) (h1 : zE ρ a x) (h2 : zE ρ b y) (h : zle2 S a b n = true) : x + y ≤ n := by
  unfold zle2 at h
  rw [Bool.and_eq_true] at h
  obtain ⟨h3, h4⟩ := h
  have h3 := of_decide_eq_true h3
  split at h4
  · next u hu =>
    have r := zub_g hS _ _ _ _ hu
    rw [zfv_g (by omega) h1, zfv_g (by omega) h2] at r
    have h4 := of_decide_eq_true h4
    have e0 : zfs ρ [] = 0 := rfl
    omega
  · cases h4
