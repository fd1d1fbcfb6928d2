/-! PART 19c: answers by the values of an argument; lists of runs. -/
def zAll {α : Type} (p : α → Prop) : List α → Prop
  | [] => True
  | a :: l => p a ∧ zAll p l
theorem zAll_mem {α : Type} {p : α → Prop} : ∀ {l : List α}, zAll p l → ∀ a ∈ l, p a
  | [], _, a, h => by cases h
  | b :: l, hp, a, h => by
    rcases List.mem_cons.mp h with rfl | h
    · exact hp.1
    · exact zAll_mem hp.2 a h
def zsplL (o : zO_) (m d : Nat) (t : zA_T) : List zA_S → Option (List zR_)
  | [] => some []
  | S :: l => match o m d (S, t.2) with
    | none => none
    | some r => (match zsplL o m d t l with
      | none => none
      | some rs => some (r ++ rs))
theorem zsplL_g {o : zO_} {m d : Nat} {t : zA_T} : ∀ {l : List zA_S} {rs : List zR_}, zsplL o m d t l = some rs → ∀ S ∈ l, ∃ r, o m d (S, t.2) = some r ∧ ∀ x ∈ r, x ∈ rs
  | [], _, _, S, h => by cases h
  | S0 :: l, rs, h, S, hS => by
    unfold zsplL at h
    split at h
    · cases h
    · next r hr =>
      split at h
      · cases h
      · next rs' hrs =>
        cases h
        rcases List.mem_cons.mp hS with rfl | hS
        · exact ⟨r, hr, fun x hx => List.mem_append_left _ hx⟩
        · obtain ⟨r', h1, h2⟩ := zsplL_g hrs S hS
          exact ⟨r', h1, fun x hx => List.mem_append_right _ (h2 x hx)⟩
/-- for each value of the local i -/
def zspl (m0 i : Nat) (o : zO_) : zO_ := fun m d t => match Nat.beq m m0 with
  | false => none
  | true => (match t.2.2.1.lookup i with
    | none => none
    | some a => if a.1 = 1 then (match zSp t.1 a with
        | none => none
        | some l => zsplL o m d t l) else o m d t)
theorem zOk_spl {m0 i : Nat} {o : zO_} {l : Launch} {X : zx_X} {XL : Nat} {φ : List z_C} {P : List Int → Prop} (h1 : zOk l X XL φ P o) : zOk l X XL φ P (zspl m0 i o) := by
  intro m d t rs h ρ ph lv hp g Q hQ
  unfold zspl at h
  split at h
  · cases h
  · split at h
    · cases h
    · next a ha =>
      split at h
      · next hI =>
        split at h
        · cases h
        · next ls hls =>
          obtain ⟨v, -, gv⟩ := zg_L.look g.2.2.1 ha
          obtain ⟨x, -, ex⟩ := zg_int (by simp [zIs, hI]) gv
          obtain ⟨S', m1, gs⟩ := zSp_g g.1 ex hls
          obtain ⟨r, hr, hm⟩ := zsplL_g h S' m1
          exact h1 m d (S', t.2) r hr ρ ph lv hp ⟨gs, g.2⟩ Q (fun q hq => hQ q (hm q hq))
      · exact h1 m d t rs h ρ ph lv hp g Q hQ
/-- bounds that leave nothing out -/
def zcov : Int → Int → List (Int × Int) → Bool
  | lo, hi, [] => decide (hi < lo)
  | lo, hi, q :: qs => decide (q.1 ≤ lo) && zcov (q.2 + 1) hi qs
theorem zcov_g : ∀ {qs : List (Int × Int)} {lo hi n : Int}, zcov lo hi qs = true → lo ≤ n → n ≤ hi → ∃ q ∈ qs, q.1 ≤ n ∧ n ≤ q.2
  | [], lo, hi, n, h, h1, h2 => by
    have h := of_decide_eq_true h
    omega
  | q :: qs, lo, hi, n, h, h1, h2 => by
    obtain ⟨h3, h4⟩ := zw_and h
    have h3 := of_decide_eq_true h3
    by_cases hq : n ≤ q.2
    · exact ⟨q, List.mem_cons_self, by omega, hq⟩
    · obtain ⟨p, hp, r⟩ := zcov_g h4 (by omega) h2
      exact ⟨p, List.mem_cons_of_mem _ hp, r⟩
/-- a state with narrower bounds of a name -/
def zcvT (te : zA_T) (k : Nat) (q : Int × Int) : zA_T := (zrf te.1 (1, (k : Int)) q, te.2)
theorem zCon_cov {m d : Nat} {te : zA_T} {gs : List Nat} {alts : List zAlt} (k : Nat) (qs : List (Int × Int)) {e : Int × Int × zA_D} (hk : te.1[k]? = some e) (hc : zcov e.1 e.2.1 qs = true) (h : ∀ q ∈ qs, zCon m d (zcvT te k q) gs alts) : zCon m d te gs alts := by
  intro l X φ Q ρ ph lv g hQ
  obtain ⟨n, en, b1, b2, -⟩ := zL2.getR g.1 hk
  obtain ⟨q, hq, c1, c2⟩ := zcov_g hc b1 b2
  exact h q hq l X φ Q ρ ph lv ⟨zrf_g g.1 (zEk en) c1 c2, g.2⟩ hQ
