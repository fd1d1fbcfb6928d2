/-! PARTS 46.93.same to 46.997.whose -/
section
/-! PART 46.93: runs that leave what is told. Made by wip/v4/gen_rest.py. -/
/-- t is as s in all that is told -/
def zSm (s t : zy_S) : Prop := zy_Wb t = true ∧ zRg t ∧ (∀ c k, zto c k = true → t.1 c k = s.1 c k) ∧ (∀ d, d < 6 → t.2.1 (zy_sh d + 1) = s.2.1 (zy_sh d + 1)) ∧ t.2.1 62 = s.2.1 62
theorem zSm_I {s t : zy_S} (h : zI s) (g : zSm s t) : zI t := zI_same h g.1 g.2.1 g.2.2.1 g.2.2.2.1 g.2.2.2.2
theorem zSm_refl {s : zy_S} (h : zI s) : zSm s s := ⟨h.1, h.2.1, fun _ _ _ => rfl, fun _ _ => rfl, rfl⟩
theorem zSm_trans {s t u : zy_S} (h : zSm s t) (g : zSm t u) : zSm s u := ⟨g.1, g.2.1, fun c k hc => (g.2.2.1 c k hc).trans (h.2.2.1 c k hc), fun d hd => (g.2.2.2.1 d hd).trans (h.2.2.2.1 d hd), g.2.2.2.2.trans h.2.2.2.2⟩
theorem zSm_up {s t : zy_S} {c k : Nat} {x : Int32} (h : zSm s t) (hc : ∀ j, zto c j = false) (hx : k < zrn c → zin x (zrg c k).1 (zrg c k).2) : zSm s (zy_up t c k x) := by
  refine ⟨h.1, zRg_up h.2.1 hx, fun a b hb => ?_, h.2.2.2.1, h.2.2.2.2⟩
  have e : a ≠ c := fun e => by
    rw [e, hc b] at hb
    cases hb
  rw [zf_up e]
  exact h.2.2.1 a b hb
theorem zyR_mono {X : zx_X} {d m pc : Nat} {lv : List (Option Value)} {st : List Value} {s : zy_S} {P P' : Option Value → zy_S → Prop} (h : ∀ u t, P u t → P' u t) (k : zyR X d m pc lv st s P) : zyR X d m pc lv st s P' := fun l Q hQ => k l Q (fun v s' p => hQ v s' (h v s' p))
theorem zEu {ρ : List Int} (x : Int32) : zg_E ρ x.toInt ((.negSucc 2147483647), (.ofNat 2147483647), zD0) := ⟨by have := zq_lo x; show (-2147483648 : Int) ≤ x.toInt; omega, by have := zq_hi x; show x.toInt ≤ (2147483647 : Int); omega, Or.inl rfl⟩
theorem zEr {ρ : List Int} {x : Int32} {lo hi : Int} (h1 : lo ≤ x.toInt) (h2 : x.toInt ≤ hi) : zg_E ρ x.toInt (lo, hi, zD0) := ⟨h1, h2, Or.inl rfl⟩
theorem zVi {ρ : List Int} {a : zA_V} {x : Int32} (h : a.1 = 1) (h2 : ρ[a.2.toNat]? = some x.toInt) : zg_V ρ a (.int x) := Or.inr (Or.inl ⟨h, x, rfl, h2⟩)
theorem zVr {ρ : List Int} {a : zA_V} {r : Nat} (h : a.1 = 2) (h2 : a.2.toNat = r) : zg_V ρ a (.ref r) := Or.inr (Or.inr (Or.inl ⟨h, by rw [h2]⟩))
/-- a contract whose ends are heaps in wide words, as a run -/
theorem zcR0 {m d : Nat} {te : zA_T} {gs : List Nat} {al : List zAlt} {Pr : Option Value → Prop} (hc : zCon m d te gs al) (ha : al.all (fun alt => zfrL 0 alt.2.2.1 zHT) = true) (hr : ∀ alt ∈ al, ∀ G vals v, zAok G vals alt → zg_R vals alt.2.2.2 v → Pr v) (eH : zfrL 0 te.2.1 zHT = true) (e2 : te.2.2.2.2 = zmc m) (e0 : te.2.2.2.1 = []) {s : zy_S} (hw : zy_Wb s = true) (hg : zRg s) {ρ : List Int} {L : List (Option Value)} (gS : zg_S ρ te.1) (gL : zg_L ρ te.2.2.1 (zy_lf 0 L)) (X : zx_X) : zyR X d m 0 L [] s (fun u t => zSm s t ∧ Pr u) := by
  intro l Q hQ
  have gT : ∀ ρ', zL2 (zg_C (zy_hp s) ρ') zHT (zy_hp s) := fun ρ' => zL2.mono (fun _ _ => zg_C.mono (fun k n q => by simp at q)) (zb_to hg (zy_Wb_g hw))
  have hφ : ∀ k, (zy_hp s)[0 + k]? = (zy_hp s)[k]? := fun k => by rw [Nat.zero_add]
  have gH := zfrL_to eH hφ (gT ρ)
  have := hc l X (zy_hp s) Q ρ (zy_hp s) (zy_lf 0 L) ⟨gS, gH, gL, by rw [e0]; trivial, zg_Xno _ _ _ (by decide) (by decide)⟩ (fun alt hal vals hv v ph' g gR => by
    have a1 := List.all_eq_true.mp ha alt hal
    have g := zfrL_back a1 hφ (gT vals) g
    obtain ⟨e, k⟩ := zb_back zb_all g
    have hJ := zH_J k
    rw [e]
    exact hQ v _ ⟨⟨zy_Wb_of (zb_W rfl g), zH_rg hg k, fun c k' hc' => zH_to k hc', hJ.1, hJ.2⟩, hr alt hal _ _ _ hv gR⟩)
  rw [e2] at this
  exact this
end
section
/-! PART 46.94: element. Made by wip/v4/gen_rest.py. -/
theorem zop_element (x y : Int32) {s : zy_S} (h : zI s) : ∃ (r : Int64) (s1 s2 : zy_S), zyF170 x y s = some (r, s1) ∧ zyF261 x y s1 = some (r, s2) ∧ zI s2 := by
  obtain ⟨hw, hg, h1, h2, h3, h4, h5, h6, h7, h8, h9, h10, h11, h12, h13, h14, h15, h16, h17, h18, h19, h20, h21⟩ := id h
  obtain ⟨e14, b0, b1⟩ := id h14
  by_cases hx : 0 ≤ x.toInt ∧ x.toInt ≤ 5
  · obtain ⟨hin, hd, hxd⟩ := zx6 hx
    obtain ⟨d, hdd⟩ : ∃ d, d = x.toNatClampNeg := ⟨_, rfl⟩
    rw [← hdd] at hd hxd
    obtain ⟨q1, ⟨n0, n1⟩, q3⟩ := h20 d hd
    obtain ⟨r, hr⟩ : ∃ r, r = zyrf (s.1 (zy_sh d) 1).toInt (s.1 (zy_sh d) 2).toInt (s.1 (zy_sh d) 3).toInt y.toInt := ⟨_, rfl⟩
    have k1 : zyF167 (zy_sh d) y s = some (r, s) := by
      rw [hr]
      exact zys167 (c := zy_sh d) y (s := s) ⟨n0, n1⟩
    have k2 : zyF259 x y s = some (r, s) := by
      have := zys259 (x := x) y (s := s) h20 b1 hx
      rw [← hdd, ← hr] at this
      exact this
    by_cases hr0 : r = 0
    · obtain ⟨t1, y0, y1⟩ := zyrf_r (hr.symm.trans hr0)
      have hyin : zy_in y 60 = true := zq_in.mpr ⟨y0, by omega⟩
      have em : ((60 : Int32) * x).toInt = 60 * (d : Int) := by rw [zq_mul (by rw [zq_l60, hxd]; omega) (by rw [zq_l60, hxd]; omega), zq_l60, hxd]
      have ea : ((60 : Int32) * x + y).toInt = 60 * (d : Int) + y.toInt := by rw [zq_add (by rw [em]; omega) (by rw [em]; omega), em]
      have hain : zy_in ((60 : Int32) * x + y) 360 = true := zq_in.mpr ⟨by omega, by omega⟩
      have ey : (y.toNatClampNeg : Int) = y.toInt := by rw [zq_ix]; omega
      have eai : ((60 : Int32) * x + y).toNatClampNeg = 60 * d + y.toNatClampNeg := by rw [zq_ix, ea]; omega
      have hj := (h21 d hd y.toNatClampNeg (by omega)).1
      refine ⟨s.2.1 (zy_sh d + 1) y.toNatClampNeg, s, s, ?_, ?_, h⟩
      · unfold zyF170
        simp only [zys18, zq_bind, zqb_e0, decide_eq_false_iff_not]
        rw [if_neg (not_not_intro hx), if_pos hin, if_pos hw, ← hdd, k1]
        simp only [zq_bind]
        rw [if_neg (show ¬ (r ≠ 0) from fun q => q hr0), if_pos hin, if_pos hw, if_pos hyin]
      · unfold zyF261
        rw [k2]
        simp only [zq_bind]
        rw [if_pos hr0, if_pos hain, eai, ← hj]
    · refine ⟨(-9223372036854775808 : Int64), s, s, ?_, ?_, h⟩
      · unfold zyF170
        simp only [zys18, zq_bind, zqb_e0, decide_eq_false_iff_not]
        rw [if_neg (not_not_intro hx), if_pos hin, if_pos hw, ← hdd, k1]
        simp only [zq_bind]
        rw [if_pos hr0]
      · unfold zyF261
        rw [k2]
        simp only [zq_bind]
        rw [if_neg hr0]
  · refine ⟨(-9223372036854775808 : Int64), s, s, ?_, ?_, h⟩
    · unfold zyF170
      simp only [zys18, zq_bind, zqb_e0, decide_eq_false_iff_not]
      rw [if_pos hx]
    · have k3 : zyF259 x y s = some (-1, s) := by
        unfold zyF259
        simp only [zys182, zq_bind, zqb_n0, decide_eq_true_eq]
        rw [if_neg hx]
      unfold zyF261
      rw [k3]
      simp only [zq_bind]
      rw [if_neg (by decide)]
end
section
/-! PART 46.95: the model's search for the nearest board. Made by wip/v4/gen_rest.py. -/
def znb (k : Nat) : Nat := zpopN 24 k
theorem znb_le : ∀ k, k < 16 → znb k ≤ 4 := by decide +kernel
theorem znb_0 : znb 0 = 0 := by decide +kernel
theorem znb_x {x : Int32} {k : Nat} (h : x.toInt = (k : Int)) (hk : k < 16) (s : zy_S) : zyF209 x s = some (zpc x, s) ∧ (zpc x).toInt = ((znb k : Nat) : Int) := by
  refine ⟨zys209 s (by omega) (by omega), ?_⟩
  have b : zpopN 24 k ≤ 24 := zpopN_le k 24
  unfold zpc zpo znb
  rw [h, Int.toNat_natCast]
  exact Int32.toInt_ofInt_of_le (by omega) (by omega)
theorem zq_lM : (1000000 : Int32).toInt = 1000000 := rfl
/-- x is what a choice of lines of the matter m gives, with room for c -/
def znA (s t : zy_S) (m c : Nat) (x : Int) (q : Nat) : Prop := ∃ k, k < q ∧ znb k ≤ c ∧ x = (s.1 53 (16 * (m - 1) + k)).toInt + (t.1 52 (10 * (m - 1) + (c - znb k))).toInt
theorem znA_up {s t : zy_S} {m c q q' : Nat} {x : Int} (h : q ≤ q') (g : znA s t m c x q) : znA s t m c x q' := by
  obtain ⟨k, h1, h2⟩ := g
  exact ⟨k, by omega, h2⟩
theorem znA_of {s t t' : zy_S} {m c q N : Nat} {x : Int} (h : ∀ j, j < N → t'.1 52 j = t.1 52 j) (hm : 1 ≤ m) (hN : 10 * m + c ≤ N) (g : znA s t m c x q) : znA s t' m c x q := by
  obtain ⟨k, h1, h2, h3⟩ := g
  exact ⟨k, h1, h2, by rw [h _ (by omega)]; exact h3⟩
/-- the table up to a place -/
def znT (s t : zy_S) (n : Nat) : Prop := ∀ m c : Nat, m ≤ 6 → c ≤ 9 → 10 * m + c < n → 0 ≤ (t.1 52 (10 * m + c)).toInt ∧ (t.1 52 (10 * m + c)).toInt ≤ 792 * (m : Int) ∧ (1 ≤ m → znA s t m c (t.1 52 (10 * m + c)).toInt 16)
def zX52 (s t : zy_S) : Prop := t.2 = s.2 ∧ ∀ a b, a ≠ 52 → t.1 a b = s.1 a b
theorem zrg_52 : ∀ k, k < 70 → zrg 52 k = (0, 1000000) := by decide +kernel
theorem zrg_53 : ∀ k, k < 96 → zrg 53 k = (0, 792) := by decide +kernel
theorem zrn_52 : zrn 52 = 70 ∧ zrn 53 = 96 ∧ zrn 44 = 41 ∧ zrg 44 40 = (1, 9) := by decide +kernel
end
section
/-! PART 46.96: the heap as the constructors leave it. Made by wip/v4/gen_start.py. -/
def zH0 : zA_H := [(0, 0, 0, [(2, (.ofNat 4)), (2, (.ofNat 8)), (2, (.ofNat 12)), (2, (.ofNat 15)), (2, (.ofNat 18)), (2, (.ofNat 19)), (2, (.ofNat 20)), (2, (.ofNat 25)), (2, (.ofNat 30)), (2, (.ofNat 33))], []),
  (0, 1, 0, [(2, (.ofNat 5)), (2, (.ofNat 6)), (2, (.ofNat 7)), (0, (.ofNat 0)), (0, (.ofNat 9)), (0, (.ofNat 0))], []),
  (1, 0, 24, [(0, (.ofNat 0))], []),
  (1, 0, 8, [(0, (.ofNat 0))], []),
  (1, 0, 8, [(0, (.ofNat 0))], []),
  (0, 2, 0, [(2, (.ofNat 9)), (2, (.ofNat 10)), (2, (.ofNat 11)), (0, (.ofNat 0)), (0, (.ofNat 0))], []),
  (1, 0, 128, [(0, (.ofNat 0))], []),
  (1, 0, 128, [(0, (.ofNat 0))], []),
  (1, 0, 6, [(0, (.ofNat 0))], []),
  (0, 3, 0, [(2, (.ofNat 13)), (2, (.ofNat 14)), (0, (.ofNat 0)), (0, (.ofNat 0)), (0, (.ofNat 0)), (0, (.ofNat 0))], []),
  (1, 0, 120, [(0, (.ofNat 0))], []),
  (1, 0, 128, [(0, (.ofNat 0))], []),
  (0, 4, 0, [(2, (.ofNat 4)), (2, (.ofNat 8)), (2, (.ofNat 16)), (2, (.ofNat 17)), (0, (.ofNat 0)), (0, (.ofNat 0))], []),
  (1, 0, 1536, [(0, (.ofNat 0))], []),
  (1, 0, 70, [(0, (.ofNat 0))], []),
  (0, 5, 0, [(2, (.ofNat 4)), (2, (.ofNat 15)), (0, (.ofNat 0)), (0, (.ofNat 24))], []),
  (0, 6, 0, [(2, (.ofNat 4))], []),
  (0, 7, 0, [(2, (.ofNat 4)), (2, (.ofNat 21)), (0, (.ofNat 0)), (0, (.ofNat 0)), (0, (.ofNat 0)), (2, (.ofNat 22)), (2, (.ofNat 23)), (2, (.ofNat 24))], []),
  (1, 0, 5, [(0, (.ofNat 0))], []),
  (1, 0, 24, [(0, (.ofNat 0))], []),
  (1, 0, 8, [(0, (.ofNat 0))], []),
  (1, 0, 5, [(0, (.ofNat 0))], []),
  (0, 8, 0, [(2, (.ofNat 4)), (2, (.ofNat 26)), (2, (.ofNat 27)), (2, (.ofNat 28)), (2, (.ofNat 29)), (0, (.ofNat 0)), (0, (.ofNat 0))], []),
  (1, 0, 40, [(0, (.ofNat 0))], []),
  (1, 0, 40, [(0, (.ofNat 0))], []),
  (1, 0, 40, [(0, (.ofNat 0))], []),
  (1, 0, 40, [(0, (.ofNat 0))], []),
  (0, 9, 0, [(2, (.ofNat 31)), (2, (.ofNat 32)), (0, (.ofNat 0)), (0, (.ofNat 0))], []),
  (1, 0, 50, [(0, (.ofNat 0))], []),
  (1, 0, 24, [(0, (.ofNat 0))], []),
  (1, 2, 6, [(3, (.ofNat 0))], [(5, (2, (.ofNat 44))), (4, (2, (.ofNat 42))), (3, (2, (.ofNat 40))), (2, (2, (.ofNat 38))), (1, (2, (.ofNat 36))), (0, (2, (.ofNat 34)))]),
  (0, 10, 0, [(2, (.ofNat 35)), (0, (.negSucc 0)), (0, (.negSucc 0)), (0, (.ofNat 0))], []),
  (1, 1, 60, [(4, (.ofNat 0))], []),
  (0, 10, 0, [(2, (.ofNat 37)), (0, (.negSucc 0)), (0, (.negSucc 0)), (0, (.ofNat 0))], []),
  (1, 1, 60, [(4, (.ofNat 0))], []),
  (0, 10, 0, [(2, (.ofNat 39)), (0, (.negSucc 0)), (0, (.negSucc 0)), (0, (.ofNat 0))], []),
  (1, 1, 60, [(4, (.ofNat 0))], []),
  (0, 10, 0, [(2, (.ofNat 41)), (0, (.negSucc 0)), (0, (.negSucc 0)), (0, (.ofNat 0))], []),
  (1, 1, 60, [(4, (.ofNat 0))], []),
  (0, 10, 0, [(2, (.ofNat 43)), (0, (.negSucc 0)), (0, (.negSucc 0)), (0, (.ofNat 0))], []),
  (1, 1, 60, [(4, (.ofNat 0))], []),
  (0, 10, 0, [(2, (.ofNat 45)), (0, (.negSucc 0)), (0, (.negSucc 0)), (0, (.ofNat 0))], []),
  (1, 1, 60, [(4, (.ofNat 0))], []),
  (0, 11, 0, [(2, (.ofNat 47)), (2, (.ofNat 48)), (2, (.ofNat 49)), (2, (.ofNat 50)), (0, (.ofNat 0)), (0, (.ofNat 0)), (0, (.ofNat 0)), (0, (.ofNat 0)), (2, (.ofNat 51)), (0, (.ofNat 0)), (2, (.ofNat 52)), (0, (.negSucc 0)), (0, (.ofNat 0)), (0, (.ofNat 0)), (0, (.ofNat 0)), (0, (.ofNat 0)), (0, (.ofNat 0)), (2, (.ofNat 53)), (2, (.ofNat 54)), (2, (.ofNat 55)), (2, (.ofNat 56)), (2, (.ofNat 57)), (0, (.ofNat 0)), (0, (.ofNat 0)), (0, (.ofNat 0)), (2, (.ofNat 58)), (2, (.ofNat 59)), (2, (.ofNat 60)), (0, (.ofNat 0)), (2, (.ofNat 61)), (2, (.ofNat 62)), (0, (.ofNat 0)), (0, (.ofNat 0)), (0, (.ofNat 0)), (2, (.ofNat 63)), (2, (.ofNat 64)), (2, (.ofNat 65)), (2, (.ofNat 66))], []),
  (1, 0, 41, [(0, (.ofNat 0))], [(40, (0, (.ofNat 9)))]),
  (1, 0, 40, [(0, (.ofNat 0))], []),
  (1, 0, 40, [(0, (.ofNat 0))], []),
  (1, 0, 40, [(0, (.ofNat 0))], []),
  (1, 0, 120, [(0, (.ofNat 0))], []),
  (1, 0, 120, [(0, (.ofNat 0))], []),
  (1, 0, 6, [(0, (.ofNat 0))], []),
  (1, 0, 24, [(0, (.ofNat 0))], []),
  (1, 0, 70, [(0, (.ofNat 0))], []),
  (1, 0, 96, [(0, (.ofNat 0))], []),
  (1, 0, 5, [(0, (.ofNat 0))], []),
  (1, 0, 8, [(0, (.ofNat 0))], []),
  (1, 0, 24, [(0, (.ofNat 0))], []),
  (1, 0, 5, [(0, (.ofNat 0))], []),
  (1, 0, 50, [(0, (.ofNat 0))], []),
  (1, 0, 24, [(0, (.ofNat 0))], []),
  (1, 0, 6, [(0, (.ofNat 0))], [(5, (0, (.negSucc 0))), (4, (0, (.negSucc 0))), (3, (0, (.negSucc 0))), (2, (0, (.negSucc 0))), (1, (0, (.negSucc 0))), (0, (0, (.negSucc 0)))]),
  (1, 0, 6, [(0, (.ofNat 0))], []),
  (1, 1, 360, [(4, (.ofNat 0))], []),
  (1, 1, 60, [(4, (.ofNat 0))], [])]
/-- a cell of the start: all is exact -/
def zsC (i : Nat) (a : zA_C) (t : zy_T) : Bool :=
  if t.1 = 1 then decide (a.1 = 1 ∧ a.2.1 = 0 ∧ a.2.2.1 = t.2.1)
  else if t.1 = 2 then decide (a.1 = 1 ∧ a.2.1 = 1 ∧ a.2.2.1 = t.2.1)
  else zbC true i a t
def zsA : Nat → zA_H → List zy_T → Bool
  | _, [], [] => true
  | i, a :: as, t :: ts => zsC i a t && zsA (i + 1) as ts
  | _, _, _ => false
theorem zsA_at : ∀ {i : Nat} {H : zA_H} {ts : List zy_T}, zsA i H ts = true → H.length = ts.length ∧ ∀ (j : Nat) (a : zA_C) (t : zy_T), H[j]? = some a → ts[j]? = some t → zsC (i + j) a t = true
  | _, [], [], _ => ⟨rfl, fun j a t h => by cases h⟩
  | i, a :: as, t :: ts, h => by
    obtain ⟨h1, h4⟩ := zw_and h
    obtain ⟨k1, k2⟩ := zsA_at h4
    refine ⟨congrArg (· + 1) k1, fun j b u hj hu => ?_⟩
    cases j with
    | zero =>
      cases hj
      cases hu
      exact h1
    | succ j =>
      have := k2 j b u hj hu
      rw [show i + 1 + j = i + (j + 1) by omega] at this
      exact this
  | _, [], _ :: _, h => by cases h
  | _, _ :: _, [], h => by cases h
theorem zsA_all : zsA 0 zH0 zy_tm = true := by decide +kernel
/-- what the cell i of the start says of the functions -/
def zsK (s' : zy_S) (ρ : List Int) (i : Nat) (a : zA_C) : Prop :=
  (a.1 = 0 → ∀ k v, a.2.2.2.1[k]? = some v → v.1 = 6 ∨ v.1 = 0 → zg_V ρ v (.int (s'.1 i k))) ∧
  (a.1 = 1 → a.2.1 = 0 → ∀ j, j < a.2.2.1 → zg_V ρ (zx_el a j) (.int (s'.1 i j))) ∧
  (∀ t, zy_tm[i]? = some t → t.1 = 2 → ∀ j, j < a.2.2.1 → zg_V ρ (zx_el a j) (.long (s'.2.1 i j)))
theorem zs_cell {s : zy_S} {ρ : List Int} {ph : List z_C} {i : Nat} {a : zA_C} {c : z_C} {t : zy_T} (ht : zy_tm[i]? = some t) (hc : zsC i a t = true) (hx : ph[i]? = some c) (g : zg_C (zy_hp s) ρ a c) (h30 : t.1 = 3 → i = 30) : c = zy_cl (zrdS ph) i t ∧ zsK (zrdS ph) ρ i a := by
  unfold zsC at hc
  split at hc
  · next t1 =>
    obtain ⟨a0, a1, a2⟩ := of_decide_eq_true hc
    obtain ⟨f, e, gf, -⟩ := zg_CI a0 a1 g
    rw [a2] at e
    have k : (zrdS ph).1 i = f := by
      funext k
      show (match ph[i]? with | some (.inr (_, fs)) => (match fs[k]? with | some (.int x) => x | _ => 0) | some (.inl (_, _, .inl f)) => f k | _ => 0) = _
      rw [hx, e]
      rfl
    refine ⟨by unfold zy_cl; rw [if_neg (by omega), if_pos t1, k]; exact e, fun h => by omega, fun _ _ j hj => ?_, fun t' ht' h2 => ?_⟩
    · rw [k]
      exact gf j hj
    · rw [ht] at ht'
      cases ht'
      omega
  · next t1 =>
    split at hc
    · next t2 =>
      obtain ⟨a0, a1, a2⟩ := of_decide_eq_true hc
      obtain ⟨f, e, gf, -⟩ := zg_CJ a0 a1 g
      rw [a2] at e
      have k : (zrdS ph).2.1 i = f := by
        funext k
        show (match ph[i]? with | some (.inl (_, _, .inr (.inl f))) => f k | _ => 0) = _
        rw [hx, e]
        rfl
      refine ⟨by unfold zy_cl; rw [if_neg (by omega), if_neg t1, if_pos t2, k]; exact e, fun h => by omega, fun _ h => by omega, fun _ _ _ j hj => ?_⟩
      rw [k]
      exact gf j hj
    · next t2 =>
      obtain ⟨k1, k2⟩ := zb_cell ht hc hx g h30
      refine ⟨k1, fun h => (k2.1 h).1, k2.2.2, fun t' ht' h2 => ?_⟩
      rw [ht] at ht'
      cases ht'
      exact absurd h2 t2
theorem zs_back {s : zy_S} {H : zA_H} (hA : zsA 0 H zy_tm = true) {ρ : List Int} {ph : List z_C} (g : zL2 (zg_C (zy_hp s) ρ) H ph) : ph = zy_hp (zrdS ph) ∧ ∀ (i : Nat) (a : zA_C), H[i]? = some a → zsK (zrdS ph) ρ i a := by
  have hl := (zsA_at hA).1
  have hlen := zL2.len g
  have tmof : ∀ (i : Nat) (a : zA_C), H[i]? = some a → ∃ t, zy_tm[i]? = some t ∧ zsC i a t = true := fun i a ha => by
    have hi : i < H.length := (List.getElem?_eq_some_iff.mp ha).1
    have ht : zy_tm[i]? = some (zy_tm[i]'(by omega)) := List.getElem?_eq_getElem (by omega)
    have := (zsA_at hA).2 i a _ ha ht
    rw [Nat.zero_add] at this
    exact ⟨_, ht, this⟩
  constructor
  · apply List.ext_getElem?
    intro i
    cases hx : ph[i]? with
    | none =>
      have := List.getElem?_eq_none_iff.mp hx
      rw [List.getElem?_eq_none (by simp [zy_hp_eq]; omega)]
    | some c =>
      obtain ⟨a, ha, gc⟩ := zL2.getR g hx
      obtain ⟨t, ht, hc⟩ := tmof i a ha
      rw [zy_at ht]
      rw [← (zs_cell ht hc hx gc (z30_of ht)).1]
  · intro i a ha
    obtain ⟨c, hx, gc⟩ := zL2.get g ha
    obtain ⟨t, ht, hc⟩ := tmof i a ha
    exact (zs_cell ht hc hx gc (z30_of ht)).2
theorem zV0 {ρ : List Int} {v : zA_V} {x : Int32} (h : v.1 = 0) (g : zg_V ρ v (.int x)) : x.toInt = v.2 := by
  rcases g with ⟨-, y, e, en⟩ | ⟨q, -⟩ | ⟨q, -⟩ | ⟨q, -⟩ | ⟨q, -⟩ | ⟨q, -⟩ | ⟨q, -⟩
  · cases e
    exact en
  all_goals omega
theorem zV4 {ρ : List Int} {v : zA_V} {x : Int64} (h : v.1 = 4) (g : zg_V ρ v (.long x)) : x.toInt = v.2 := by
  rcases g with ⟨q, -⟩ | ⟨q, -⟩ | ⟨q, -⟩ | ⟨q, -⟩ | ⟨-, y, e, en⟩ | ⟨q, -⟩ | ⟨q, -⟩
  all_goals first
    | omega
    | (cases e; exact en)
/-- an int of the start -/
def zsv (c k : Nat) : Option Int := match zH0[c]? with
  | some a => if a.1 = 0 then (match a.2.2.2.1[k]? with
    | some v => if v.1 = 0 then some v.2 else none
    | none => none) else if a.1 = 1 ∧ a.2.1 = 0 ∧ k < a.2.2.1 ∧ (zx_el a k).1 = 0 then some (zx_el a k).2 else none
  | none => none
def zsR (c k : Nat) : Bool := match zsv c k with
  | some n => decide ((zrg c k).1 ≤ n ∧ n ≤ (zrg c k).2)
  | none => decide ((zrg c k).1 = -2147483648 ∧ (zrg c k).2 = 2147483647)
theorem zsR_all : (List.range 64).all (fun c => (List.range (zrn c)).all (fun k => zsR c k)) = true := by decide +kernel
theorem zs_one : zsv 1 5 = some 0 ∧ zsv 43 6 = some 0 ∧ zsv 1 4 = some 9 ∧ zsv 44 40 = some 9 ∧ zsv 1 3 = some 0 ∧ zsv 43 7 = some 0 ∧ zsv 17 2 = some 0 ∧ zsv 43 22 = some 0 ∧ zsv 17 3 = some 0 ∧ zsv 43 24 = some 0 ∧ zsv 17 4 = some 0 ∧ zsv 43 23 = some 0 ∧ zsv 22 5 = some 0 ∧ zsv 43 5 = some 0 ∧ zsv 22 6 = some 0 ∧ zsv 43 4 = some 0 ∧ zsv 27 2 = some 0 ∧ zsv 43 28 = some 0 ∧ zsv 27 3 = some 0 ∧ zsv 43 31 = some 0 ∧ zsv 9 2 = some 0 ∧ zsv 43 9 = some 0 ∧ zsv 5 3 = some 0 ∧ zsv 43 11 = some (-1) := by decide +kernel
theorem zs_r2 : ∀ p, p < 8 → zsv 3 p = some 0 ∧ zsv 44 (p) = some 0 := by decide +kernel
theorem zs_r3 : ∀ p, p < 8 → zsv 4 p = some 0 ∧ zsv 44 (8 + p) = some 0 := by decide +kernel
theorem zs_r4 : ∀ p, p < 24 → zsv 2 p = some 0 ∧ zsv 44 (16 + p) = some 0 := by decide +kernel
theorem zs_r7 : ∀ p, p < 5 → zsv 18 p = some 0 ∧ zsv 54 (p) = some 0 := by decide +kernel
theorem zs_r10 : ∀ p, p < 24 → zsv 19 p = some 0 ∧ zsv 56 (p) = some 0 := by decide +kernel
theorem zs_r11 : ∀ p, p < 5 → zsv 21 p = some 0 ∧ zsv 57 (p) = some 0 := by decide +kernel
theorem zs_r15 : ∀ p, p < 50 → zsv 28 p = some 0 ∧ zsv 58 (p) = some 0 := by decide +kernel
theorem zs_r17 : ∀ p, p < 24 → zsv 29 p = some 0 ∧ zsv 59 (p) = some 0 := by decide +kernel
theorem zs_r19 : ∀ p, p < 120 → zsv 10 p = some 0 ∧ zsv 48 (p) = some 0 := by decide +kernel
theorem zs_sh : ∀ d, d < 6 → zsv (zy_sh d) 1 = some (-1) ∧ zsv (zy_sh d) 2 = some (-1) ∧ zsv (zy_sh d) 3 = some 0 ∧ zsv 60 d = some (-1) ∧ zsv 61 d = some 0 := by decide +kernel
theorem zs_J : ∀ d, d < 6 → zH0[zy_sh d + 1]? = some (1, 1, 60, [(4, 0)], []) ∧ (zy_tm[zy_sh d + 1]?).map (fun t => t.1) = some 2 := by
  intro d hd
  rcases (by omega : d = 0 ∨ d = 1 ∨ d = 2 ∨ d = 3 ∨ d = 4 ∨ d = 5) with rfl | rfl | rfl | rfl | rfl | rfl <;> exact ⟨rfl, rfl⟩
section ZS
variable {s : zy_S} {ρ : List Int}
theorem zsv_at (hK : ∀ (i : Nat) (a : zA_C), zH0[i]? = some a → zsK s ρ i a) {c k : Nat} {n : Int} (h : zsv c k = some n) : (s.1 c k).toInt = n := by
  unfold zsv at h
  split at h
  · next a ha =>
    obtain ⟨k0, k1, -⟩ := hK c a ha
    split at h
    · next h0 =>
      split at h
      · next v hv =>
        split at h
        · next v0 =>
          cases h
          exact zV0 v0 (k0 h0 k v hv (Or.inr v0))
        · cases h
      · cases h
    · split at h
      · next h1 =>
        cases h
        obtain ⟨a1, a2, a3, a4⟩ := h1
        exact zV0 a4 (k1 a1 a2 k a3)
      · cases h
  · cases h
theorem zsJ_at (hK : ∀ (i : Nat) (a : zA_C), zH0[i]? = some a → zsK s ρ i a) {c n : Nat} (hc : zH0[c]? = some (1, 1, n, [(4, 0)], [])) (ht : (zy_tm[c]?).map (fun t => t.1) = some 2) {j : Nat} (hj : j < n) : s.2.1 c j = 0 := by
  obtain ⟨t, ht', h2⟩ := Option.map_eq_some_iff.mp ht
  have := (hK c _ hc).2.2 t ht' h2 j hj
  exact zq_eqJ.mpr (zV4 rfl this)
theorem zI_start (hK : ∀ (i : Nat) (a : zA_C), zH0[i]? = some a → zsK s ρ i a) (hW : zy_W s) : zI s := by
  have v : ∀ {c k : Nat} {n : Int}, zsv c k = some n → (s.1 c k).toInt = n := fun h => zsv_at hK h
  have eq : ∀ {c k c' k' : Nat} {n : Int}, zsv c k = some n → zsv c' k' = some n → s.1 c k = s.1 c' k' := fun h1 h2 => zq_ext (by rw [v h1, v h2])
  have vin : ∀ {c k : Nat} {n lo hi : Int}, zsv c k = some n → lo ≤ n → n ≤ hi → zin (s.1 c k) lo hi := fun h h1 h2 => by
    unfold zin
    rw [v h]
    exact ⟨h1, h2⟩
  have hg : zRg s := by
    intro c k hk
    have hc : c < 64 := by
      rcases Nat.lt_or_ge c 64 with q | q
      · exact q
      · unfold zrn at hk
        rw [List.getElem?_eq_none (show zy_tm.length ≤ c from q)] at hk
        cases hk
    have := List.all_eq_true.mp (List.all_eq_true.mp zsR_all c (List.mem_range.mpr hc)) k (List.mem_range.mpr hk)
    unfold zsR at this
    split at this
    · next n hn =>
      obtain ⟨a, b⟩ := of_decide_eq_true this
      exact vin hn a b
    · obtain ⟨a, b⟩ := of_decide_eq_true this
      unfold zin
      rw [a, b]
      exact ⟨zq_lo _, zq_hi _⟩
  obtain ⟨o1_5, o43_6, o1_4, o44_40, o1_3, o43_7, o17_2, o43_22, o17_3, o43_24, o17_4, o43_23, o22_5, o43_5, o22_6, o43_4, o27_2, o43_28, o27_3, o43_31, o9_2, o43_9, o5_3, o43_11⟩ := zs_one
  refine ⟨zy_Wb_of hW, hg, ⟨(eq o1_5 o43_6), (vin o1_5 (by decide) (by decide))⟩, (fun p hp => ⟨eq (zs_r2 p hp).1 (zs_r2 p hp).2, vin (zs_r2 p hp).1 (by decide) (by decide)⟩), (fun p hp => ⟨eq (zs_r3 p hp).1 (zs_r3 p hp).2, vin (zs_r3 p hp).1 (by decide) (by decide)⟩), (fun p hp => ⟨eq (zs_r4 p hp).1 (zs_r4 p hp).2, vin (zs_r4 p hp).1 (by decide) (by decide)⟩), ⟨(eq o1_4 o44_40), (vin o1_4 (by decide) (by decide))⟩, ⟨(eq o1_3 o43_7), (vin o1_3 (by decide) (by decide))⟩, (fun p hp => eq (zs_r7 p hp).1 (zs_r7 p hp).2), ⟨⟨(eq o17_2 o43_22), (vin o17_2 (by decide) (by decide))⟩, ⟨(eq o17_3 o43_24), (vin o17_3 (by decide) (by decide))⟩, (eq o17_4 o43_23), (vin o17_4 (by decide) (by rw [v o1_5]; decide))⟩, (fun p hp => by rw [v o17_4] at hp; omega), (fun p hp => ⟨eq (zs_r10 p hp).1 (zs_r10 p hp).2, vin (zs_r10 p hp).1 (by decide) (by decide)⟩), (fun p hp => eq (zs_r11 p hp).1 (zs_r11 p hp).2), ⟨(eq o22_5 o43_5), (eq o22_6 o43_4), (by rw [v o22_5]; decide), (by rw [v o22_5, v o22_6]; decide), (by rw [v o22_6]; decide)⟩, (fun p hp => by rw [v o22_6] at hp; omega), ⟨(eq o27_2 o43_28), (vin o27_2 (by decide) (by decide))⟩, (fun p hp => ⟨eq (zs_r15 p hp).1 (zs_r15 p hp).2, vin (zs_r15 p hp).1 (by decide) (by decide)⟩), ⟨(eq o27_3 o43_31), (vin o27_3 (by decide) (by decide))⟩, (fun p hp => eq (zs_r17 p hp).1 (zs_r17 p hp).2), ⟨(eq o9_2 o43_9), (vin o9_2 (by decide) (by decide))⟩, ⟨(fun p hp => ⟨eq (zs_r19 p hp).1 (zs_r19 p hp).2, vin (zs_r19 p hp).1 (by decide) (by decide)⟩), Or.inl ⟨zq_ext (v o5_3), zq_ext (v o43_11)⟩⟩, (fun d hd => by
    obtain ⟨u1, u2, u3, u4, u5⟩ := zs_sh d hd
    exact ⟨eq u3 u5, vin u3 (by decide) (by decide), Or.inl ⟨v u2, eq u1 u4, (by rw [v u1]; decide), (by rw [v u1, v o27_2]; decide), v u3⟩⟩), (fun d hd j hj => by
    obtain ⟨j1, j2⟩ := zs_J d hd
    have e1 := zsJ_at hK j1 j2 hj
    have e2 := zsJ_at hK (c := 62) (n := 360) rfl rfl (show 60 * d + j < 360 by omega)
    rw [e1, e2]
    exact ⟨rfl, fun _ => by decide, fun _ => by decide⟩)⟩
end ZS
end
section
/-! PART 46.97: of, led, taken. Made by wip/v4/gen_q.py. -/
theorem zop_of (n w : Int32) {s : zy_S} (h : zI s) : ∃ r s1 s2, zyF31 n w s = some (r, s1) ∧ zyF188 n w s1 = some (r, s2) ∧ zI s2 := by
  obtain ⟨hw, hg, h1, h2, h3, h4, h5, h6, h7, h8, h9, h10, h11, h12, h13, h14, h15, h16, h17, h18, h19, h20, h21⟩ := id h
  obtain ⟨e1, p0, p1⟩ := id h1
  have hp : zin (s.1 43 6) 0 8 := by rw [← e1]; exact ⟨p0, p1⟩
  obtain ⟨q, fq, eq⟩ := zys184 n w hp
  have yes : ∀ k : Nat, q.toInt = (k : Int) → k < 41 → zyF188 n w s = some (s.1 44 k, s) := by
    intro k e hk
    have ek : q.toNatClampNeg = k := by rw [zq_ix]; omega
    unfold zyF188
    rw [fq]
    simp only [zq_bind]
    rw [if_neg (by rw [Int32.lt_iff_toInt_lt, zq_l0]; omega), if_pos (zq_in.mpr ⟨by omega, by omega⟩), ek]
  have no : q.toInt < 0 → w ≠ 4 → zyF188 n w s = some (-1, s) := by
    intro e hw4
    unfold zyF188
    rw [fq]
    simp only [zq_bind]
    rw [if_pos (by rw [Int32.lt_iff_toInt_lt, zq_l0]; exact e), if_pos hw4]
  by_cases w4 : w = 4
  · subst w4
    have eq' : q.toInt = -1 := by
      rw [eq]
      unfold zqp
      rw [if_neg (by decide), if_neg (by decide), if_neg (by decide)]
    by_cases hn : 0 ≤ n.toInt ∧ n.toInt ≤ 23
    · refine ⟨((s.1 1 3) >>> (n &&& 31)) &&& (1 : Int32), s, s, ?_, ?_, h⟩
      · unfold zyF31
        rw [if_neg (by decide), zys26]
        simp only [zq_bind, zqb_e0, decide_eq_false_iff_not]
        rw [if_neg (not_not_intro hn)]
        rfl
      · unfold zyF188
        rw [fq]
        simp only [zq_bind]
        rw [if_pos (by rw [Int32.lt_iff_toInt_lt, zq_l0]; omega), if_neg (by decide), zys186]
        simp only [zq_bind, zqb_e0, decide_eq_false_iff_not, Int32.toInt_toInt64]
        rw [if_neg (not_not_intro hn), ← h6.1]
    · refine ⟨-1, s, s, ?_, ?_, h⟩
      · unfold zyF31
        rw [if_neg (by decide), zys26]
        simp only [zq_bind, zqb_e0, decide_eq_false_iff_not]
        rw [if_pos hn]
      · unfold zyF188
        rw [fq]
        simp only [zq_bind]
        rw [if_pos (by rw [Int32.lt_iff_toInt_lt, zq_l0]; omega), if_neg (by decide), zys186]
        simp only [zq_bind, zqb_e0, decide_eq_false_iff_not, Int32.toInt_toInt64]
        rw [if_pos hn]
  have good : ∀ (v : Int32) (k : Nat), zyF25 w n s = some (1, s) → zyF27 w n s = some (v, s) → q.toInt = (k : Int) → k < 41 → v = s.1 44 k → ∃ r s1 s2, zyF31 n w s = some (r, s1) ∧ zyF188 n w s1 = some (r, s2) ∧ zI s2 := by
    intro v k f25 f27 e hk ev
    refine ⟨v, s, s, ?_, by rw [yes k e hk, ev], h⟩
    unfold zyF31
    rw [if_pos w4, f25]
    simp only [zq_bind]
    rw [if_neg (show ¬ ((1 : Int32) = 0) by decide), f27]
    rfl
  have bad : zyF25 w n s = some (0, s) → q.toInt < 0 → ∃ r s1 s2, zyF31 n w s = some (r, s1) ∧ zyF188 n w s1 = some (r, s2) ∧ zI s2 := by
    intro f25 e
    refine ⟨-1, s, s, ?_, no e w4, h⟩
    unfold zyF31
    rw [if_pos w4, f25, zq_bind]
    exact if_pos rfl
  by_cases w0 : w = 0
  · subst w0
    unfold zqp at eq
    rw [if_pos ⟨by decide, by decide⟩, zq_l0] at eq
    by_cases hn : 0 ≤ n.toInt ∧ n.toInt < (s.1 1 5).toInt
    · rw [if_pos (by rw [← e1]; exact hn)] at eq
      refine good (s.1 3 n.toNatClampNeg) n.toNatClampNeg ?_ ?_ (by rw [zq_ix]; omega) (by rw [zq_ix]; omega) (h2 _ (by rw [zq_ix]; omega)).1
      · rw [zys25_0, decide_eq_true hn]; rfl
      · unfold zyF27
        rw [if_pos rfl, if_pos (zq_in.mpr ⟨hn.1, by omega⟩)]
    · rw [if_neg (by rw [← e1]; exact hn)] at eq
      refine bad ?_ (by omega)
      rw [zys25_0, decide_eq_false hn]; rfl
  by_cases w1 : w = 1
  · subst w1
    unfold zqp at eq
    rw [if_pos ⟨by decide, by decide⟩, zq_l1] at eq
    by_cases hn : 0 ≤ n.toInt ∧ n.toInt < (s.1 1 5).toInt
    · rw [if_pos (by rw [← e1]; exact hn)] at eq
      refine good (s.1 4 n.toNatClampNeg) (8 + n.toNatClampNeg) ?_ ?_ (by rw [zq_ix]; omega) (by rw [zq_ix]; omega) (h3 _ (by rw [zq_ix]; omega)).1
      · rw [zys25_1, decide_eq_true hn]; rfl
      · unfold zyF27
        rw [if_neg (by decide), if_pos rfl, if_pos (zq_in.mpr ⟨hn.1, by omega⟩)]
    · rw [if_neg (by rw [← e1]; exact hn)] at eq
      refine bad ?_ (by omega)
      rw [zys25_1, decide_eq_false hn]; rfl
  by_cases w2 : w = 2
  · subst w2
    unfold zqp at eq
    rw [if_neg (by decide), if_pos (show (2 : Int32).toInt = 2 from rfl)] at eq
    by_cases hn : 0 ≤ n.toInt ∧ n.toInt ≤ 23
    · rw [if_pos hn] at eq
      refine good (s.1 2 n.toNatClampNeg) (16 + n.toNatClampNeg) ?_ ?_ (by rw [zq_ix]; omega) (by rw [zq_ix]; omega) (h4 _ (by rw [zq_ix]; omega)).1
      · rw [zys25_2, decide_eq_true hn]; rfl
      · unfold zyF27
        rw [if_neg (by decide), if_neg (by decide), if_pos rfl, if_pos (zq_in.mpr ⟨hn.1, by omega⟩)]
    · rw [if_neg hn] at eq
      refine bad ?_ (by omega)
      rw [zys25_2, decide_eq_false hn]; rfl
  by_cases w3 : w = 3
  · subst w3
    unfold zqp at eq
    rw [if_neg (by decide), if_neg (by decide), if_pos (show (3 : Int32).toInt = 3 from rfl)] at eq
    by_cases hn : n.toInt = 0
    · rw [if_pos hn] at eq
      refine good (s.1 1 4) 40 ?_ ?_ eq (by omega) h5.1
      · rw [zys25_3, decide_eq_true hn]; rfl
      · unfold zyF27
        rw [if_neg (by decide), if_neg (by decide), if_neg (by decide)]
    · rw [if_neg hn] at eq
      refine bad ?_ (by omega)
      rw [zys25_3, decide_eq_false hn]; rfl
  · have t0 : w.toInt ≠ 0 := fun e => w0 (zq_ext e)
    have t1 : w.toInt ≠ 1 := fun e => w1 (zq_ext e)
    have t2 : w.toInt ≠ 2 := fun e => w2 (zq_ext e)
    have t3 : w.toInt ≠ 3 := fun e => w3 (zq_ext e)
    unfold zqp at eq
    rw [if_neg (by omega), if_neg t2, if_neg t3] at eq
    refine bad ?_ (by omega)
    unfold zyF25
    rw [if_neg w0, if_neg w1, if_neg w2, if_neg w3]
theorem zop_led (x : Int32) {s : zy_S} (h : zI s) : ∃ r s1 s2, zyF139 x s = some (r, s1) ∧ zyF244 x s1 = some (r, s2) ∧ zI s2 := by
  obtain ⟨hw, hg, h1, h2, h3, h4, h5, h6, h7, h8, h9, h10, h11, h12, h13, h14, h15, h16, h17, h18, h19, h20, h21⟩ := id h
  by_cases hx : 0 ≤ x.toInt ∧ x.toInt ≤ 4
  · have hl := h7 x.toNatClampNeg (by rw [zq_ix]; omega)
    refine ⟨s.1 18 x.toNatClampNeg, s, s, ?_, ?_, h⟩
    · unfold zyF139
      rw [if_neg (by rw [Int32.lt_iff_toInt_lt, zq_l0]; omega), if_neg (by rw [Int32.le_iff_toInt_le, zq_l5]; omega), if_pos (zq_in.mpr ⟨by omega, by omega⟩)]
    · unfold zyF244
      simp only [zys179, zq_bind, zqb_e0, decide_eq_false_iff_not, Int32.toInt_toInt64, zq_j0, zq_j4]
      rw [if_neg (not_not_intro hx), if_pos (zq_in.mpr ⟨by omega, by omega⟩), hl]
  · refine ⟨-1, s, s, ?_, ?_, h⟩
    · unfold zyF139
      by_cases g : x.toInt < 0
      · rw [if_pos (by rw [Int32.lt_iff_toInt_lt, zq_l0]; exact g)]
      · rw [if_neg (by rw [Int32.lt_iff_toInt_lt, zq_l0]; exact g), if_pos (by rw [Int32.le_iff_toInt_le, zq_l5]; omega)]
    · unfold zyF244
      simp only [zys179, zq_bind, zqb_e0, decide_eq_false_iff_not, Int32.toInt_toInt64, zq_j0, zq_j4]
      rw [if_pos hx]
/-! the KINDS above a KIND -/
theorem zl_173 (n : Nat) {k a i : Int32} (s : zy_S) (hi : i.toInt < 8) (ha : 0 ≤ a.toInt ∧ a.toInt ≤ 7) : zyF173_4 (n + 1) k a i s = if a = k then some (1, s) else zyF173_4 n k (zs_abv.getD a.toNatClampNeg 0) (i + 1) s := by
  show zyF173_4b (zyF173_4 n) k a i s = _
  unfold zyF173_4b
  rw [if_neg (by rw [Int32.le_iff_toInt_le, zq_l8]; omega)]
  simp only [zys149, zq_bind, zqb_e0, decide_eq_false_iff_not]
  rw [if_neg (not_not_intro ha)]
  by_cases e : a = k
  · rw [if_pos e, if_pos e]
    unfold zyF173_34
    rw [if_neg (not_not_intro e)]
  · rw [if_neg e, if_neg e, if_pos (zq_in.mpr ⟨ha.1, by omega⟩)]
theorem zl_173e (n : Nat) {k i : Int32} (s : zy_S) (hk : 0 ≤ k.toInt) : zyF173_4 (n + 1) k (-1) i s = some (0, s) := by
  have e : (-1 : Int32) ≠ k := fun e => by
    rw [← e] at hk
    exact absurd hk (by decide)
  have f : zyF173_34 k (-1) s = some (0, s) := by
    unfold zyF173_34
    rw [if_pos e]
  show zyF173_4b (zyF173_4 n) k (-1) i s = _
  unfold zyF173_4b
  split
  · exact f
  · simp only [zys149, zq_bind, zqb_e0, decide_eq_false_iff_not]
    rw [if_pos (by decide), f]
theorem zl_263 (n : Nat) {x k a : Int32} (s : zy_S) : zyF263_58 (n + 1) x k a s = if a = k then zyF263_75 x k a s else if a ≤ 0 then zyF263_75 x k a s else (zyF265 a s).bind fun p4 => zyF263_58 n x k p4.1 p4.2 := by
  show zyF263_58b (zyF263_58 n) x k a s = _
  unfold zyF263_58b
  rfl
theorem zl_abv : ∀ j : Nat, j < 8 → 1 ≤ j → ∀ s : zy_S, ∃ j' : Nat, j' < j ∧ (zs_abv.getD (Int32.ofInt (j : Int)).toNatClampNeg 0).toInt = (j' : Int) ∧ zyF265 (Int32.ofInt (j : Int)) s = some (zs_abv.getD (Int32.ofInt (j : Int)).toNatClampNeg 0, s) := by
  intro j hj h1 s
  rcases (by omega : j = 1 ∨ j = 2 ∨ j = 3 ∨ j = 4 ∨ j = 5 ∨ j = 6 ∨ j = 7) with rfl | rfl | rfl | rfl | rfl | rfl | rfl
  · exact ⟨0, by decide, by decide, rfl⟩
  · exact ⟨0, by decide, by decide, rfl⟩
  · exact ⟨2, by decide, by decide, rfl⟩
  · exact ⟨1, by decide, by decide, rfl⟩
  · exact ⟨3, by decide, by decide, rfl⟩
  · exact ⟨0, by decide, by decide, rfl⟩
  · exact ⟨4, by decide, by decide, rfl⟩
theorem zl_under (x k : Int32) (s : zy_S) (hk : 0 ≤ k.toInt) : ∀ (n m j : Nat) (a i : Int32), a.toInt = (j : Int) → j ≤ 7 → j + 1 < n → j < m → 0 ≤ i.toInt → i.toInt + j ≤ 7 → ∃ (b : Bool) (a' : Int32), zyF173_4 n k a i s = some (zqb b, s) ∧ zyF263_58 m x k a s = zyF263_75 x k a' s ∧ (a' = k ↔ b = true)
  | 0, m, j, a, i, ha, hj, hn, hm, hi, hij => by omega
  | n + 1, 0, j, a, i, ha, hj, hn, hm, hi, hij => by omega
  | n + 1, m + 1, j, a, i, ha, hj, hn, hm, hi, hij => by
    rw [zl_173 n s (by omega) ⟨by omega, by omega⟩, zl_263]
    by_cases e : a = k
    · rw [if_pos e, if_pos e]
      exact ⟨true, a, rfl, rfl, ⟨fun _ => rfl, fun _ => e⟩⟩
    · rw [if_neg e, if_neg e]
      by_cases j0 : j = 0
      · have a0 : a = 0 := zq_ext (by rw [ha, j0]; rfl)
        subst a0
        rw [if_pos (by decide)]
        refine ⟨false, 0, ?_, rfl, ⟨fun w => absurd w e, fun w => by cases w⟩⟩
        obtain ⟨n', rfl⟩ : ∃ n', n = n' + 1 := ⟨n - 1, by omega⟩
        exact zl_173e n' s hk
      · have ea : a = Int32.ofInt (j : Int) := zq_ext (by rw [ha]; exact (Int32.toInt_ofInt_of_le (by omega) (by omega)).symm)
        obtain ⟨j', hj', e1, e2⟩ := zl_abv j (by omega) (by omega) s
        rw [if_neg (by rw [Int32.le_iff_toInt_le, zq_l0]; omega), ea, e2, zq_bind]
        exact zl_under x k s hk n m j' _ (i + 1) e1 (by omega) (by omega) (by omega) (by rw [zq_add (by rw [zq_l1]; omega) (by rw [zq_l1]; omega), zq_l1]; omega) (by rw [zq_add (by rw [zq_l1]; omega) (by rw [zq_l1]; omega), zq_l1]; omega)
theorem zop_taken (x k : Int32) {s : zy_S} (h : zI s) : ∃ r s1 s2, zyF172 x k s = some (r, s1) ∧ zyF263 x k s1 = some (r, s2) ∧ zI s2 := by
  obtain ⟨hw, hg, h1, h2, h3, h4, h5, h6, h7, h8, h9, h10, h11, h12, h13, h14, h15, h16, h17, h18, h19, h20, h21⟩ := id h
  obtain ⟨-, nb0, nb1⟩ := id h14
  by_cases hx : 0 ≤ x.toInt ∧ x.toInt ≤ 5
  · obtain ⟨hin, hdl, hxd⟩ := zx6 hx
    obtain ⟨d, hd⟩ : ∃ d, d = x.toNatClampNeg := ⟨_, rfl⟩
    rw [← hd] at hdl hxd
    by_cases hk : 0 ≤ k.toInt ∧ k.toInt ≤ 7
    · obtain ⟨-, -, a2⟩ := h20 d hdl
      have st : ∀ r, (zyF19 (zy_sh d) s).bind (fun p5 => if p5.1 = 0 then (if zy_in x 6 then (if zy_Wb p5.2 then (zyF154 (p5.2.1 (zy_sh d) 1) p5.2).bind fun p8 => (if p8.1 = 0 then some ((-12 : Int32), p8.2) else (if zy_in (p5.2.1 (zy_sh d) 1) 50 then (zyF173 (p8.2.1 28 ((p5.2.1 (zy_sh d) 1)).toNatClampNeg) k p8.2).bind fun p10 => (if p10.1 = 0 then some ((-12 : Int32), p10.2) else (if zy_in (p5.2.1 (zy_sh d) 1) 50 then some ((p10.2.1 28 ((p5.2.1 (zy_sh d) 1)).toNatClampNeg), p10.2) else none)) else none)) else none) else none) else some ((-11 : Int32), p5.2)) = some (r, s) → zyF172 x k s = some (r, s) := by
        intro r e
        unfold zyF172
        simp only [zys18, zys149, zq_bind, zqb_e0, zqb_n0, decide_eq_false_iff_not, decide_eq_true_eq]
        rw [if_neg (not_not_intro hx), if_pos hk, if_pos hin, if_pos hw, ← hd]
        exact e
      have sm : ∀ r, (if 0 ≤ (s.1 60 d) then (if (s.1 60 d) < (50 : Int32) then (zyF264 (s.1 60 d) s).bind (fun p12 => zyF263_58 zy_fu x k p12.1 p12.2) else some ((-12 : Int32), s)) else some ((-11 : Int32), s)) = some (r, s) → zyF263 x k s = some (r, s) := by
        intro r e
        unfold zyF263
        simp only [zys182, zys179, zq_bind, zqb_e0, zqb_n0, decide_eq_false_iff_not, decide_eq_true_eq, Int32.toInt_toInt64, zq_j0, zq_j7]
        rw [if_neg (not_not_intro hx), if_pos hk, if_pos hin, if_pos hin, if_pos hin, ← hd]
        exact e
      rcases a2 with ⟨t, hb, b0, b1, -⟩ | ⟨⟨t0, t1⟩, b, hh⟩
      · by_cases hbb : (s.1 (zy_sh d) 1).toInt = -1
        · refine ⟨-11, s, s, st _ ?_, sm _ ?_, h⟩
          · simp only [zys19, zq_bind, zqb_e0, decide_eq_false_iff_not]
            rw [if_neg (not_not_intro ⟨hbb, t⟩)]
          · rw [if_neg (by rw [Int32.le_iff_toInt_le, zq_l0, ← hb]; omega)]
        · obtain ⟨y, hy⟩ : ∃ y, y = s.1 (zy_sh d) 1 := ⟨_, rfl⟩
          have ye : y.toInt = (s.1 (zy_sh d) 1).toInt := by rw [hy]
          have y0 : 0 ≤ y.toInt := by rw [hy]; omega
          have y1 : y.toInt < 50 := by rw [hy]; omega
          have yin : zy_in y 50 = true := zq_in.mpr ⟨y0, y1⟩
          have yn : y.toNatClampNeg < 50 := by rw [zq_ix]; omega
          obtain ⟨k1, k2, k3⟩ := h15 y.toNatClampNeg yn
          obtain ⟨bb, abb, q1, q2, q3⟩ := zl_under x k s hk.1 zy_fu zy_fu (s.1 28 y.toNatClampNeg).toInt.toNat (s.1 28 y.toNatClampNeg) 0 (by omega) (by omega) (by unfold zy_fu; omega) (by unfold zy_fu; omega) (by decide) (by rw [zq_l0]; omega)
          refine ⟨if bb = true then s.1 28 y.toNatClampNeg else -12, s, s, st _ ?_, sm _ ?_, h⟩
          · simp only [zys19, zys154, ← hy, zq_bind, zqb_e0, decide_eq_false_iff_not]
            rw [if_pos (by omega), if_pos hin, if_pos hw, if_neg (not_not_intro ⟨y0, by omega⟩), if_pos yin, show zyF173 (s.1 28 y.toNatClampNeg) k s = some (zqb bb, s) from q1, zq_bind]
            simp only [zqb_e0]
            cases bb with
            | false => rfl
            | true => rw [if_neg (by decide), if_pos yin]; rfl
          · have f264 : zyF264 y s = some (s.1 28 y.toNatClampNeg, s) := by
              unfold zyF264
              rw [if_pos yin, k1]
            rw [if_pos (by rw [Int32.le_iff_toInt_le, zq_l0, ← hb]; omega), if_pos (by rw [Int32.lt_iff_toInt_lt, zq_l50, ← hb]; omega), ← hb, ← hy, f264, zq_bind, q2]
            unfold zyF263_75
            rw [← hd, ← hb, ← hy]
            cases bb with
            | false => rw [if_pos (fun w => absurd (q3.mp w) (by decide))]; rfl
            | true => rw [if_neg (not_not_intro (q3.mpr rfl)), if_pos hin, f264]; rfl
      · refine ⟨-12, s, s, st _ ?_, sm _ ?_, h⟩
        · simp only [zys19, zys154, zq_bind, zqb_e0, decide_eq_false_iff_not]
          rw [if_pos (by omega), if_pos hin, if_pos hw, if_pos (by omega)]
        · rw [if_pos (by rw [Int32.le_iff_toInt_le, zq_l0]; omega), if_neg (by rw [Int32.lt_iff_toInt_lt, zq_l50]; omega)]
    · refine ⟨-1, s, s, ?_, ?_, h⟩
      · unfold zyF172
        simp only [zys18, zys149, zq_bind, zqb_e0, zqb_n0, decide_eq_false_iff_not, decide_eq_true_eq]
        rw [if_neg (not_not_intro hx), if_neg hk]
      · unfold zyF263
        simp only [zys182, zys179, zq_bind, zqb_e0, zqb_n0, decide_eq_false_iff_not, decide_eq_true_eq, Int32.toInt_toInt64, zq_j0, zq_j7]
        rw [if_neg (not_not_intro hx), if_neg hk]
  · refine ⟨-1, s, s, ?_, ?_, h⟩
    · unfold zyF172
      simp only [zys18, zq_bind, zqb_e0, decide_eq_false_iff_not]
      rw [if_pos hx]
    · unfold zyF263
      simp only [zys182, zq_bind, zqb_e0, decide_eq_false_iff_not]
      rw [if_pos hx]
end
section
/-! PART 46.98: books. Made by wip/v4/gen_book.py. -/
theorem zq_div2 {a : Int32} (h : 0 ≤ a.toInt) : (a / (2 : Int32)).toInt = a.toInt / 2 := by
  rw [Int32.toInt_div_of_ne_right _ _ (by decide), zq_l2, Int.tdiv_eq_ediv_of_nonneg h]
theorem zys109 {c : Nat} {s : zy_S} (hl : zin (s.1 c 3) 0 60) : ∃ m, zyF109 c s = some (m, s) ∧ m.toInt = ((s.1 c 3).toInt + 1) / 2 := by
  obtain ⟨l0, l1⟩ := hl
  have e : (s.1 c 3 + (1 : Int32)).toInt = (s.1 c 3).toInt + 1 := by rw [zq_add (by rw [zq_l1]; omega) (by rw [zq_l1]; omega), zq_l1]
  exact ⟨_, rfl, by rw [zq_div2 (by omega), e]⟩
/-- the LINE of a two -/
def zbL (s : zy_S) (c k : Nat) : Int32 := (s.2.1 (c + 1) (2 * k)).toInt32
abbrev zbI (s : zy_S) (c k : Nat) : Prop := 0 ≤ (zbL s c k).toInt ∧ (zbL s c k).toInt ≤ 23
theorem zq_2k {x : Int32} {k : Nat} (h : x.toInt = (k : Int)) (hk : k < 100) : ((2 : Int32) * x).toInt = 2 * (k : Int) ∧ ((2 : Int32) * x).toNatClampNeg = 2 * k ∧ ((2 : Int32) * x + (1 : Int32)).toInt = 2 * (k : Int) + 1 ∧ ((2 : Int32) * x + (1 : Int32)).toNatClampNeg = 2 * k + 1 := by
  have e : ((2 : Int32) * x).toInt = 2 * (k : Int) := by rw [zq_mul (by rw [zq_l2]; omega) (by rw [zq_l2]; omega), zq_l2, h]
  have e1 : ((2 : Int32) * x + (1 : Int32)).toInt = 2 * (k : Int) + 1 := by rw [zq_add (by rw [zq_l1]; omega) (by rw [zq_l1]; omega), zq_l1, e]
  exact ⟨e, by rw [zq_ix, e]; omega, e1, by rw [zq_ix, e1]; omega⟩
theorem zys110 {c k : Nat} {x : Int32} (s : zy_S) (h : x.toInt = (k : Int)) (hk : 2 * k < 60) : zyF110 c x s = some (if zbI s c k then zbL s c k else -1, s) := by
  obtain ⟨e, en, -, -⟩ := zq_2k h (by omega)
  unfold zyF110
  have eL : (s.2.1 (c + 1) (2 * k)).toInt32 = zbL s c k := rfl
  rw [if_pos (zq_in.mpr ⟨by omega, by omega⟩), en, eL]
  simp only [zys26, zq_bind, zqb_e0, decide_eq_false_iff_not]
  by_cases g : 0 ≤ (zbL s c k).toInt ∧ (zbL s c k).toInt ≤ 23
  · rw [if_neg (not_not_intro g), if_pos g]
  · rw [if_pos g, if_neg g]
/-- whether a two is so for a VIEW (v: whether it is the LINE's) -/
def zbS (s : zy_S) (c k : Nat) (v : Bool) : Prop := zbI s c k ∧ 2 * (k : Int) + 2 ≤ (s.1 c 3).toInt ∧ (s.2.1 (c + 1) (2 * k + 1)).toInt = if v = true then 0 else 1
theorem zys111 {c k : Nat} {x w : Int32} {s : zy_S} (hl : zin (s.1 c 3) 0 60) (h : x.toInt = (k : Int)) (hk : 2 * k < 60) : ∃ b : Bool, zyF111 c x w s = some (zqb b, s) ∧ (b = true ↔ zbS s c k (decide (zbL s c k - zbL s c k / (4 : Int32) * (4 : Int32) = w))) := by
  obtain ⟨e, en, e1, e1n⟩ := zq_2k h (by omega)
  unfold zyF111
  rw [zys110 s h hk, zq_bind]
  dsimp only
  by_cases g : zbI s c k
  · rw [if_pos g]
    have gn : ¬ zbL s c k = -1 := fun q => by
      have := g.1
      rw [q] at this
      exact absurd this (by decide)
    rw [if_neg gn]
    simp only [zys23 _ _ _ s hl, zq_bind, zqb_n0, decide_eq_true_eq, zq_l2, e]
    by_cases p : 0 ≤ 2 * (k : Int) ∧ (0 : Int) ≤ 2 ∧ 2 * (k : Int) ≤ (s.1 c 3).toInt ∧ (2 : Int) ≤ (s.1 c 3).toInt - 2 * (k : Int)
    · obtain ⟨-, -, p1, p2⟩ := id p
      obtain ⟨l0, l1⟩ := id hl
      rw [if_pos p, if_pos (zq_in.mpr ⟨by omega, by omega⟩), e1n]
      have fin : ∀ (y : Int32) (v : Bool), y.toInt = (if v = true then 0 else 1) → ∃ b : Bool, zyF111_46 y (s.2.1 (c + 1) (2 * k + 1)) s = some (zqb b, s) ∧ (b = true ↔ zbS s c k v) := by
        intro y v hy
        unfold zyF111_46
        by_cases q : (s.2.1 (c + 1) (2 * k + 1)).toInt = y.toInt
        · rw [if_neg (not_not_intro ((zq_cmpE _ _).mpr (zq_eqJ.mpr (by rw [Int32.toInt_toInt64]; exact q))))]
          exact ⟨true, rfl, ⟨fun _ => ⟨g, by omega, by rw [q, hy]⟩, fun _ => rfl⟩⟩
        · rw [if_pos (fun w => q (by have := zq_eqJ.mp ((zq_cmpE _ _).mp w); rw [Int32.toInt_toInt64] at this; exact this))]
          exact ⟨false, rfl, ⟨fun w => (by cases w), fun w => absurd (by rw [w.2.2, hy]) q⟩⟩
      by_cases w1 : zbL s c k - zbL s c k / (4 : Int32) * (4 : Int32) = w
      · rw [if_neg (not_not_intro w1), decide_eq_true w1]
        exact fin 0 true rfl
      · rw [if_pos w1, decide_eq_false w1]
        exact fin 1 false rfl
    · rw [if_neg p]
      exact ⟨false, rfl, ⟨fun w => (by cases w), fun w => by have := w.2.1; omega⟩⟩
  · rw [if_neg g, if_pos rfl]
    exact ⟨false, rfl, ⟨fun w => (by cases w), fun w => absurd w.1 g⟩⟩
/-- a two and one who believes B -/
def zbW (s : zy_S) (c k : Nat) (B : Int32) : Prop := zbS s c k (zvw B (zbL s c k))
theorem zst_108 (f : Nat) {c k : Nat} {B x : Int32} {s : zy_S} (hl : zin (s.1 c 3) 0 60) (h : x.toInt = (k : Int)) (hk : k ≤ 30) :
    ((s.1 c 3).toInt ≤ 2 * (k : Int) → zyF108_2 (f + 1) c B x s = some (-2, s)) ∧ (2 * (k : Int) < (s.1 c 3).toInt → zbW s c k B → zyF108_2 (f + 1) c B x s = zyF108_2 f c B (x + (1 : Int32)) s) ∧ (2 * (k : Int) < (s.1 c 3).toInt → ¬ zbW s c k B → zyF108_2 (f + 1) c B x s = some (x, s)) := by
  obtain ⟨l0, l1⟩ := id hl
  obtain ⟨m, fm, em⟩ := zys109 hl
  have st : zyF108_2 (f + 1) c B x s = zyF108_2b (zyF108_2 f) c B x s := rfl
  rw [st]
  unfold zyF108_2b
  rw [fm, zq_bind]
  dsimp only
  refine ⟨fun g => ?_, fun g hb => ?_, fun g hb => ?_⟩
  · rw [if_pos (by rw [Int32.le_iff_toInt_le]; omega)]
  all_goals
    rw [if_neg (by rw [Int32.le_iff_toInt_le]; omega), zys110 s h (by omega), zq_bind]
    dsimp only
  · have gi := hb.1
    have gn : ¬ zbL s c k = -1 := fun q => by
      have := gi.1
      rw [q] at this
      exact absurd this (by decide)
    rw [if_pos gi, if_neg gn]
    obtain ⟨b, fb, hbb⟩ := zys111 (w := ((B >>> (((2 : Int32) * (zbL s c k / (4 : Int32))) &&& 31)) &&& (3 : Int32))) hl h (by omega)
    have f60 : zyF60 B (zbL s c k / (4 : Int32)) s = some (((B >>> (((2 : Int32) * (zbL s c k / (4 : Int32))) &&& 31)) &&& (3 : Int32)), s) := rfl
    rw [f60, zq_bind]
    dsimp only
    rw [fb, zq_bind]
    dsimp only
    have ev : decide (zbL s c k - zbL s c k / (4 : Int32) * (4 : Int32) = ((B >>> (((2 : Int32) * (zbL s c k / (4 : Int32))) &&& 31)) &&& (3 : Int32))) = zvw B (zbL s c k) := by
      unfold zvw
      exact decide_eq_decide.mpr ⟨Eq.symm, Eq.symm⟩
    rw [ev] at hbb
    rw [hbb.mpr hb, if_pos (by decide)]
  · by_cases gi : zbI s c k
    · have gn : ¬ zbL s c k = -1 := fun q => by
        have := gi.1
        rw [q] at this
        exact absurd this (by decide)
      rw [if_pos gi, if_neg gn]
      obtain ⟨b, fb, hbb⟩ := zys111 (w := ((B >>> (((2 : Int32) * (zbL s c k / (4 : Int32))) &&& 31)) &&& (3 : Int32))) hl h (by omega)
      have f60 : zyF60 B (zbL s c k / (4 : Int32)) s = some (((B >>> (((2 : Int32) * (zbL s c k / (4 : Int32))) &&& 31)) &&& (3 : Int32)), s) := rfl
      rw [f60, zq_bind]
      dsimp only
      rw [fb, zq_bind]
      dsimp only
      have ev : decide (zbL s c k - zbL s c k / (4 : Int32) * (4 : Int32) = ((B >>> (((2 : Int32) * (zbL s c k / (4 : Int32))) &&& 31)) &&& (3 : Int32))) = zvw B (zbL s c k) := by
        unfold zvw
        exact decide_eq_decide.mpr ⟨Eq.symm, Eq.symm⟩
      rw [ev] at hbb
      have b0 : b = false := Bool.eq_false_iff.mpr (fun q => hb (hbb.mp q))
      rw [b0, if_neg (by decide)]
    · rw [if_neg gi, if_pos rfl]
/-- what a book's shelf and the model's have alike -/
def zbE (s : zy_S) (d : Nat) : Prop := zin (s.1 (zy_sh d) 3) 0 60 ∧ s.1 61 d = s.1 (zy_sh d) 3 ∧ ∀ j, j < 60 → s.2.1 62 (60 * d + j) = s.2.1 (zy_sh d + 1) j ∧ -128 ≤ (s.2.1 (zy_sh d + 1) j).toInt ∧ (s.2.1 (zy_sh d + 1) j).toInt ≤ 127
theorem zbE_of {s : zy_S} (h : zI s) {d : Nat} (hd : d < 6) (ht : (s.1 (zy_sh d) 2).toInt = 0) : zbE s d := by
  obtain ⟨hw, hg, h1, h2, h3, h4, h5, h6, h7, h8, h9, h10, h11, h12, h13, h14, h15, h16, h17, h18, h19, h20, h21⟩ := id h
  obtain ⟨el, hl, -⟩ := h20 d hd
  refine ⟨hl, el.symm, fun j hj => ?_⟩
  obtain ⟨a, b⟩ := h21 d hd j hj
  exact ⟨a.symm, (b.1 ht).1, (b.1 ht).2⟩
theorem zst_230 (f : Nat) {d k : Nat} {B x i : Int32} {s : zy_S} (hd : d < 6) (hx : x.toInt = (d : Int)) (hE : zbE s d) (h : i.toInt = (k : Int)) (hk : k ≤ 30) :
    ((s.1 (zy_sh d) 3).toInt ≤ 2 * (k : Int) → zyF230_2 (f + 1) x B i s = some (-2, s)) ∧ (2 * (k : Int) < (s.1 (zy_sh d) 3).toInt → zbW s (zy_sh d) k B → zyF230_2 (f + 1) x B i s = zyF230_2 f x B (i + (1 : Int32)) s) ∧ (2 * (k : Int) < (s.1 (zy_sh d) 3).toInt → ¬ zbW s (zy_sh d) k B → zyF230_2 (f + 1) x B i s = some (i, s)) := by
  obtain ⟨⟨l0, l1⟩, el, hv⟩ := id hE
  obtain ⟨e, en, e1, e1n⟩ := zq_2k h (by omega)
  have xin : zy_in x 6 = true := zq_in.mpr ⟨by omega, by omega⟩
  have xn : x.toNatClampNeg = d := by rw [zq_ix]; omega
  have em : ((60 : Int32) * x).toInt = 60 * (d : Int) := by rw [zq_mul (by rw [zq_l60, hx]; omega) (by rw [zq_l60, hx]; omega), zq_l60, hx]
  have st : zyF230_2 (f + 1) x B i s = zyF230_2b (zyF230_2 f) x B i s := rfl
  rw [st]
  unfold zyF230_2b
  rw [if_pos xin, xn, el]
  refine ⟨fun g => ?_, fun g hb => ?_, fun g hb => ?_⟩
  · rw [if_pos (by rw [Int32.le_iff_toInt_le, e]; exact g)]
  all_goals
    rw [if_neg (by rw [Int32.le_iff_toInt_le, e]; omega), if_pos xin]
    have ea : ((60 : Int32) * x + (2 : Int32) * i).toInt = 60 * (d : Int) + 2 * k := by rw [zq_add (by rw [em, e]; omega) (by rw [em, e]; omega), em, e]
    have ean : ((60 : Int32) * x + (2 : Int32) * i).toNatClampNeg = 60 * d + 2 * k := by rw [zq_ix, ea]; omega
    have eb : ((60 : Int32) * x + (2 : Int32) * i + (1 : Int32)).toInt = 60 * (d : Int) + 2 * k + 1 := by rw [zq_add (by rw [ea, zq_l1]; omega) (by rw [ea, zq_l1]; omega), ea, zq_l1]
    have ebn : ((60 : Int32) * x + (2 : Int32) * i + (1 : Int32)).toNatClampNeg = 60 * d + (2 * k + 1) := by rw [zq_ix, eb]; omega
    obtain ⟨v1, v2, v3⟩ := hv (2 * k) (by omega)
    have j1 := zq_j32 (v := s.2.1 (zy_sh d + 1) (2 * k)) ⟨by omega, by omega⟩
    have eL : (s.2.1 (zy_sh d + 1) (2 * k)).toInt32 = zbL s (zy_sh d) k := rfl
  · obtain ⟨b1, b2, b3⟩ := id hb
    obtain ⟨c1, c2⟩ := id b1
    rw [← eL] at c1 c2
    obtain ⟨w1, -, -⟩ := hv (2 * k + 1) (by omega)
    rw [if_neg (by rw [Int32.le_iff_toInt_le, e1]; omega), if_pos (zq_in.mpr ⟨by omega, by omega⟩), ean, v1, zys186, zq_bind]
    simp only [zqb_n0, decide_eq_true_eq]
    rw [if_pos ⟨by omega, by omega⟩, if_pos (zq_in.mpr ⟨by omega, by omega⟩), if_pos (zq_in.mpr ⟨by omega, by omega⟩), ebn, v1, w1, eL]
    have f206 : zyF206 B (zbL s (zy_sh d) k / (4 : Int32)) s = some (((B >>> (((2 : Int32) * (zbL s (zy_sh d) k / (4 : Int32))) &&& 31)) &&& (3 : Int32)), s) := rfl
    rw [f206, zq_bind]
    dsimp only
    have fin : ∀ (y : Int64), y.toInt = (if zvw B (zbL s (zy_sh d) k) = true then 0 else 1) → zyF230_92 (zyF230_2 f) x B i y (s.2.1 (zy_sh d + 1) (2 * k + 1)) s = zyF230_2 f x B (i + (1 : Int32)) s := by
      intro y hy
      unfold zyF230_92
      rw [if_pos ((zq_cmpE _ _).mpr (zq_eqJ.mpr (by rw [b3, hy])))]
    by_cases w : ((B >>> (((2 : Int32) * (zbL s (zy_sh d) k / (4 : Int32))) &&& 31)) &&& (3 : Int32)) = zbL s (zy_sh d) k - zbL s (zy_sh d) k / (4 : Int32) * (4 : Int32)
    · rw [if_neg (not_not_intro w)]
      exact fin 0 (by rw [show zvw B (zbL s (zy_sh d) k) = true from decide_eq_true w]; rfl)
    · rw [if_pos w]
      exact fin 1 (by rw [show zvw B (zbL s (zy_sh d) k) = false from decide_eq_false w]; rfl)
  · by_cases g1 : (s.1 (zy_sh d) 3).toInt ≤ 2 * (k : Int) + 1
    · rw [if_pos (by rw [Int32.le_iff_toInt_le, e1]; exact g1)]
    · rw [if_neg (by rw [Int32.le_iff_toInt_le, e1]; exact g1), if_pos (zq_in.mpr ⟨by omega, by omega⟩), ean, v1, zys186, zq_bind]
      simp only [zqb_n0, decide_eq_true_eq]
      by_cases gi : 0 ≤ (s.2.1 (zy_sh d + 1) (2 * k)).toInt ∧ (s.2.1 (zy_sh d + 1) (2 * k)).toInt ≤ 23
      · obtain ⟨w1, -, -⟩ := hv (2 * k + 1) (by omega)
        rw [if_pos gi, if_pos (zq_in.mpr ⟨by omega, by omega⟩), if_pos (zq_in.mpr ⟨by omega, by omega⟩), ebn, v1, w1, eL]
        have f206 : zyF206 B (zbL s (zy_sh d) k / (4 : Int32)) s = some (((B >>> (((2 : Int32) * (zbL s (zy_sh d) k / (4 : Int32))) &&& 31)) &&& (3 : Int32)), s) := rfl
        rw [f206, zq_bind]
        dsimp only
        have fin : ∀ (y : Int64), y.toInt = (if zvw B (zbL s (zy_sh d) k) = true then 0 else 1) → zyF230_92 (zyF230_2 f) x B i y (s.2.1 (zy_sh d + 1) (2 * k + 1)) s = some (i, s) := by
          intro y hy
          unfold zyF230_92
          rw [if_neg (fun w => hb ⟨⟨by rw [← eL]; omega, by rw [← eL]; omega⟩, by omega, by rw [zq_eqJ.mp ((zq_cmpE _ _).mp w), hy]⟩)]
        by_cases w : ((B >>> (((2 : Int32) * (zbL s (zy_sh d) k / (4 : Int32))) &&& 31)) &&& (3 : Int32)) = zbL s (zy_sh d) k - zbL s (zy_sh d) k / (4 : Int32) * (4 : Int32)
        · rw [if_neg (not_not_intro w)]
          exact fin 0 (by rw [show zvw B (zbL s (zy_sh d) k) = true from decide_eq_true w]; rfl)
        · rw [if_pos w]
          exact fin 1 (by rw [show zvw B (zbL s (zy_sh d) k) = false from decide_eq_false w]; rfl)
      · rw [if_neg gi]
/-- both read a book alike -/
theorem zl_book {d : Nat} {B x : Int32} {s : zy_S} (hd : d < 6) (hx : x.toInt = (d : Int)) (hE : zbE s d) : ∀ (f g k : Nat) (i : Int32), i.toInt = (k : Int) → k ≤ 30 → 30 - k < f → 30 - k < g → ∃ r, zyF108_2 f (zy_sh d) B i s = some (r, s) ∧ zyF230_2 g x B i s = some (r, s) ∧ ((r = -2 ∧ ∀ j, k ≤ j → 2 * (j : Int) < (s.1 (zy_sh d) 3).toInt → zbW s (zy_sh d) j B) ∨ (0 ≤ r.toInt ∧ ¬ ∀ j, k ≤ j → 2 * (j : Int) < (s.1 (zy_sh d) 3).toInt → zbW s (zy_sh d) j B))
  | 0, g, k, i, hi, hk, hf, hg => by omega
  | f + 1, 0, k, i, hi, hk, hf, hg => by omega
  | f + 1, g + 1, k, i, hi, hk, hf, hg => by
    obtain ⟨l0, l1⟩ := hE.1
    obtain ⟨a1, a2, a3⟩ := zst_108 f (B := B) hE.1 hi hk
    obtain ⟨b1, b2, b3⟩ := zst_230 g (B := B) hd hx hE hi hk
    by_cases q : (s.1 (zy_sh d) 3).toInt ≤ 2 * (k : Int)
    · exact ⟨-2, a1 q, b1 q, Or.inl ⟨rfl, fun j hj hl => by omega⟩⟩
    · by_cases w : zbW s (zy_sh d) k B
      · obtain ⟨r, c1, c2, c3⟩ := zl_book hd hx hE f g (k + 1) (i + (1 : Int32)) (by rw [zq_add (by rw [zq_l1]; omega) (by rw [zq_l1]; omega), zq_l1, hi]; omega) (by omega) (by omega) (by omega)
        refine ⟨r, (a2 (by omega) w).trans c1, (b2 (by omega) w).trans c2, ?_⟩
        have key : (∀ j, k ≤ j → 2 * (j : Int) < (s.1 (zy_sh d) 3).toInt → zbW s (zy_sh d) j B) ↔ (∀ j, k + 1 ≤ j → 2 * (j : Int) < (s.1 (zy_sh d) 3).toInt → zbW s (zy_sh d) j B) := by
          constructor
          · intro p j hj
            exact p j (by omega)
          · intro p j hj
            by_cases e : j = k
            · subst e
              exact fun _ => w
            · exact p j (by omega)
        rw [key]
        exact c3
      · refine ⟨i, a3 (by omega) w, b3 (by omega) w, Or.inr ⟨by omega, fun p => w (p k (Nat.le_refl _) (by omega))⟩⟩
/-- the shelf of a book -/
theorem zb_107 {s : zy_S} (h : zI s) {d : Nat} {x : Int32} (hd : d < 6) (hx : x.toInt = (d : Int)) : (∃ e : Int32, zyF107 (zy_sh d) 0 s = some (e, s) ∧ zyF229 x s = some (e, s) ∧ (e = -11 ∨ e = -12)) ∨ (zyF107 (zy_sh d) 0 s = some (0, s) ∧ zyF229 x s = some (1, s) ∧ (s.1 (zy_sh d) 2).toInt = 0) := by
  obtain ⟨hw, hg, h1, h2, h3, h4, h5, h6, h7, h8, h9, h10, h11, h12, h13, h14, h15, h16, h17, h18, h19, h20, h21⟩ := id h
  obtain ⟨-, nb0, nb1⟩ := id h14
  obtain ⟨-, -, a2⟩ := h20 d hd
  have xin : zy_in x 6 = true := zq_in.mpr ⟨by omega, by omega⟩
  have xn : x.toNatClampNeg = d := by rw [zq_ix]; omega
  unfold zyF107 zyF229
  simp only [zys19, zys21, zys182, xn, zq_bind, zqb_e0, zqb_n0, decide_eq_false_iff_not, decide_eq_true_eq, zq_l0]
  rw [if_pos (show 0 ≤ x.toInt ∧ x.toInt ≤ 5 by omega), if_pos xin, if_pos xin]
  rcases a2 with ⟨t, hb, b0, b1, -⟩ | ⟨⟨t0, t1⟩, b, hh⟩
  · by_cases hbb : (s.1 (zy_sh d) 1).toInt = -1
    · rw [if_neg (not_not_intro ⟨hbb, t⟩), if_neg (by rw [Int32.le_iff_toInt_le, zq_l0, ← hb]; omega)]
      exact Or.inl ⟨-11, rfl, rfl, Or.inl rfl⟩
    · rw [if_pos (by omega), if_pos (by omega), if_pos (by rw [Int32.le_iff_toInt_le, zq_l0, ← hb]; omega), if_pos (fun w => by have := congrArg Int32.toInt w; rw [zq_l50, ← hb] at this; omega)]
      exact Or.inl ⟨-12, rfl, rfl, Or.inr rfl⟩
  · rw [if_pos (show ¬ ((s.1 (zy_sh d) 1).toInt = -1 ∧ (s.1 (zy_sh d) 2).toInt = -1) by omega)]
    have h60 : (0 : Int32) ≤ s.1 60 d := by rw [Int32.le_iff_toInt_le, zq_l0]; omega
    by_cases ht : (s.1 (zy_sh d) 2).toInt = 0
    · rw [if_neg (show ¬ ¬ ((s.1 (zy_sh d) 2).toInt ≠ -1 ∧ (s.1 (zy_sh d) 2).toInt = 0) from not_not_intro ⟨by omega, ht⟩), if_pos h60, if_neg (not_not_intro (zq_ext (by rw [zq_l50]; omega)))]
      exact Or.inr ⟨rfl, rfl, ht⟩
    · rw [if_pos (show ¬ ((s.1 (zy_sh d) 2).toInt ≠ -1 ∧ (s.1 (zy_sh d) 2).toInt = 0) by omega), if_pos h60, if_pos (fun w => by have := congrArg Int32.toInt w; rw [zq_l50] at this; omega)]
      exact Or.inl ⟨-12, rfl, rfl, Or.inr rfl⟩
theorem zop_judge (x y : Int32) {s : zy_S} (h : zI s) : ∃ r s1 s2, zyF106 x y s = some (r, s1) ∧ zyF228 x y s1 = some (r, s2) ∧ zI s2 := by
  obtain ⟨hw, hg, h1, h2, h3, h4, h5, h6, h7, h8, h9, h10, h11, h12, h13, h14, h15, h16, h17, h18, h19, h20, h21⟩ := id h
  obtain ⟨e1, p0, p1⟩ := id h1
  have hp : zin (s.1 43 6) 0 8 := by rw [← e1]; exact ⟨p0, p1⟩
  by_cases hx : 0 ≤ x.toInt ∧ x.toInt ≤ 5
  · obtain ⟨hin, hdl, hxd⟩ := zx6 hx
    obtain ⟨d, hd⟩ : ∃ d, d = x.toNatClampNeg := ⟨_, rfl⟩
    rw [← hd] at hdl hxd
    by_cases hy : 0 ≤ y.toInt ∧ y.toInt < (s.1 1 5).toInt
    · have hy' : 0 ≤ y.toInt ∧ y.toInt < (s.1 43 6).toInt := by rw [← e1]; exact hy
      have yn : y.toNatClampNeg < 8 := by rw [zq_ix]; omega
      rcases zb_107 h hdl hxd with ⟨e, f1, f2, f3⟩ | ⟨f1, f2, ht⟩
      · have en : ¬ e = 0 ∧ ¬ e = -1 ∧ ¬ (0 : Int32) ≤ e := by rcases f3 with rfl | rfl <;> decide
        refine ⟨e, s, s, ?_, ?_, h⟩
        · unfold zyF106
          simp only [zys18, zys25_0, ← hd, f1, zq_bind, zqb_e0, zqb_n0, decide_eq_false_iff_not, decide_eq_true_eq]
          rw [if_neg (not_not_intro hx), if_pos hy, if_pos hin, if_pos hw, if_neg en.1]
        · unfold zyF228
          simp only [f2, zys185 _ s hp, zq_bind, zqb_n0, decide_eq_true_eq, Int32.toInt_toInt64]
          rw [if_neg en.2.1, if_pos hy', if_neg en.2.2]
      · have hE := zbE_of h hdl ht
        obtain ⟨r, g1, g2, -⟩ := zl_book (B := s.1 3 y.toNatClampNeg) hdl hxd hE zy_fu zy_fu 0 0 rfl (by omega) (by unfold zy_fu; omega) (by unfold zy_fu; omega)
        have g1 : zyF108 (zy_sh d) (s.1 3 y.toNatClampNeg) s = some (r, s) := g1
        have g2 : zyF230 x (s.1 3 y.toNatClampNeg) s = some (r, s) := g2
        refine ⟨r, s, s, ?_, ?_, h⟩
        · unfold zyF106
          simp only [zys18, zys25_0, ← hd, f1, zq_bind, zqb_e0, zqb_n0, decide_eq_false_iff_not, decide_eq_true_eq]
          rw [if_neg (not_not_intro hx), if_pos hy, if_pos hin, if_pos hw, if_pos True.intro, if_pos hin, if_pos hw, if_pos (zq_in.mpr ⟨hy.1, by omega⟩), g1]
          rfl
        · unfold zyF228
          simp only [f2, zys185 _ s hp, zq_bind, zqb_n0, decide_eq_true_eq, Int32.toInt_toInt64]
          rw [if_neg (by decide), if_pos hy', if_pos (by decide), if_pos (zq_in.mpr ⟨hy.1, by omega⟩), ← (h2 _ yn).1, g2]
          rfl
    · have hy' : ¬ (0 ≤ y.toInt ∧ y.toInt < (s.1 43 6).toInt) := by rw [← e1]; exact hy
      refine ⟨-1, s, s, ?_, ?_, h⟩
      · unfold zyF106
        simp only [zys18, zys25_0, zq_bind, zqb_e0, zqb_n0, decide_eq_false_iff_not, decide_eq_true_eq]
        rw [if_neg (not_not_intro hx), if_neg hy]
      · unfold zyF228
        have f2 : ∃ e, zyF229 x s = some (e, s) := by
          rcases zb_107 h hdl hxd with ⟨e, -, f2, -⟩ | ⟨-, f2, -⟩
          · exact ⟨e, f2⟩
          · exact ⟨1, f2⟩
        obtain ⟨e, f2⟩ := f2
        simp only [f2, zys185 _ s hp, zq_bind, zqb_n0, decide_eq_true_eq, Int32.toInt_toInt64]
        split <;> first | rfl | rw [if_neg hy']
  · have f2 : zyF229 x s = some (-1, s) := by
      unfold zyF229
      simp only [zys182, zq_bind, zqb_n0, decide_eq_true_eq]
      rw [if_neg hx]
    refine ⟨-1, s, s, ?_, ?_, h⟩
    · unfold zyF106
      simp only [zys18, zq_bind, zqb_e0, decide_eq_false_iff_not]
      rw [if_pos hx]
    · unfold zyF228
      rw [f2, zq_bind]
      exact if_pos rfl
end
section
/-! PART 46.985: agree, like, matters. Made by wip/v4/gen_votes.py. -/
/-- the VIEW of a MATTER -/
def zvf (B m : Int32) : Int32 := (B >>> (((2 : Int32) * m) &&& 31)) &&& (3 : Int32)
theorem zys60 (B m : Int32) (s : zy_S) : zyF60 B m s = some (zvf B m, s) := rfl
theorem zys206 (B m : Int32) (s : zy_S) : zyF206 B m s = some (zvf B m, s) := rfl
theorem zys205 {p : Int32} (m : Int32) (s : zy_S) (hp : zy_in p 41 = true) : zyF205 p m s = some (zvf (s.1 44 p.toNatClampNeg) m, s) := by
  unfold zyF205
  rw [if_pos hp, zys206, zq_bind]
/-- how far -/
def zdf (A B m : Int32) : Int32 := if 0 ≤ zvf A m - zvf B m then zvf A m - zvf B m else -(zvf A m - zvf B m)
theorem zdf_0 (A B m : Int32) : zdf A B m = 0 ↔ zvf A m = zvf B m := by
  unfold zdf
  constructor
  · intro h
    have h0 : zvf A m - zvf B m = 0 := by
      split at h
      · exact h
      · rw [← Int32.neg_inj, h, Int32.neg_zero]
    rw [Int32.sub_eq_iff_eq_add] at h0
    rw [h0, Int32.zero_add]
  · intro h
    rw [h, Int32.sub_self]
    exact if_pos (by decide)
theorem zys121 {a b : Int32} (m : Int32) (s : zy_S) (ha : zy_in a 8 = true) (hb : zy_in b 8 = true) : zyF121 m a b s = some (zdf (s.1 3 a.toNatClampNeg) (s.1 3 b.toNatClampNeg) m, s) := by
  unfold zyF121
  rw [if_pos ha, zys60, zq_bind]
  dsimp only
  rw [if_pos hb, zys60, zq_bind]
  dsimp only
  unfold zyF62 zdf
  split <;> rfl
def zffs (A B : Int32) : Nat → Int32 → Int32 → Int32
  | 0, acc, _ => acc
  | n + 1, acc, i => zffs A B n (acc + zdf A B i) (i + (1 : Int32))
theorem zl_122 {a b : Int32} (s : zy_S) (ha : zy_in a 8 = true) (hb : zy_in b 8 = true) : ∀ (n k : Nat) (acc i : Int32), i.toInt = (k : Int) → k ≤ 6 → 6 - k < n → zyF122_5 n a b acc i s = some (zffs (s.1 3 a.toNatClampNeg) (s.1 3 b.toNatClampNeg) (6 - k) acc i, s)
  | 0, k, acc, i, hi, hk, hn => by omega
  | n + 1, k, acc, i, hi, hk, hn => by
    show zyF122_5b (zyF122_5 n) a b acc i s = _
    unfold zyF122_5b
    by_cases g : k = 6
    · subst g
      rw [if_pos (by rw [Int32.le_iff_toInt_le, zq_l6]; omega)]
      rfl
    · rw [if_neg (by rw [Int32.le_iff_toInt_le, zq_l6]; omega), zys121 i s ha hb, zq_bind]
      have e : 6 - k = (6 - (k + 1)) + 1 := by omega
      rw [e]
      exact zl_122 s ha hb n (k + 1) _ (i + (1 : Int32)) (by rw [zq_add (by rw [zq_l1]; omega) (by rw [zq_l1]; omega), zq_l1, hi]; omega) (by omega) (by omega)
theorem zl_235 {a b : Int32} (s : zy_S) (ha : zy_in a 41 = true) (hb : zy_in b 41 = true) : ∀ (n k : Nat) (acc i : Int32), i.toInt = (k : Int) → k ≤ 6 → 6 - k < n → zyF235_5 n a b acc i s = some (zffs (s.1 44 a.toNatClampNeg) (s.1 44 b.toNatClampNeg) (6 - k) acc i, s)
  | 0, k, acc, i, hi, hk, hn => by omega
  | n + 1, k, acc, i, hi, hk, hn => by
    show zyF235_5b (zyF235_5 n) a b acc i s = _
    unfold zyF235_5b zyF235_43
    by_cases g : k = 6
    · subst g
      rw [if_pos (by rw [Int32.le_iff_toInt_le, zq_l6]; omega)]
      rfl
    · rw [if_neg (by rw [Int32.le_iff_toInt_le, zq_l6]; omega), zys205 i s ha, zq_bind]
      dsimp only
      rw [zys205 i s hb, zq_bind]
      dsimp only
      have e : 6 - k = (6 - (k + 1)) + 1 := by omega
      rw [e]
      show _ = some (zffs (s.1 44 a.toNatClampNeg) (s.1 44 b.toNatClampNeg) (6 - (k + 1)) (acc + zdf (s.1 44 a.toNatClampNeg) (s.1 44 b.toNatClampNeg) i) (i + (1 : Int32)), s)
      have ih := fun w => zl_235 s ha hb n (k + 1) w (i + (1 : Int32)) (by rw [zq_add (by rw [zq_l1]; omega) (by rw [zq_l1]; omega), zq_l1, hi]; omega) (by omega) (by omega)
      unfold zdf
      split
      · exact ih _
      · exact ih _
theorem zys122 {a b : Int32} (s : zy_S) (ha : zy_in a 8 = true) (hb : zy_in b 8 = true) : zyF122 a b s = some (zffs (s.1 3 a.toNatClampNeg) (s.1 3 b.toNatClampNeg) 6 0 0, s) := zl_122 s ha hb zy_fu 0 0 0 rfl (by omega) (by unfold zy_fu; omega)
theorem zys235 {a b : Int32} (s : zy_S) (ha : zy_in a 41 = true) (hb : zy_in b 41 = true) : zyF235 a b s = some (zffs (s.1 44 a.toNatClampNeg) (s.1 44 b.toNatClampNeg) 6 0 0, s) := zl_235 s ha hb zy_fu 0 0 0 rfl (by omega) (by unfold zy_fu; omega)
theorem zys84 (x : Int32) (s : zy_S) : zyF84 x s = some (zqb (decide (0 ≤ x.toInt ∧ x.toInt ≤ 1)), s) := by
  unfold zyF84
  simp only [ne_eq, zq_eq, zq_l0, zq_l1]
  refine zqb_d (x := 0) (fun h => ?_) (fun h => ?_)
  all_goals
    repeat' split
  all_goals first | rfl | (exfalso; omega)
/-- how many alike: both -/
theorem zl_120 {a b : Int32} {s : zy_S} {A B : Int32} (ha : zy_in a 8 = true) (hb : zy_in b 8 = true) (eA : s.1 3 a.toNatClampNeg = A) (eB : s.1 3 b.toNatClampNeg = B) (eA' : s.1 44 a.toNatClampNeg = A) (eB' : s.1 44 b.toNatClampNeg = B) {x y : Int32} (hx : x / (10 : Int32) = a) (hx2 : x - a * (10 : Int32) = b) : ∀ (n m k : Nat) (acc i : Int32), i.toInt = (k : Int) → k ≤ 6 → 6 - k < n → 6 - k < m →
    ∃ r, zyF120_5 n a b acc i s = some (r, s) ∧ zyF234_45 m x y acc i s = if y ≠ 0 then some (zffs A B 6 0 0, s) else some (r, s)
  | 0, m, k, acc, i, hi, hk, hn, hm => by omega
  | n + 1, 0, k, acc, i, hi, hk, hn, hm => by omega
  | n + 1, m + 1, k, acc, i, hi, hk, hn, hm => by
    have ha4 : zy_in a 41 = true := by have := zq_in.mp ha; exact zq_in.mpr ⟨this.1, by omega⟩
    have hb4 : zy_in b 41 = true := by have := zq_in.mp hb; exact zq_in.mpr ⟨this.1, by omega⟩
    show ∃ r, zyF120_5b (zyF120_5 n) a b acc i s = _ ∧ zyF234_45b (zyF234_45 m) x y acc i s = _
    unfold zyF120_5b zyF234_45b zyF120_29 zyF234_81
    rw [hx, hx2]
    by_cases g : k = 6
    · rw [if_pos (by rw [Int32.le_iff_toInt_le, zq_l6]; omega), if_pos (by rw [Int32.le_iff_toInt_le, zq_l6]; omega), zys235 s ha4 hb4, eA', eB']
      exact ⟨acc, rfl, rfl⟩
    · rw [if_neg (by rw [Int32.le_iff_toInt_le, zq_l6]; omega), if_neg (by rw [Int32.le_iff_toInt_le, zq_l6]; omega), zys121 i s ha hb, zq_bind, zys205 i s ha4, zq_bind]
      dsimp only
      rw [zys205 i s hb4, zq_bind, eA, eB, eA', eB']
      dsimp only
      have ih := fun w => zl_120 ha hb eA eB eA' eB' (y := y) hx hx2 n m (k + 1) w (i + (1 : Int32)) (by rw [zq_add (by rw [zq_l1]; omega) (by rw [zq_l1]; omega), zq_l1, hi]; omega) (by omega) (by omega) (by omega)
      by_cases e : zvf A i = zvf B i
      · rw [if_neg (not_not_intro ((zdf_0 A B i).mpr e)), if_neg (not_not_intro e)]
        exact ih _
      · rw [if_pos (fun w => e ((zdf_0 A B i).mp w)), if_pos e]
        exact ih _
theorem zop_agree (x y : Int32) {s : zy_S} (h : zI s) : ∃ r s1 s2, zyF119 x y s = some (r, s1) ∧ zyF234 x y s1 = some (r, s2) ∧ zI s2 := by
  obtain ⟨hw, hg, h1, h2, h3, h4, h5, h6, h7, h8, h9, h10, h11, h12, h13, h14, h15, h16, h17, h18, h19, h20, h21⟩ := id h
  obtain ⟨e1, p0, p1⟩ := id h1
  have hp : zin (s.1 43 6) 0 8 := by rw [← e1]; exact ⟨p0, p1⟩
  by_cases x0 : x.toInt < 0
  · refine ⟨-1, s, s, ?_, ?_, h⟩
    · unfold zyF119
      rw [if_pos (by rw [Int32.lt_iff_toInt_lt, zq_l0]; exact x0)]
    · unfold zyF234
      rw [if_pos (by rw [Int32.lt_iff_toInt_lt, zq_l0]; exact x0)]
  obtain ⟨a, ha⟩ : ∃ a, a = x / (10 : Int32) := ⟨_, rfl⟩
  obtain ⟨b, hb⟩ : ∃ b, b = x - a * (10 : Int32) := ⟨_, rfl⟩
  have all : (0 ≤ a.toInt ∧ a.toInt < (s.1 1 5).toInt) → (0 ≤ b.toInt ∧ b.toInt < (s.1 1 5).toInt) → (0 ≤ y.toInt ∧ y.toInt ≤ 1) → ∃ r s1 s2, zyF119 x y s = some (r, s1) ∧ zyF234 x y s1 = some (r, s2) ∧ zI s2 := by
    intro ga gb gy
    have ain : zy_in a 8 = true := zq_in.mpr ⟨ga.1, by omega⟩
    have bin : zy_in b 8 = true := zq_in.mpr ⟨gb.1, by omega⟩
    have ea := (h2 a.toNatClampNeg (by rw [zq_ix]; omega)).1
    have eb := (h2 b.toNatClampNeg (by rw [zq_ix]; omega)).1
    obtain ⟨r, f1, f2⟩ := zl_120 (s := s) ain bin rfl rfl ea.symm eb.symm (x := x) (y := y) ha.symm hb.symm zy_fu zy_fu 0 0 0 rfl (by omega) (by unfold zy_fu; omega) (by unfold zy_fu; omega)
    refine ⟨if y ≠ 0 then zffs (s.1 3 a.toNatClampNeg) (s.1 3 b.toNatClampNeg) 6 0 0 else r, s, s, ?_, ?_, h⟩
    · unfold zyF119
      rw [if_neg (by rw [Int32.lt_iff_toInt_lt, zq_l0]; exact x0), ← ha, ← hb]
      simp only [zys84, zys25_0, zys122 s ain bin, zq_bind, zqb_e0, zqb_n0, decide_eq_true_eq, decide_eq_false_iff_not]
      rw [if_neg (not_not_intro gy), if_neg (not_not_intro ga), if_pos gb]
      have f1 : zyF120 a b s = some (r, s) := f1
      rw [f1, zq_bind]
      split <;> rfl
    · unfold zyF234
      rw [if_neg (by rw [Int32.lt_iff_toInt_lt, zq_l0]; exact x0), ← ha, ← hb]
      simp only [zys185 _ s hp, zys179, ← e1, zq_bind, zqb_e0, zqb_n0, decide_eq_true_eq, decide_eq_false_iff_not, Int32.toInt_toInt64, zq_j0, zq_j1]
      rw [if_neg (not_not_intro ga), if_neg (not_not_intro gb), if_pos gy, f2]
      split <;> rfl
  have none_ : ¬ ((0 ≤ a.toInt ∧ a.toInt < (s.1 1 5).toInt) ∧ (0 ≤ b.toInt ∧ b.toInt < (s.1 1 5).toInt) ∧ (0 ≤ y.toInt ∧ y.toInt ≤ 1)) → ∃ r s1 s2, zyF119 x y s = some (r, s1) ∧ zyF234 x y s1 = some (r, s2) ∧ zI s2 := by
    intro gg
    refine ⟨-1, s, s, ?_, ?_, h⟩
    · unfold zyF119
      rw [if_neg (by rw [Int32.lt_iff_toInt_lt, zq_l0]; exact x0), ← ha, ← hb]
      simp only [zys84, zys25_0, zq_bind, zqb_e0, zqb_n0, decide_eq_true_eq, decide_eq_false_iff_not]
      by_cases gy : 0 ≤ y.toInt ∧ y.toInt ≤ 1
      · rw [if_neg (not_not_intro gy)]
        by_cases ga : 0 ≤ a.toInt ∧ a.toInt < (s.1 1 5).toInt
        · rw [if_neg (not_not_intro ga), if_neg (fun gb => gg ⟨ga, gb, gy⟩)]
        · rw [if_pos ga]
      · rw [if_pos gy]
    · unfold zyF234
      rw [if_neg (by rw [Int32.lt_iff_toInt_lt, zq_l0]; exact x0), ← ha, ← hb]
      simp only [zys185 _ s hp, zys179, ← e1, zq_bind, zqb_e0, zqb_n0, decide_eq_true_eq, decide_eq_false_iff_not, Int32.toInt_toInt64, zq_j0, zq_j1]
      by_cases ga : 0 ≤ a.toInt ∧ a.toInt < (s.1 1 5).toInt
      · rw [if_neg (not_not_intro ga)]
        by_cases gb : 0 ≤ b.toInt ∧ b.toInt < (s.1 1 5).toInt
        · rw [if_neg (not_not_intro gb), if_neg (fun gy => gg ⟨ga, gb, gy⟩)]
        · rw [if_pos gb]
      · rw [if_pos ga]
  by_cases gg : (0 ≤ a.toInt ∧ a.toInt < (s.1 1 5).toInt) ∧ (0 ≤ b.toInt ∧ b.toInt < (s.1 1 5).toInt) ∧ (0 ≤ y.toInt ∧ y.toInt ≤ 1)
  · exact all gg.1 gg.2.1 gg.2.2
  · exact none_ gg
/-- who is least far: both -/
theorem zl_124 {x : Int32} {s : zy_S} (h2 : zR2 s) (e1 : s.1 1 5 = s.1 43 6) {P : Nat} (hP : (s.1 1 5).toInt = (P : Int)) (hP8 : P ≤ 8) (hx : 0 ≤ x.toInt ∧ x.toInt < (P : Int)) : ∀ (n m k : Nat) (f i : Int32), i.toInt = (k : Int) → k ≤ P → P - k < n → P - k < m → (f = -2 ∨ 0 ≤ f.toInt ∧ f.toInt < (P : Int)) →
    ∃ r, zyF124_5 n x f i s = some (r, s) ∧ zyF236_16 m x f i s = some (r, s)
  | 0, m, k, f, i, hi, hk, hn, hm, hf => by omega
  | n + 1, 0, k, f, i, hi, hk, hn, hm, hf => by omega
  | n + 1, m + 1, k, f, i, hi, hk, hn, hm, hf => by
    show ∃ r, zyF124_5b (zyF124_5 n) x f i s = _ ∧ zyF236_16b (zyF236_16 m) x f i s = _
    unfold zyF124_5b zyF236_16b zyF124_42 zyF236_48 zyF124_44 zyF236_50
    rw [← e1]
    by_cases g : k = P
    · rw [if_pos (by rw [Int32.le_iff_toInt_le]; omega), if_pos (by rw [Int32.le_iff_toInt_le]; omega)]
      exact ⟨f, rfl, rfl⟩
    · have ih := fun w hw => zl_124 h2 e1 hP hP8 hx n m (k + 1) w (i + (1 : Int32)) (by rw [zq_add (by rw [zq_l1]; omega) (by rw [zq_l1]; omega), zq_l1, hi]; omega) (by omega) (by omega) (by omega) hw
      have hlt : ¬ (s.1 1 5 ≤ i) := by rw [Int32.le_iff_toInt_le]; omega
      rw [if_neg hlt, if_neg hlt]
      by_cases ex : i = x
      · rw [if_pos ex, if_pos ex]
        exact ih f hf
      · rw [if_neg ex, if_neg ex]
        by_cases ef : f = -2
        · rw [if_pos ef, if_pos (by rw [ef]; decide)]
          exact ih i (Or.inr ⟨by omega, by omega⟩)
        · obtain ⟨f0, f1⟩ : 0 ≤ f.toInt ∧ f.toInt < (P : Int) := by
            rcases hf with e | e
            · exact absurd e ef
            · exact e
          have xin : zy_in x 8 = true := zq_in.mpr ⟨hx.1, by omega⟩
          have iin : zy_in i 8 = true := zq_in.mpr ⟨by omega, by omega⟩
          have fin : zy_in f 8 = true := zq_in.mpr ⟨f0, by omega⟩
          have xin4 : zy_in x 41 = true := zq_in.mpr ⟨hx.1, by omega⟩
          have iin4 : zy_in i 41 = true := zq_in.mpr ⟨by omega, by omega⟩
          have fin4 : zy_in f 41 = true := zq_in.mpr ⟨f0, by omega⟩
          have bx := (h2 x.toNatClampNeg (by rw [zq_ix]; omega)).1
          have bi := (h2 i.toNatClampNeg (by rw [zq_ix]; omega)).1
          have bf := (h2 f.toNatClampNeg (by rw [zq_ix]; omega)).1
          rw [if_neg ef, if_neg (by rw [Int32.lt_iff_toInt_lt, zq_l0]; omega), zys122 s xin iin, zys235 s xin4 iin4, zq_bind, zq_bind]
          dsimp only
          rw [zys122 s xin fin, zys235 s xin4 fin4, zq_bind, zq_bind, bx, bi, bf]
          dsimp only
          split
          · exact ih f hf
          · exact ih i (Or.inr ⟨by omega, by omega⟩)
theorem zop_like (x : Int32) {s : zy_S} (h : zI s) : ∃ r s1 s2, zyF123 x s = some (r, s1) ∧ zyF236 x s1 = some (r, s2) ∧ zI s2 := by
  obtain ⟨hw, hg, h1, h2, h3, h4, h5, h6, h7, h8, h9, h10, h11, h12, h13, h14, h15, h16, h17, h18, h19, h20, h21⟩ := id h
  obtain ⟨e1, p0, p1⟩ := id h1
  have hp : zin (s.1 43 6) 0 8 := by rw [← e1]; exact ⟨p0, p1⟩
  by_cases hx : 0 ≤ x.toInt ∧ x.toInt < (s.1 1 5).toInt
  · obtain ⟨r, f1, f2⟩ := zl_124 (x := x) h2 e1 (P := (s.1 1 5).toInt.toNat) (by omega) (by omega) (by omega) zy_fu zy_fu 0 (-2) 0 rfl (by omega) (by unfold zy_fu; omega) (by unfold zy_fu; omega) (Or.inl rfl)
    have f1 : zyF124 x s = some (r, s) := f1
    refine ⟨r, s, s, ?_, ?_, h⟩
    · unfold zyF123
      simp only [zys25_0, zq_bind, zqb_e0, decide_eq_false_iff_not]
      rw [if_neg (not_not_intro hx), f1]
      rfl
    · unfold zyF236
      simp only [zys185 _ s hp, ← e1, zq_bind, zqb_n0, decide_eq_true_eq, Int32.toInt_toInt64]
      rw [if_pos hx, f2]
  · refine ⟨-1, s, s, ?_, ?_, h⟩
    · unfold zyF123
      simp only [zys25_0, zq_bind, zqb_e0, decide_eq_false_iff_not]
      rw [if_pos hx]
    · unfold zyF236
      simp only [zys185 _ s hp, ← e1, zq_bind, zqb_n0, decide_eq_true_eq, Int32.toInt_toInt64]
      rw [if_neg hx]
/-- the LINEs of a MATTER that stand -/
def zvo (L m : Int32) : Int32 := (L >>> (((4 : Int32) * m) &&& 31)) &&& (15 : Int32)
theorem zvo_in {L m : Int32} {k : Nat} (l0 : 0 ≤ L.toInt) (hm : m.toInt = (k : Int)) (hk : k ≤ 6) : 0 ≤ (zvo L m).toInt ∧ (zvo L m).toInt ≤ 15 := by
  have e : (zvo L m).toInt = zb_c 13 (zb_c 17 L.toInt ((4 : Int32) * m).toInt) 15 := by
    have e1 : (zvo L m).toInt = (zb 13 (zb 17 L ((4 : Int32) * m)) 15).toInt := rfl
    rw [e1, zb_cEq 13 _ _ (by omega), zb_cEq 17 _ _ (by omega)]
    rfl
  have e4 : ((4 : Int32) * m).toInt = ((4 * k : Nat) : Int) := by rw [zq_mul (by rw [zq_l4]; omega) (by rw [zq_l4]; omega), zq_l4, hm]; omega
  have el : L.toInt = (L.toInt.toNat : Int) := (Int.toNat_of_nonneg l0).symm
  have lh := zq_hi L
  have u : L.toInt.toNat / 2 ^ (4 * k) ≤ L.toInt.toNat := Nat.div_le_self _ _
  have e15 : (15 : Int) = ((15 : Nat) : Int) := rfl
  rw [e4, el, zN_shr (by omega) (by omega), e15, zN_and (by omega) (by omega)] at e
  have v : L.toInt.toNat / 2 ^ (4 * k) &&& 15 ≤ 15 := Nat.and_le_right
  omega
theorem zvo_9 : ∀ k : Nat, k < 16 → ((Int32.ofInt (k : Int)) &&& (9 : Int32) = 9 ↔ ((Int32.ofInt (k : Int) >>> ((0 : Int32) &&& 31)) &&& (1 : Int32) = 1 ∧ (Int32.ofInt (k : Int) >>> ((3 : Int32) &&& 31)) &&& (1 : Int32) = 1)) := by decide +kernel
theorem zl_102 {x : Int32} {s : zy_S} (l0 : 0 ≤ (s.1 1 3).toInt) (e6 : s.1 1 3 = s.1 43 7) (hx : 0 ≤ x.toInt ∧ x.toInt ≤ 2) : ∀ (n m k : Nat) (acc i : Int32), i.toInt = (k : Int) → k ≤ 6 → 6 - k < n → 6 - k < m →
    ∃ r, zyF102_15 n x acc i s = some (r, s) ∧ zyF225_18 m x acc i s = some (r, s)
  | 0, m, k, acc, i, hi, hk, hn, hm => by omega
  | n + 1, 0, k, acc, i, hi, hk, hn, hm => by omega
  | n + 1, m + 1, k, acc, i, hi, hk, hn, hm => by
    show ∃ r, zyF102_15b (zyF102_15 n) x acc i s = _ ∧ zyF225_18b (zyF225_18 m) x acc i s = _
    unfold zyF102_15b zyF225_18b
    rw [← e6]
    by_cases g : k = 6
    · rw [if_pos (by rw [Int32.le_iff_toInt_le, zq_l6]; omega), if_pos (by rw [Int32.le_iff_toInt_le, zq_l6]; omega)]
      exact ⟨acc, rfl, rfl⟩
    · have ih := fun w => zl_102 (x := x) l0 e6 hx n m (k + 1) w (i + (1 : Int32)) (by rw [zq_add (by rw [zq_l1]; omega) (by rw [zq_l1]; omega), zq_l1, hi]; omega) (by omega) (by omega) (by omega)
      have yes : ∃ r, zyF102_82 (zyF102_15 n) x acc i s = some (r, s) ∧ zyF225_91 (zyF225_18 m) x acc i 1 s = some (r, s) := by
        unfold zyF102_82 zyF102_87 zyF102_102 zyF225_91 zyF225_106
        rw [if_neg (by decide), if_neg (by decide)]
        exact ih _
      have no : ∃ r, zyF102_86 (zyF102_15 n) x acc i s = some (r, s) ∧ zyF225_91 (zyF225_18 m) x acc i 0 s = some (r, s) := by
        unfold zyF102_86 zyF102_87 zyF102_102 zyF225_91 zyF225_106
        rw [if_pos rfl, if_pos rfl]
        exact ih _
      have f57 : zyF57 (s.1 1 3) i s = some (zvo (s.1 1 3) i, s) := rfl
      obtain ⟨w0, w1⟩ := zvo_in l0 hi (show k ≤ 6 by omega)
      obtain ⟨w, hw⟩ : ∃ w, w = zvo (s.1 1 3) i := ⟨_, rfl⟩
      have ew : ((s.1 1 3) >>> (((4 : Int32) * i) &&& 31)) &&& (15 : Int32) = w := hw.symm
      rw [← hw] at w0 w1
      rw [if_neg (by rw [Int32.le_iff_toInt_le, zq_l6]; omega), if_neg (by rw [Int32.le_iff_toInt_le, zq_l6]; omega), f57, zq_bind, ← hw, ew]
      dsimp only
      by_cases x0 : x = 0
      · rw [if_neg (not_not_intro x0), if_neg (not_not_intro x0)]
        by_cases e0 : w = 0
        · rw [if_pos e0, if_neg (not_not_intro e0)]
          exact yes
        · rw [if_neg e0, if_pos e0]
          unfold zyF102_43 zyF102_68
          rw [if_pos (by rw [x0]; decide), if_pos (by rw [x0]; decide)]
          exact no
      · rw [if_pos x0, if_pos x0]
        unfold zyF102_43
        by_cases x1 : x = 1
        · have f32 : ∀ y, zyF32 w y s = some ((w >>> (y &&& 31)) &&& (1 : Int32), s) := fun _ => rfl
          have e68 : zyF102_68 (zyF102_15 n) x acc i w s = zyF102_86 (zyF102_15 n) x acc i s := by
            unfold zyF102_68
            rw [if_pos (by rw [x1]; decide)]
          rw [if_neg (not_not_intro x1), if_neg (not_not_intro x1), f32, zq_bind]
          dsimp only
          rw [f32, zq_bind, e68]
          dsimp only
          have e9 := zvo_9 w.toInt.toNat (by omega)
          have ewn : Int32.ofInt ((w.toInt.toNat : Nat) : Int) = w := by rw [Int.toNat_of_nonneg w0, Int32.ofInt_toInt]
          rw [ewn] at e9
          by_cases b9 : w &&& (9 : Int32) = 9
          · obtain ⟨c1, c2⟩ := e9.mp b9
            rw [if_neg (not_not_intro c1), if_pos c2, if_neg (not_not_intro b9)]
            exact yes
          · rw [if_pos b9]
            by_cases c1 : (w >>> ((0 : Int32) &&& 31)) &&& (1 : Int32) = 1
            · rw [if_neg (not_not_intro c1), if_neg (fun c2 => b9 (e9.mpr ⟨c1, c2⟩))]
              exact no
            · rw [if_pos c1]
              exact no
        · have x2 : x = 2 := by
            have t0 : x.toInt ≠ 0 := fun e => x0 (zq_ext e)
            have t1 : x.toInt ≠ 1 := fun e => x1 (zq_ext e)
            exact zq_ext (by rw [zq_l2]; omega)
          rw [if_pos x1, if_pos x1]
          unfold zyF102_68
          rw [if_neg (not_not_intro x2), zys63 s w0 (by omega), zys209 s w0 (by omega), zq_bind, zq_bind]
          dsimp only
          by_cases c : zpc w = 1
          · rw [if_neg (not_not_intro c), if_neg (not_not_intro c)]
            exact yes
          · rw [if_pos c, if_pos c]
            exact no
theorem zop_matters (x : Int32) {s : zy_S} (h : zI s) : ∃ r s1 s2, zyF102 x s = some (r, s1) ∧ zyF225 x s1 = some (r, s2) ∧ zI s2 := by
  obtain ⟨hw, hg, h1, h2, h3, h4, h5, h6, h7, h8, h9, h10, h11, h12, h13, h14, h15, h16, h17, h18, h19, h20, h21⟩ := id h
  obtain ⟨e6, l0, l1⟩ := id h6
  by_cases hx : 0 ≤ x.toInt ∧ x.toInt ≤ 2
  · obtain ⟨r, f1, f2⟩ := zl_102 l0 e6 hx zy_fu zy_fu 0 0 0 rfl (by omega) (by unfold zy_fu; omega) (by unfold zy_fu; omega)
    refine ⟨r, s, s, ?_, ?_, h⟩
    · unfold zyF102
      rw [if_neg (by rw [Int32.lt_iff_toInt_lt, zq_l0]; omega), if_pos (by rw [Int32.le_iff_toInt_le, zq_l2]; omega), f1]
    · unfold zyF225
      simp only [zys179, zq_bind, zqb_n0, decide_eq_true_eq, Int32.toInt_toInt64, zq_j0, show (2 : Int64).toInt = 2 from rfl]
      rw [if_pos hx, f2]
  · refine ⟨-1, s, s, ?_, ?_, h⟩
    · unfold zyF102
      by_cases g : x.toInt < 0
      · rw [if_pos (by rw [Int32.lt_iff_toInt_lt, zq_l0]; exact g)]
      · rw [if_neg (by rw [Int32.lt_iff_toInt_lt, zq_l0]; exact g), if_neg (by rw [Int32.le_iff_toInt_le, zq_l2]; omega)]
    · unfold zyF225
      simp only [zys179, zq_bind, zqb_n0, decide_eq_true_eq, Int32.toInt_toInt64, zq_j0, show (2 : Int64).toInt = 2 from rfl]
      rw [if_neg hx]
end
section
/-! PART 46.99: votes. Made by wip/v4/gen_votes2.py. -/
/-! ints as sets of bits -/
theorem zmk_or {a b : Int32} (ha : 0 ≤ a.toInt) (hb : 0 ≤ b.toInt) : 0 ≤ (a ||| b).toInt ∧ (a ||| b).toInt.toNat = a.toInt.toNat ||| b.toInt.toNat := by
  have e : (a ||| b).toInt = zb_c 14 a.toInt b.toInt := zb_cEq 14 _ _ (by omega)
  have ea : a.toInt = (a.toInt.toNat : Int) := (Int.toNat_of_nonneg ha).symm
  have eb : b.toInt = (b.toInt.toNat : Int) := (Int.toNat_of_nonneg hb).symm
  have ah := zq_hi a
  have bh := zq_hi b
  rw [ea, eb, zN_or (by omega) (by omega)] at e
  exact ⟨by omega, by omega⟩
theorem zmk_bit {p : Int32} {k : Nat} (h : p.toInt = (k : Int)) (hk : k ≤ 23) : 0 ≤ ((1 : Int32) <<< (p &&& 31)).toInt ∧ ((1 : Int32) <<< (p &&& 31)).toInt.toNat = 2 ^ k := by
  have e := zbs_1 (x := p) (by omega) (by omega)
  have ek : p.toInt.toNat = k := by omega
  rw [ek] at e
  obtain ⟨u, hu⟩ : ∃ u, u = 2 ^ k := ⟨_, rfl⟩
  rw [← hu] at e ⊢
  omega
theorem zmk_andn {a b : Int32} (ha : 0 ≤ a.toInt) (hb : 0 ≤ b.toInt) : 0 ≤ (a &&& (b ^^^ (-1 : Int32))).toInt ∧ ∀ j, (a &&& (b ^^^ (-1 : Int32))).toInt.toNat.testBit j = (a.toInt.toNat.testBit j && !b.toInt.toNat.testBit j) := by
  have e : (a &&& (b ^^^ (-1 : Int32))).toInt = zb_c 13 a.toInt (b ^^^ (-1 : Int32)).toInt := zb_cEq 13 _ _ (by omega)
  have e2 : (b ^^^ (-1 : Int32)).toInt = zb_c 15 b.toInt (-1) := zb_cEq 15 b (-1) (by omega)
  have ea : a.toInt = (a.toInt.toNat : Int) := (Int.toNat_of_nonneg ha).symm
  have eb : b.toInt = (b.toInt.toNat : Int) := (Int.toNat_of_nonneg hb).symm
  have ah := zq_hi a
  have bh := zq_hi b
  rw [e2, ea, eb, zN_andn (by omega) (by omega)] at e
  have en : (a &&& (b ^^^ (-1 : Int32))).toInt.toNat = a.toInt.toNat ^^^ (a.toInt.toNat &&& b.toInt.toNat) := by omega
  refine ⟨by omega, fun j => ?_⟩
  rw [en, Nat.testBit_xor, Nat.testBit_and]
  cases a.toInt.toNat.testBit j <;> cases b.toInt.toNat.testBit j <;> rfl
theorem zmk_t {x p : Int32} {k : Nat} (hx : 0 ≤ x.toInt) (hp : p.toInt = (k : Int)) (hk : k ≤ 31) : zbt x p = x.toInt.toNat.testBit k := by
  unfold zbt
  have e : ((x >>> (p &&& 31)) &&& (1 : Int32)).toInt = zb_c 13 (zb_c 17 x.toInt p.toInt) 1 := by
    have e1 : ((x >>> (p &&& 31)) &&& (1 : Int32)).toInt = (zb 13 (zb 17 x p) 1).toInt := rfl
    rw [e1, zb_cEq 13 _ _ (by omega), zb_cEq 17 _ _ (by omega)]
    rfl
  have ex : x.toInt = (x.toInt.toNat : Int) := (Int.toNat_of_nonneg hx).symm
  have xh := zq_hi x
  have u : x.toInt.toNat / 2 ^ k ≤ x.toInt.toNat := Nat.div_le_self _ _
  have e1 : (1 : Int) = ((1 : Nat) : Int) := rfl
  rw [hp, ex, zN_shr (by omega) hk, e1, zN_and (by omega) (by omega), Nat.and_one_is_mod] at e
  rw [Nat.testBit_eq_decide_div_mod_eq]
  refine decide_eq_decide.mpr ⟨fun h => ?_, fun h => ?_⟩
  · have := congrArg Int32.toInt h
    rw [zq_l1] at this
    omega
  · exact zq_ext (by rw [zq_l1]; omega)
theorem zmk_ext {a b : Int32} (ha : 0 ≤ a.toInt) (hb : 0 ≤ b.toInt) (h : ∀ j, a.toInt.toNat.testBit j = b.toInt.toNat.testBit j) : a = b := by
  have := Nat.eq_of_testBit_eq h
  exact zq_ext (by omega)
/-- one more bit -/
theorem zmk_add {a p y : Int32} {k : Nat} {b : Bool} (ha : 0 ≤ a.toInt) (hp : p.toInt = (k : Int)) (hk : k ≤ 23) (hy : y = if b = true then (1 : Int32) <<< (p &&& 31) else 0) : 0 ≤ (a ||| y).toInt ∧ ∀ j, (a ||| y).toInt.toNat.testBit j = (a.toInt.toNat.testBit j || (decide (j = k) && b)) := by
  obtain ⟨p0, p1⟩ := zmk_bit hp hk
  cases b with
  | true =>
    have hy : y = (1 : Int32) <<< (p &&& 31) := hy
    rw [hy]
    obtain ⟨q0, q1⟩ := zmk_or ha p0
    refine ⟨q0, fun j => ?_⟩
    rw [q1, p1, Nat.testBit_or, Nat.testBit_two_pow, Bool.and_true]
    have : decide (k = j) = decide (j = k) := decide_eq_decide.mpr ⟨Eq.symm, Eq.symm⟩
    rw [this]
  | false =>
    have hy : y = 0 := hy
    rw [hy, Int32.or_zero]
    refine ⟨ha, fun j => ?_⟩
    rw [Bool.and_false, Bool.or_false]
theorem zmk_every {P : Int32} {n : Nat} (h : P.toInt = (n : Int)) (hn : n ≤ 8) : 0 ≤ (((1 : Int32) <<< (P &&& 31)) - (1 : Int32)).toInt ∧ ∀ j, (((1 : Int32) <<< (P &&& 31)) - (1 : Int32)).toInt.toNat.testBit j = decide (j < n) := by
  obtain ⟨p0, p1⟩ := zmk_bit h (by omega)
  have u : 2 ^ n ≤ 2 ^ 8 := Nat.pow_le_pow_right (by omega) hn
  have v : 1 ≤ 2 ^ n := Nat.one_le_two_pow
  have e : (((1 : Int32) <<< (P &&& 31)) - (1 : Int32)).toInt = ((2 ^ n - 1 : Nat) : Int) := by rw [zq_sub (by rw [zq_l1]; omega) (by rw [zq_l1]; omega), zq_l1]; omega
  refine ⟨by omega, fun j => ?_⟩
  have en : (((1 : Int32) <<< (P &&& 31)) - (1 : Int32)).toInt.toNat = 2 ^ n - 1 := by omega
  rw [en]
  exact Nat.testBit_two_pow_sub_one n j
/-! who believes -/
def zvbl (s : zy_S) (x : Int32) (j : Nat) : Bool := zvw (s.1 3 j) x
/-- what is known of PEOPLE -/
def zPe (s : zy_S) (P : Nat) : Prop := (s.1 1 5).toInt = (P : Int) ∧ (s.1 43 6).toInt = (P : Int) ∧ P ≤ 8 ∧ (∀ j, j < 8 → s.1 3 j = s.1 44 j ∧ zin (s.1 3 j) 0 4095) ∧ (∀ j, j < 8 → s.1 4 j = s.1 44 (8 + j) ∧ zin (s.1 4 j) 0 9)
theorem zPe_of {s : zy_S} (h : zI s) : zPe s (s.1 1 5).toInt.toNat := by
  obtain ⟨hw, hg, h1, h2, h3, h4, h5, h6, h7, h8, h9, h10, h11, h12, h13, h14, h15, h16, h17, h18, h19, h20, h21⟩ := id h
  obtain ⟨e1, p0, p1⟩ := id h1
  exact ⟨by omega, by rw [← e1]; omega, by omega, h2, h3⟩
section ZV
variable {s : zy_S} {P : Nat}
theorem zl_95 (hP : zPe s P) (x : Int32) : ∀ (n m k : Nat) (acc i : Int32), i.toInt = (k : Int) → k ≤ P → P - k < n → P - k < m → 0 ≤ acc.toInt →
    ∃ r, zyF95_4 n x acc i s = some (r, s) ∧ zyF223_4 m x acc i s = some (r, s) ∧ 0 ≤ r.toInt ∧ ∀ j, r.toInt.toNat.testBit j = (acc.toInt.toNat.testBit j || (decide (k ≤ j ∧ j < P) && zvbl s x j))
  | 0, m, k, acc, i, hi, hk, hn, hm, ha => by omega
  | n + 1, 0, k, acc, i, hi, hk, hn, hm, ha => by omega
  | n + 1, m + 1, k, acc, i, hi, hk, hn, hm, ha => by
    obtain ⟨e1, e2, h8, hB, -⟩ := id hP
    show ∃ r, zyF95_4b (zyF95_4 n) x acc i s = _ ∧ zyF223_4b (zyF223_4 m) x acc i s = _ ∧ _
    unfold zyF95_4b zyF223_4b zyF95_35 zyF223_29
    by_cases g : k = P
    · rw [if_pos (by rw [Int32.le_iff_toInt_le]; omega), if_pos (by rw [Int32.le_iff_toInt_le]; omega)]
      refine ⟨acc, rfl, rfl, ha, fun j => ?_⟩
      rw [decide_eq_false (show ¬ (k ≤ j ∧ j < P) by omega), Bool.false_and, Bool.or_false]
    · have iin : zy_in i 8 = true := zq_in.mpr ⟨by omega, by omega⟩
      have iin4 : zy_in i 41 = true := zq_in.mpr ⟨by omega, by omega⟩
      have ik : i.toNatClampNeg = k := by rw [zq_ix]; omega
      rw [if_neg (by rw [Int32.le_iff_toInt_le]; omega), if_neg (by rw [Int32.le_iff_toInt_le]; omega), zys96 x s iin, zys222 x s iin4, zq_bind, zq_bind, ik, ← (hB k (by omega)).1]
      dsimp only
      obtain ⟨b, hb⟩ : ∃ b, b = zvw (s.1 3 k) x := ⟨_, rfl⟩
      rw [← hb]
      have ih := fun (w : Int32) (hw : 0 ≤ w.toInt) => zl_95 hP x n m (k + 1) w (i + (1 : Int32)) (by rw [zq_add (by rw [zq_l1]; omega) (by rw [zq_l1]; omega), zq_l1, hi]; omega) (by omega) (by omega) (by omega) hw
      have fin : ∀ y : Int32, (y = if b = true then (1 : Int32) <<< (i &&& 31) else 0) → ∃ r, zyF95_4 n x (acc ||| y) (i + (1 : Int32)) s = some (r, s) ∧ zyF223_4 m x (acc ||| y) (i + (1 : Int32)) s = some (r, s) ∧ 0 ≤ r.toInt ∧ ∀ j, r.toInt.toNat.testBit j = (acc.toInt.toNat.testBit j || (decide (k ≤ j ∧ j < P) && zvbl s x j)) := by
        intro y hy
        obtain ⟨q0, q1⟩ := zmk_add (k := k) ha hi (by omega) hy
        obtain ⟨r, f1, f2, f3, f4⟩ := ih _ q0
        refine ⟨r, f1, f2, f3, fun j => ?_⟩
        rw [f4, q1]
        by_cases ej : j = k
        · subst ej
          rw [decide_eq_true rfl, decide_eq_false (show ¬ (j + 1 ≤ j ∧ j < P) by omega), decide_eq_true (show j ≤ j ∧ j < P from ⟨Nat.le_refl _, by omega⟩), hb]
          show _ = (_ || (true && zvw (s.1 3 j) x))
          rw [Bool.false_and, Bool.or_false]
        · rw [decide_eq_false ej, Bool.false_and, Bool.or_false]
          have : decide (k + 1 ≤ j ∧ j < P) = decide (k ≤ j ∧ j < P) := decide_eq_decide.mpr (by omega)
          rw [this]
      cases b with
      | true =>
        rw [if_neg (by decide), if_neg (by decide)]
        exact fin _ rfl
      | false =>
        rw [if_pos (by decide), if_pos (by decide)]
        exact fin 0 rfl
theorem zys95 (hP : zPe s P) (x : Int32) : ∃ r, zyF95 x s = some (r, s) ∧ zyF223 x s = some (r, s) ∧ 0 ≤ r.toInt ∧ ∀ j, r.toInt.toNat.testBit j = (decide (j < P) && zvbl s x j) := by
  obtain ⟨r, f1, f2, f3, f4⟩ := zl_95 hP x zy_fu zy_fu 0 0 0 rfl (by omega) (by have := hP.2.2.1; unfold zy_fu; omega) (by have := hP.2.2.1; unfold zy_fu; omega) (by decide)
  refine ⟨r, f1, f2, f3, fun j => ?_⟩
  rw [f4]
  have e0 : (0 : Int32).toInt.toNat.testBit j = false := by rw [zq_l0]; exact Nat.zero_testBit j
  have ed : decide (0 ≤ j ∧ j < P) = decide (j < P) := decide_eq_decide.mpr (by omega)
  rw [e0, ed, Bool.false_or]
/-- the STANDING of some -/
def zvsm (f : Nat → Bool) (st : Nat → Int32) : Nat → Nat → Int32 → Int32
  | 0, _, acc => acc
  | n + 1, k, acc => zvsm f st n (k + 1) (acc + if f k = true then st k else 0)
theorem zvsm_congr {f g : Nat → Bool} {st : Nat → Int32} : ∀ (n k : Nat) (acc : Int32), (∀ j, k ≤ j → j < k + n → f j = g j) → zvsm f st n k acc = zvsm g st n k acc
  | 0, _, _, _ => rfl
  | n + 1, k, acc, h => by
    show zvsm f st n (k + 1) _ = zvsm g st n (k + 1) _
    rw [h k (Nat.le_refl _) (by omega)]
    exact zvsm_congr n (k + 1) _ (fun j h1 h2 => h j (by omega) (by omega))
theorem zvsm_b {f : Nat → Bool} {st : Nat → Int32} (hst : ∀ j, j < 8 → 0 ≤ (st j).toInt ∧ (st j).toInt ≤ 9) : ∀ (n k : Nat) (acc : Int32), k + n ≤ 8 → 0 ≤ acc.toInt → acc.toInt ≤ 9 * (k : Int) → 0 ≤ (zvsm f st n k acc).toInt ∧ (zvsm f st n k acc).toInt ≤ 9 * ((k + n : Nat) : Int)
  | 0, k, acc, h, h0, h1 => ⟨h0, h1⟩
  | n + 1, k, acc, h, h0, h1 => by
    show 0 ≤ (zvsm f st n (k + 1) (acc + if f k = true then st k else 0)).toInt ∧ (zvsm f st n (k + 1) (acc + if f k = true then st k else 0)).toInt ≤ _
    have hs := hst k (by omega)
    have key : ∀ y : Int32, 0 ≤ y.toInt → y.toInt ≤ 9 → 0 ≤ (zvsm f st n (k + 1) (acc + y)).toInt ∧ (zvsm f st n (k + 1) (acc + y)).toInt ≤ 9 * ((k + 1 + n : Nat) : Int) := fun y y0 y1 => by
      have e : (acc + y).toInt = acc.toInt + y.toInt := zq_add (by omega) (by omega)
      exact zvsm_b hst n (k + 1) _ (by omega) (by omega) (by omega)
    have e : k + (n + 1) = k + 1 + n := by omega
    rw [e]
    split
    · exact key _ hs.1 hs.2
    · exact key 0 (by decide) (by decide)
theorem zl_98 (hP : zPe s P) {w : Int32} (hw : 0 ≤ w.toInt) : ∀ (n k : Nat) (acc i : Int32), i.toInt = (k : Int) → k ≤ P → P - k < n → zyF98_4 n w acc i s = some (zvsm (fun j => w.toInt.toNat.testBit j) (s.1 4) (P - k) k acc, s)
  | 0, k, acc, i, hi, hk, hn => by omega
  | n + 1, k, acc, i, hi, hk, hn => by
    obtain ⟨e1, e2, h8, -, -⟩ := id hP
    show zyF98_4b (zyF98_4 n) w acc i s = _
    unfold zyF98_4b zyF98_38
    by_cases g : k = P
    · rw [if_pos (by rw [Int32.le_iff_toInt_le]; omega), g, Nat.sub_self]
      rfl
    · have f32 : zyF32 w i s = some ((w >>> (i &&& 31)) &&& (1 : Int32), s) := rfl
      have ik : i.toNatClampNeg = k := by rw [zq_ix]; omega
      have iin : zy_in i 8 = true := zq_in.mpr ⟨by omega, by omega⟩
      have e : P - k = (P - (k + 1)) + 1 := by omega
      rw [if_neg (by rw [Int32.le_iff_toInt_le]; omega), f32, zq_bind, e]
      dsimp only
      have ht := zmk_t (x := w) (p := i) hw hi (by omega)
      unfold zbt at ht
      have ih := fun y => zl_98 hP hw n (k + 1) y (i + (1 : Int32)) (by rw [zq_add (by rw [zq_l1]; omega) (by rw [zq_l1]; omega), zq_l1, hi]; omega) (by omega) (by omega)
      show _ = some (zvsm (fun j => w.toInt.toNat.testBit j) (s.1 4) (P - (k + 1)) (k + 1) (acc + if w.toInt.toNat.testBit k = true then s.1 4 k else 0), s)
      rw [← ht]
      by_cases b : (w >>> (i &&& 31)) &&& (1 : Int32) = 1
      · rw [if_neg (not_not_intro b), if_pos iin, ik, if_pos (decide_eq_true b)]
        exact ih _
      · rw [if_pos b, if_neg (fun q => b (of_decide_eq_true q))]
        exact ih _
theorem zys98 (hP : zPe s P) {w : Int32} (hw : 0 ≤ w.toInt) : zyF98 w s = some (zvsm (fun j => w.toInt.toNat.testBit j) (s.1 4) P 0 0, s) := zl_98 hP hw zy_fu 0 0 0 rfl (by omega) (by have := hP.2.2.1; unfold zy_fu; omega)
theorem zl_238 (hP : zPe s P) (x : Int32) : ∀ (n k : Nat) (acc i : Int32), i.toInt = (k : Int) → k ≤ P → P - k < n → zyF238_4 n x acc i s = some (zvsm (zvbl s x) (s.1 4) (P - k) k acc, s)
  | 0, k, acc, i, hi, hk, hn => by omega
  | n + 1, k, acc, i, hi, hk, hn => by
    obtain ⟨e1, e2, h8, hB, hS⟩ := id hP
    show zyF238_4b (zyF238_4 n) x acc i s = _
    unfold zyF238_4b zyF238_35
    by_cases g : k = P
    · rw [if_pos (by rw [Int32.le_iff_toInt_le]; omega), g, Nat.sub_self]
      rfl
    · have iin4 : zy_in i 41 = true := zq_in.mpr ⟨by omega, by omega⟩
      have ik : i.toNatClampNeg = k := by rw [zq_ix]; omega
      have e8 : ((8 : Int32) + i).toInt = 8 + (k : Int) := by rw [zq_add (by rw [zq_l8]; omega) (by rw [zq_l8]; omega), zq_l8, hi]
      have e8n : ((8 : Int32) + i).toNatClampNeg = 8 + k := by rw [zq_ix, e8]; omega
      have e : P - k = (P - (k + 1)) + 1 := by omega
      rw [if_neg (by rw [Int32.le_iff_toInt_le]; omega), zys222 x s iin4, zq_bind, ik, ← (hB k (by omega)).1, e]
      dsimp only
      have ih := fun y => zl_238 hP x n (k + 1) y (i + (1 : Int32)) (by rw [zq_add (by rw [zq_l1]; omega) (by rw [zq_l1]; omega), zq_l1, hi]; omega) (by omega) (by omega)
      show _ = some (zvsm (zvbl s x) (s.1 4) (P - (k + 1)) (k + 1) (acc + if zvw (s.1 3 k) x = true then s.1 4 k else 0), s)
      cases hb : zvw (s.1 3 k) x with
      | true =>
        rw [if_neg (by decide), if_pos (zq_in.mpr ⟨by omega, by omega⟩), e8n, ← (hS k (by omega)).1]
        exact ih _
      | false =>
        rw [if_pos (by decide)]
        exact ih _
/-- the STANDING with a LINE -/
def zWs (s : zy_S) (P : Nat) (x : Int32) : Int32 := zvsm (zvbl s x) (s.1 4) P 0 0
theorem zys238 (hP : zPe s P) (x : Int32) : zyF238 x s = some (zWs s P x, s) := zl_238 hP x zy_fu 0 0 0 rfl (by omega) (by have := hP.2.2.1; unfold zy_fu; omega)
theorem zys128 (hP : zPe s P) (m v : Int32) : zyF128 m v s = some (zWs s P ((4 : Int32) * m + v), s) := by
  obtain ⟨r, f1, -, f3, f4⟩ := zys95 hP ((4 : Int32) * m + v)
  unfold zyF128
  rw [f1, zq_bind, zys98 hP f3, zq_bind]
  have e : zvsm (fun j => r.toInt.toNat.testBit j) (s.1 4) P 0 0 = zWs s P ((4 : Int32) * m + v) := zvsm_congr P 0 0 (fun j h1 h2 => by
    show r.toInt.toNat.testBit j = _
    rw [f4, decide_eq_true (show j < P by omega), Bool.true_and])
  rw [e]
theorem zWs_b (hP : zPe s P) (x : Int32) : 0 ≤ (zWs s P x).toInt ∧ (zWs s P x).toInt ≤ 72 := by
  have h8 := hP.2.2.1
  have := zvsm_b (f := zvbl s x) (fun j hj => (hP.2.2.2.2 j hj).2) P 0 0 (by omega) (by decide) (by decide)
  unfold zWs
  omega
/-! SPLIT -/
def zcg (s : zy_S) (P : Nat) (m f v : Int32) : Int32 := if zWs s P ((4 : Int32) * m + v) ≤ zWs s P ((4 : Int32) * m + f) then f else v
def zcm4 (s : zy_S) (P : Nat) (m : Int32) : Int32 := zcg s P m (zcg s P m (zcg s P m 0 1) 2) 3
theorem zl_127 (hP : zPe s P) (n : Nat) (m f v : Int32) : zyF127_4 (n + 1) m f v s = if (4 : Int32) ≤ v then some (f, s) else zyF127_4 n m (zcg s P m f v) (v + (1 : Int32)) s := by
  show zyF127_4b (zyF127_4 n) m f v s = _
  unfold zyF127_4b zyF127_29 zcg
  rw [zys128 hP, zq_bind]
  dsimp only
  rw [zys128 hP, zq_bind]
  dsimp only
  split
  · rfl
  · split <;> rfl
theorem zys127 (hP : zPe s P) (m : Int32) : zyF127 m s = some (zcm4 s P m, s) := by
  show zyF127_4 (9995 + 1 + 1 + 1 + 1 + 1) m 0 1 s = _
  rw [zl_127 hP, if_neg (by decide), show (1 : Int32) + 1 = 2 from rfl, zl_127 hP, if_neg (by decide), show (2 : Int32) + 1 = 3 from rfl, zl_127 hP, if_neg (by decide), show (3 : Int32) + 1 = 4 from rfl, zl_127 hP, if_pos (by decide)]
  rfl
theorem zl_237_36 (hP : zPe s P) (k23 : Int32 → Int32 → Int32 → Int32 → Int32 → zy_S → Option (Int32 × zy_S)) (n : Nat) (x b bv l m f v : Int32) : zyF237_36 k23 (n + 1) x b bv l m f v s = if (4 : Int32) ≤ v then (if l ≤ zWs s P ((4 : Int32) * m + f) then k23 x b bv l (m + (1 : Int32)) s else k23 x m f (zWs s P ((4 : Int32) * m + f)) (m + (1 : Int32)) s) else zyF237_36 k23 n x b bv l m (zcg s P m f v) (v + (1 : Int32)) s := by
  show zyF237_36b k23 (zyF237_36 k23 n) x b bv l m f v s = _
  unfold zyF237_36b zyF237_117 zyF237_74 zcg
  simp only [zys238 hP, zq_bind]
  split
  · split <;> rfl
  · split <;> rfl
theorem zl_237_23 (hP : zPe s P) (n : Nat) (x b bv l m : Int32) : zyF237_23 (n + 1) x b bv l m s = if (6 : Int32) ≤ m then some (if x ≠ 0 then bv else b, s) else if l ≤ zWs s P ((4 : Int32) * m + zcm4 s P m) then zyF237_23 n x b bv l (m + (1 : Int32)) s else zyF237_23 n x m (zcm4 s P m) (zWs s P ((4 : Int32) * m + zcm4 s P m)) (m + (1 : Int32)) s := by
  show zyF237_23b (zyF237_23 n) x b bv l m s = _
  unfold zyF237_23b
  split
  · split <;> rfl
  · show zyF237_36 (zyF237_23 n) (9995 + 1 + 1 + 1 + 1 + 1) x b bv l m 0 1 s = _
    rw [zl_237_36 hP, if_neg (by decide), show (1 : Int32) + 1 = 2 from rfl, zl_237_36 hP, if_neg (by decide), show (2 : Int32) + 1 = 3 from rfl, zl_237_36 hP, if_neg (by decide), show (3 : Int32) + 1 = 4 from rfl, zl_237_36 hP, if_pos (by decide)]
    rfl
theorem zl_126 (hP : zPe s P) (x : Int32) : ∀ (n m k : Nat) (f i : Int32), i.toInt = (k : Int) → k ≤ 6 → 6 - k < n → 6 - k < m → ∃ r, zyF126_4 n f i s = some (r, s) ∧ zyF237_23 m x f (zcm4 s P f) (zWs s P ((4 : Int32) * f + zcm4 s P f)) i s = some (if x ≠ 0 then zcm4 s P r else r, s)
  | 0, m, k, f, i, hi, hk, hn, hm => by omega
  | n + 1, 0, k, f, i, hi, hk, hn, hm => by omega
  | n + 1, m + 1, k, f, i, hi, hk, hn, hm => by
    rw [zl_237_23 hP]
    show ∃ r, zyF126_4b (zyF126_4 n) f i s = _ ∧ _
    unfold zyF126_4b zyF126_40
    simp only [zys127 hP, zys128 hP, zq_bind]
    by_cases g : k = 6
    · rw [if_pos (by rw [Int32.le_iff_toInt_le, zq_l6]; omega), if_pos (by rw [Int32.le_iff_toInt_le, zq_l6]; omega)]
      exact ⟨f, rfl, rfl⟩
    · have h6 : ¬ ((6 : Int32) ≤ i) := by rw [Int32.le_iff_toInt_le, zq_l6]; omega
      rw [if_neg h6, if_neg h6]
      have ih := fun w => zl_126 hP x n m (k + 1) w (i + (1 : Int32)) (by rw [zq_add (by rw [zq_l1]; omega) (by rw [zq_l1]; omega), zq_l1, hi]; omega) (by omega) (by omega) (by omega)
      split
      · exact ih f
      · exact ih i
end ZV
theorem zop_split (x : Int32) {s : zy_S} (h : zI s) : ∃ r s1 s2, zyF125 x s = some (r, s1) ∧ zyF237 x s1 = some (r, s2) ∧ zI s2 := by
  have hP := zPe_of h
  by_cases hx : 0 ≤ x.toInt ∧ x.toInt ≤ 1
  · obtain ⟨r, f1, f2⟩ := zl_126 hP x zy_fu 9999 1 0 1 rfl (by omega) (by unfold zy_fu; omega) (by omega)
    have f1 : zyF126 s = some (r, s) := f1
    have f3 : zyF237_23 zy_fu x 0 0 (1000000 : Int32) 0 s = some (if x ≠ 0 then zcm4 s (s.1 1 5).toInt.toNat r else r, s) := by
      have b := zWs_b hP ((4 : Int32) * 0 + zcm4 s (s.1 1 5).toInt.toNat 0)
      show zyF237_23 (9999 + 1) x 0 0 (1000000 : Int32) 0 s = _
      rw [zl_237_23 hP, if_neg (by decide), if_neg (by rw [Int32.le_iff_toInt_le, zq_lM]; omega)]
      exact f2
    refine ⟨if x ≠ 0 then zcm4 s (s.1 1 5).toInt.toNat r else r, s, s, ?_, ?_, h⟩
    · unfold zyF125
      simp only [zys84, f1, zys127 hP, zq_bind, zqb_n0, decide_eq_true_eq]
      rw [if_pos hx]
      split <;> rfl
    · unfold zyF237
      simp only [zys179, zq_bind, zqb_n0, decide_eq_true_eq, Int32.toInt_toInt64, zq_j0, zq_j1]
      rw [if_pos hx, f3]
  · refine ⟨-1, s, s, ?_, ?_, h⟩
    · unfold zyF125
      simp only [zys84, zq_bind, zqb_n0, decide_eq_true_eq]
      rw [if_neg hx]
    · unfold zyF237
      simp only [zys179, zq_bind, zqb_n0, decide_eq_true_eq, Int32.toInt_toInt64, zq_j0, zq_j1]
      rw [if_neg hx]
/-! MAY -/
section ZM
variable {s : zy_S} {P : Nat}
/-- whether some have more than half -/
def zmay (s : zy_S) (P : Nat) (f : Nat → Bool) : Int32 := if (2 : Int32) * zvsm f (s.1 4) P 0 0 ≤ zvsm (fun _ => true) (s.1 4) P 0 0 then 0 else 1
theorem zmay_congr {f g : Nat → Bool} (h : ∀ j, j < P → f j = g j) : zmay s P f = zmay s P g := by
  unfold zmay
  rw [zvsm_congr P 0 0 (fun j _ h2 => h j (by omega))]
theorem zys97 (hP : zPe s P) {w : Int32} (hw : 0 ≤ w.toInt) : zyF97 w s = some (zmay s P (fun j => w.toInt.toNat.testBit j), s) := by
  obtain ⟨v0, v1⟩ := zmk_every hP.1 hP.2.2.1
  have f51 : zyF51 s = some (((1 : Int32) <<< ((s.1 1 5) &&& 31)) - (1 : Int32), s) := rfl
  unfold zyF97
  rw [zys98 hP hw, zq_bind]
  dsimp only
  rw [f51, zq_bind]
  dsimp only
  rw [zys98 hP v0, zq_bind]
  have e : zvsm (fun j => (((1 : Int32) <<< ((s.1 1 5) &&& 31)) - (1 : Int32)).toInt.toNat.testBit j) (s.1 4) P 0 0 = zvsm (fun _ => true) (s.1 4) P 0 0 := zvsm_congr P 0 0 (fun j _ h2 => by
    show (((1 : Int32) <<< ((s.1 1 5) &&& 31)) - (1 : Int32)).toInt.toNat.testBit j = true
    rw [v1, decide_eq_true (show j < P by omega)])
  rw [e]
  unfold zmay
  dsimp only
  split <;> rfl
theorem zl_221 (hP : zPe s P) (x : Int32) {w : Int32} (hw : 0 ≤ w.toInt) : ∀ (n k : Nat) (a b i : Int32), i.toInt = (k : Int) → k ≤ P → P - k < n → zyF221_8 n x w a b i s = some (if (2 : Int32) * zvsm (fun j => !zvbl s x j || w.toInt.toNat.testBit j) (s.1 4) (P - k) k a ≤ zvsm (fun _ => true) (s.1 4) (P - k) k b then 0 else 1, s)
  | 0, k, a, b, i, hi, hk, hn => by omega
  | n + 1, k, a, b, i, hi, hk, hn => by
    obtain ⟨e1, e2, h8, hB, hS⟩ := id hP
    show zyF221_8b (zyF221_8 n) x w a b i s = _
    unfold zyF221_8b zyF221_52 zyF221_66
    by_cases g : k = P
    · rw [if_pos (by rw [Int32.le_iff_toInt_le]; omega), g, Nat.sub_self]
      show _ = some (if (2 : Int32) * a ≤ b then 0 else 1, s)
      split <;> rfl
    · have iin4 : zy_in i 41 = true := zq_in.mpr ⟨by omega, by omega⟩
      have ik : i.toNatClampNeg = k := by rw [zq_ix]; omega
      have e8 : ((8 : Int32) + i).toInt = 8 + (k : Int) := by rw [zq_add (by rw [zq_l8]; omega) (by rw [zq_l8]; omega), zq_l8, hi]
      have e8n : ((8 : Int32) + i).toNatClampNeg = 8 + k := by rw [zq_ix, e8]; omega
      have i8 : zy_in ((8 : Int32) + i) 41 = true := zq_in.mpr ⟨by omega, by omega⟩
      have e : P - k = (P - (k + 1)) + 1 := by omega
      rw [if_neg (by rw [Int32.le_iff_toInt_le]; omega), if_pos i8, zys222 x s iin4, zq_bind, ik, e8n, ← (hB k (by omega)).1, ← (hS k (by omega)).1, e]
      dsimp only
      have ih := fun y => zl_221 hP x hw n (k + 1) y (b + s.1 4 k) (i + (1 : Int32)) (by rw [zq_add (by rw [zq_l1]; omega) (by rw [zq_l1]; omega), zq_l1, hi]; omega) (by omega) (by omega)
      show _ = some (if (2 : Int32) * zvsm (fun j => !zvbl s x j || w.toInt.toNat.testBit j) (s.1 4) (P - (k + 1)) (k + 1) (a + if (!zvw (s.1 3 k) x || w.toInt.toNat.testBit k) = true then s.1 4 k else 0) ≤ zvsm (fun _ => true) (s.1 4) (P - (k + 1)) (k + 1) (b + s.1 4 k) then 0 else 1, s)
      rw [zys208, zq_bind, zmk_t (x := w) (p := i) hw hi (by omega)]
      dsimp only
      cases hb : zvw (s.1 3 k) x with
      | false =>
        rw [if_pos (by decide), if_pos i8]
        exact ih _
      | true =>
        rw [if_neg (by decide)]
        cases ht : w.toInt.toNat.testBit k with
        | false =>
          rw [if_pos (by decide)]
          exact ih _
        | true =>
          rw [if_neg (by decide), if_pos i8, ← (hS k (by omega)).1]
          exact ih _
theorem zys221 (hP : zPe s P) (x : Int32) {w : Int32} (hw : 0 ≤ w.toInt) : zyF221 x w s = some (zmay s P (fun j => !zvbl s x j || w.toInt.toNat.testBit j), s) := zl_221 hP x hw zy_fu 0 0 0 0 rfl (by omega) (by have := hP.2.2.1; unfold zy_fu; omega)
/-- the others -/
theorem zmk_oth (hP : zPe s P) (x : Int32) {r : Int32} (r0 : 0 ≤ r.toInt) (hr : ∀ j, r.toInt.toNat.testBit j = (decide (j < P) && zvbl s x j)) : 0 ≤ ((((1 : Int32) <<< ((s.1 1 5) &&& 31)) - (1 : Int32)) &&& (r ^^^ (-1 : Int32))).toInt ∧ ∀ j, j < P → ((((1 : Int32) <<< ((s.1 1 5) &&& 31)) - (1 : Int32)) &&& (r ^^^ (-1 : Int32))).toInt.toNat.testBit j = !zvbl s x j := by
  obtain ⟨v0, v1⟩ := zmk_every hP.1 hP.2.2.1
  obtain ⟨q0, q1⟩ := zmk_andn v0 r0
  refine ⟨q0, fun j hj => ?_⟩
  rw [q1, v1, hr, decide_eq_true hj, Bool.true_and, Bool.true_and]
theorem zl_94 (hP : zPe s P) (l0 : 0 ≤ (s.1 1 3).toInt) (e6 : s.1 1 3 = s.1 43 7) : ∀ (n m k : Nat) (acc i : Int32), i.toInt = (k : Int) → k ≤ 24 → 24 - k < n → 24 - k < m → ∃ r, zyF94_4 n acc i s = some (r, s) ∧ zyF220_18 m 0 acc i s = some (r, s)
  | 0, m, k, acc, i, hi, hk, hn, hm => by omega
  | n + 1, 0, k, acc, i, hi, hk, hn, hm => by omega
  | n + 1, m + 1, k, acc, i, hi, hk, hn, hm => by
    show ∃ r, zyF94_4b (zyF94_4 n) acc i s = _ ∧ zyF220_18b (zyF220_18 m) 0 acc i s = _
    unfold zyF94_4b zyF220_18b
    by_cases g : k = 24
    · rw [if_pos (by rw [Int32.le_iff_toInt_le, zq_l24]; omega), if_pos (by rw [Int32.le_iff_toInt_le, zq_l24]; omega)]
      exact ⟨acc, rfl, rfl⟩
    · have ih := fun w => zl_94 hP l0 e6 n m (k + 1) w (i + (1 : Int32)) (by rw [zq_add (by rw [zq_l1]; omega) (by rw [zq_l1]; omega), zq_l1, hi]; omega) (by omega) (by omega) (by omega)
      have no : ∃ r, zyF94_47 (zyF94_4 n) acc i s = some (r, s) ∧ zyF220_52 (zyF220_18 m) 0 acc i s = some (r, s) := by
        unfold zyF94_47 zyF94_48 zyF94_61 zyF220_52 zyF220_112 zyF220_127
        rw [if_pos rfl, if_pos rfl]
        exact ih _
      have yes : ∃ r, zyF94_48 (zyF94_4 n) acc i 1 s = some (r, s) ∧ zyF220_112 (zyF220_18 m) 0 acc i 1 s = some (r, s) := by
        unfold zyF94_48 zyF94_61 zyF220_112 zyF220_127
        rw [if_neg (by decide), if_neg (by decide)]
        exact ih _
      obtain ⟨r, f1, f2, r0, hr⟩ := zys95 hP i
      obtain ⟨o0, o1⟩ := zmk_oth hP i r0 hr
      have f51 : zyF51 s = some (((1 : Int32) <<< ((s.1 1 5) &&& 31)) - (1 : Int32), s) := rfl
      have em : zmay s P (fun j => ((((1 : Int32) <<< ((s.1 1 5) &&& 31)) - (1 : Int32)) &&& (r ^^^ (-1 : Int32))).toInt.toNat.testBit j) = zmay s P (fun j => !zvbl s i j || (0 : Int32).toInt.toNat.testBit j) := zmay_congr (fun j hj => by
        show _ = (!zvbl s i j || (0 : Int32).toInt.toNat.testBit j)
        have e0 : (0 : Int32).toInt.toNat.testBit j = false := by rw [zq_l0]; exact Nat.zero_testBit j
        rw [o1 j hj, e0, Bool.or_false])
      rw [if_neg (by rw [Int32.le_iff_toInt_le, zq_l24]; omega), if_neg (by rw [Int32.le_iff_toInt_le, zq_l24]; omega), if_neg (show ¬ ((0 : Int32) ≠ 0) from fun w => w rfl), zys86, zys208, ← e6, zq_bind, zq_bind]
      dsimp only
      cases zbt (s.1 1 3) i with
      | false =>
        rw [if_pos (by decide), if_pos (by decide)]
        exact no
      | true =>
        rw [if_neg (by decide), if_neg (by decide), f51, zq_bind]
        dsimp only
        rw [f1, zq_bind]
        dsimp only
        rw [zys97 hP o0, zys221 hP i (w := 0) (by decide), zq_bind, zq_bind, em]
        dsimp only
        split
        · exact no
        · exact yes
/-- what is believed -/
theorem zvf_in {B m : Int32} {k : Nat} (b0 : 0 ≤ B.toInt) (hm : m.toInt = (k : Int)) (hk : k ≤ 6) : 0 ≤ (zvf B m).toInt ∧ (zvf B m).toInt ≤ 3 := by
  have e : (zvf B m).toInt = zb_c 13 (zb_c 17 B.toInt ((2 : Int32) * m).toInt) 3 := by
    have e1 : (zvf B m).toInt = (zb 13 (zb 17 B ((2 : Int32) * m)) 3).toInt := rfl
    rw [e1, zb_cEq 13 _ _ (by omega), zb_cEq 17 _ _ (by omega)]
    rfl
  have e4 : ((2 : Int32) * m).toInt = ((2 * k : Nat) : Int) := by rw [zq_mul (by rw [zq_l2]; omega) (by rw [zq_l2]; omega), zq_l2, hm]; omega
  have el : B.toInt = (B.toInt.toNat : Int) := (Int.toNat_of_nonneg b0).symm
  have lh := zq_hi B
  have u : B.toInt.toNat / 2 ^ (2 * k) ≤ B.toInt.toNat := Nat.div_le_self _ _
  have e15 : (3 : Int) = ((3 : Nat) : Int) := rfl
  rw [e4, el, zN_shr (by omega) (by omega), e15, zN_and (by omega) (by omega)] at e
  have v : B.toInt.toNat / 2 ^ (2 * k) &&& 3 ≤ 3 := Nat.and_le_right
  omega
theorem zq_div4 {a : Int32} (h : 0 ≤ a.toInt) : (a / (4 : Int32)).toInt = a.toInt / 4 ∧ (a - a / (4 : Int32) * (4 : Int32)).toInt = a.toInt % 4 := by
  have e : (a / (4 : Int32)).toInt = a.toInt / 4 := by rw [Int32.toInt_div_of_ne_right _ _ (by decide), zq_l4, Int.tdiv_eq_ediv_of_nonneg h]
  have hh := zq_hi a
  have em : (a / (4 : Int32) * (4 : Int32)).toInt = a.toInt / 4 * 4 := by rw [zq_mul (by rw [zq_l4, e]; omega) (by rw [zq_l4, e]; omega), zq_l4, e]
  exact ⟨e, by rw [zq_sub (by rw [em]; omega) (by rw [em]; omega), em]; omega⟩
/-- a LINE of one -/
def zbn (s : zy_S) (p m : Nat) : Nat := 4 * m + (zvf (s.1 3 p) (Int32.ofInt (m : Int))).toInt.toNat
theorem zbn_bel {p m : Nat} (b0 : 0 ≤ (s.1 3 p).toInt) (hm : m < 6) {x : Int32} {j : Nat} (hx : x.toInt = (j : Int)) (hj : j / 4 = m) : zvbl s x p = decide (j = zbn s p m) := by
  obtain ⟨d1, d2⟩ := zq_div4 (a := x) (by omega)
  have em : x / (4 : Int32) = Int32.ofInt (m : Int) := zq_ext (by rw [d1, hx, Int32.toInt_ofInt_of_le (by omega) (by omega)]; omega)
  obtain ⟨w0, w1⟩ := zvf_in (B := s.1 3 p) (m := Int32.ofInt (m : Int)) (k := m) b0 (Int32.toInt_ofInt_of_le (by omega) (by omega)) (by omega)
  have e : zvbl s x p = decide (zvf (s.1 3 p) (x / (4 : Int32)) = x - x / (4 : Int32) * (4 : Int32)) := rfl
  rw [e]
  refine decide_eq_decide.mpr ⟨fun q => ?_, fun q => ?_⟩
  · have := congrArg Int32.toInt q
    rw [d2, em] at this
    unfold zbn
    omega
  · unfold zbn at q
    exact zq_ext (by rw [d2, em]; omega)
theorem zl_99_17 (hP : zPe s P) {p : Nat} {x2 : Int32} (hp : p < P) (hx2 : x2.toInt = (p : Int)) (k4 : Int32 → Int32 → zy_S → Option (Int32 × zy_S)) : ∀ (n k : Nat) (acc i : Int32), i.toInt = (k : Int) → k ≤ 6 → 6 - k < n → 0 ≤ acc.toInt →
    ∃ r, zyF99_17 k4 n acc x2 i s = k4 r (x2 + (1 : Int32)) s ∧ 0 ≤ r.toInt ∧ ∀ j, (r.toInt.toNat.testBit j = true ↔ acc.toInt.toNat.testBit j = true ∨ ∃ m, k ≤ m ∧ m < 6 ∧ j = zbn s p m)
  | 0, k, acc, i, hi, hk, hn, ha => by omega
  | n + 1, k, acc, i, hi, hk, hn, ha => by
    obtain ⟨e1, e2, h8, hB, -⟩ := id hP
    show ∃ r, zyF99_17b k4 (zyF99_17 k4 n) acc x2 i s = _ ∧ _
    unfold zyF99_17b
    by_cases g : k = 6
    · rw [if_pos (by rw [Int32.le_iff_toInt_le, zq_l6]; omega)]
      refine ⟨acc, rfl, ha, fun j => ⟨Or.inl, fun q => ?_⟩⟩
      rcases q with q | ⟨m, a, b, -⟩
      · exact q
      · omega
    · have xin : zy_in x2 8 = true := zq_in.mpr ⟨by omega, by omega⟩
      have xk : x2.toNatClampNeg = p := by rw [zq_ix]; omega
      have eik : i = Int32.ofInt (k : Int) := zq_ext (by rw [hi]; exact (Int32.toInt_ofInt_of_le (by omega) (by omega)).symm)
      obtain ⟨w0, w1⟩ := zvf_in (B := s.1 3 p) (hB p (by omega)).2.1 hi (show k ≤ 6 by omega)
      rw [if_neg (by rw [Int32.le_iff_toInt_le, zq_l6]; omega), if_pos xin, zys60, zq_bind, xk]
      dsimp only
      have e4 : ((4 : Int32) * i).toInt = 4 * (k : Int) := by rw [zq_mul (by rw [zq_l4]; omega) (by rw [zq_l4]; omega), zq_l4, hi]
      have ea : ((4 : Int32) * i + zvf (s.1 3 p) i).toInt = ((zbn s p k : Nat) : Int) := by
        rw [zq_add (by rw [e4]; omega) (by rw [e4]; omega), e4]
        unfold zbn
        rw [← eik]
        omega
      have hb : zbn s p k ≤ 23 := by
        unfold zbn
        rw [← eik]
        omega
      obtain ⟨q0, q1⟩ := zmk_add (b := true) ha ea hb (show (1 : Int32) <<< (((4 : Int32) * i + zvf (s.1 3 p) i) &&& 31) = if true = true then (1 : Int32) <<< (((4 : Int32) * i + zvf (s.1 3 p) i) &&& 31) else 0 from rfl)
      obtain ⟨r, f1, f2, f3⟩ := zl_99_17 hP hp hx2 k4 n (k + 1) _ (i + (1 : Int32)) (by rw [zq_add (by rw [zq_l1]; omega) (by rw [zq_l1]; omega), zq_l1, hi]; omega) (by omega) (by omega) q0
      refine ⟨r, f1, f2, fun j => ?_⟩
      rw [f3, q1, Bool.and_true, Bool.or_eq_true, decide_eq_true_eq]
      constructor
      · rintro ((q | q) | ⟨m, a, b, c⟩)
        · exact Or.inl q
        · exact Or.inr ⟨k, Nat.le_refl _, by omega, q⟩
        · exact Or.inr ⟨m, by omega, b, c⟩
      · rintro (q | ⟨m, a, b, c⟩)
        · exact Or.inl (Or.inl q)
        · by_cases em : m = k
          · subst em
            exact Or.inl (Or.inr c)
          · exact Or.inr ⟨m, by omega, b, c⟩
theorem zl_99 (hP : zPe s P) : ∀ (n k : Nat) (acc i : Int32), i.toInt = (k : Int) → k ≤ P → P - k < n → 0 ≤ acc.toInt →
    ∃ r, zyF99_4 n acc i s = some (r, s) ∧ 0 ≤ r.toInt ∧ ∀ j, (r.toInt.toNat.testBit j = true ↔ acc.toInt.toNat.testBit j = true ∨ ∃ p m, k ≤ p ∧ p < P ∧ m < 6 ∧ j = zbn s p m)
  | 0, k, acc, i, hi, hk, hn, ha => by omega
  | n + 1, k, acc, i, hi, hk, hn, ha => by
    obtain ⟨e1, e2, h8, -, -⟩ := id hP
    show ∃ r, zyF99_4b (zyF99_4 n) acc i s = _ ∧ _
    unfold zyF99_4b
    by_cases g : k = P
    · rw [if_pos (by rw [Int32.le_iff_toInt_le]; omega)]
      refine ⟨acc, rfl, ha, fun j => ⟨Or.inl, fun q => ?_⟩⟩
      rcases q with q | ⟨p, m, a, b, -⟩
      · exact q
      · omega
    · rw [if_neg (by rw [Int32.le_iff_toInt_le]; omega)]
      obtain ⟨r, f1, f2, f3⟩ := zl_99_17 hP (show k < P by omega) hi (zyF99_4 n) zy_fu 0 acc 0 rfl (by omega) (by unfold zy_fu; omega) ha
      rw [f1]
      obtain ⟨r', g1, g2, g3⟩ := zl_99 hP n (k + 1) r (i + (1 : Int32)) (by rw [zq_add (by rw [zq_l1]; omega) (by rw [zq_l1]; omega), zq_l1, hi]; omega) (by omega) (by omega) f2
      refine ⟨r', g1, g2, fun j => ?_⟩
      rw [g3, f3]
      constructor
      · rintro ((q | ⟨m, a, b, c⟩) | ⟨p, m, a, b, c, d⟩)
        · exact Or.inl q
        · exact Or.inr ⟨k, m, Nat.le_refl _, by omega, b, c⟩
        · exact Or.inr ⟨p, m, by omega, b, c, d⟩
      · rintro (q | ⟨p, m, a, b, c, d⟩)
        · exact Or.inl (Or.inl q)
        · by_cases ep : p = k
          · subst ep
            exact Or.inl (Or.inr ⟨m, Nat.zero_le _, c, d⟩)
          · exact Or.inr ⟨p, m, by omega, b, c, d⟩
/-- .. bit by bit -/
theorem zys99 (hP : zPe s P) : ∃ V, zyF99 s = some (V, s) ∧ 0 ≤ V.toInt ∧ (∀ j, 24 ≤ j → V.toInt.toNat.testBit j = false) ∧ ∀ (j : Nat) (x : Int32), j < 24 → x.toInt = (j : Int) → (V.toInt.toNat.testBit j = true ↔ ∃ p, p < P ∧ zvbl s x p = true) := by
  obtain ⟨e1, e2, h8, hB, -⟩ := id hP
  obtain ⟨V, f1, f2, f3⟩ := zl_99 hP zy_fu 0 0 0 rfl (by omega) (by unfold zy_fu; omega) (by decide)
  have e0 : ∀ j, ¬ ((0 : Int32).toInt.toNat.testBit j = true) := fun j => by rw [zq_l0, show (0 : Int).toNat = 0 from rfl, Nat.zero_testBit]; decide
  have bn : ∀ p m, p < P → m < 6 → zbn s p m / 4 = m := fun p m hp hm => by
    obtain ⟨w0, w1⟩ := zvf_in (B := s.1 3 p) (m := Int32.ofInt (m : Int)) (k := m) (hB p (by omega)).2.1 (Int32.toInt_ofInt_of_le (by omega) (by omega)) (by omega)
    unfold zbn
    omega
  refine ⟨V, f1, f2, fun j hj => ?_, fun j x hj hx => ?_⟩
  · cases hb : V.toInt.toNat.testBit j with
    | false => rfl
    | true =>
      exfalso
      rcases (f3 j).mp hb with q | ⟨p, m, -, b, c, d⟩
      · exact e0 j q
      · have := bn p m b c
        omega
  · rw [f3]
    constructor
    · rintro (q | ⟨p, m, -, b, c, d⟩)
      · exact absurd q (e0 j)
      · have := bn p m b c
        exact ⟨p, b, by rw [zbn_bel (hB p (by omega)).2.1 c hx (by omega)]; exact decide_eq_true d⟩
    · rintro ⟨p, b, c⟩
      rw [zbn_bel (hB p (by omega)).2.1 (show j / 4 < 6 by omega) hx rfl] at c
      exact Or.inr ⟨p, j / 4, Nat.zero_le _, b, by omega, of_decide_eq_true c⟩
theorem zvbl_0 {x r : Int32} (r0 : 0 ≤ r.toInt) (hr : ∀ j, r.toInt.toNat.testBit j = (decide (j < P) && zvbl s x j)) : r = 0 ↔ ¬ ∃ p, p < P ∧ zvbl s x p = true := by
  constructor
  · rintro e ⟨p, hp, hb⟩
    have := hr p
    rw [e, zq_l0, show (0 : Int).toNat = 0 from rfl, Nat.zero_testBit, decide_eq_true hp, hb] at this
    cases this
  · intro h
    refine zmk_ext r0 (by decide) (fun j => ?_)
    rw [hr, zq_l0, show (0 : Int).toNat = 0 from rfl, Nat.zero_testBit]
    by_cases hj : j < P
    · cases hb : zvbl s x j with
      | false => rw [Bool.and_false]
      | true => exact absurd ⟨j, hj, hb⟩ h
    · rw [decide_eq_false hj, Bool.false_and]
/-- the model's bits: what = 1, 2 -/
theorem zl_220 (hP : zPe s P) (l0 : 0 ≤ (s.1 43 7).toInt) {x : Int32} (hx : x = 1 ∨ x = 2) : ∀ (n k : Nat) (acc i : Int32), i.toInt = (k : Int) → k ≤ 24 → 24 - k < n → 0 ≤ acc.toInt →
    ∃ r, zyF220_18 n x acc i s = some (r, s) ∧ 0 ≤ r.toInt ∧ ∀ j, (r.toInt.toNat.testBit j = true ↔ acc.toInt.toNat.testBit j = true ∨ (k ≤ j ∧ j < 24 ∧ if x = 1 then (s.1 43 7).toInt.toNat.testBit j = true ∧ ¬ ∃ p, p < P ∧ zvbl s (Int32.ofInt (j : Int)) p = true else ¬ (s.1 43 7).toInt.toNat.testBit j = true ∧ ∃ p, p < P ∧ zvbl s (Int32.ofInt (j : Int)) p = true))
  | 0, k, acc, i, hi, hk, hn, ha => by omega
  | n + 1, k, acc, i, hi, hk, hn, ha => by
    show ∃ r, zyF220_18b (zyF220_18 n) x acc i s = _ ∧ _
    unfold zyF220_18b
    by_cases g : k = 24
    · rw [if_pos (by rw [Int32.le_iff_toInt_le, zq_l24]; omega)]
      refine ⟨acc, rfl, ha, fun j => ⟨Or.inl, fun q => ?_⟩⟩
      rcases q with q | ⟨a, b, -⟩
      · exact q
      · omega
    · have eik : Int32.ofInt (k : Int) = i := zq_ext (by rw [hi]; exact Int32.toInt_ofInt_of_le (by omega) (by omega))
      obtain ⟨r, -, f2, r0, hr⟩ := zys95 hP i
      have hz := zvbl_0 r0 hr
      have ht := zmk_t (x := s.1 43 7) (p := i) l0 hi (by omega)
      have fin : ∀ (b : Bool) (y : Int32), (y = if b = true then (1 : Int32) <<< (i &&& 31) else 0) → (b = true ↔ if x = 1 then (s.1 43 7).toInt.toNat.testBit k = true ∧ ¬ ∃ p, p < P ∧ zvbl s (Int32.ofInt (k : Int)) p = true else ¬ (s.1 43 7).toInt.toNat.testBit k = true ∧ ∃ p, p < P ∧ zvbl s (Int32.ofInt (k : Int)) p = true) → ∃ r, zyF220_127 (zyF220_18 n) x i y acc s = some (r, s) ∧ 0 ≤ r.toInt ∧ ∀ j, (r.toInt.toNat.testBit j = true ↔ acc.toInt.toNat.testBit j = true ∨ (k ≤ j ∧ j < 24 ∧ if x = 1 then (s.1 43 7).toInt.toNat.testBit j = true ∧ ¬ ∃ p, p < P ∧ zvbl s (Int32.ofInt (j : Int)) p = true else ¬ (s.1 43 7).toInt.toNat.testBit j = true ∧ ∃ p, p < P ∧ zvbl s (Int32.ofInt (j : Int)) p = true)) := by
        intro b y hy hb
        obtain ⟨q0, q1⟩ := zmk_add (k := k) ha hi (by omega) hy
        obtain ⟨r', g1, g2, g3⟩ := zl_220 hP l0 hx n (k + 1) _ (i + (1 : Int32)) (by rw [zq_add (by rw [zq_l1]; omega) (by rw [zq_l1]; omega), zq_l1, hi]; omega) (by omega) (by omega) q0
        refine ⟨r', g1, g2, fun j => ?_⟩
        rw [g3, q1, Bool.or_eq_true, Bool.and_eq_true, decide_eq_true_eq]
        by_cases ej : j = k
        · subst ej
          constructor
          · rintro ((q | ⟨-, q⟩) | ⟨a, b, c⟩)
            · exact Or.inl q
            · exact Or.inr ⟨Nat.le_refl _, by omega, hb.mp q⟩
            · omega
          · rintro (q | ⟨a, b, c⟩)
            · exact Or.inl (Or.inl q)
            · exact Or.inl (Or.inr ⟨rfl, hb.mpr c⟩)
        · constructor
          · rintro ((q | ⟨q, -⟩) | ⟨a, b, c⟩)
            · exact Or.inl q
            · exact absurd q ej
            · exact Or.inr ⟨by omega, b, c⟩
          · rintro (q | ⟨a, b, c⟩)
            · exact Or.inl (Or.inl q)
            · exact Or.inr ⟨by omega, b, c⟩
      rw [eik] at fin
      rw [if_neg (by rw [Int32.le_iff_toInt_le, zq_l24]; omega)]
      rcases hx with rfl | rfl
      · rw [if_pos (by decide), if_neg (by decide), zys208, zq_bind, ht]
        dsimp only
        unfold zyF220_84
        cases hL : (s.1 43 7).toInt.toNat.testBit k with
        | false =>
          rw [if_pos (by decide)]
          unfold zyF220_112
          rw [if_pos rfl]
          exact fin false 0 rfl (by rw [hL]; simp)
        | true =>
          rw [if_neg (by decide), f2, zq_bind]
          dsimp only
          by_cases e : r = 0
          · rw [if_neg (not_not_intro e)]
            unfold zyF220_112
            rw [if_neg (by decide)]
            exact fin true _ rfl (by rw [hL, if_pos rfl]; exact ⟨fun _ => ⟨rfl, hz.mp e⟩, fun _ => rfl⟩)
          · rw [if_pos e]
            unfold zyF220_112
            rw [if_pos rfl]
            exact fin false 0 rfl (by rw [hL, if_pos rfl]; exact ⟨fun q => (by cases q), fun q => absurd (hz.mpr q.2) e⟩)
      · rw [if_pos (by decide), if_pos (by decide), zys208, zq_bind, ht]
        dsimp only
        unfold zyF220_111
        cases hL : (s.1 43 7).toInt.toNat.testBit k with
        | true =>
          rw [if_pos (by decide)]
          unfold zyF220_112
          rw [if_pos rfl]
          exact fin false 0 rfl (by rw [hL, if_neg (by decide)]; exact ⟨fun q => (by cases q), fun q => absurd rfl q.1⟩)
        | false =>
          rw [if_neg (by decide), f2, zq_bind]
          dsimp only
          by_cases e : r = 0
          · rw [if_pos e]
            unfold zyF220_112
            rw [if_pos rfl]
            exact fin false 0 rfl (by rw [hL, if_neg (by decide)]; exact ⟨fun q => (by cases q), fun q => absurd q.2 (hz.mp e)⟩)
          · rw [if_neg e]
            unfold zyF220_112
            rw [if_neg (by decide)]
            exact fin true _ rfl (by rw [hL, if_neg (by decide)]; exact ⟨fun _ => ⟨by decide, Classical.not_not.mp (fun q => e (hz.mpr q))⟩, fun _ => rfl⟩)
end ZM
theorem zop_lines (x : Int32) {s : zy_S} (h : zI s) : ∃ r s1 s2, zyF93 x s = some (r, s1) ∧ zyF220 x s1 = some (r, s2) ∧ zI s2 := by
  obtain ⟨hw, hg, h1, h2, h3, h4, h5, h6, h7, h8, h9, h10, h11, h12, h13, h14, h15, h16, h17, h18, h19, h20, h21⟩ := id h
  obtain ⟨e6, l0, l1⟩ := id h6
  have l0' : 0 ≤ (s.1 43 7).toInt := by rw [← e6]; exact l0
  have hP := zPe_of h
  have L24 : ∀ j, 24 ≤ j → (s.1 1 3).toInt.toNat.testBit j = false := fun j hj => Nat.testBit_lt_two_pow (Nat.lt_of_lt_of_le (show (s.1 1 3).toInt.toNat < 2 ^ 24 by omega) (Nat.pow_le_pow_right (by omega) hj))
  by_cases hx : 0 ≤ x.toInt ∧ x.toInt ≤ 2
  · have m0 : ∀ r, zyF220_18 zy_fu x 0 0 s = some (r, s) → zyF220 x s = some (r, s) := by
      intro r e
      unfold zyF220
      simp only [zys179, zq_bind, zqb_n0, decide_eq_true_eq, Int32.toInt_toInt64, zq_j0, show (2 : Int64).toInt = 2 from rfl]
      rw [if_pos hx, e]
    by_cases x0 : x = 0
    · subst x0
      obtain ⟨r, f1, f2⟩ := zl_94 hP l0 e6 zy_fu zy_fu 0 0 0 rfl (by omega) (by unfold zy_fu; omega) (by unfold zy_fu; omega)
      have f1 : zyF94 s = some (r, s) := f1
      refine ⟨r, s, s, ?_, m0 r f2, h⟩
      unfold zyF93
      rw [if_pos rfl, f1]
      rfl
    obtain ⟨V, g1, g2, g3, g4⟩ := zys99 hP
    by_cases x1 : x = 1
    · subst x1
      obtain ⟨r, f1, f2, f3⟩ := zl_220 hP l0' (x := 1) (Or.inl rfl) zy_fu 0 0 0 rfl (by omega) (by unfold zy_fu; omega) (by decide)
      obtain ⟨a0, a1⟩ := zmk_andn l0 g2
      have er : (s.1 1 3) &&& (V ^^^ (-1 : Int32)) = r := by
        refine zmk_ext a0 f2 (fun j => Bool.eq_iff_iff.mpr ?_)
        rw [f3, a1, Bool.and_eq_true, if_pos rfl, ← e6, zq_l0, show (0 : Int).toNat = 0 from rfl, Nat.zero_testBit]
        rcases Nat.lt_or_ge j 24 with hj | hj
        · have := g4 j (Int32.ofInt (j : Int)) hj (Int32.toInt_ofInt_of_le (by omega) (by omega))
          rw [← this]
          cases V.toInt.toNat.testBit j <;> simp [hj]
        · rw [L24 j hj]
          simp
      refine ⟨r, s, s, ?_, m0 r f1, h⟩
      unfold zyF93
      rw [if_neg (by decide), if_pos rfl, g1, zq_bind, er]
    · have x2 : x = 2 := by
        have t0 : x.toInt ≠ 0 := fun e => x0 (zq_ext e)
        have t1 : x.toInt ≠ 1 := fun e => x1 (zq_ext e)
        exact zq_ext (by rw [zq_l2]; omega)
      subst x2
      obtain ⟨r, f1, f2, f3⟩ := zl_220 hP l0' (x := 2) (Or.inr rfl) zy_fu 0 0 0 rfl (by omega) (by unfold zy_fu; omega) (by decide)
      obtain ⟨a0, a1⟩ := zmk_andn g2 l0
      have er : V &&& ((s.1 1 3) ^^^ (-1 : Int32)) = r := by
        refine zmk_ext a0 f2 (fun j => Bool.eq_iff_iff.mpr ?_)
        rw [f3, a1, Bool.and_eq_true, if_neg (by decide), ← e6, zq_l0, show (0 : Int).toNat = 0 from rfl, Nat.zero_testBit]
        rcases Nat.lt_or_ge j 24 with hj | hj
        · have := g4 j (Int32.ofInt (j : Int)) hj (Int32.toInt_ofInt_of_le (by omega) (by omega))
          rw [← this]
          cases V.toInt.toNat.testBit j <;> simp [hj]
        · rw [g3 j hj]
          simp
          omega
      refine ⟨r, s, s, ?_, m0 r f1, h⟩
      unfold zyF93
      rw [if_neg (by decide), if_neg (by decide), if_pos rfl, g1, zq_bind, er]
  · have t0 : ¬ x = 0 := fun e => hx (by rw [e]; decide)
    have t1 : ¬ x = 1 := fun e => hx (by rw [e]; decide)
    have t2 : ¬ x = 2 := fun e => hx (by rw [e]; decide)
    refine ⟨-1, s, s, ?_, ?_, h⟩
    · unfold zyF93
      rw [if_neg t0, if_neg t1, if_neg t2]
    · unfold zyF220
      simp only [zys179, zq_bind, zqb_n0, decide_eq_true_eq, Int32.toInt_toInt64, zq_j0, show (2 : Int64).toInt = 2 from rfl]
      rw [if_neg hx]
end
section
/-! PART 46.995: win. Made by wip/v4/gen_win.py. -/
section ZW1
variable {s : zy_S} {P : Nat}
def zwnr (fc fm : Int32) : Prop := (fc = -1 ∧ fm = -2) ∨ (fc = fm ∧ 0 ≤ fc.toInt ∧ fc.toInt ≤ 255)
/-- what the model says of whom it found -/
def zwf (y fm : Int32) : Int32 := if fm < 0 then fm else if y ≠ (1 : Int32) then zpc fm else fm
theorem zw_sub {I B : Nat} (h : ∀ j, (I.testBit j && !B.testBit j) = false) : I ≤ B := by
  have e : I &&& B = I := by
    apply Nat.eq_of_testBit_eq
    intro j
    rw [Nat.testBit_and]
    have := h j
    cases hi : I.testBit j <;> cases hb : B.testBit j <;> simp [hi, hb] at this ⊢
  have := @Nat.and_le_right I B
  omega
theorem zl_224 (hP : zPe s P) {x y bel : Int32} (b0 : 0 ≤ bel.toInt) (hf : zyF223 x s = some (bel, s)) : ∀ (m k : Nat) (fm i : Int32), i.toInt = (k : Int) → bel.toInt < (k : Int) → k ≤ 2 ^ P → 2 ^ P - k < m → (fm = -2 ∨ 0 ≤ fm.toInt ∧ fm.toInt ≤ 255) → zyF224_26 m x y fm i s = some (zwf y fm, s)
  | 0, k, fm, i, hi, hb, hk, hm, hr => by omega
  | m + 1, k, fm, i, hi, hb, hk, hm, hr => by
    obtain ⟨p0, p1⟩ := zmk_bit (p := s.1 43 6) hP.2.1 (by have := hP.2.2.1; omega)
    have u : 2 ^ P ≤ 2 ^ 8 := Nat.pow_le_pow_right (by omega) hP.2.2.1
    show zyF224_26b (zyF224_26 m) x y fm i s = _
    unfold zyF224_26b zyF224_79
    by_cases g : k = 2 ^ P
    · rw [if_pos (by rw [Int32.le_iff_toInt_le]; omega)]
      unfold zwf
      by_cases f0 : fm < 0
      · rw [if_pos f0, if_pos f0]
      · rw [if_neg f0, if_neg f0]
        rcases hr with rfl | ⟨r0, r1⟩
        · exact absurd (by decide) f0
        · rw [zys209 s r0 (by omega), zq_bind]
          split <;> rfl
    · have ne : i &&& (bel ^^^ (-1 : Int32)) ≠ 0 := fun e => by
        obtain ⟨-, a1⟩ := zmk_andn (a := i) (b := bel) (by omega) b0
        have := zw_sub (I := i.toInt.toNat) (B := bel.toInt.toNat) (fun j => by rw [← a1, e, zq_l0, show (0 : Int).toNat = 0 from rfl, Nat.zero_testBit])
        omega
      rw [if_neg (by rw [Int32.le_iff_toInt_le]; omega), hf, zq_bind]
      dsimp only
      rw [if_pos ne]
      exact zl_224 hP b0 hf m (k + 1) fm (i + (1 : Int32)) (by rw [zq_add (by rw [zq_l1]; omega) (by rw [zq_l1]; omega), zq_l1, hi]; omega) (by omega) (by omega) (by omega) hr
theorem zl_101 (hP : zPe s P) {x y bel oth : Int32} (b0 : 0 ≤ bel.toInt) (hb : ∀ j, bel.toInt.toNat.testBit j = (decide (j < P) && zvbl s x j)) (hf : zyF223 x s = some (bel, s)) (o0 : 0 ≤ oth.toInt) (ho : ∀ j, j < P → oth.toInt.toNat.testBit j = !zvbl s x j) (hbl : bel.toInt.toNat < 2 ^ P) : ∀ (n m k : Nat) (fc fm i : Int32), i.toInt = (k : Int) → k ≤ bel.toInt.toNat + 1 → bel.toInt.toNat + 1 - k < n → 2 ^ P - k < m → zwnr fc fm → ∃ rc rm, zyF101_24 n bel oth fc i s = some (rc, s) ∧ zyF224_26 m x y fm i s = some (zwf y rm, s) ∧ zwnr rc rm
  | 0, m, k, fc, fm, i, hi, hk, hn, hm, hr => by omega
  | n + 1, 0, k, fc, fm, i, hi, hk, hn, hm, hr => by omega
  | n + 1, m + 1, k, fc, fm, i, hi, hk, hn, hm, hr => by
    have hr2 : fm = -2 ∨ 0 ≤ fm.toInt ∧ fm.toInt ≤ 255 := by
      rcases hr with ⟨-, e⟩ | ⟨e, a, b⟩
      · exact Or.inl e
      · exact Or.inr ⟨by rw [← e]; exact a, by rw [← e]; exact b⟩
    have u : 2 ^ P ≤ 2 ^ 8 := Nat.pow_le_pow_right (by omega) hP.2.2.1
    by_cases g : k = bel.toInt.toNat + 1
    · refine ⟨fc, fm, ?_, zl_224 hP b0 hf (m + 1) k fm i hi (by omega) (by omega) hm hr2, hr⟩
      show zyF101_24b (zyF101_24 n) bel oth fc i s = _
      unfold zyF101_24b
      rw [if_pos (by rw [Int32.lt_iff_toInt_lt]; omega)]
    · obtain ⟨p0, p1⟩ := zmk_bit (p := s.1 43 6) hP.2.1 (by have := hP.2.2.1; omega)
      have i0 : 0 ≤ i.toInt := by omega
      have ih := fun c w (hw : zwnr c w) => zl_101 hP b0 hb hf o0 ho hbl (y := y) n m (k + 1) c w (i + (1 : Int32)) (by rw [zq_add (by rw [zq_l1]; omega) (by rw [zq_l1]; omega), zq_l1, hi]; omega) (by omega) (by omega) (by omega) hw
      obtain ⟨w0, w1⟩ := zmk_or o0 i0
      have em : zmay s P (fun j => (oth ||| i).toInt.toNat.testBit j) = zmay s P (fun j => !zvbl s x j || i.toInt.toNat.testBit j) := zmay_congr (fun j hj => by
        show (oth ||| i).toInt.toNat.testBit j = _
        rw [w1, Nat.testBit_or, ho j hj])
      show ∃ rc rm, zyF101_24b (zyF101_24 n) bel oth fc i s = _ ∧ zyF224_26b (zyF224_26 m) x y fm i s = _ ∧ _
      unfold zyF101_24b zyF224_26b zyF101_49 zyF224_79
      have hb1 : ¬ (bel < i) := by rw [Int32.lt_iff_toInt_lt]; omega
      have hb2 : ¬ (((1 : Int32) <<< ((s.1 43 6) &&& 31)) ≤ i) := by rw [Int32.le_iff_toInt_le]; omega
      rw [if_neg hb1, if_neg hb2, hf, zq_bind]
      dsimp only
      -- if he may be found
      have try_ : ∃ rc rm, zyF101_54 (zyF101_24 n) bel oth fc i 1 s = some (rc, s) ∧ (if i &&& (bel ^^^ (-1 : Int32)) ≠ 0 then zyF224_26 m x y fm (i + (1 : Int32)) s else zyF224_66 (zyF224_26 m) x y fm i s) = some (zwf y rm, s) ∧ zwnr rc rm := by
        unfold zyF101_54 zyF101_85 zyF224_66 zyF224_79
        rw [if_neg (by decide)]
        by_cases a : i &&& (bel ^^^ (-1 : Int32)) = 0
        · rw [if_neg (not_not_intro a), if_neg (not_not_intro a), zys97 hP w0, zys221 hP x i0, zq_bind, zq_bind, em]
          dsimp only
          split
          · exact ih fc fm hr
          · exact ih i i (Or.inr ⟨rfl, i0, by omega⟩)
        · rw [if_pos a, if_pos a]
          exact ih fc fm hr
      have skip : ∃ rc rm, zyF101_54 (zyF101_24 n) bel oth fc i 0 s = some (rc, s) ∧ zyF224_26 m x y fm (i + (1 : Int32)) s = some (zwf y rm, s) ∧ zwnr rc rm := by
        unfold zyF101_54 zyF101_85
        rw [if_pos rfl]
        exact ih fc fm hr
      rcases hr with ⟨ec, ef⟩ | ⟨ec, c0, c1⟩
      · rw [if_pos ec, if_pos (show fm < 0 by rw [ef]; decide)]
        exact try_
      · have f0 : ¬ fm < 0 := by rw [Int32.lt_iff_toInt_lt, zq_l0, ← ec]; omega
        have c2 : ¬ fc = -1 := fun e => by rw [e] at c0; exact absurd c0 (by decide)
        rw [if_neg c2, if_neg f0, zys63 s i0 (by omega), zq_bind]
        dsimp only
        rw [zys63 s c0 (by omega), zq_bind]
        dsimp only
        rw [zys209 s i0 (by omega), zq_bind]
        dsimp only
        rw [← ec, zys209 s c0 (by omega), zq_bind]
        dsimp only
        rw [← ec] at try_ skip
        by_cases q : zpc fc ≤ zpc i
        · rw [if_pos q, if_pos q]
          have e : (if i &&& (bel ^^^ (-1 : Int32)) ≠ 0 then zyF224_26 m x y fc (i + (1 : Int32)) s else zyF224_26 m x y fc (i + (1 : Int32)) s) = zyF224_26 m x y fc (i + (1 : Int32)) s := by split <;> rfl
          rw [e]
          exact skip
        · rw [if_neg q, if_neg q]
          exact try_
end ZW1
theorem zop_win (x y : Int32) {s : zy_S} (h : zI s) : ∃ r s1 s2, zyF100 x y s = some (r, s1) ∧ zyF224 x y s1 = some (r, s2) ∧ zI s2 := by
  have hP := zPe_of h
  obtain ⟨P, hPP⟩ : ∃ P, P = (s.1 1 5).toInt.toNat := ⟨_, rfl⟩
  rw [← hPP] at hP
  by_cases hx : 0 ≤ x.toInt ∧ x.toInt ≤ 23
  · by_cases hy : 0 ≤ y.toInt ∧ y.toInt ≤ 1
    · obtain ⟨bel, f1, f2, b0, hb⟩ := zys95 hP x
      obtain ⟨o0, ho⟩ := zmk_oth hP x b0 hb
      have u : 2 ^ P ≤ 2 ^ 8 := Nat.pow_le_pow_right (by omega) hP.2.2.1
      have hbl : bel.toInt.toNat < 2 ^ P := Nat.lt_pow_two_of_testBit _ (fun j hj => by rw [hb, decide_eq_false (show ¬ j < P by omega), Bool.false_and])
      obtain ⟨rc, rm, g1, g2, g3⟩ := zl_101 hP (y := y) b0 hb f2 o0 ho hbl zy_fu zy_fu 0 (-1) (-2) 0 rfl (by omega) (by unfold zy_fu; omega) (by unfold zy_fu; omega) (Or.inl ⟨rfl, rfl⟩)
      have f51 : zyF51 s = some (((1 : Int32) <<< ((s.1 1 5) &&& 31)) - (1 : Int32), s) := rfl
      have f101 : zyF101 x s = some (rc, s) := by
        unfold zyF101
        rw [f1, zq_bind]
        dsimp only
        rw [f51, zq_bind]
        exact g1
      refine ⟨zwf y rm, s, s, ?_, ?_, h⟩
      · unfold zyF100
        simp only [zys26, zys84, f101, zq_bind, zqb_e0, zqb_n0, decide_eq_true_eq, decide_eq_false_iff_not]
        rw [if_neg (not_not_intro hx), if_pos hy]
        unfold zwf
        rcases g3 with ⟨e1, e2⟩ | ⟨e1, c0, c1⟩
        · rw [e1, e2, if_neg (by decide), if_pos (by decide)]
        · have c2 : rc ≠ -1 := fun e => by rw [e] at c0; exact absurd c0 (by decide)
          rw [if_pos c2, ← e1, if_neg (show ¬ rc < 0 by rw [Int32.lt_iff_toInt_lt, zq_l0]; omega)]
          by_cases y0 : y = 0
          · rw [if_neg (not_not_intro y0), zys63 s c0 (by omega), zq_bind, if_pos (by rw [y0]; decide)]
          · have y1 : y = 1 := zq_ext (by have : y.toInt ≠ 0 := fun e => y0 (zq_ext e); rw [zq_l1]; omega)
            rw [if_pos y0, if_neg (not_not_intro y1)]
      · unfold zyF224
        simp only [zys186, zys179, zq_bind, zqb_e0, zqb_n0, decide_eq_true_eq, decide_eq_false_iff_not, Int32.toInt_toInt64, zq_j0, zq_j1]
        rw [if_neg (not_not_intro hx), if_pos hy, g2]
    · refine ⟨-1, s, s, ?_, ?_, h⟩
      · unfold zyF100
        simp only [zys26, zys84, zq_bind, zqb_e0, zqb_n0, decide_eq_true_eq, decide_eq_false_iff_not]
        rw [if_neg (not_not_intro hx), if_neg hy]
      · unfold zyF224
        simp only [zys186, zys179, zq_bind, zqb_e0, zqb_n0, decide_eq_true_eq, decide_eq_false_iff_not, Int32.toInt_toInt64, zq_j0, zq_j1]
        rw [if_neg (not_not_intro hx), if_neg hy]
  · refine ⟨-1, s, s, ?_, ?_, h⟩
    · unfold zyF100
      simp only [zys26, zq_bind, zqb_e0, decide_eq_false_iff_not]
      rw [if_pos hx]
    · unfold zyF224
      simp only [zys186, zq_bind, zqb_e0, decide_eq_false_iff_not, Int32.toInt_toInt64]
      rw [if_pos hx]
end
section
/-! PART 46.996: what a BOOK leaves. Made by wip/v4/gen_whose.py. -/
/-- a two is so for a VIEW of a MATTER, if it is of it -/
def zbF (s : zy_S) (c j : Nat) (m v : Int32) : Prop := (zbI s c j ∧ zbL s c j / (4 : Int32) = m) → zbS s c j (decide (zbL s c j - zbL s c j / (4 : Int32) * (4 : Int32) = v))
def zbA4 (s : zy_S) (c : Nat) (m v : Int32) : Prop := ∀ j : Nat, 2 * (j : Int) < (s.1 c 3).toInt → zbF s c j m v
section ZB
variable {s : zy_S} {c : Nat}
theorem zl_114 (hl : zin (s.1 c 3) 0 60) (m v : Int32) : ∀ (n k : Nat) (b0 : Bool) (i : Int32), i.toInt = (k : Int) → k ≤ 30 → 30 - k < n → ∃ b : Bool, zyF114_5 n c m v (zqb b0) i s = some (zqb b, s) ∧ (b = true ↔ b0 = true ∧ ∀ j : Nat, k ≤ j → 2 * (j : Int) < (s.1 c 3).toInt → zbF s c j m v)
  | 0, k, b0, i, hi, hk, hn => by omega
  | n + 1, k, b0, i, hi, hk, hn => by
    obtain ⟨l0, l1⟩ := id hl
    obtain ⟨q, fq, eq⟩ := zys109 hl
    show ∃ b : Bool, zyF114_5b (zyF114_5 n) c m v (zqb b0) i s = _ ∧ _
    unfold zyF114_5b
    rw [fq, zq_bind]
    dsimp only
    by_cases g : (s.1 c 3).toInt ≤ 2 * (k : Int)
    · rw [if_pos (by rw [Int32.le_iff_toInt_le]; omega), if_pos (zqb_01 b0)]
      exact ⟨b0, rfl, ⟨fun e => ⟨e, fun j hj hl => by omega⟩, fun e => e.1⟩⟩
    · have nx : ∀ b1 : Bool, (b1 = true ↔ b0 = true ∧ zbF s c k m v) → ∃ b : Bool, zyF114_5 n c m v (zqb b1) (i + (1 : Int32)) s = some (zqb b, s) ∧ (b = true ↔ b0 = true ∧ ∀ j : Nat, k ≤ j → 2 * (j : Int) < (s.1 c 3).toInt → zbF s c j m v) := by
        intro b1 hb
        obtain ⟨b, f1, f2⟩ := zl_114 hl m v n (k + 1) b1 (i + (1 : Int32)) (by rw [zq_add (by rw [zq_l1]; omega) (by rw [zq_l1]; omega), zq_l1, hi]; omega) (by omega) (by omega)
        refine ⟨b, f1, ?_⟩
        rw [f2, hb]
        constructor
        · rintro ⟨⟨a1, a2⟩, a3⟩
          refine ⟨a1, fun j hj hl => ?_⟩
          by_cases e : j = k
          · subst e
            exact a2
          · exact a3 j (by omega) hl
        · rintro ⟨a1, a2⟩
          exact ⟨⟨a1, a2 k (Nat.le_refl _) (by omega)⟩, fun j hj hl => a2 j (by omega) hl⟩
      have o40 : zbF s c k m v → ∃ b : Bool, zyF114_40 (zyF114_5 n) c m v (zqb b0) i s = some (zqb b, s) ∧ (b = true ↔ b0 = true ∧ ∀ j : Nat, k ≤ j → 2 * (j : Int) < (s.1 c 3).toInt → zbF s c j m v) := by
        intro hF
        unfold zyF114_40 zyF114_41
        cases b0 with
        | false =>
          rw [if_pos rfl]
          exact nx false ⟨fun e => (by cases e), fun e => e.1⟩
        | true =>
          rw [if_neg (by decide), if_pos rfl]
          exact nx true ⟨fun _ => ⟨rfl, hF⟩, fun _ => rfl⟩
      rw [if_neg (by rw [Int32.le_iff_toInt_le]; omega), zys110 s hi (by omega), zq_bind]
      dsimp only
      by_cases gi : zbI s c k
      · have gn : ¬ zbL s c k = -1 := fun q => by
          have := gi.1
          rw [q] at this
          exact absurd this (by decide)
        rw [if_pos gi, if_neg gn]
        by_cases gm : zbL s c k / (4 : Int32) = m
        · rw [if_neg (not_not_intro gm)]
          obtain ⟨b1, f1, f2⟩ := zys111 (w := v) hl hi (by omega)
          unfold zyF114_41
          cases b0 with
          | false =>
            rw [if_pos (show zqb false = 0 from rfl)]
            exact nx false ⟨fun e => (by cases e), fun e => e.1⟩
          | true =>
            rw [if_neg (by decide), if_neg (by decide), f1, zq_bind]
            dsimp only
            have hb : b1 = true ↔ true = true ∧ zbF s c k m v := by
              rw [f2]
              exact ⟨fun e => ⟨rfl, fun _ => e⟩, fun e => e.2 ⟨gi, gm⟩⟩
            cases b1 with
            | false =>
              rw [if_pos (by decide)]
              exact nx false hb
            | true =>
              rw [if_neg (by decide)]
              exact nx true hb
        · rw [if_pos gm]
          exact o40 (fun e => absurd e.2 gm)
      · rw [if_neg gi, if_pos rfl]
        exact o40 (fun e => absurd e.1 gi)
theorem zys114 (hl : zin (s.1 c 3) 0 60) (m v : Int32) : ∃ b : Bool, zyF114 c m v s = some (zqb b, s) ∧ (b = true ↔ zbA4 s c m v) := by
  obtain ⟨b, f1, f2⟩ := zl_114 hl m v zy_fu 0 true 0 rfl (by omega) (by unfold zy_fu; omega)
  exact ⟨b, f1, by rw [f2]; exact ⟨fun e j hj => e.2 j (Nat.zero_le _) hj, fun e => ⟨rfl, fun j _ hj => e j hj⟩⟩⟩
theorem zl_c113 (hl : zin (s.1 c 3) 0 60) (m : Int32) : ∀ (n k : Nat) (acc i : Int32), i.toInt = (k : Int) → k ≤ 4 → 4 - k < n → 0 ≤ acc.toInt → ∃ r, zyF113_4 n c m acc i s = some (r, s) ∧ 0 ≤ r.toInt ∧ ∀ j : Nat, (r.toInt.toNat.testBit j = true ↔ acc.toInt.toNat.testBit j = true ∨ (k ≤ j ∧ j < 4 ∧ zbA4 s c m (Int32.ofInt (j : Int))))
  | 0, k, acc, i, hi, hk, hn, ha => by omega
  | n + 1, k, acc, i, hi, hk, hn, ha => by
    show ∃ r, zyF113_4b (zyF113_4 n) c m acc i s = _ ∧ _
    unfold zyF113_4b zyF113_26
    by_cases g : k = 4
    · rw [if_pos (by rw [Int32.le_iff_toInt_le, zq_l4]; omega)]
      refine ⟨acc, rfl, ha, fun j => ⟨Or.inl, fun q => ?_⟩⟩
      rcases q with q | ⟨a, b, -⟩
      · exact q
      · omega
    · have eik : Int32.ofInt (k : Int) = i := zq_ext (by rw [hi]; exact Int32.toInt_ofInt_of_le (by omega) (by omega))
      obtain ⟨b, f1, f2⟩ := zys114 hl m i
      rw [if_neg (by rw [Int32.le_iff_toInt_le, zq_l4]; omega), f1, zq_bind]
      dsimp only
      have fin : ∀ y : Int32, (y = if b = true then (1 : Int32) <<< (i &&& 31) else 0) → ∃ r, zyF113_4 n c m (acc ||| y) (i + (1 : Int32)) s = some (r, s) ∧ 0 ≤ r.toInt ∧ ∀ j : Nat, (r.toInt.toNat.testBit j = true ↔ acc.toInt.toNat.testBit j = true ∨ (k ≤ j ∧ j < 4 ∧ zbA4 s c m (Int32.ofInt (j : Int)))) := by
        intro y hy
        obtain ⟨q0, q1⟩ := zmk_add (k := k) ha hi (by omega) hy
        obtain ⟨r, g1, g2, g3⟩ := zl_c113 hl m n (k + 1) _ (i + (1 : Int32)) (by rw [zq_add (by rw [zq_l1]; omega) (by rw [zq_l1]; omega), zq_l1, hi]; omega) (by omega) (by omega) q0
        refine ⟨r, g1, g2, fun j => ?_⟩
        rw [g3, q1, Bool.or_eq_true, Bool.and_eq_true, decide_eq_true_eq]
        by_cases ej : j = k
        · subst ej
          rw [eik]
          constructor
          · rintro ((q | ⟨-, q⟩) | ⟨a, b, c⟩)
            · exact Or.inl q
            · exact Or.inr ⟨Nat.le_refl _, by omega, f2.mp q⟩
            · omega
          · rintro (q | ⟨a, b, c⟩)
            · exact Or.inl (Or.inl q)
            · exact Or.inl (Or.inr ⟨rfl, f2.mpr c⟩)
        · constructor
          · rintro ((q | ⟨q, -⟩) | ⟨a, b, c⟩)
            · exact Or.inl q
            · exact absurd q ej
            · exact Or.inr ⟨by omega, b, c⟩
          · rintro (q | ⟨a, b, c⟩)
            · exact Or.inl (Or.inl q)
            · exact Or.inr ⟨by omega, b, c⟩
      cases b with
      | true =>
        rw [if_neg (by decide)]
        exact fin _ rfl
      | false =>
        rw [if_pos (by decide)]
        exact fin 0 rfl
theorem zys113 (hl : zin (s.1 c 3) 0 60) (m : Int32) : ∃ r, zyF113 c m s = some (r, s) ∧ 0 ≤ r.toInt ∧ r.toInt < 16 ∧ ∀ j : Nat, (r.toInt.toNat.testBit j = true ↔ j < 4 ∧ zbA4 s c m (Int32.ofInt (j : Int))) := by
  obtain ⟨r, f1, f2, f3⟩ := zl_c113 hl m zy_fu 0 0 0 rfl (by omega) (by unfold zy_fu; omega) (by decide)
  have f4 : ∀ j : Nat, (r.toInt.toNat.testBit j = true ↔ j < 4 ∧ zbA4 s c m (Int32.ofInt (j : Int))) := fun j => by
    rw [f3, zq_l0, show (0 : Int).toNat = 0 from rfl, Nat.zero_testBit]
    exact ⟨fun e => by rcases e with e | e; exact absurd e (by decide); exact e.2, fun e => Or.inr ⟨Nat.zero_le _, e⟩⟩
  have lt : r.toInt.toNat < 2 ^ 4 := Nat.lt_pow_two_of_testBit _ (fun j hj => by
    cases hb : r.toInt.toNat.testBit j with
    | false => rfl
    | true =>
      have := ((f4 j).mp hb).1
      omega)
  exact ⟨r, f1, f2, by omega, f4⟩
theorem zl_115 (x : Int32) : ∀ (n k : Nat) (i : Int32), i.toInt = (k : Int) → k ≤ 4 → 4 - k < n → ∃ r, zyF115_2 n x i s = some (r, s)
  | 0, k, i, hi, hk, hn => by omega
  | n + 1, k, i, hi, hk, hn => by
    show ∃ r, zyF115_2b (zyF115_2 n) x i s = _
    unfold zyF115_2b
    by_cases g : k = 4
    · rw [if_pos (by rw [Int32.le_iff_toInt_le, zq_l4]; omega)]
      exact ⟨_, rfl⟩
    · have f32 : zyF32 x i s = some ((x >>> (i &&& 31)) &&& (1 : Int32), s) := rfl
      rw [if_neg (by rw [Int32.le_iff_toInt_le, zq_l4]; omega), f32, zq_bind]
      dsimp only
      split
      · exact zl_115 x n (k + 1) (i + (1 : Int32)) (by rw [zq_add (by rw [zq_l1]; omega) (by rw [zq_l1]; omega), zq_l1, hi]; omega) (by omega) (by omega)
      · exact ⟨_, rfl⟩
end ZB
theorem zl_232 {d : Nat} {x : Int32} {s : zy_S} (hd : d < 6) (hx : x.toInt = (d : Int)) (hE : zbE s d) (m v : Int32) : ∀ (n k : Nat) (i : Int32), i.toInt = (k : Int) → k ≤ 30 → 30 - k < n → ∃ r, zyF232_3 n x m v i s = some (r, s)
  | 0, k, i, hi, hk, hn => by omega
  | n + 1, k, i, hi, hk, hn => by
    obtain ⟨⟨l0, l1⟩, el, hv⟩ := id hE
    obtain ⟨e, en, e1, e1n⟩ := zq_2k hi (by omega)
    have xin : zy_in x 6 = true := zq_in.mpr ⟨by omega, by omega⟩
    have xn : x.toNatClampNeg = d := by rw [zq_ix]; omega
    have em : ((60 : Int32) * x).toInt = 60 * (d : Int) := by rw [zq_mul (by rw [zq_l60, hx]; omega) (by rw [zq_l60, hx]; omega), zq_l60, hx]
    show ∃ r, zyF232_3b (zyF232_3 n) x m v i s = _
    unfold zyF232_3b zyF232_96
    rw [if_pos xin, xn, el]
    by_cases g : (s.1 (zy_sh d) 3).toInt ≤ 2 * (k : Int) + 1
    · rw [if_pos (by rw [Int32.le_iff_toInt_le, e1]; exact g)]
      exact ⟨_, rfl⟩
    · have ea : ((60 : Int32) * x + (2 : Int32) * i).toInt = 60 * (d : Int) + 2 * k := by rw [zq_add (by rw [em, e]; omega) (by rw [em, e]; omega), em, e]
      have eb : ((60 : Int32) * x + (2 : Int32) * i + (1 : Int32)).toInt = 60 * (d : Int) + 2 * k + 1 := by rw [zq_add (by rw [ea, zq_l1]; omega) (by rw [ea, zq_l1]; omega), ea, zq_l1]
      have i1 : zy_in ((60 : Int32) * x + (2 : Int32) * i) 360 = true := zq_in.mpr ⟨by omega, by omega⟩
      have i2 : zy_in ((60 : Int32) * x + (2 : Int32) * i + (1 : Int32)) 360 = true := zq_in.mpr ⟨by omega, by omega⟩
      have ih := zl_232 hd hx hE m v n (k + 1) (i + (1 : Int32)) (by rw [zq_add (by rw [zq_l1]; omega) (by rw [zq_l1]; omega), zq_l1, hi]; omega) (by omega) (by omega)
      rw [if_neg (by rw [Int32.le_iff_toInt_le, e1]; exact g), if_pos i1, zys186, zq_bind]
      dsimp only
      rw [if_pos i1, if_pos i2, if_pos i1]
      have o90 : ∀ a b, ∃ r, zyF232_90 (zyF232_3 n) x m v i a b s = some (r, s) := by
        intro a b
        unfold zyF232_90 zyF232_96
        split
        · exact ih
        · exact ⟨_, rfl⟩
      repeat' split
      all_goals first | exact ih | exact o90 _ _
theorem zl_231 {d : Nat} {x : Int32} {s : zy_S} (hd : d < 6) (hx : x.toInt = (d : Int)) (hE : zbE s d) (m y : Int32) : ∀ (n k : Nat) (a b i : Int32), i.toInt = (k : Int) → k ≤ 4 → 4 - k < n → ∃ r, zyF231_57 n x m y a b i s = some (r, s)
  | 0, k, a, b, i, hi, hk, hn => by omega
  | n + 1, k, a, b, i, hi, hk, hn => by
    show ∃ r, zyF231_57b (zyF231_57 n) x m y a b i s = _
    unfold zyF231_57b zyF231_86 zyF231_91
    by_cases g : k = 4
    · rw [if_pos (by rw [Int32.le_iff_toInt_le, zq_l4]; omega)]
      split <;> exact ⟨_, rfl⟩
    · obtain ⟨q, fq⟩ := zl_232 hd hx hE m i zy_fu 0 0 rfl (by omega) (by unfold zy_fu; omega)
      have fq : zyF232 x m i s = some (q, s) := fq
      have ih := fun a b => zl_231 hd hx hE m y n (k + 1) a b (i + (1 : Int32)) (by rw [zq_add (by rw [zq_l1]; omega) (by rw [zq_l1]; omega), zq_l1, hi]; omega) (by omega) (by omega)
      rw [if_neg (by rw [Int32.le_iff_toInt_le, zq_l4]; omega), fq, zq_bind]
      dsimp only
      repeat' split
      all_goals exact ih _ _
/-- both end -/
theorem zfn_believes (x m y : Int32) {s : zy_S} (h : zI s) : ∃ r r' s1 s2, zyF112 x m y s = some (r, s1) ∧ zyF231 x m y s1 = some (r', s2) ∧ zI s2 := by
  have key : (∃ r, zyF112 x m y s = some (r, s)) ∧ ∃ r, zyF231 x m y s = some (r, s) := by
    by_cases hx : 0 ≤ x.toInt ∧ x.toInt ≤ 5
    · obtain ⟨hin, hdl, hxd⟩ := zx6 hx
      obtain ⟨d, hd⟩ : ∃ d, d = x.toNatClampNeg := ⟨_, rfl⟩
      rw [← hd] at hdl hxd
      have hw := h.1
      rcases zb_107 h hdl hxd with ⟨e, f1, f2, f3⟩ | ⟨f1, f2, ht⟩
      · have en : ¬ e = 0 ∧ ¬ e = -1 ∧ ¬ (0 : Int32) ≤ e := by rcases f3 with rfl | rfl <;> decide
        constructor
        · unfold zyF112
          simp only [zys18, zys84, ← hd, f1, zq_bind, zqb_e0, zqb_n0, decide_eq_false_iff_not, decide_eq_true_eq]
          rw [if_neg (not_not_intro hx), if_pos hin, if_pos hw, if_neg en.1]
          repeat' split
          all_goals exact ⟨_, rfl⟩
        · unfold zyF231
          simp only [f2, zys179, zq_bind, zqb_e0, zqb_n0, decide_eq_false_iff_not, decide_eq_true_eq]
          rw [if_neg en.2.1, if_neg en.2.2]
          repeat' split
          all_goals exact ⟨_, rfl⟩
      · have hE := zbE_of h hdl ht
        obtain ⟨v, g1, g2, g3, -⟩ := zys113 (s := s) (c := zy_sh d) hE.1 m
        obtain ⟨q, fq⟩ := zl_115 (s := s) v zy_fu 0 0 rfl (by omega) (by unfold zy_fu; omega)
        have fq : zyF115 v s = some (q, s) := fq
        obtain ⟨w, fw⟩ := zl_231 hdl hxd hE m y zy_fu 0 0 (-2) 0 rfl (by omega) (by unfold zy_fu; omega)
        constructor
        · unfold zyF112
          simp only [zys18, zys84, ← hd, f1, g1, fq, zys63 s g2 (show v.toInt ≤ 16777215 by omega), zq_bind, zqb_e0, zqb_n0, decide_eq_false_iff_not, decide_eq_true_eq]
          rw [if_neg (not_not_intro hx), if_pos hin, if_pos hw, if_pos True.intro]
          repeat' split
          all_goals exact ⟨_, rfl⟩
        · unfold zyF231
          simp only [f2, zys179, zq_bind, zqb_e0, zqb_n0, decide_eq_false_iff_not, decide_eq_true_eq]
          rw [if_neg (show ¬ ((1 : Int32) = -1) by decide), if_pos (show (0 : Int32) ≤ 1 by decide), fw]
          repeat' split
          all_goals exact ⟨_, rfl⟩
    · have f2 : zyF229 x s = some (-1, s) := by
        unfold zyF229
        simp only [zys182, zq_bind, zqb_n0, decide_eq_true_eq]
        rw [if_neg hx]
      constructor
      · unfold zyF112
        simp only [zys18, zq_bind, zqb_e0, decide_eq_false_iff_not]
        rw [if_pos hx]
        exact ⟨_, rfl⟩
      · unfold zyF231
        rw [f2, zq_bind]
        exact ⟨_, if_pos rfl⟩
  obtain ⟨⟨r, f1⟩, ⟨r', f2⟩⟩ := key
  exact ⟨r, r', s, s, f1, f2, h⟩
end
section
/-! PART 46.997: whose. Made by wip/v4/gen_whose.py. -/
/-- how many of n from k on -/
def zcn (p : Nat → Bool) : Nat → Nat → Nat
  | 0, _ => 0
  | n + 1, k => (if p k = true then 1 else 0) + zcn p n (k + 1)
theorem zcn_congr {p q : Nat → Bool} : ∀ (n k : Nat), (∀ j, k ≤ j → j < k + n → p j = q j) → zcn p n k = zcn q n k
  | 0, _, _ => rfl
  | n + 1, k, h => by
    show (if p k = true then 1 else 0) + zcn p n (k + 1) = (if q k = true then 1 else 0) + zcn q n (k + 1)
    rw [h k (Nat.le_refl _) (by omega), zcn_congr n (k + 1) (fun j h1 h2 => h j (by omega) (by omega))]
theorem zcn_add (p : Nat → Bool) : ∀ (a b k : Nat), zcn p (a + b) k = zcn p a k + zcn p b (k + a)
  | 0, b, k => by rw [Nat.zero_add, Nat.add_zero]; exact (Nat.zero_add _).symm
  | a + 1, b, k => by
    have e : a + 1 + b = (a + b) + 1 := by omega
    rw [e]
    show (if p k = true then 1 else 0) + zcn p (a + b) (k + 1) = ((if p k = true then 1 else 0) + zcn p a (k + 1)) + zcn p b (k + (a + 1))
    rw [zcn_add p a b (k + 1), show k + 1 + a = k + (a + 1) by omega]
    exact (Nat.add_assoc _ _ _).symm
theorem zcn_shift (p : Nat → Bool) (d : Nat) : ∀ (n k : Nat), zcn p n (k + d) = zcn (fun j => p (j + d)) n k
  | 0, _ => rfl
  | n + 1, k => by
    show (if p (k + d) = true then 1 else 0) + zcn p n (k + d + 1) = (if p (k + d) = true then 1 else 0) + zcn (fun j => p (j + d)) n (k + 1)
    rw [← zcn_shift p d n (k + 1), show k + d + 1 = k + 1 + d by omega]
theorem zcn_and (p : Nat → Bool) (b : Bool) (n k : Nat) : zcn (fun j => p j && b) n k = (if b = true then 1 else 0) * zcn p n k := by
  cases b with
  | true =>
    rw [if_pos rfl, Nat.one_mul]
    exact zcn_congr n k (fun j _ _ => Bool.and_true _)
  | false =>
    rw [if_neg (by decide), Nat.zero_mul]
    have : ∀ (n k : Nat), zcn (fun j => p j && false) n k = 0 := by
      intro n
      induction n with
      | zero => intro k; rfl
      | succ n ih =>
        intro k
        show (if (p k && false) = true then 1 else 0) + zcn (fun j => p j && false) n (k + 1) = 0
        rw [ih (k + 1), Bool.and_false, if_neg (by decide)]
    exact this n k
theorem zcn_le (p : Nat → Bool) : ∀ (n k : Nat), zcn p n k ≤ n
  | 0, _ => Nat.le_refl _
  | n + 1, k => by
    have := zcn_le p n (k + 1)
    show (if p k = true then 1 else 0) + zcn p n (k + 1) ≤ n + 1
    split <;> omega
def zallg (g : Nat → Nat → Bool) : Nat → Nat → Bool
  | 0, _ => true
  | M + 1, x => zallg g M x && g M (x / 4 ^ M % 4)
def zpr (g : Nat → Nat → Bool) : Nat → Nat
  | 0 => 1
  | M + 1 => zpr g M * zcn (g M) 4 0
theorem zall_low (g : Nat → Nat → Bool) (d M : Nat) : ∀ (i j : Nat), i ≤ M → zallg g i (j + d * 4 ^ M) = zallg g i j
  | 0, _, _ => rfl
  | i + 1, j, h => by
    show (zallg g i (j + d * 4 ^ M) && g i ((j + d * 4 ^ M) / 4 ^ i % 4)) = (zallg g i j && g i (j / 4 ^ i % 4))
    have e : d * 4 ^ M = 4 ^ i * (4 * (d * 4 ^ (M - i - 1))) := by
      have e1 : M = i + (1 + (M - i - 1)) := by omega
      have e2 : 4 ^ M = 4 ^ i * (4 * 4 ^ (M - i - 1)) := by
        conv => lhs; rw [e1, Nat.pow_add, Nat.pow_add, Nat.pow_one]
      rw [e2, Nat.mul_left_comm, Nat.mul_left_comm d 4]
    rw [zall_low g d M i j (by omega), e, Nat.add_mul_div_left _ _ (Nat.pow_pos (by omega)), Nat.add_mul_mod_self_left]
theorem zcn_prod (g : Nat → Nat → Bool) : ∀ M, zcn (zallg g M) (4 ^ M) 0 = zpr g M
  | 0 => rfl
  | M + 1 => by
    have ih := zcn_prod g M
    have blk : ∀ d, d < 4 → zcn (zallg g (M + 1)) (4 ^ M) (0 + d * 4 ^ M) = (if g M d = true then 1 else 0) * zpr g M := by
      intro d hd
      rw [zcn_shift, ← ih, ← zcn_and]
      refine zcn_congr _ _ (fun j _ hj => ?_)
      show (zallg g M (j + d * 4 ^ M) && g M ((j + d * 4 ^ M) / 4 ^ M % 4)) = (zallg g M j && g M d)
      have e : (j + d * 4 ^ M) / 4 ^ M = d := by
        rw [Nat.mul_comm, Nat.add_mul_div_left _ _ (Nat.pow_pos (by omega)), Nat.div_eq_of_lt (by omega), Nat.zero_add]
      rw [zall_low g d M M j (Nat.le_refl _), e, Nat.mod_eq_of_lt hd]
    have b0 := blk 0 (by omega)
    have b1 := blk 1 (by omega)
    have b2 := blk 2 (by omega)
    have b3 := blk 3 (by omega)
    have e4 : 4 ^ (M + 1) = 4 ^ M + (4 ^ M + (4 ^ M + 4 ^ M)) := by rw [Nat.pow_succ]; omega
    rw [e4, zcn_add, zcn_add, zcn_add]
    have f1 : 0 + 4 ^ M = 0 + 1 * 4 ^ M := by omega
    have f2 : 0 + 4 ^ M + 4 ^ M = 0 + 2 * 4 ^ M := by omega
    have f3 : 0 + 4 ^ M + 4 ^ M + 4 ^ M = 0 + 3 * 4 ^ M := by omega
    rw [f3, f2, f1, b1, b2, b3]
    rw [Nat.zero_mul, Nat.add_zero] at b0
    rw [b0]
    show _ = zpr g M * ((if g M 0 = true then 1 else 0) + ((if g M 1 = true then 1 else 0) + ((if g M 2 = true then 1 else 0) + ((if g M 3 = true then 1 else 0) + 0))))
    rw [Nat.add_zero, Nat.mul_add, Nat.mul_add, Nat.mul_add, Nat.mul_comm (zpr g M), Nat.mul_comm (zpr g M), Nat.mul_comm (zpr g M), Nat.mul_comm (zpr g M)]
theorem zpr_le (g : Nat → Nat → Bool) : ∀ M, zpr g M ≤ 4 ^ M
  | 0 => Nat.le_refl _
  | M + 1 => by
    rw [Nat.pow_succ]
    exact Nat.mul_le_mul (zpr_le g M) (zcn_le (g M) 4 0)
/-- a code's digit is its VIEW -/
theorem zvf_dig {x m : Nat} (hx : x < 4096) (hm : m < 6) : zvf (Int32.ofInt (x : Int)) (Int32.ofInt (m : Int)) = Int32.ofInt ((x / 4 ^ m % 4 : Nat) : Int) := by
  have ex : (Int32.ofInt (x : Int)).toInt = (x : Int) := Int32.toInt_ofInt_of_le (by omega) (by omega)
  have emm : (Int32.ofInt (m : Int)).toInt = (m : Int) := Int32.toInt_ofInt_of_le (by omega) (by omega)
  have e : (zvf (Int32.ofInt (x : Int)) (Int32.ofInt (m : Int))).toInt = zb_c 13 (zb_c 17 (Int32.ofInt (x : Int)).toInt ((2 : Int32) * Int32.ofInt (m : Int)).toInt) 3 := by
    have e1 : (zvf (Int32.ofInt (x : Int)) (Int32.ofInt (m : Int))).toInt = (zb 13 (zb 17 (Int32.ofInt (x : Int)) ((2 : Int32) * Int32.ofInt (m : Int))) 3).toInt := rfl
    rw [e1, zb_cEq 13 _ _ (by omega), zb_cEq 17 _ _ (by omega)]
    rfl
  have e4 : ((2 : Int32) * Int32.ofInt (m : Int)).toInt = ((2 * m : Nat) : Int) := by rw [zq_mul (by rw [zq_l2]; omega) (by rw [zq_l2]; omega), zq_l2, emm]; omega
  have u : x / 2 ^ (2 * m) ≤ x := Nat.div_le_self _ _
  have e15 : (3 : Int) = ((3 : Nat) : Int) := rfl
  have e3 : x / 2 ^ (2 * m) &&& 3 = x / 2 ^ (2 * m) % 4 := Nat.and_two_pow_sub_one_eq_mod _ 2
  have ep : 2 ^ (2 * m) = 4 ^ m := by rw [Nat.pow_mul]
  rw [ex, e4, zN_shr (by omega) (by omega), e15, zN_and (by omega) (by omega), e3, ep] at e
  have lt : x / 4 ^ m % 4 < 4 := Nat.mod_lt _ (by omega)
  exact zq_ext (by rw [e]; exact (Int32.toInt_ofInt_of_le (by omega) (by omega)).symm)
section ZB2
variable {s : zy_S} {c : Nat}
/-- all of a book is so for a code -/
def zok (s : zy_S) (c x : Nat) : Prop := ∀ j : Nat, 2 * (j : Int) < (s.1 c 3).toInt → zbW s c j (Int32.ofInt (x : Int))
noncomputable def zokb (s : zy_S) (c x : Nat) : Bool := @decide (zok s c x) (Classical.propDecidable _)
def zbAI (s : zy_S) (c : Nat) : Prop := ∀ j : Nat, 2 * (j : Int) < (s.1 c 3).toInt → zbI s c j
noncomputable def zbg (s : zy_S) (c m d : Nat) : Bool := @decide (zbA4 s c (Int32.ofInt (m : Int)) (Int32.ofInt (d : Int))) (Classical.propDecidable _)
theorem zokb_t {x : Nat} : zokb s c x = true ↔ zok s c x := @decide_eq_true_iff _ (Classical.propDecidable _)
theorem zbg_t {m d : Nat} : zbg s c m d = true ↔ zbA4 s c (Int32.ofInt (m : Int)) (Int32.ofInt (d : Int)) := @decide_eq_true_iff _ (Classical.propDecidable _)
theorem zall_t (g : Nat → Nat → Bool) (x : Nat) : ∀ M, (zallg g M x = true ↔ ∀ m, m < M → g m (x / 4 ^ m % 4) = true)
  | 0 => ⟨fun _ m hm => by omega, fun _ => rfl⟩
  | M + 1 => by
    show (zallg g M x && g M (x / 4 ^ M % 4)) = true ↔ _
    rw [Bool.and_eq_true, zall_t g x M]
    constructor
    · rintro ⟨a, b⟩ m hm
      by_cases e : m = M
      · subst e
        exact b
      · exact a m (by omega)
    · intro a
      exact ⟨fun m hm => a m (by omega), a M (by omega)⟩
theorem zok_iff {x : Nat} (hx : x < 4096) : zok s c x ↔ zbAI s c ∧ zallg (zbg s c) 6 x = true := by
  rw [zall_t]
  have L4 : ∀ j, zbI s c j → ∃ m : Nat, m < 6 ∧ zbL s c j / (4 : Int32) = Int32.ofInt (m : Int) := fun j hj => by
    obtain ⟨d1, -⟩ := zq_div4 (a := zbL s c j) hj.1
    have := hj.2
    exact ⟨(zbL s c j).toInt.toNat / 4, by omega, zq_ext (by rw [d1, Int32.toInt_ofInt_of_le (by omega) (by omega)]; omega)⟩
  have vw : ∀ (j m : Nat), m < 6 → zbL s c j / (4 : Int32) = Int32.ofInt (m : Int) → zvw (Int32.ofInt (x : Int)) (zbL s c j) = decide (zbL s c j - zbL s c j / (4 : Int32) * (4 : Int32) = Int32.ofInt ((x / 4 ^ m % 4 : Nat) : Int)) := fun j m hm e => by
    have e1 : zvw (Int32.ofInt (x : Int)) (zbL s c j) = decide (zvf (Int32.ofInt (x : Int)) (zbL s c j / (4 : Int32)) = zbL s c j - zbL s c j / (4 : Int32) * (4 : Int32)) := rfl
    rw [e1]
    refine decide_eq_decide.mpr ?_
    constructor
    · intro q
      rw [← q, e, zvf_dig hx hm]
    · intro q
      rw [q, e, zvf_dig hx hm]
  constructor
  · intro h
    refine ⟨fun j hj => (h j hj).1, fun m hm => zbg_t.mpr (fun j hj hc => ?_)⟩
    have := h j hj
    unfold zbW at this
    rw [vw j m hm hc.2] at this
    exact this
  · rintro ⟨h1, h2⟩ j hj
    obtain ⟨m, hm, e⟩ := L4 j (h1 j hj)
    have := zbg_t.mp (h2 m hm) j hj ⟨h1 j hj, e⟩
    unfold zbW
    rw [vw j m hm e]
    exact this
theorem zok_n : (zbAI s c → zcn (zokb s c) 4096 0 = zpr (zbg s c) 6) ∧ (¬ zbAI s c → zcn (zokb s c) 4096 0 = 0) := by
  constructor
  · intro h
    rw [← zcn_prod (zbg s c) 6]
    exact zcn_congr 4096 0 (fun j _ hj => Bool.eq_iff_iff.mpr (by rw [zokb_t, zok_iff (by omega)]; exact ⟨fun q => q.2, fun q => ⟨h, q⟩⟩))
  · intro h
    have e : zcn (zokb s c) 4096 0 = zcn (fun j => true && false) 4096 0 := zcn_congr 4096 0 (fun j _ hj => by
      show _ = false
      cases hb : zokb s c j with
      | false => rfl
      | true => exact absurd ((zok_iff (by omega)).mp (zokb_t.mp hb)).1 h)
    rw [e, zcn_and, if_neg (by decide), Nat.zero_mul]
/-- the class's CODES -/
theorem zpop_16 : ∀ n : Nat, n < 16 → zpopN 24 n = (if n.testBit 0 = true then 1 else 0) + ((if n.testBit 1 = true then 1 else 0) + ((if n.testBit 2 = true then 1 else 0) + ((if n.testBit 3 = true then 1 else 0) + 0))) := by decide +kernel
theorem zbg_n (hl : zin (s.1 c 3) 0 60) {m : Nat} (hm : m < 6) : ∃ r, zyF113 c (Int32.ofInt (m : Int)) s = some (r, s) ∧ zyF63 r s = some (zpc r, s) ∧ (zpc r).toInt = ((zcn (zbg s c m) 4 0 : Nat) : Int) := by
  obtain ⟨r, f1, f2, f3, f4⟩ := zys113 hl (Int32.ofInt (m : Int))
  refine ⟨r, f1, zys63 s f2 (by omega), ?_⟩
  have b : zpopN 24 r.toInt.toNat ≤ 24 := zpopN_le r.toInt.toNat 24
  have e : (zpc r).toInt = ((zpopN 24 r.toInt.toNat : Nat) : Int) := by
    unfold zpc zpo
    exact Int32.toInt_ofInt_of_le (by omega) (by omega)
  rw [e, zpop_16 _ (by omega)]
  have bit : ∀ d : Nat, d < 4 → r.toInt.toNat.testBit d = zbg s c m d := fun d hd => Bool.eq_iff_iff.mpr (by rw [f4, zbg_t]; exact ⟨fun q => q.2, fun q => ⟨hd, q⟩⟩)
  rw [bit 0 (by omega), bit 1 (by omega), bit 2 (by omega), bit 3 (by omega)]
  rfl
theorem zl_118b (hl : zin (s.1 c 3) 0 60) : ∀ (n k : Nat) (A i : Int32), i.toInt = (k : Int) → k ≤ 6 → 6 - k < n → (A.toInt = ((zpr (zbg s c) k : Nat) : Int) ∨ A.toInt = 0) → ∃ r, zyF118_35 n c A i s = some (r, s) ∧ (A.toInt = ((zpr (zbg s c) k : Nat) : Int) → r.toInt = ((zpr (zbg s c) 6 : Nat) : Int)) ∧ (A.toInt = 0 → r.toInt = 0)
  | 0, k, A, i, hi, hk, hn, hA => by omega
  | n + 1, k, A, i, hi, hk, hn, hA => by
    show ∃ r, zyF118_35b (zyF118_35 n) c A i s = _ ∧ _
    unfold zyF118_35b
    by_cases g : k = 6
    · subst g
      rw [if_pos (by rw [Int32.le_iff_toInt_le, zq_l6]; omega)]
      exact ⟨A, rfl, fun e => e, fun e => e⟩
    · have eik : i = Int32.ofInt (k : Int) := zq_ext (by rw [hi]; exact (Int32.toInt_ofInt_of_le (by omega) (by omega)).symm)
      obtain ⟨r, f1, f2, f3⟩ := zbg_n hl (show k < 6 by omega)
      rw [← eik] at f1
      have z4 := zcn_le (zbg s c k) 4 0
      have p4 := zpr_le (zbg s c) k
      have pk : 4 ^ k ≤ 4 ^ 6 := Nat.pow_le_pow_right (by omega) (by omega)
      have A0 : 0 ≤ A.toInt ∧ A.toInt ≤ 4096 := by rcases hA with e | e <;> omega
      have eA : (A * zpc r).toInt = A.toInt * ((zcn (zbg s c k) 4 0 : Nat) : Int) := by
        have m1 : 0 ≤ A.toInt * ((zcn (zbg s c k) 4 0 : Nat) : Int) := Int.mul_nonneg A0.1 (by omega)
        have m2 : A.toInt * ((zcn (zbg s c k) 4 0 : Nat) : Int) ≤ 4096 * 4 := Int.mul_le_mul A0.2 (by omega) (by omega) (by omega)
        rw [zq_mul (by rw [f3]; omega) (by rw [f3]; omega), f3]
      have e1 : A.toInt = ((zpr (zbg s c) k : Nat) : Int) → (A * zpc r).toInt = ((zpr (zbg s c) (k + 1) : Nat) : Int) := fun e => by
        rw [eA, e, ← Int.natCast_mul]
        rfl
      have e0 : A.toInt = 0 → (A * zpc r).toInt = 0 := fun e => by rw [eA, e, Int.zero_mul]
      obtain ⟨r', g1, g2, g3⟩ := zl_118b hl n (k + 1) (A * zpc r) (i + (1 : Int32)) (by rw [zq_add (by rw [zq_l1]; omega) (by rw [zq_l1]; omega), zq_l1, hi]; omega) (by omega) (by omega) (by
        rcases hA with e | e
        · exact Or.inl (e1 e)
        · exact Or.inr (e0 e))
      rw [if_neg (by rw [Int32.le_iff_toInt_le, zq_l6]; omega), f1, zq_bind]
      dsimp only
      rw [f2, zq_bind]
      dsimp only
      exact ⟨r', g1, fun e => g2 (e1 e), fun e => g3 (e0 e)⟩
theorem zl_118a (hl : zin (s.1 c 3) 0 60) : ∀ (n k : Nat) (A i : Int32), i.toInt = (k : Int) → k ≤ 30 → 30 - k < n → ∃ A', zyF118_4 n c A i s = zyF118_35 zy_fu c A' 0 s ∧ ((∀ j : Nat, k ≤ j → 2 * (j : Int) < (s.1 c 3).toInt → zbI s c j) → A' = A) ∧ ((¬ ∀ j : Nat, k ≤ j → 2 * (j : Int) < (s.1 c 3).toInt → zbI s c j) ∨ A = 0 → A' = 0)
  | 0, k, A, i, hi, hk, hn => by omega
  | n + 1, k, A, i, hi, hk, hn => by
    obtain ⟨l0, l1⟩ := id hl
    obtain ⟨q, fq, eq⟩ := zys109 hl
    show ∃ A', zyF118_4b (zyF118_4 n) c A i s = _ ∧ _
    unfold zyF118_4b zyF118_26
    rw [fq, zq_bind]
    dsimp only
    by_cases g : (s.1 c 3).toInt ≤ 2 * (k : Int)
    · rw [if_pos (by rw [Int32.le_iff_toInt_le]; omega)]
      refine ⟨A, rfl, fun _ => rfl, fun e => ?_⟩
      rcases e with e | e
      · exact absurd (fun j hj hl => by omega) e
      · exact e
    · have ih := fun w => zl_118a hl n (k + 1) w (i + (1 : Int32)) (by rw [zq_add (by rw [zq_l1]; omega) (by rw [zq_l1]; omega), zq_l1, hi]; omega) (by omega) (by omega)
      rw [if_neg (by rw [Int32.le_iff_toInt_le]; omega), zys110 s hi (by omega), zq_bind]
      dsimp only
      by_cases gi : zbI s c k
      · have gn : zbL s c k ≠ -1 := fun q => by
          have := gi.1
          rw [q] at this
          exact absurd this (by decide)
        rw [if_pos gi, if_pos gn]
        obtain ⟨A', f1, f2, f3⟩ := ih A
        refine ⟨A', f1, fun e => f2 (fun j hj => e j (by omega)), fun e => f3 ?_⟩
        rcases e with e | e
        · refine Or.inl (fun p => e (fun j hj hl => ?_))
          by_cases ej : j = k
          · subst ej
            exact gi
          · exact p j (by omega) hl
        · exact Or.inr e
      · rw [if_neg gi, if_neg (not_not_intro rfl)]
        obtain ⟨A', f1, f2, f3⟩ := ih 0
        exact ⟨A', f1, fun e => absurd (e k (Nat.le_refl _) (by omega)) gi, fun _ => f3 (Or.inr rfl)⟩
theorem zys118 (hl : zin (s.1 c 3) 0 60) : ∃ r, zyF118 c s = some (r, s) ∧ r.toInt = ((zcn (zokb s c) 4096 0 : Nat) : Int) := by
  obtain ⟨A', f1, f2, f3⟩ := zl_118a hl zy_fu 0 1 0 rfl (by omega) (by unfold zy_fu; omega)
  obtain ⟨n1, n2⟩ := zok_n (s := s) (c := c)
  by_cases h : zbAI s c
  · have eA := f2 (fun j _ hj => h j hj)
    obtain ⟨r, g1, g2, -⟩ := zl_118b hl zy_fu 0 A' 0 rfl (by omega) (by unfold zy_fu; omega) (Or.inl (by rw [eA]; rfl))
    exact ⟨r, f1.trans g1, by rw [n1 h]; exact g2 (by rw [eA]; rfl)⟩
  · have eA := f3 (Or.inl (fun p => h (fun j hj => p j (Nat.zero_le _) hj)))
    obtain ⟨r, g1, -, g3⟩ := zl_118b hl zy_fu 0 A' 0 rfl (by omega) (by unfold zy_fu; omega) (Or.inr (by rw [eA]; rfl))
    exact ⟨r, f1.trans g1, by rw [n2 h]; exact g3 (by rw [eA]; rfl)⟩
end ZB2
/-- the model's count -/
theorem zl_233 {d : Nat} {x y : Int32} {s : zy_S} (hd : d < 6) (hx : x.toInt = (d : Int)) (hE : zbE s d) (S : Int32) : ∀ (n k : Nat) (N i : Int32), i.toInt = (k : Int) → k ≤ 4096 → 4096 - k < n → 0 ≤ N.toInt → N.toInt ≤ (k : Int) → ∃ r : Int32, zyF233_89 n x y S N i s = some (if y ≠ 0 then r else S, s) ∧ r.toInt = N.toInt + ((zcn (zokb s (zy_sh d)) (4096 - k) k : Nat) : Int)
  | 0, k, N, i, hi, hk, hn, hN, hN2 => by omega
  | n + 1, k, N, i, hi, hk, hn, hN, hN2 => by
    show ∃ r : Int32, zyF233_89b (zyF233_89 n) x y S N i s = _ ∧ _
    unfold zyF233_89b zyF233_116
    by_cases g : k = 4096
    · subst g
      rw [if_pos (by rw [Int32.le_iff_toInt_le, zq_l4096]; omega)]
      refine ⟨N, ?_, by rw [Nat.sub_self]; show _ = N.toInt + 0; omega⟩
      split <;> rfl
    · have eik : Int32.ofInt (k : Int) = i := zq_ext (by rw [hi]; exact Int32.toInt_ofInt_of_le (by omega) (by omega))
      obtain ⟨r, -, f2, f3⟩ := zl_book (B := i) hd hx hE zy_fu zy_fu 0 0 rfl (by omega) (by unfold zy_fu; omega) (by unfold zy_fu; omega)
      have f2 : zyF230 x i s = some (r, s) := f2
      have e : 4096 - k = (4096 - (k + 1)) + 1 := by omega
      have hz : zokb s (zy_sh d) k = true ↔ r = -2 := by
        rw [zokb_t]
        unfold zok
        rw [eik]
        rcases f3 with ⟨e, p⟩ | ⟨e, p⟩
        · exact ⟨fun _ => e, fun _ j hj => p j (Nat.zero_le _) hj⟩
        · exact ⟨fun q => absurd (fun j _ hj => q j hj) p, fun q => by rw [q] at e; exact absurd e (by decide)⟩
      have ih := fun w h0 h1 => zl_233 (y := y) hd hx hE S n (k + 1) w (i + (1 : Int32)) (by rw [zq_add (by rw [zq_l1]; omega) (by rw [zq_l1]; omega), zq_l1, hi]; omega) (by omega) (by omega) h0 h1
      rw [if_neg (by rw [Int32.le_iff_toInt_le, zq_l4096]; omega), f2, zq_bind, e]
      dsimp only
      by_cases er : r = -2
      · rw [if_neg (not_not_intro er)]
        have eN : (N + (1 : Int32)).toInt = N.toInt + 1 := by rw [zq_add (by rw [zq_l1]; omega) (by rw [zq_l1]; omega), zq_l1]
        obtain ⟨q, g1, g2⟩ := ih (N + (1 : Int32)) (by omega) (by omega)
        refine ⟨q, g1, ?_⟩
        show q.toInt = N.toInt + (((if zokb s (zy_sh d) k = true then 1 else 0) + zcn (zokb s (zy_sh d)) (4096 - (k + 1)) (k + 1) : Nat) : Int)
        rw [if_pos (hz.mpr er), g2, eN]
        omega
      · rw [if_pos er]
        have eN : (N + (0 : Int32)).toInt = N.toInt := by rw [zq_add (by rw [zq_l0]; omega) (by rw [zq_l0]; omega), zq_l0]; omega
        obtain ⟨q, g1, g2⟩ := ih (N + (0 : Int32)) (by omega) (by omega)
        refine ⟨q, g1, ?_⟩
        show q.toInt = N.toInt + (((if zokb s (zy_sh d) k = true then 1 else 0) + zcn (zokb s (zy_sh d)) (4096 - (k + 1)) (k + 1) : Nat) : Int)
        rw [if_neg (fun w => er (hz.mp w)), g2, eN]
        omega
theorem zl_117 {d P : Nat} {x y : Int32} {s : zy_S} (hP : zPe s P) (hd : d < 6) (hx : x.toInt = (d : Int)) (hE : zbE s d) : ∀ (n m k : Nat) (acc i : Int32), i.toInt = (k : Int) → k ≤ P → P - k < n → P - k < m → ∃ r, zyF117_4 n (zy_sh d) acc i s = some (r, s) ∧ zyF233_40 m x y acc i s = zyF233_89 zy_fu x y r 0 0 s
  | 0, m, k, acc, i, hi, hk, hn, hm => by omega
  | n + 1, 0, k, acc, i, hi, hk, hn, hm => by omega
  | n + 1, m + 1, k, acc, i, hi, hk, hn, hm => by
    obtain ⟨e1, e2, h8, hB, -⟩ := id hP
    show ∃ r, zyF117_4b (zyF117_4 n) (zy_sh d) acc i s = _ ∧ zyF233_40b (zyF233_40 m) x y acc i s = _
    unfold zyF117_4b zyF233_40b zyF117_41 zyF233_75
    by_cases g : k = P
    · rw [if_pos (by rw [Int32.le_iff_toInt_le]; omega), if_pos (by rw [Int32.le_iff_toInt_le]; omega)]
      exact ⟨acc, rfl, rfl⟩
    · have iin : zy_in i 8 = true := zq_in.mpr ⟨by omega, by omega⟩
      have iin4 : zy_in i 41 = true := zq_in.mpr ⟨by omega, by omega⟩
      have ik : i.toNatClampNeg = k := by rw [zq_ix]; omega
      obtain ⟨r, f1, f2, -⟩ := zl_book (B := s.1 3 k) hd hx hE zy_fu zy_fu 0 0 rfl (by omega) (by unfold zy_fu; omega) (by unfold zy_fu; omega)
      have f1 : zyF108 (zy_sh d) (s.1 3 k) s = some (r, s) := f1
      have f2 : zyF230 x (s.1 3 k) s = some (r, s) := f2
      have ih := fun w => zl_117 (y := y) hP hd hx hE n m (k + 1) w (i + (1 : Int32)) (by rw [zq_add (by rw [zq_l1]; omega) (by rw [zq_l1]; omega), zq_l1, hi]; omega) (by omega) (by omega) (by omega)
      have hl1 : ¬ (s.1 1 5 ≤ i) := by rw [Int32.le_iff_toInt_le]; omega
      have hl2 : ¬ (s.1 43 6 ≤ i) := by rw [Int32.le_iff_toInt_le]; omega
      rw [if_neg hl1, if_neg hl2, if_pos iin, if_pos iin4, ik, ← (hB k (by omega)).1, f1, f2, zq_bind, zq_bind]
      dsimp only
      split
      · exact ih _
      · exact ih _
theorem zop_whose (x y : Int32) {s : zy_S} (h : zI s) : ∃ r s1 s2, zyF116 x y s = some (r, s1) ∧ zyF233 x y s1 = some (r, s2) ∧ zI s2 := by
  have hw := h.1
  have hP := zPe_of h
  by_cases hx : 0 ≤ x.toInt ∧ x.toInt ≤ 5
  · obtain ⟨hin, hdl, hxd⟩ := zx6 hx
    obtain ⟨d, hd⟩ : ∃ d, d = x.toNatClampNeg := ⟨_, rfl⟩
    rw [← hd] at hdl hxd
    by_cases hy : 0 ≤ y.toInt ∧ y.toInt ≤ 1
    · rcases zb_107 h hdl hxd with ⟨e, f1, f2, f3⟩ | ⟨f1, f2, ht⟩
      · have en : ¬ e = 0 ∧ ¬ e = -1 ∧ ¬ (0 : Int32) ≤ e := by rcases f3 with rfl | rfl <;> decide
        refine ⟨e, s, s, ?_, ?_, h⟩
        · unfold zyF116
          simp only [zys18, zys84, ← hd, f1, zq_bind, zqb_e0, zqb_n0, decide_eq_false_iff_not, decide_eq_true_eq]
          rw [if_neg (not_not_intro hx), if_pos hy, if_pos hin, if_pos hw, if_neg en.1]
        · unfold zyF233
          simp only [f2, zys179, zq_bind, zqb_n0, decide_eq_true_eq, Int32.toInt_toInt64, zq_j0, zq_j1]
          rw [if_neg en.2.1, if_pos hy, if_neg en.2.2]
      · have hE := zbE_of h hdl ht
        obtain ⟨S, g1, g2⟩ := zl_117 (y := y) hP hdl hxd hE zy_fu zy_fu 0 0 0 rfl (by omega) (by have := hP.2.2.1; unfold zy_fu; omega) (by have := hP.2.2.1; unfold zy_fu; omega)
        have g1 : zyF117 (zy_sh d) s = some (S, s) := g1
        obtain ⟨r, c1, c2⟩ := zys118 (s := s) (c := zy_sh d) hE.1
        obtain ⟨q, m1, m2⟩ := zl_233 (y := y) hdl hxd hE S zy_fu 0 0 0 rfl (by omega) (by unfold zy_fu; omega) (by decide) (by decide)
        have eq : q = r := zq_ext (by rw [m2, c2, zq_l0, Nat.sub_zero]; omega)
        subst eq
        refine ⟨if y ≠ 0 then q else S, s, s, ?_, ?_, h⟩
        · unfold zyF116
          simp only [zys18, zys84, ← hd, f1, g1, c1, zq_bind, zqb_e0, zqb_n0, decide_eq_false_iff_not, decide_eq_true_eq]
          rw [if_neg (not_not_intro hx), if_pos hy, if_pos hin, if_pos hw, if_pos True.intro, if_pos hin, if_pos hw]
          split <;> rfl
        · unfold zyF233
          simp only [f2, zys179, zq_bind, zqb_n0, decide_eq_true_eq, Int32.toInt_toInt64, zq_j0, zq_j1]
          rw [if_neg (by decide), if_pos hy, if_pos (by decide), g2, m1]
    · refine ⟨-1, s, s, ?_, ?_, h⟩
      · unfold zyF116
        simp only [zys18, zys84, zq_bind, zqb_e0, zqb_n0, decide_eq_false_iff_not, decide_eq_true_eq]
        rw [if_neg (not_not_intro hx), if_neg hy]
      · unfold zyF233
        have f2 : ∃ e, zyF229 x s = some (e, s) := by
          rcases zb_107 h hdl hxd with ⟨e, -, f2, -⟩ | ⟨-, f2, -⟩
          · exact ⟨e, f2⟩
          · exact ⟨1, f2⟩
        obtain ⟨e, f2⟩ := f2
        simp only [f2, zys179, zq_bind, zqb_n0, decide_eq_true_eq, Int32.toInt_toInt64, zq_j0, zq_j1]
        split <;> first | rfl | rw [if_neg hy]
  · have f2 : zyF229 x s = some (-1, s) := by
      unfold zyF229
      simp only [zys182, zq_bind, zqb_n0, decide_eq_true_eq]
      rw [if_neg hx]
    refine ⟨-1, s, s, ?_, ?_, h⟩
    · unfold zyF116
      simp only [zys18, zq_bind, zqb_e0, decide_eq_false_iff_not]
      rw [if_pos hx]
    · unfold zyF233
      rw [f2, zq_bind]
      exact if_pos rfl
end
