/-! PART 48.1: the model's board. Made by wip/v4/gen_law.py. -/
theorem zrg_51 : ∀ k, k < 24 → zrg 51 k = (-2147483648, 2147483647) := by decide +kernel
theorem zrn_51 : zrn 51 = 24 := by decide +kernel
def zbP (s : zy_S) : Option Value → zy_S → Prop := fun u t => zSm s t ∧ ∃ r : Int32, u = some (.int r)
theorem zcS_203 {s : zy_S} (hw : zy_Wb s = true) (hg : zRg s) (X : zx_X) : zyR X 2 203 0 [some (.ref (43 + 3))] [] s (fun u t => zSm s t ∧ u = none) := zcR0 (Pr := fun u => u = none) zk_203_c (by decide +kernel) (fun alt hal G vals v hv gR => by
  have ha := List.mem_singleton.mp hal
  subst ha
  cases v with
  | none => rfl
  | some u => exact gR.elim) (by decide +kernel) rfl rfl hw hg (ρ := []) (L := [some (.ref (43 + 3))]) trivial ⟨⟨rfl, zVr rfl rfl⟩, trivial⟩ X
theorem zcS_216 {a b : Int32} (ha : 0 ≤ a.toInt ∧ a.toInt ≤ 5) (hb : 0 ≤ b.toInt ∧ b.toInt ≤ 15) {s : zy_S} (hw : zy_Wb s = true) (hg : zRg s) (X : zx_X) : zyR X 91 216 0 [some (.ref (43 + 3)), some (.int a), some (.int b)] [] s (fun u t => zSm s t ∧ ∃ r : Int32, u = some (.int r) ∧ 0 ≤ r.toInt ∧ r.toInt ≤ 792) := zcR0 (Pr := fun u => ∃ r : Int32, u = some (.int r) ∧ 0 ≤ r.toInt ∧ r.toInt ≤ 792) zk_216_u_c (by decide +kernel) (fun alt hal G vals v hv gR => by
  have ha := List.mem_singleton.mp hal
  subst ha
  cases vals with
  | nil => exact hv.elim
  | cons n vs =>
    obtain ⟨⟨h1, h2, -⟩, -⟩ := hv
    cases v with
    | none => exact gR.elim
    | some u =>
      obtain ⟨y, rfl, ey⟩ := zg_int (a := (1, 0)) rfl gR
      have en : n = y.toInt := by
        rcases ey with ⟨q, -⟩ | ⟨-, e⟩
        · exact absurd q (by decide)
        · exact Option.some.inj e
      subst en
      exact ⟨y, rfl, h1, h2⟩) (by decide +kernel) rfl rfl hw hg (ρ := [a.toInt, b.toInt]) (L := [some (.ref (43 + 3)), some (.int a), some (.int b)]) ⟨zEr ha.1 ha.2, zEr hb.1 hb.2, trivial⟩ ⟨⟨rfl, zVr rfl rfl⟩, ⟨rfl, zVi rfl rfl⟩, ⟨rfl, zVi rfl rfl⟩, trivial⟩ X
theorem zl215_47 {X : zx_X} {s : zy_S} (x : Int32) : ∀ (n k : Nat) (i : Int32) (t : zy_S), i.toInt = (k : Int) → k ≤ 96 → 96 - k < n → zSm s t → zyR X 92 215 47 [some (.ref (43 + 3)), some (.int x), some (.int i), none, none, none, none, none, none] [] t (zbP s)
  | 0, k, i, t, hi, hk, hn, hS => by omega
  | n + 1, k, i, t, hi, hk, hn, hS => by
    refine zy_2 rfl rfl (show zyR _ _ _ _ [some (.ref (43 + 3)), some (.int x), some (.int i), none, none, none, none, none, none] [.int i] _ _ from ?_)
    refine zy_3 rfl rfl (show zyR _ _ _ _ [some (.ref (43 + 3)), some (.int x), some (.int i), none, none, none, none, none, none] [.int (96 : Int32), .int i] _ _ from ?_)
    refine zy_25_3 rfl (fun c => (show zyR _ _ _ _ [some (.ref (43 + 3)), some (.int x), some (.int i), none, none, none, none, none, none] [] _ _ from ?_)) (fun c => (show zyR _ _ _ _ [some (.ref (43 + 3)), some (.int x), some (.int i), none, none, none, none, none, none] [] _ _ from ?_))
    · refine zy_3 rfl rfl (show zyR _ _ _ _ [some (.ref (43 + 3)), some (.int x), some (.int i), none, none, none, none, none, none] [.int (10 : Int32)] _ _ from ?_)
      refine zy_23 rfl rfl (show zyR _ _ _ _ [some (.ref (43 + 3)), some (.int x), some (.int (10 : Int32)), none, none, none, none, none, none] [] _ _ from ?_)
      refine zy_3 rfl rfl (show zyR _ _ _ _ [some (.ref (43 + 3)), some (.int x), some (.int (10 : Int32)), none, none, none, none, none, none] [.int (0 : Int32)] _ _ from ?_)
      refine zy_23 rfl rfl (show zyR _ _ _ _ [some (.ref (43 + 3)), some (.int x), some (.int (10 : Int32)), some (.int (0 : Int32)), none, none, none, none, none] [] _ _ from ?_)
      obtain ⟨r, t', f, g1, g2⟩ := zn_215 x hS.2.1
      refine zyR_mono (fun u w q => ?_) (zy_deep (Nat.le_of_ble_eq_true rfl) (zyC215_82 zy_fu x (10 : Int32) (0 : Int32) t r t' f))
      obtain ⟨rfl, rfl⟩ := q
      exact ⟨zSm_trans hS (zX52_Sm hS.1 g1 g2), r, rfl⟩
    · have hk' : k < 96 := by
        rw [Int32.le_iff_toInt_le, show (96 : Int32).toInt = 96 from rfl] at c
        omega
      have hin : zy_in i 96 = true := zq_in.mpr ⟨by omega, by omega⟩
      have e16 : (i / (16 : Int32)).toInt = ((k / 16 : Nat) : Int) := by
        rw [Int32.toInt_div_of_ne_right _ _ (by decide), zq_l16, hi, Int.tdiv_eq_ediv_of_nonneg (by omega)]
        omega
      have em : (i / (16 : Int32) * (16 : Int32)).toInt = ((k / 16 * 16 : Nat) : Int) := by rw [zq_mul (by rw [zq_l16, e16]; omega) (by rw [zq_l16, e16]; omega), zq_l16, e16]; omega
      have er : (i - i / (16 : Int32) * (16 : Int32)).toInt = ((k % 16 : Nat) : Int) := by rw [zq_sub (by rw [em]; omega) (by rw [em]; omega), em, hi]; omega
      refine zy_0 rfl rfl (show zyR _ _ _ _ [some (.ref (43 + 3)), some (.int x), some (.int i), none, none, none, none, none, none] [.ref (43 + 3)] _ _ from ?_)
      refine zy_1r (c := 43) rfl rfl rfl (show zyR _ _ _ _ [some (.ref (43 + 3)), some (.int x), some (.int i), none, none, none, none, none, none] [.ref (53 + 3)] _ _ from ?_)
      refine zy_2 rfl rfl (show zyR _ _ _ _ [some (.ref (43 + 3)), some (.int x), some (.int i), none, none, none, none, none, none] [.int i, .ref (53 + 3)] _ _ from ?_)
      refine zy_0 rfl rfl (show zyR _ _ _ _ [some (.ref (43 + 3)), some (.int x), some (.int i), none, none, none, none, none, none] [.ref (43 + 3), .int i, .ref (53 + 3)] _ _ from ?_)
      refine zy_2 rfl rfl (show zyR _ _ _ _ [some (.ref (43 + 3)), some (.int x), some (.int i), none, none, none, none, none, none] [.int i, .ref (43 + 3), .int i, .ref (53 + 3)] _ _ from ?_)
      refine zy_3 rfl rfl (show zyR _ _ _ _ [some (.ref (43 + 3)), some (.int x), some (.int i), none, none, none, none, none, none] [.int (16 : Int32), .int i, .ref (43 + 3), .int i, .ref (53 + 3)] _ _ from ?_)
      refine zy_19 rfl (by decide) (show zyR _ _ _ _ [some (.ref (43 + 3)), some (.int x), some (.int i), none, none, none, none, none, none] [.int (i / (16 : Int32)), .ref (43 + 3), .int i, .ref (53 + 3)] _ _ from ?_)
      refine zy_2 rfl rfl (show zyR _ _ _ _ [some (.ref (43 + 3)), some (.int x), some (.int i), none, none, none, none, none, none] [.int i, .int (i / (16 : Int32)), .ref (43 + 3), .int i, .ref (53 + 3)] _ _ from ?_)
      refine zy_3 rfl rfl (show zyR _ _ _ _ [some (.ref (43 + 3)), some (.int x), some (.int i), none, none, none, none, none, none] [.int (16 : Int32), .int i, .int (i / (16 : Int32)), .ref (43 + 3), .int i, .ref (53 + 3)] _ _ from ?_)
      refine zy_20 rfl (by decide) (show zyR _ _ _ _ [some (.ref (43 + 3)), some (.int x), some (.int i), none, none, none, none, none, none] [.int (i - i / (16 : Int32) * (16 : Int32)), .int (i / (16 : Int32)), .ref (43 + 3), .int i, .ref (53 + 3)] _ _ from ?_)
      refine zy_5P (c := 43) (as := [.int (i / (16 : Int32)), .int (i - i / (16 : Int32) * (16 : Int32))]) (rest := [.int i, .ref (53 + 3)]) (L := [some (.ref (43 + 3)), some (.int (i / (16 : Int32))), some (.int (i - i / (16 : Int32) * (16 : Int32)))]) (d' := 91) rfl rfl rfl (Nat.le_of_ble_eq_true rfl) (Nat.le_of_ble_eq_true rfl) rfl (Nat.le_of_ble_eq_true rfl) rfl rfl (zcS_216 (a := i / (16 : Int32)) (b := i - i / (16 : Int32) * (16 : Int32)) ⟨by omega, by omega⟩ ⟨by omega, by omega⟩ hS.1 hS.2.1 X) (fun u t1 q => ?_)
      obtain ⟨hS1, r, rfl, r0, r1⟩ := q
      show zyR _ _ _ _ [some (.ref (43 + 3)), some (.int x), some (.int i), none, none, none, none, none, none] [.int r, .int i, .ref (53 + 3)] _ _
      refine zy_27 (c := 53) rfl rfl hin (show zyR _ _ _ _ [some (.ref (43 + 3)), some (.int x), some (.int i), none, none, none, none, none, none] [] _ _ from ?_)
      refine zy_22 rfl rfl rfl rfl (show zyR _ _ _ _ [some (.ref (43 + 3)), some (.int x), some (.int (i + (1 : Int32))), none, none, none, none, none, none] [] _ _ from ?_)
      refine zy_6 rfl (show zyR _ _ _ _ [some (.ref (43 + 3)), some (.int x), some (.int (i + (1 : Int32))), none, none, none, none, none, none] [] _ _ from ?_)
      exact zl215_47 x n (k + 1) (i + 1) _ (by rw [zq_add (by rw [zq_l1]; omega) (by rw [zq_l1]; omega), zq_l1, hi]; omega) (by omega) (by omega) (zSm_up (zSm_trans hS hS1) (fun j => rfl) (fun hk2 => by
        rw [zrn_52.2.1] at hk2
        rw [zrg_53 _ hk2]
        exact ⟨r0, r1⟩))
theorem zl215_6 {X : zx_X} {s : zy_S} (x : Int32) : ∀ (n k : Nat) (i : Int32) (t : zy_S), i.toInt = (k : Int) → k ≤ 24 → 24 - k < n → zSm s t → zyR X 92 215 6 [some (.ref (43 + 3)), some (.int x), some (.int i), none, none, none, none, none, none] [] t (zbP s)
  | 0, k, i, t, hi, hk, hn, hS => by omega
  | n + 1, k, i, t, hi, hk, hn, hS => by
    refine zy_2 rfl rfl (show zyR _ _ _ _ [some (.ref (43 + 3)), some (.int x), some (.int i), none, none, none, none, none, none] [.int i] _ _ from ?_)
    refine zy_3 rfl rfl (show zyR _ _ _ _ [some (.ref (43 + 3)), some (.int x), some (.int i), none, none, none, none, none, none] [.int (24 : Int32), .int i] _ _ from ?_)
    refine zy_25_3 rfl (fun c => (show zyR _ _ _ _ [some (.ref (43 + 3)), some (.int x), some (.int i), none, none, none, none, none, none] [] _ _ from ?_)) (fun c => (show zyR _ _ _ _ [some (.ref (43 + 3)), some (.int x), some (.int i), none, none, none, none, none, none] [] _ _ from ?_))
    · refine zy_3 rfl rfl (show zyR _ _ _ _ [some (.ref (43 + 3)), some (.int x), some (.int i), none, none, none, none, none, none] [.int (0 : Int32)] _ _ from ?_)
      refine zy_23 rfl rfl (show zyR _ _ _ _ [some (.ref (43 + 3)), some (.int x), some (.int (0 : Int32)), none, none, none, none, none, none] [] _ _ from ?_)
      exact zl215_47 x 97 0 0 t rfl (by omega) (by omega) hS
    · have hk' : k < 24 := by
        rw [Int32.le_iff_toInt_le, zq_l24] at c
        omega
      have hin : zy_in i 24 = true := zq_in.mpr ⟨by omega, by omega⟩
      have next : ∀ v, zyR X 92 215 6 [some (.ref (43 + 3)), some (.int x), some (.int (i + (1 : Int32))), none, none, none, none, none, none] [] (zy_up t 51 i.toNatClampNeg v) (zbP s) := fun v => zl215_6 x n (k + 1) (i + 1) _ (by rw [zq_add (by rw [zq_l1]; omega) (by rw [zq_l1]; omega), zq_l1, hi]; omega) (by omega) (by omega) (zSm_up hS (fun j => rfl) (fun hk2 => by
        rw [zrn_51] at hk2
        rw [zrg_51 _ hk2]
        exact ⟨zq_lo v, zq_hi v⟩))
      refine zy_0 rfl rfl (show zyR _ _ _ _ [some (.ref (43 + 3)), some (.int x), some (.int i), none, none, none, none, none, none] [.ref (43 + 3)] _ _ from ?_)
      refine zy_1r (c := 43) rfl rfl rfl (show zyR _ _ _ _ [some (.ref (43 + 3)), some (.int x), some (.int i), none, none, none, none, none, none] [.ref (51 + 3)] _ _ from ?_)
      refine zy_2 rfl rfl (show zyR _ _ _ _ [some (.ref (43 + 3)), some (.int x), some (.int i), none, none, none, none, none, none] [.int i, .ref (51 + 3)] _ _ from ?_)
      refine zy_0 rfl rfl (show zyR _ _ _ _ [some (.ref (43 + 3)), some (.int x), some (.int i), none, none, none, none, none, none] [.ref (43 + 3), .int i, .ref (51 + 3)] _ _ from ?_)
      refine zy_1 (c := 43) rfl rfl rfl (show zyR _ _ _ _ [some (.ref (43 + 3)), some (.int x), some (.int i), none, none, none, none, none, none] [.int (t.1 43 7), .int i, .ref (51 + 3)] _ _ from ?_)
      refine zy_2 rfl rfl (show zyR _ _ _ _ [some (.ref (43 + 3)), some (.int x), some (.int i), none, none, none, none, none, none] [.int i, .int (t.1 43 7), .int i, .ref (51 + 3)] _ _ from ?_)
      refine zy_60 (as := [.int (t.1 43 7), .int i]) (rest := [.int i, .ref (51 + 3)]) (L := [some (.int (t.1 43 7)), some (.int i)]) (d' := 1) rfl rfl (Nat.le_of_ble_eq_true rfl) (Nat.le_of_ble_eq_true rfl) rfl (Nat.le_of_ble_eq_true rfl) rfl rfl (zyC208 (zys208 (t.1 43 7) i t)) ?_
      show zyR _ _ _ _ [some (.ref (43 + 3)), some (.int x), some (.int i), none, none, none, none, none, none] [.int (zqb (zbt (t.1 43 7) i)), .int i, .ref (51 + 3)] _ _
      refine zy_24_0 rfl (fun c2 => (show zyR _ _ _ _ [some (.ref (43 + 3)), some (.int x), some (.int i), none, none, none, none, none, none] [.int i, .ref (51 + 3)] _ _ from ?_)) (fun c2 => (show zyR _ _ _ _ [some (.ref (43 + 3)), some (.int x), some (.int i), none, none, none, none, none, none] [.int i, .ref (51 + 3)] _ _ from ?_))
      · refine zy_3 rfl rfl (show zyR _ _ _ _ [some (.ref (43 + 3)), some (.int x), some (.int i), none, none, none, none, none, none] [.int (0 : Int32), .int i, .ref (51 + 3)] _ _ from ?_)
        refine zy_27 (c := 51) rfl rfl hin (show zyR _ _ _ _ [some (.ref (43 + 3)), some (.int x), some (.int i), none, none, none, none, none, none] [] _ _ from ?_)
        refine zy_22 rfl rfl rfl rfl (show zyR _ _ _ _ [some (.ref (43 + 3)), some (.int x), some (.int (i + (1 : Int32))), none, none, none, none, none, none] [] _ _ from ?_)
        refine zy_6 rfl (show zyR _ _ _ _ [some (.ref (43 + 3)), some (.int x), some (.int (i + (1 : Int32))), none, none, none, none, none, none] [] _ _ from ?_)
        exact next _
      · refine zy_0 rfl rfl (show zyR _ _ _ _ [some (.ref (43 + 3)), some (.int x), some (.int i), none, none, none, none, none, none] [.ref (43 + 3), .int i, .ref (51 + 3)] _ _ from ?_)
        refine zy_1r (c := 43) rfl rfl rfl (show zyR _ _ _ _ [some (.ref (43 + 3)), some (.int x), some (.int i), none, none, none, none, none, none] [.ref (51 + 3), .int i, .ref (51 + 3)] _ _ from ?_)
        refine zy_2 rfl rfl (show zyR _ _ _ _ [some (.ref (43 + 3)), some (.int x), some (.int i), none, none, none, none, none, none] [.int i, .ref (51 + 3), .int i, .ref (51 + 3)] _ _ from ?_)
        refine zy_26 (c := 51) rfl rfl hin (show zyR _ _ _ _ [some (.ref (43 + 3)), some (.int x), some (.int i), none, none, none, none, none, none] [.int (t.1 51 i.toNatClampNeg), .int i, .ref (51 + 3)] _ _ from ?_)
        refine zy_6 rfl (show zyR _ _ _ _ [some (.ref (43 + 3)), some (.int x), some (.int i), none, none, none, none, none, none] [.int (t.1 51 i.toNatClampNeg), .int i, .ref (51 + 3)] _ _ from ?_)
        refine zy_27 (c := 51) rfl rfl hin (show zyR _ _ _ _ [some (.ref (43 + 3)), some (.int x), some (.int i), none, none, none, none, none, none] [] _ _ from ?_)
        refine zy_22 rfl rfl rfl rfl (show zyR _ _ _ _ [some (.ref (43 + 3)), some (.int x), some (.int (i + (1 : Int32))), none, none, none, none, none, none] [] _ _ from ?_)
        refine zy_6 rfl (show zyR _ _ _ _ [some (.ref (43 + 3)), some (.int x), some (.int (i + (1 : Int32))), none, none, none, none, none, none] [] _ _ from ?_)
        exact next _
theorem zcq_215 (x : Int32) {s : zy_S} (h : zI s) (X : zx_X) : zyR X 92 215 0 [some (.ref (43 + 3)), some (.int x), none, none, none, none, none, none, none] [] s (fun u t => zI t ∧ ∃ r : Int32, u = some (.int r)) := by
  refine zyR_mono (P := zbP s) (fun u t q => ⟨zSm_I h q.1, q.2⟩) ?_
  refine zy_0 rfl rfl (show zyR _ _ _ _ [some (.ref (43 + 3)), some (.int x), none, none, none, none, none, none, none] [.ref (43 + 3)] _ _ from ?_)
  refine zy_5P (c := 43) (as := []) (rest := []) (L := [some (.ref (43 + 3))]) (d' := 2) rfl rfl rfl (Nat.le_of_ble_eq_true rfl) (Nat.le_of_ble_eq_true rfl) rfl (Nat.le_of_ble_eq_true rfl) rfl rfl (zcS_203 h.1 h.2.1 X) (fun u t q => ?_)
  obtain ⟨hS, rfl⟩ := q
  show zyR _ _ _ _ [some (.ref (43 + 3)), some (.int x), none, none, none, none, none, none, none] [] _ _
  refine zy_3 rfl rfl (show zyR _ _ _ _ [some (.ref (43 + 3)), some (.int x), none, none, none, none, none, none, none] [.int (0 : Int32)] _ _ from ?_)
  refine zy_23 rfl rfl (show zyR _ _ _ _ [some (.ref (43 + 3)), some (.int x), some (.int (0 : Int32)), none, none, none, none, none, none] [] _ _ from ?_)
  exact zl215_6 x 25 0 0 t rfl (by omega) (by omega) hS
theorem zcq_214 (x1 : Int32) {s : zy_S} (h : zI s) (X : zx_X) : zyR X 93 214 0 [some (.ref (43 + 3)), some (.int x1)] [] s (fun u t => zI t ∧ ∃ r : Int32, u = some (.int r)) := by
  refine zy_2 rfl rfl (show zyR _ _ _ _ [some (.ref (43 + 3)), some (.int x1)] [.int x1] _ _ from ?_)
  refine zy_50 rfl (by decide) ?_
  refine zy_swp (fun hn => (show zyR _ _ _ _ [some (.ref (43 + 3)), some (.int x1)] [] _ _ from ?_)) (fun hn => ?_)
  · refine zy_0 rfl rfl (show zyR _ _ _ _ [some (.ref (43 + 3)), some (.int x1)] [.ref (43 + 3)] _ _ from ?_)
    refine zy_1 (c := 43) rfl rfl rfl (show zyR _ _ _ _ [some (.ref (43 + 3)), some (.int x1)] [.int (s.1 43 7)] _ _ from ?_)
    exact zy_4 rfl ⟨h, _, rfl⟩
  refine zy_swp (fun hn => (show zyR _ _ _ _ [some (.ref (43 + 3)), some (.int x1)] [] _ _ from ?_)) (fun hn => ?_)
  · refine zy_0 rfl rfl (show zyR _ _ _ _ [some (.ref (43 + 3)), some (.int x1)] [.ref (43 + 3)] _ _ from ?_)
    refine zy_3 rfl rfl (show zyR _ _ _ _ [some (.ref (43 + 3)), some (.int x1)] [.int (0 : Int32), .ref (43 + 3)] _ _ from ?_)
    refine zy_5P (c := 43) (as := [.int (0 : Int32)]) (rest := []) (L := [some (.ref (43 + 3)), some (.int (0 : Int32)), none, none, none, none, none, none, none]) (d' := 92) rfl rfl rfl (Nat.le_of_ble_eq_true rfl) (Nat.le_of_ble_eq_true rfl) rfl (Nat.le_of_ble_eq_true rfl) rfl rfl (zcq_215 (0 : Int32) h X) (fun u t q => ?_)
    obtain ⟨h1, r, rfl⟩ := q
    show zyR _ _ _ _ [some (.ref (43 + 3)), some (.int x1)] [.int r] _ _
    exact zy_4 rfl ⟨h1, _, rfl⟩
  refine zy_swp (fun hn => (show zyR _ _ _ _ [some (.ref (43 + 3)), some (.int x1)] [] _ _ from ?_)) (fun hn => ?_)
  · refine zy_0 rfl rfl (show zyR _ _ _ _ [some (.ref (43 + 3)), some (.int x1)] [.ref (43 + 3)] _ _ from ?_)
    refine zy_3 rfl rfl (show zyR _ _ _ _ [some (.ref (43 + 3)), some (.int x1)] [.int (1 : Int32), .ref (43 + 3)] _ _ from ?_)
    refine zy_5P (c := 43) (as := [.int (1 : Int32)]) (rest := []) (L := [some (.ref (43 + 3)), some (.int (1 : Int32)), none, none, none, none, none, none, none]) (d' := 92) rfl rfl rfl (Nat.le_of_ble_eq_true rfl) (Nat.le_of_ble_eq_true rfl) rfl (Nat.le_of_ble_eq_true rfl) rfl rfl (zcq_215 (1 : Int32) h X) (fun u t q => ?_)
    obtain ⟨h1, r, rfl⟩ := q
    show zyR _ _ _ _ [some (.ref (43 + 3)), some (.int x1)] [.int r] _ _
    exact zy_4 rfl ⟨h1, _, rfl⟩
  refine zy_swp (fun hn => (show zyR _ _ _ _ [some (.ref (43 + 3)), some (.int x1)] [] _ _ from ?_)) (fun hn => ?_)
  · refine zy_0 rfl rfl (show zyR _ _ _ _ [some (.ref (43 + 3)), some (.int x1)] [.ref (43 + 3)] _ _ from ?_)
    refine zy_3 rfl rfl (show zyR _ _ _ _ [some (.ref (43 + 3)), some (.int x1)] [.int (1 : Int32), .ref (43 + 3)] _ _ from ?_)
    refine zy_5P (c := 43) (as := [.int (1 : Int32)]) (rest := []) (L := [some (.ref (43 + 3)), some (.int (1 : Int32)), none, none, none, none, none, none, none]) (d' := 92) rfl rfl rfl (Nat.le_of_ble_eq_true rfl) (Nat.le_of_ble_eq_true rfl) rfl (Nat.le_of_ble_eq_true rfl) rfl rfl (zcq_215 (1 : Int32) h X) (fun u t q => ?_)
    obtain ⟨h1, r, rfl⟩ := q
    show zyR _ _ _ _ [some (.ref (43 + 3)), some (.int x1)] [.int r] _ _
    refine zy_0 rfl rfl (show zyR _ _ _ _ [some (.ref (43 + 3)), some (.int x1)] [.ref (43 + 3), .int r] _ _ from ?_)
    refine zy_1 (c := 43) rfl rfl rfl (show zyR _ _ _ _ [some (.ref (43 + 3)), some (.int x1)] [.int (t.1 43 7), .int r] _ _ from ?_)
    refine zy_15 rfl (show zyR _ _ _ _ [some (.ref (43 + 3)), some (.int x1)] [.int (r ^^^ (t.1 43 7))] _ _ from ?_)
    obtain ⟨c, f, -⟩ := zl_209 (r ^^^ (t.1 43 7)) zy_fu 0 0 0 t (by decide) (by unfold zy_fu; omega) rfl rfl
    have f2 : zyF209 (r ^^^ (t.1 43 7)) t = some (c, t) := by
      unfold zyF209
      rw [f]
    refine zy_60 (as := [.int (r ^^^ (t.1 43 7))]) (rest := []) (L := [some (.int (r ^^^ (t.1 43 7))), none, none]) (d' := 1) rfl rfl (Nat.le_of_ble_eq_true rfl) (Nat.le_of_ble_eq_true rfl) rfl (Nat.le_of_ble_eq_true rfl) rfl rfl (zyC209 f2) ?_
    show zyR _ _ _ _ [some (.ref (43 + 3)), some (.int x1)] [.int c] _ _
    exact zy_4 rfl ⟨h1, _, rfl⟩
  show zyR _ _ _ _ [some (.ref (43 + 3)), some (.int x1)] [] _ _
  refine zy_3 rfl rfl (show zyR _ _ _ _ [some (.ref (43 + 3)), some (.int x1)] [.int (-1 : Int32)] _ _ from ?_)
  exact zy_4 rfl ⟨h, _, rfl⟩
