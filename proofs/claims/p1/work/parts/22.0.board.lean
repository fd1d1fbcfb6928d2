/-! PART 22: the boards with nobody there: contracts, run by the explorer. -/
def zHB : zA_H := [(0, 0, 0, [(2, (.ofNat 4)), (2, (.ofNat 8)), (2, (.ofNat 12)), (2, (.ofNat 15)), (2, (.ofNat 18)), (2, (.ofNat 19)), (2, (.ofNat 20)), (2, (.ofNat 25)), (2, (.ofNat 30)), (2, (.ofNat 33))], []),
  (0, 1, 0, [(2, (.ofNat 5)), (2, (.ofNat 6)), (2, (.ofNat 7)), (0, (.ofNat 0)), (0, (.ofNat 9)), (0, (.ofNat 0))], []),
  (1, 0, 24, [(0, (.ofNat 0))], []),
  (1, 0, 8, [(0, (.ofNat 0))], []),
  (1, 0, 8, [(0, (.ofNat 0))], []),
  (0, 2, 0, [(2, (.ofNat 9)), (2, (.ofNat 10)), (2, (.ofNat 11)), (0, (.ofNat 0)), (0, (.ofNat 0))], []),
  (1, 0, 128, [(0, (.ofNat 0))], []),
  (1, 0, 128, [(0, (.ofNat 0))], []),
  (1, 0, 6, [(0, (.ofNat 0))], []),
  (0, 3, 0, [(2, (.ofNat 13)), (2, (.ofNat 14)), (0, (.ofNat 0)), (0, (.ofNat 0)), (0, (.ofNat 0)), (0, (.ofNat 0))], []),
  (1, 0, 120, [(0, (.ofNat 0))], []),
  (1, 0, 128, [(0, (.ofNat 0))], []),
  (0, 4, 0, [(2, (.ofNat 4)), (2, (.ofNat 8)), (2, (.ofNat 16)), (2, (.ofNat 17)), (0, (.ofNat 0)), (0, (.ofNat 0))], []),
  (1, 0, 1536, [(0, (.negSucc 1999999999))], [(1520, (0, (.ofNat 0))), (1504, (0, (.ofNat 0))), (1488, (0, (.ofNat 0))), (1472, (0, (.ofNat 0))), (1456, (0, (.ofNat 0))), (1440, (0, (.ofNat 0))), (1424, (0, (.ofNat 0))), (1408, (0, (.ofNat 0))), (1392, (0, (.ofNat 0))), (1376, (0, (.ofNat 0))), (1360, (0, (.ofNat 0))), (1344, (0, (.ofNat 0))), (1328, (0, (.ofNat 0))), (1312, (0, (.ofNat 0))), (1296, (0, (.ofNat 0))), (1280, (0, (.ofNat 0))), (1264, (0, (.ofNat 0))), (1248, (0, (.ofNat 0))), (1232, (0, (.ofNat 0))), (1216, (0, (.ofNat 0))), (1200, (0, (.ofNat 0))), (1184, (0, (.ofNat 0))), (1168, (0, (.ofNat 0))), (1152, (0, (.ofNat 0))), (1136, (0, (.ofNat 0))), (1120, (0, (.ofNat 0))), (1104, (0, (.ofNat 0))), (1088, (0, (.ofNat 0))), (1072, (0, (.ofNat 0))), (1056, (0, (.ofNat 0))), (1040, (0, (.ofNat 0))), (1024, (0, (.ofNat 0))), (1008, (0, (.ofNat 0))), (992, (0, (.ofNat 0))), (976, (0, (.ofNat 0))), (960, (0, (.ofNat 0))), (944, (0, (.ofNat 0))), (928, (0, (.ofNat 0))), (912, (0, (.ofNat 0))), (896, (0, (.ofNat 0))), (880, (0, (.ofNat 0))), (864, (0, (.ofNat 0))), (848, (0, (.ofNat 0))), (832, (0, (.ofNat 0))), (816, (0, (.ofNat 0))), (800, (0, (.ofNat 0))), (784, (0, (.ofNat 0))), (768, (0, (.ofNat 0))), (752, (0, (.ofNat 0))), (736, (0, (.ofNat 0))), (720, (0, (.ofNat 0))), (704, (0, (.ofNat 0))), (688, (0, (.ofNat 0))), (672, (0, (.ofNat 0))), (656, (0, (.ofNat 0))), (640, (0, (.ofNat 0))), (624, (0, (.ofNat 0))), (608, (0, (.ofNat 0))), (592, (0, (.ofNat 0))), (576, (0, (.ofNat 0))), (560, (0, (.ofNat 0))), (544, (0, (.ofNat 0))), (528, (0, (.ofNat 0))), (512, (0, (.ofNat 0))), (496, (0, (.ofNat 0))), (480, (0, (.ofNat 0))), (464, (0, (.ofNat 0))), (448, (0, (.ofNat 0))), (432, (0, (.ofNat 0))), (416, (0, (.ofNat 0))), (400, (0, (.ofNat 0))), (384, (0, (.ofNat 0))), (368, (0, (.ofNat 0))), (352, (0, (.ofNat 0))), (336, (0, (.ofNat 0))), (320, (0, (.ofNat 0))), (304, (0, (.ofNat 0))), (288, (0, (.ofNat 0))), (272, (0, (.ofNat 0))), (256, (0, (.ofNat 0))), (240, (0, (.ofNat 0))), (224, (0, (.ofNat 0))), (208, (0, (.ofNat 0))), (192, (0, (.ofNat 0))), (176, (0, (.ofNat 0))), (160, (0, (.ofNat 0))), (144, (0, (.ofNat 0))), (128, (0, (.ofNat 0))), (112, (0, (.ofNat 0))), (96, (0, (.ofNat 0))), (80, (0, (.ofNat 0))), (64, (0, (.ofNat 0))), (48, (0, (.ofNat 0))), (32, (0, (.ofNat 0))), (16, (0, (.ofNat 0))), (0, (0, (.ofNat 0)))]),
  (1, 0, 70, [(0, (.ofNat 0))], []),
  (0, 5, 0, [(2, (.ofNat 4)), (2, (.ofNat 15)), (0, (.ofNat 0)), (0, (.ofNat 24))], []),
  (0, 6, 0, [(2, (.ofNat 4))], []),
  (0, 7, 0, [(2, (.ofNat 4)), (2, (.ofNat 21)), (0, (.ofNat 0)), (0, (.ofNat 0)), (0, (.ofNat 0)), (2, (.ofNat 22)), (2, (.ofNat 23)), (2, (.ofNat 24))], []),
  (1, 0, 5, [(0, (.ofNat 0))], []),
  (1, 0, 24, [(0, (.ofNat 0))], []),
  (1, 0, 8, [(0, (.ofNat 0))], []),
  (1, 0, 5, [(0, (.ofNat 0))], []),
  (0, 8, 0, [(2, (.ofNat 4)), (2, (.ofNat 26)), (2, (.ofNat 27)), (2, (.ofNat 28)), (2, (.ofNat 29)), (0, (.ofNat 0)), (0, (.ofNat 0))], []),
  (1, 0, 40, [(0, (.ofNat 0))], []),
  (1, 0, 40, [(0, (.ofNat 0))], []),
  (1, 0, 40, [(0, (.ofNat 0))], []),
  (1, 0, 40, [(0, (.ofNat 0))], []),
  (0, 9, 0, [(2, (.ofNat 31)), (2, (.ofNat 32)), (0, (.ofNat 0)), (0, (.ofNat 0))], []),
  (1, 0, 50, [(0, (.ofNat 0))], []),
  (1, 0, 24, [(0, (.ofNat 0))], []),
  (1, 2, 6, [(3, (.ofNat 0))], [(5, (2, (.ofNat 44))), (4, (2, (.ofNat 42))), (3, (2, (.ofNat 40))), (2, (2, (.ofNat 38))), (1, (2, (.ofNat 36))), (0, (2, (.ofNat 34)))]),
  (0, 10, 0, [(2, (.ofNat 35)), (0, (.negSucc 0)), (0, (.negSucc 0)), (0, (.ofNat 0))], []),
  (1, 1, 60, [(4, (.ofNat 0))], []),
  (0, 10, 0, [(2, (.ofNat 37)), (0, (.negSucc 0)), (0, (.negSucc 0)), (0, (.ofNat 0))], []),
  (1, 1, 60, [(4, (.ofNat 0))], []),
  (0, 10, 0, [(2, (.ofNat 39)), (0, (.negSucc 0)), (0, (.negSucc 0)), (0, (.ofNat 0))], []),
  (1, 1, 60, [(4, (.ofNat 0))], []),
  (0, 10, 0, [(2, (.ofNat 41)), (0, (.negSucc 0)), (0, (.negSucc 0)), (0, (.ofNat 0))], []),
  (1, 1, 60, [(4, (.ofNat 0))], []),
  (0, 10, 0, [(2, (.ofNat 43)), (0, (.negSucc 0)), (0, (.negSucc 0)), (0, (.ofNat 0))], []),
  (1, 1, 60, [(4, (.ofNat 0))], []),
  (0, 10, 0, [(2, (.ofNat 45)), (0, (.negSucc 0)), (0, (.negSucc 0)), (0, (.ofNat 0))], []),
  (1, 1, 60, [(4, (.ofNat 0))], []),
  (0, 11, 0, [(2, (.ofNat 47)), (2, (.ofNat 48)), (2, (.ofNat 49)), (2, (.ofNat 50)), (0, (.ofNat 0)), (0, (.ofNat 0)), (0, (.ofNat 0)), (0, (.ofNat 0)), (2, (.ofNat 51)), (0, (.ofNat 0)), (2, (.ofNat 52)), (0, (.negSucc 0)), (0, (.ofNat 0)), (0, (.ofNat 0)), (0, (.ofNat 0)), (0, (.ofNat 0)), (0, (.ofNat 0)), (2, (.ofNat 53)), (2, (.ofNat 54)), (2, (.ofNat 55)), (2, (.ofNat 56)), (2, (.ofNat 57)), (0, (.ofNat 0)), (0, (.ofNat 0)), (0, (.ofNat 0)), (2, (.ofNat 58)), (2, (.ofNat 59)), (2, (.ofNat 60)), (0, (.ofNat 0)), (2, (.ofNat 61)), (2, (.ofNat 62)), (0, (.ofNat 0)), (0, (.ofNat 0)), (0, (.ofNat 0)), (2, (.ofNat 63)), (2, (.ofNat 64)), (2, (.ofNat 65)), (2, (.ofNat 66))], []),
  (1, 0, 41, [(0, (.ofNat 0))], [(40, (0, (.ofNat 9)))]),
  (1, 0, 40, [(0, (.ofNat 0))], []),
  (1, 0, 40, [(0, (.ofNat 0))], []),
  (1, 0, 40, [(0, (.ofNat 0))], []),
  (1, 0, 120, [(0, (.ofNat 0))], []),
  (1, 0, 120, [(0, (.ofNat 0))], []),
  (1, 0, 6, [(0, (.ofNat 0))], []),
  (1, 0, 24, [(0, (.ofNat 0))], []),
  (1, 0, 70, [(0, (.ofNat 0))], []),
  (1, 0, 96, [(0, (.ofNat 0))], []),
  (1, 0, 5, [(0, (.ofNat 0))], []),
  (1, 0, 8, [(0, (.ofNat 0))], []),
  (1, 0, 24, [(0, (.ofNat 0))], []),
  (1, 0, 5, [(0, (.ofNat 0))], []),
  (1, 0, 50, [(0, (.ofNat 0))], []),
  (1, 0, 24, [(0, (.ofNat 0))], []),
  (1, 0, 6, [(0, (.ofNat 0))], [(5, (0, (.negSucc 0))), (4, (0, (.negSucc 0))), (3, (0, (.negSucc 0))), (2, (0, (.negSucc 0))), (1, (0, (.negSucc 0))), (0, (0, (.negSucc 0)))]),
  (1, 0, 6, [(0, (.ofNat 0))], []),
  (1, 1, 360, [(4, (.ofNat 0))], []),
  (1, 1, 60, [(4, (.ofNat 0))], [])]
/-- two heaps are the same -/
def zVeq (a b : zA_V) : Bool := Nat.beq a.1 b.1 && decide (a.2 = b.2)
def zLeq {α : Type} (e : α → α → Bool) : List α → List α → Bool
  | [], [] => true
  | a :: as, b :: bs => e a b && zLeq e as bs
  | _, _ => false
theorem zLeq_eq {α : Type} {e : α → α → Bool} (h : ∀ a b, e a b = true → a = b) : ∀ {as bs : List α}, zLeq e as bs = true → as = bs
  | [], [], _ => rfl
  | a :: as, b :: bs, g => by
    obtain ⟨g1, g2⟩ := zw_and g
    rw [h _ _ g1, zLeq_eq h g2]
  | [], _ :: _, g => by cases g
  | _ :: _, [], g => by cases g
theorem zVeq_eq (a b : zA_V) (h : zVeq a b = true) : a = b := by
  obtain ⟨h1, h2⟩ := zw_and h
  exact Prod.ext (Nat.eq_of_beq_eq_true h1) (of_decide_eq_true h2)
def zKeq (a b : Nat × zA_V) : Bool := Nat.beq a.1 b.1 && zVeq a.2 b.2
theorem zKeq_eq (a b : Nat × zA_V) (h : zKeq a b = true) : a = b := by
  obtain ⟨h1, h2⟩ := zw_and h
  exact Prod.ext (Nat.eq_of_beq_eq_true h1) (zVeq_eq _ _ h2)
def zCeq (a b : zA_C) : Bool := Nat.beq a.1 b.1 && (Nat.beq a.2.1 b.2.1 && (Nat.beq a.2.2.1 b.2.2.1 && (zLeq zVeq a.2.2.2.1 b.2.2.2.1 && zLeq zKeq a.2.2.2.2 b.2.2.2.2)))
theorem zCeq_eq (a b : zA_C) (h : zCeq a b = true) : a = b := by
  obtain ⟨h1, h⟩ := zw_and h
  obtain ⟨h2, h⟩ := zw_and h
  obtain ⟨h3, h⟩ := zw_and h
  obtain ⟨h4, h5⟩ := zw_and h
  exact Prod.ext (Nat.eq_of_beq_eq_true h1) (Prod.ext (Nat.eq_of_beq_eq_true h2) (Prod.ext (Nat.eq_of_beq_eq_true h3) (Prod.ext (zLeq_eq zVeq_eq h4) (zLeq_eq zKeq_eq h5))))
def zHeq (a b : zA_H) : Bool := zLeq zCeq a b
theorem zHeq_eq {a b : zA_H} (h : zHeq a b = true) : a = b := zLeq_eq zCeq_eq h
def zEeq (a b : Int × Int × zA_D) : Bool := decide (a.1 = b.1) && (decide (a.2.1 = b.2.1) && (Nat.beq a.2.2.1 b.2.2.1 && (zVeq a.2.2.2.1 b.2.2.2.1 && zVeq a.2.2.2.2 b.2.2.2.2)))
theorem zEeq_eq (a b : Int × Int × zA_D) (h : zEeq a b = true) : a = b := by
  obtain ⟨h1, h⟩ := zw_and h
  obtain ⟨h2, h⟩ := zw_and h
  obtain ⟨h3, h⟩ := zw_and h
  obtain ⟨h4, h5⟩ := zw_and h
  exact Prod.ext (of_decide_eq_true h1) (Prod.ext (of_decide_eq_true h2) (Prod.ext (Nat.eq_of_beq_eq_true h3) (Prod.ext (zVeq_eq _ _ h4) (zVeq_eq _ _ h5))))
def zteq (a b : zA_T) : Bool := zLeq zEeq a.1 b.1 && (zHeq a.2.1 b.2.1 && (zLeq zKeq a.2.2.1 b.2.2.1 && (zLeq zVeq a.2.2.2.1 b.2.2.2.1 && decide (a.2.2.2.2 = b.2.2.2.2))))
theorem zteq_eq {a b : zA_T} (h : zteq a b = true) : a = b := by
  obtain ⟨h1, h⟩ := zw_and h
  obtain ⟨h2, h⟩ := zw_and h
  obtain ⟨h3, h⟩ := zw_and h
  obtain ⟨h4, h5⟩ := zw_and h
  exact Prod.ext (zLeq_eq zEeq_eq h1) (Prod.ext (zHeq_eq h2) (Prod.ext (zLeq_eq zKeq_eq h3) (Prod.ext (zLeq_eq zVeq_eq h4) (of_decide_eq_true h5))))
def zfinR (H' : zA_H) (r' : Option zA_V) (t : zA_T) (r : Option zA_V) : Bool := zHeq t.2.1 H' && decide (r = r')
def zcnV (a : zA_V) : Bool := !(a.1 == 1) && !(a.1 == 5)
def zcnC (a : zA_C) : Bool := a.2.2.2.1.all zcnV && a.2.2.2.2.all (fun q => zcnV q.2)
theorem zcnV_g {ρ ρ' : List Int} {a : zA_V} {v : Value} (h : zcnV a = true) (g : zg_V ρ a v) : zg_V ρ' a v := by
  simp only [zcnV, Bool.and_eq_true, Bool.not_eq_true', beq_eq_false_iff_ne, ne_eq] at h
  rcases g with g | ⟨g, -⟩ | g | g | g | ⟨g, -⟩ | g
  · exact Or.inl g
  · exact absurd g h.1
  · exact Or.inr (Or.inr (Or.inl g))
  · exact Or.inr (Or.inr (Or.inr (Or.inl g)))
  · exact Or.inr (Or.inr (Or.inr (Or.inr (Or.inl g))))
  · exact absurd g h.2
  · exact Or.inr (Or.inr (Or.inr (Or.inr (Or.inr (Or.inr g)))))
theorem zcn_lk : ∀ {l : List (Nat × zA_V)} {j : Nat} {a : zA_V}, l.all (fun q => zcnV q.2) = true → l.lookup j = some a → zcnV a = true
  | [], _, _, _, h => by cases h
  | (k, b) :: l, j, a, h, hl => by
    simp only [List.all_cons, Bool.and_eq_true] at h
    rw [List.lookup_cons] at hl
    cases hjk : j == k with
    | true => rw [hjk] at hl; cases hl; exact h.1
    | false => rw [hjk] at hl; exact zcn_lk h.2 hl
theorem zcn_el {c : zA_C} (h : zcnC c = true) (j : Nat) : zcnV ((c.2.2.2.2.lookup j).getD (c.2.2.2.1.headD (3, 0))) = true := by
  simp only [zcnC, Bool.and_eq_true] at h
  cases hl : c.2.2.2.2.lookup j with
  | some a => exact zcn_lk h.2 hl
  | none =>
    cases hv : c.2.2.2.1 with
    | nil => rfl
    | cons a r => rw [hv] at h; simp only [List.all_cons, Bool.and_eq_true] at h; exact h.1.1
theorem zcn_all {ρ ρ' : List Int} : ∀ {as : List zA_V} {vs : List Value}, as.all zcnV = true → zL2 (zg_V ρ) as vs → zL2 (zg_V ρ') as vs
  | [], [], _, _ => trivial
  | a :: as, v :: vs, h, g => by
    simp only [List.all_cons, Bool.and_eq_true] at h
    exact ⟨zcnV_g h.1 g.1, zcn_all h.2 g.2⟩
  | [], _ :: _, _, g => g.elim
  | _ :: _, [], _, g => g.elim
theorem zcnC_g {φ : List z_C} {ρ ρ' : List Int} {a : zA_C} {c : z_C} (h : zcnC a = true) (g : zg_C φ ρ a c) : zg_C φ ρ' a c := by
  rcases g with g | ⟨h1, fs, e, g⟩ | ⟨h1, h2, f, e, g⟩ | ⟨h1, h2, f, e, g⟩ | ⟨h1, h2, f, e, g⟩
  · exact Or.inl g
  · refine Or.inr (Or.inl ⟨h1, fs, e, ?_⟩)
    simp only [zcnC, Bool.and_eq_true] at h
    exact zcn_all h.1 g
  · exact Or.inr (Or.inr (Or.inl ⟨h1, h2, f, e, fun j hj => zcnV_g (zcn_el h j) (g j hj)⟩))
  · exact Or.inr (Or.inr (Or.inr (Or.inl ⟨h1, h2, f, e, fun j hj => zcnV_g (zcn_el h j) (g j hj)⟩)))
  · exact Or.inr (Or.inr (Or.inr (Or.inr ⟨h1, h2, f, e, fun j hj => zcnV_g (zcn_el h j) (g j hj)⟩)))
theorem zcnH_g {φ : List z_C} {ρ ρ' : List Int} : ∀ {H : zA_H} {ph : List z_C}, H.all zcnC = true → zL2 (zg_C φ ρ) H ph → zL2 (zg_C φ ρ') H ph
  | [], [], _, _ => trivial
  | a :: as, v :: vs, h, g => by
    simp only [List.all_cons, Bool.and_eq_true] at h
    exact ⟨zcnC_g h.1 g.1, zcnH_g h.2 g.2⟩
  | [], _ :: _, _, g => g.elim
  | _ :: _, [], _, g => g.elim
theorem zHB_cn : zHB.all zcnC = true := by decide +kernel
theorem ZW.deeper {l : Launch} {d d' : Nat} {y : zx_Y} {X : zx_X} {mc ms : Nat} {Q : Option Value → List z_C → Prop} {pc : Nat} {lv : List (Nat × Value)} {st : List Value} {ph : List z_C} {cc ns : Nat} (h : d ≤ d') (k : ZW l d y X mc ms Q pc lv st ph cc ns) : ZW l d' y X mc ms Q pc lv st ph cc ns :=
  fun K p e R s m args below meth c H locs QF ls C w h4 r hl => k K p e R s m args below meth c H locs QF ls C w ⟨Nat.le_trans h h4.1, Nat.le_trans (Nat.mul_le_mul_left 40 (Nat.succ_le_succ h)) h4.2.1, h4.2.2⟩ r hl
theorem zcnR_g {ρ ρ' : List Int} {a : zA_V} (h : zcnV a = true) : ∀ {v : Option Value}, zg_R ρ (some a) v → zg_R ρ' (some a) v
  | none, g => g.elim
  | some _, g => zcnV_g h g
/-- a contract out of a run: constants in the end's heap and answer -/
theorem zcon_run {l : Launch} {X : zx_X} {φ : List z_C} {orc : zO_} {cut : Nat → Nat → Nat → zA_T → List zA_F → Bool} (hor : zOk l X 1000000 φ zPt orc) {H' : zA_H} {a : zA_V} (hH : H'.all zcnC = true) (ha : zcnV a = true) {n m d pc : Nat} {t : zA_T} (hm : m < 267)
    (run : zxp 1000000 (zfinR H' (some a)) cut orc n m d pc t [] = true) {Q : Option Value → List z_C → Prop} (hQ : ∀ (v : Option Value) (ph' : List z_C), zL2 (zg_C φ []) H' ph' → zg_R [] (some a) v → Q v ph')
    (hcut : ∀ (m d pc : Nat) (t : zA_T) (stk : List zA_F), cut m d pc t stk = true → zGd l X 1000000 φ zPt Q m d pc t stk)
    {ρ : List Int} {ph : List z_C} {lv : List (Nat × Value)} {st : List Value} (g : zg_T 1000000 X φ ρ t ph lv st) : ZW l d (zm m) X (zmc m).1 (zmc m).2 Q pc lv st ph t.2.2.2.2.1 t.2.2.2.2.2 := by
  refine zxp_ok (l := l) (Q0 := Q) (φ := φ) (P := zPt) zall (fun _ _ _ h => h) ?_ hor hcut n m d pc t [] hm run ρ ph lv st [] trivial g trivial
  intro t r hf ρ1 ph1 v _ gS gH gR
  obtain ⟨h1, h2⟩ := zw_and hf
  have e1 := zHeq_eq h1
  have e2 := of_decide_eq_true h2
  subst e2
  rw [e1] at gH
  exact hQ v ph1 (zcnH_g hH gH) (zcnR_g ha gR)
theorem zg_Xbig (ρ : List Int) (X : zx_X) : zg_X ρ 1000000 X := fun h => absurd h (by decide)
/-- an int constant or name within bounds -/
def zinb (S : zA_S) (a : zA_V) (lo hi : Int) : Bool := zIs a && (match zr S a with
  | some q => decide (lo ≤ q.1 ∧ q.2 ≤ hi)
  | none => false)
theorem zinb_g {S : zA_S} {a : zA_V} {lo hi : Int} {ρ : List Int} {v : Value} (hS : zg_S ρ S) (g : zg_V ρ a v) (h : zinb S a lo hi = true) : ∃ x : Int32, v = .int x ∧ lo ≤ x.toInt ∧ x.toInt ≤ hi := by
  obtain ⟨h1, h2⟩ := zw_and h
  obtain ⟨x, rfl, ex⟩ := zg_int h1 g
  split at h2
  · next q hq =>
    have b := zr_in hS ex hq
    have b2 := of_decide_eq_true h2
    exact ⟨x, rfl, by omega, by omega⟩
  · cases h2
/-- leastWith: 0 -/
def zLWt (b a : Nat) : zA_T := ([(0, 9, zD0)], zHB, [(0, (2, .ofNat 15)), (1, (0, .ofNat a)), (2, (0, .ofNat b)), (3, (1, .ofNat 0))], [], 0, 0)
def zorcLW (m d : Nat) (t : zA_T) : Option (List zR_) := if m = 80 then (match t.2.2.1 with
  | [(0, k), (1, a), (2, b), (3, c)] => if 100 ≤ d ∧ k = (2, .ofNat 15) ∧ a.1 = 0 ∧ 0 ≤ a.2 ∧ a.2 < 6 ∧ b.1 = 0 ∧ 0 ≤ b.2 ∧ b.2 < 16 ∧ zinb t.1 c 0 9 = true ∧ t.2.2.2.2 = (0, 0) ∧ zHeq t.2.1 zHB = true then some [(t.1, zHB, some (0, 0))] else none
  | _ => none) else none
def zLVt (a : Nat) : zA_T := ([(0, 9, zD0)], zHB, [(0, (2, .ofNat 15)), (1, (0, .ofNat a)), (2, (1, .ofNat 0))], [], 0, 0)
def zorcLV (m d : Nat) (t : zA_T) : Option (List zR_) := if m = 79 then (match t.2.2.1 with
  | [(0, k), (1, a), (2, c)] => if 110 ≤ d ∧ k = (2, .ofNat 15) ∧ a.1 = 0 ∧ 0 ≤ a.2 ∧ a.2 < 6 ∧ zinb t.1 c 0 9 = true ∧ t.2.2.2.2 = (0, 0) ∧ zHeq t.2.1 zHB = true then some [(t.1, zHB, some (0, 0))] else none
  | _ => none) else none
def zPop : List Int := [0, 1, 1, 2, 1, 2, 2, 3, 1, 2, 2, 3, 2, 3, 3, 4]
def zBOt (a : Nat) : zA_T := ([], zHB, [(0, (0, .ofNat a))], [], 0, 0)
def zorcBO (m d : Nat) (t : zA_T) : Option (List zR_) := if m = 209 then (match t.2.2.1 with
  | [(0, a)] => if 50 ≤ d ∧ a.1 = 0 ∧ 0 ≤ a.2 ∧ a.2 < 16 ∧ t.2.2.2.2 = (0, 0) ∧ zHeq t.2.1 zHB = true then some [(t.1, zHB, some (0, zPop.getD a.2.toNat 0))] else none
  | _ => none) else none
def zorcNB (m d : Nat) (t : zA_T) : Option (List zR_) := if m = 215 then (match t.2.2.1 with
  | [(0, k), (1, a)] => if 100 ≤ d ∧ k = (2, .ofNat 46) ∧ zinb t.1 a 0 1 = true ∧ t.2.2.2.2 = (0, 0) ∧ zHeq t.2.1 zHB = true then some [(t.1, zHB, some (0, 0))] else none
  | _ => none) else none
def zorcB (m d : Nat) (t : zA_T) : Option (List zR_) := if m = 80 then zorcLW m d t else if m = 79 then zorcLV m d t else if m = 215 then zorcNB m d t else none
