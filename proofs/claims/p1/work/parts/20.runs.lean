/-! PART 20: the heap once both objects are made; what a run from a case of the law shows. -/
def zfin1 (_ : zA_T) (r : Option zA_V) : Bool := decide (r = some (0, 1))
def zH0 : zA_H := [(0, 0, 0, [(2, (.ofNat 4)), (2, (.ofNat 8)), (2, (.ofNat 12)), (2, (.ofNat 15)), (2, (.ofNat 18)), (2, (.ofNat 19)), (2, (.ofNat 20)), (2, (.ofNat 25)), (2, (.ofNat 30)), (2, (.ofNat 33))], []),
  (0, 1, 0, [(2, (.ofNat 5)), (2, (.ofNat 6)), (2, (.ofNat 7)), (0, (.ofNat 0)), (0, (.ofNat 9)), (0, (.ofNat 0))], []),
  (1, 0, 24, [(0, (.ofNat 0))], []),
  (1, 0, 8, [(0, (.ofNat 0))], []),
  (1, 0, 8, [(0, (.ofNat 0))], []),
  (0, 2, 0, [(2, (.ofNat 9)), (2, (.ofNat 10)), (2, (.ofNat 11)), (0, (.ofNat 0)), (0, (.ofNat 0))], []),
  (1, 0, 128, [(0, (.ofNat 0))], []),
  (1, 0, 128, [(0, (.ofNat 0))], []),
  (1, 0, 6, [(0, (.ofNat 0))], []),
  (0, 3, 0, [(2, (.ofNat 13)), (2, (.ofNat 14)), (0, (.ofNat 0)), (0, (.ofNat 0)), (0, (.ofNat 0)), (0, (.ofNat 0))], []),
  (1, 0, 120, [(0, (.ofNat 0))], []),
  (1, 0, 128, [(0, (.ofNat 0))], []),
  (0, 4, 0, [(2, (.ofNat 4)), (2, (.ofNat 8)), (2, (.ofNat 16)), (2, (.ofNat 17)), (0, (.ofNat 0)), (0, (.ofNat 0))], []),
  (1, 0, 1536, [(0, (.ofNat 0))], []),
  (1, 0, 70, [(0, (.ofNat 0))], []),
  (0, 5, 0, [(2, (.ofNat 4)), (2, (.ofNat 15)), (0, (.ofNat 0)), (0, (.ofNat 24))], []),
  (0, 6, 0, [(2, (.ofNat 4))], []),
  (0, 7, 0, [(2, (.ofNat 4)), (2, (.ofNat 21)), (0, (.ofNat 0)), (0, (.ofNat 0)), (0, (.ofNat 0)), (2, (.ofNat 22)), (2, (.ofNat 23)), (2, (.ofNat 24))], []),
  (1, 0, 5, [(0, (.ofNat 0))], []),
  (1, 0, 24, [(0, (.ofNat 0))], []),
  (1, 0, 8, [(0, (.ofNat 0))], []),
  (1, 0, 5, [(0, (.ofNat 0))], []),
  (0, 8, 0, [(2, (.ofNat 4)), (2, (.ofNat 26)), (2, (.ofNat 27)), (2, (.ofNat 28)), (2, (.ofNat 29)), (0, (.ofNat 0)), (0, (.ofNat 0))], []),
  (1, 0, 40, [(0, (.ofNat 0))], []),
  (1, 0, 40, [(0, (.ofNat 0))], []),
  (1, 0, 40, [(0, (.ofNat 0))], []),
  (1, 0, 40, [(0, (.ofNat 0))], []),
  (0, 9, 0, [(2, (.ofNat 31)), (2, (.ofNat 32)), (0, (.ofNat 0)), (0, (.ofNat 0))], []),
  (1, 0, 50, [(0, (.ofNat 0))], []),
  (1, 0, 24, [(0, (.ofNat 0))], []),
  (1, 2, 6, [(3, (.ofNat 0))], [(5, (2, (.ofNat 44))), (4, (2, (.ofNat 42))), (3, (2, (.ofNat 40))), (2, (2, (.ofNat 38))), (1, (2, (.ofNat 36))), (0, (2, (.ofNat 34)))]),
  (0, 10, 0, [(2, (.ofNat 35)), (0, (.negSucc 0)), (0, (.negSucc 0)), (0, (.ofNat 0))], []),
  (1, 1, 60, [(4, (.ofNat 0))], []),
  (0, 10, 0, [(2, (.ofNat 37)), (0, (.negSucc 0)), (0, (.negSucc 0)), (0, (.ofNat 0))], []),
  (1, 1, 60, [(4, (.ofNat 0))], []),
  (0, 10, 0, [(2, (.ofNat 39)), (0, (.negSucc 0)), (0, (.negSucc 0)), (0, (.ofNat 0))], []),
  (1, 1, 60, [(4, (.ofNat 0))], []),
  (0, 10, 0, [(2, (.ofNat 41)), (0, (.negSucc 0)), (0, (.negSucc 0)), (0, (.ofNat 0))], []),
  (1, 1, 60, [(4, (.ofNat 0))], []),
  (0, 10, 0, [(2, (.ofNat 43)), (0, (.negSucc 0)), (0, (.negSucc 0)), (0, (.ofNat 0))], []),
  (1, 1, 60, [(4, (.ofNat 0))], []),
  (0, 10, 0, [(2, (.ofNat 45)), (0, (.negSucc 0)), (0, (.negSucc 0)), (0, (.ofNat 0))], []),
  (1, 1, 60, [(4, (.ofNat 0))], []),
  (0, 11, 0, [(2, (.ofNat 47)), (2, (.ofNat 48)), (2, (.ofNat 49)), (2, (.ofNat 50)), (0, (.ofNat 0)), (0, (.ofNat 0)), (0, (.ofNat 0)), (0, (.ofNat 0)), (2, (.ofNat 51)), (0, (.ofNat 0)), (2, (.ofNat 52)), (0, (.negSucc 0)), (0, (.ofNat 0)), (0, (.ofNat 0)), (0, (.ofNat 0)), (0, (.ofNat 0)), (0, (.ofNat 0)), (2, (.ofNat 53)), (2, (.ofNat 54)), (2, (.ofNat 55)), (2, (.ofNat 56)), (2, (.ofNat 57)), (0, (.ofNat 0)), (0, (.ofNat 0)), (0, (.ofNat 0)), (2, (.ofNat 58)), (2, (.ofNat 59)), (2, (.ofNat 60)), (0, (.ofNat 0)), (2, (.ofNat 61)), (2, (.ofNat 62)), (0, (.ofNat 0)), (0, (.ofNat 0)), (0, (.ofNat 0)), (2, (.ofNat 63)), (2, (.ofNat 64)), (2, (.ofNat 65)), (2, (.ofNat 66))], []),
  (1, 0, 41, [(0, (.ofNat 0))], [(40, (0, (.ofNat 9)))]),
  (1, 0, 40, [(0, (.ofNat 0))], []),
  (1, 0, 40, [(0, (.ofNat 0))], []),
  (1, 0, 40, [(0, (.ofNat 0))], []),
  (1, 0, 120, [(0, (.ofNat 0))], []),
  (1, 0, 120, [(0, (.ofNat 0))], []),
  (1, 0, 6, [(0, (.ofNat 0))], []),
  (1, 0, 24, [(0, (.ofNat 0))], []),
  (1, 0, 70, [(0, (.ofNat 0))], []),
  (1, 0, 96, [(0, (.ofNat 0))], []),
  (1, 0, 5, [(0, (.ofNat 0))], []),
  (1, 0, 8, [(0, (.ofNat 0))], []),
  (1, 0, 24, [(0, (.ofNat 0))], []),
  (1, 0, 5, [(0, (.ofNat 0))], []),
  (1, 0, 50, [(0, (.ofNat 0))], []),
  (1, 0, 24, [(0, (.ofNat 0))], []),
  (1, 0, 6, [(0, (.ofNat 0))], [(5, (0, (.negSucc 0))), (4, (0, (.negSucc 0))), (3, (0, (.negSucc 0))), (2, (0, (.negSucc 0))), (1, (0, (.negSucc 0))), (0, (0, (.negSucc 0)))]),
  (1, 0, 6, [(0, (.ofNat 0))], []),
  (1, 1, 360, [(4, (.ofNat 0))], []),
  (1, 1, 60, [(4, (.ofNat 0))], [])]
def zL0 : zA_L := [(3, (0, (.ofNat 0))), (2, (2, (.ofNat 46))), (1, (2, (.ofNat 3))), (0, (2, (.ofNat 2)))]
def zqf : Int × Int × zA_D := (-2147483648, 2147483647, zD0)
def zSk (k : Int) : zA_S := [zqf, zqf, zqf, zqf, zqf, zqf, (k, k, zD0)]
def zTs (S : zA_S) : zA_T := (S, zH0, zL0, [], 64, 4062)
def zQ1 : Option Value → List z_C → Prop := fun v _ => v = some (.int 1)
def zPt (_ : List Int) : Prop := True
/-- from this place of the law on all is well -/
def zGood (l : Launch) (X : zx_X) (XL pc : Nat) (t : zA_T) : Prop := zGd l X XL [] zPt zQ1 0 2000 pc t []
theorem zfin1_ok {P : List Int → Prop} : zFn [] P zQ1 zfin1 := by
  intro t r h ρ ph v _ _ _ gr
  have e := of_decide_eq_true h
  subst e
  cases v with
  | none => exact gr.elim
  | some u =>
    obtain ⟨x, rfl, ex⟩ := zg_int (a := (0, 1)) rfl gr
    have hx : x.toInt = 1 := by rcases ex with ⟨-, e⟩ | ⟨e, -⟩; exact e; exact absurd e (by decide)
    show some (Value.int x) = some (.int 1)
    rw [Int32.toInt_inj.mp (show x.toInt = (1 : Int32).toInt from hx)]
theorem zOk_no (l : Launch) (X : zx_X) (XL : Nat) (φ : List z_C) (P : List Int → Prop) : zOk l X XL φ P zon := fun m d t rs h => by cases h
theorem zCt_no (l : Launch) (X : zx_X) (XL : Nat) (φ : List z_C) (P : List Int → Prop) (Q0 : Option Value → List z_C → Prop) : ∀ (m d pc : Nat) (t : zA_T) (stk : List zA_F), zno m d pc t stk = true → zGd l X XL φ P Q0 m d pc t stk := fun m d pc t stk h => by cases h
theorem zGood_run {l : Launch} {X : zx_X} {XL n pc : Nat} {t : zA_T} (h : zxp XL zfin1 zno zon n 0 2000 pc t [] = true) : zGood l X XL pc t :=
  zxp_ok zall (fun _ _ _ h => h) zfin1_ok (zOk_no l X XL [] zPt) (zCt_no l X XL [] zPt zQ1) n 0 2000 pc t [] (by decide) h
theorem zGood_split {l : Launch} {X : zx_X} {XL pc i : Nat} {S : zA_S} (hi : S[i]? = some zqf) (h : ∀ n : Int, -2147483648 ≤ n → n ≤ 2147483647 → ∃ q : zI2, q.1 ≤ n ∧ n ≤ q.2 ∧ zGood l X XL pc (zTs (zrf S (1, (i : Int)) q))) : zGood l X XL pc (zTs S) := by
  intro ρ ph lv st cst hp g gs
  obtain ⟨n, hn, hb⟩ := zL2.getR g.1 hi
  obtain ⟨q, h1, h2, hg⟩ := h n hb.1 hb.2.1
  have g1 : zg_S ρ S := g.1
  exact hg ρ ph lv st cst hp ⟨zrf_g (a := (1, (i : Int))) g1 (Or.inr ⟨Or.inl rfl, by simpa using hn⟩) h1 h2, g.2⟩ gs
