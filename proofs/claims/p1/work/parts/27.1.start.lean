/-! PART 27, 1: the law from its start -/
def zcasL : List (Nat × zA_S) := [(212, zSk 0), (235, zSk 1), (278, zSk 2), (321, zSk 3), (354, zSk 4), (377, zSk 5), (390, zSk 6), (423, zSk 7), (446, zSk 8), (469, zSk 9), (502, zSk 10), (525, zSk 11), (548, zSk 12), (581, zSk 13), (604, zSk 14), (637, zSk 15), (670, zSk 16), (713, zSk 17), (746, zSk 18), (779, zSk 19), (802, zSk 20), (825, zSk 21), (868, zSk 22), (891, zSk 23), (914, zSk 24), (937, zSk 25), (970, zSk 26), (993, zSk 27), (1006, zSk 28), (1019, zSk 29), (1032, zSk 30), (1045, zSk 31), (1068, zSk 32), (1111, zSk 33), (1134, zSk 34), (1167, zSk 35), (1210, zSk 36), (1283, zSk 37), (1317, zSk 38), (1380, zSk 39), (1413, zSk 40), (1436, [zqf, zqf, zqf, zqf, zqf, zqf, (41, 63, zD0)])]
def zdrop (S : zA_S) : zA_S := S.map (fun q => (q.1, q.2.1, zD0))
theorem zdrop_g {ρ : List Int} : ∀ {r : List Int} {S : zA_S}, zL2 (zg_E ρ) r S → zL2 (zg_E ρ) r (zdrop S)
  | [], [], _ => trivial
  | _ :: _, _ :: _, h => ⟨⟨h.1.1, h.1.2.1, Or.inl rfl⟩, zdrop_g h.2⟩
  | [], _ :: _, h => h.elim
  | _ :: _, [], h => h.elim
def zcutK (m d pc : Nat) (t : zA_T) (stk : List zA_F) : Bool := match Nat.beq m 0 with
  | false => false
  | true => (match Nat.ble 205 pc with
    | false => false
    | true => (match stk with
      | [] => Nat.beq d 2000 && (zHeq t.2.1 zH0 && (zLeq zKeq t.2.2.1 zL0 && (t.2.2.2.1.isEmpty && (decide (t.2.2.2.2 = (64, 4062)) && zcasL.any (fun q => Nat.beq pc q.1 && zLeq zEeq (zdrop t.1) q.2)))))
      | _ => false))
theorem zcas_all (l : Launch) (X : zx_X) : ∀ q ∈ zcasL, zGood l X 6 q.1 (zTs q.2) := by
  intro q hq
  rcases List.mem_cons.mp hq with rfl | hq
  · exact zcs_0 l X
  rcases List.mem_cons.mp hq with rfl | hq
  · exact zcs_1 l X
  rcases List.mem_cons.mp hq with rfl | hq
  · exact zcs_2 l X
  rcases List.mem_cons.mp hq with rfl | hq
  · exact zcs_3 l X
  rcases List.mem_cons.mp hq with rfl | hq
  · exact zcs_4 l X
  rcases List.mem_cons.mp hq with rfl | hq
  · exact zcs_5 l X
  rcases List.mem_cons.mp hq with rfl | hq
  · exact zcs_6 l X
  rcases List.mem_cons.mp hq with rfl | hq
  · exact zcs_7 l X
  rcases List.mem_cons.mp hq with rfl | hq
  · exact zcs_8 l X
  rcases List.mem_cons.mp hq with rfl | hq
  · exact zcs_9 l X
  rcases List.mem_cons.mp hq with rfl | hq
  · exact zcs_10 l X
  rcases List.mem_cons.mp hq with rfl | hq
  · exact zcs_11 l X
  rcases List.mem_cons.mp hq with rfl | hq
  · exact zcs_12 l X
  rcases List.mem_cons.mp hq with rfl | hq
  · exact zcs_13 l X
  rcases List.mem_cons.mp hq with rfl | hq
  · exact zcs_14 l X
  rcases List.mem_cons.mp hq with rfl | hq
  · exact zcs_15 l X
  rcases List.mem_cons.mp hq with rfl | hq
  · exact zcs_16 l X
  rcases List.mem_cons.mp hq with rfl | hq
  · exact zcs_17 l X
  rcases List.mem_cons.mp hq with rfl | hq
  · exact zcs_18 l X
  rcases List.mem_cons.mp hq with rfl | hq
  · exact zcs_19 l X
  rcases List.mem_cons.mp hq with rfl | hq
  · exact zcs_20 l X
  rcases List.mem_cons.mp hq with rfl | hq
  · exact zcs_21 l X
  rcases List.mem_cons.mp hq with rfl | hq
  · exact zcs_22 l X
  rcases List.mem_cons.mp hq with rfl | hq
  · exact zcs_23 l X
  rcases List.mem_cons.mp hq with rfl | hq
  · exact zcs_24 l X
  rcases List.mem_cons.mp hq with rfl | hq
  · exact zcs_25 l X
  rcases List.mem_cons.mp hq with rfl | hq
  · exact zcs_26 l X
  rcases List.mem_cons.mp hq with rfl | hq
  · exact zcs_27 l X
  rcases List.mem_cons.mp hq with rfl | hq
  · exact zcs_28 l X
  rcases List.mem_cons.mp hq with rfl | hq
  · exact zcs_29 l X
  rcases List.mem_cons.mp hq with rfl | hq
  · exact zcs_30 l X
  rcases List.mem_cons.mp hq with rfl | hq
  · exact zcs_31 l X
  rcases List.mem_cons.mp hq with rfl | hq
  · exact zcs_32 l X
  rcases List.mem_cons.mp hq with rfl | hq
  · exact zcs_33 l X
  rcases List.mem_cons.mp hq with rfl | hq
  · exact zcs_34 l X
  rcases List.mem_cons.mp hq with rfl | hq
  · exact zcs_35 l X
  rcases List.mem_cons.mp hq with rfl | hq
  · exact zcs_36 l X
  rcases List.mem_cons.mp hq with rfl | hq
  · exact zcs_37 l X
  rcases List.mem_cons.mp hq with rfl | hq
  · exact zcs_38 l X
  rcases List.mem_cons.mp hq with rfl | hq
  · exact zcs_39 l X
  rcases List.mem_cons.mp hq with rfl | hq
  · exact zcs_40 l X
  rcases List.mem_cons.mp hq with rfl | hq
  · exact zcs_41 l X
  cases hq
theorem zcutK_g (l : Launch) (X : zx_X) : ∀ (m d pc : Nat) (t : zA_T) (stk : List zA_F), zcutK m d pc t stk = true → zGd l X 6 [] zPt zQ1 m d pc t stk := by
  intro m d pc t stk hc
  unfold zcutK at hc
  split at hc
  · cases hc
  · next hm =>
    split at hc
    · cases hc
    · split at hc
      · obtain ⟨h1, hc⟩ := zw_and hc
        obtain ⟨h2, hc⟩ := zw_and hc
        obtain ⟨h3, hc⟩ := zw_and hc
        obtain ⟨h4, hc⟩ := zw_and hc
        obtain ⟨h5, hc⟩ := zw_and hc
        obtain ⟨q, hq, h6⟩ := List.any_eq_true.mp hc
        obtain ⟨h7, h8⟩ := zw_and h6
        obtain ⟨S, H, L, s0, cn⟩ := t
        have e1 := zHeq_eq h2
        have e2 : L = zL0 := zLeq_eq zKeq_eq h3
        have e3 : s0 = [] := List.isEmpty_iff.mp h4
        have e4 : cn = (64, 4062) := of_decide_eq_true h5
        have e5 : zdrop S = q.2 := zLeq_eq zEeq_eq h8
        have e6 := Nat.eq_of_beq_eq_true h7
        have e7 := Nat.eq_of_beq_eq_true hm
        have e8 := Nat.eq_of_beq_eq_true h1
        have e1 : H = zH0 := e1
        subst e1 e2 e3 e4 e6 e7 e8
        intro ρ ph lv st cst hp g gs
        have gS : zg_S ρ q.2 := e5 ▸ zdrop_g g.1
        exact zcas_all l X q hq ρ ph lv st cst hp ⟨gS, g.2⟩ gs
      · cases hc
def zst_0 : zA_T := ([], [], [(0, (2, .ofNat 2))], [], 0, 0)
set_option maxRecDepth 100000 in
theorem zlr_0 : zx1 0 zfin1 zno zon 60000 0 2000 0 zst_0 [] = true := by decide +kernel
def zst_1 : zA_T := ([zqf], [], [(0, (2, .ofNat 2))], [], 0, 0)
set_option maxRecDepth 100000 in
theorem zlr_1 : zx1 1 zfin1 zno zon 60000 0 2000 0 zst_1 [] = true := by decide +kernel
def zst_2 : zA_T := ([zqf, zqf], [], [(0, (2, .ofNat 2))], [], 0, 0)
set_option maxRecDepth 100000 in
theorem zlr_2 : zx1 2 zfin1 zno zon 60000 0 2000 0 zst_2 [] = true := by decide +kernel
def zst_3 : zA_T := ([zqf, zqf, zqf], [], [(0, (2, .ofNat 2))], [], 0, 0)
set_option maxRecDepth 100000 in
theorem zlr_3 : zx1 3 zfin1 zno zon 60000 0 2000 0 zst_3 [] = true := by decide +kernel
def zst_4 : zA_T := ([zqf, zqf, zqf, zqf], [], [(0, (2, .ofNat 2))], [], 0, 0)
set_option maxRecDepth 100000 in
theorem zlr_4 : zx1 4 zfin1 zno zon 60000 0 2000 0 zst_4 [] = true := by decide +kernel
def zst_5 : zA_T := ([zqf, zqf, zqf, zqf, zqf], [], [(0, (2, .ofNat 2))], [], 0, 0)
set_option maxRecDepth 100000 in
theorem zlr_5 : zx1 5 zfin1 zno zon 60000 0 2000 0 zst_5 [] = true := by decide +kernel
def zst_6 : zA_T := ([zqf, zqf, zqf, zqf, zqf, zqf], [], [(0, (2, .ofNat 2))], [], 0, 0)
set_option maxRecDepth 100000 in
theorem zlr_6 : zx1 6 zfin1 zcutK zon 60000 0 2000 0 zst_6 [] = true := by decide +kernel
theorem zq_E (ρ : List Int) (x : Int32) : zg_E ρ x.toInt zqf := ⟨Int32.le_toInt x, by have := Int32.toInt_lt x; show x.toInt ≤ 2147483647; omega, Or.inl rfl⟩
def zscr (n : Nat) (f : Nat → Int32) : List Int := (List.range n).map (fun j => (f j).toInt)
theorem zst_X (n : Nat) (f : Nat → Int32) : zg_X (zscr n f) n (n, f) := fun _ => ⟨rfl, fun j hj => by
  have hj : j < n := hj
  simp [zscr, hj]⟩
theorem y_law0 : zm 0 = y_law := rfl
theorem zst_S0 (f : Nat → Int32) : zg_S (zscr 0 f) zst_0.1 := trivial
theorem zlaw_0 (l : Launch) (xs : Nat → Int32) : ZW l 2000 y_law (0, xs) 64 4062 (fun v _ => v = some (.int 1)) 0 [(0, .ref 2)] [] [] 0 0 := by
  have h := zGd_run (l := l) (X := (0, xs)) (XL := 0) (φ := []) (Q0 := zQ1) (P := zPt) (fun _ _ _ h => h) zfin1_ok (zOk_no l _ _ _ _) (zCt_no l _ _ _ _ zQ1) (by decide) (zlr_0) (zscr 0 xs) [] [(0, .ref 2)] [] [] trivial ⟨zst_S0 xs, trivial, ⟨⟨rfl, zg_ofR (i := 2)⟩, trivial⟩, trivial, zst_X 0 xs⟩ trivial
  rw [← y_law0]
  exact h
theorem zst_S1 (f : Nat → Int32) : zg_S (zscr 1 f) zst_1.1 := ⟨zq_E _ _, trivial⟩
theorem zlaw_1 (l : Launch) (xs : Nat → Int32) : ZW l 2000 y_law (1, xs) 64 4062 (fun v _ => v = some (.int 1)) 0 [(0, .ref 2)] [] [] 0 0 := by
  have h := zGd_run (l := l) (X := (1, xs)) (XL := 1) (φ := []) (Q0 := zQ1) (P := zPt) (fun _ _ _ h => h) zfin1_ok (zOk_no l _ _ _ _) (zCt_no l _ _ _ _ zQ1) (by decide) (zlr_1) (zscr 1 xs) [] [(0, .ref 2)] [] [] trivial ⟨zst_S1 xs, trivial, ⟨⟨rfl, zg_ofR (i := 2)⟩, trivial⟩, trivial, zst_X 1 xs⟩ trivial
  rw [← y_law0]
  exact h
theorem zst_S2 (f : Nat → Int32) : zg_S (zscr 2 f) zst_2.1 := ⟨zq_E _ _, zq_E _ _, trivial⟩
theorem zlaw_2 (l : Launch) (xs : Nat → Int32) : ZW l 2000 y_law (2, xs) 64 4062 (fun v _ => v = some (.int 1)) 0 [(0, .ref 2)] [] [] 0 0 := by
  have h := zGd_run (l := l) (X := (2, xs)) (XL := 2) (φ := []) (Q0 := zQ1) (P := zPt) (fun _ _ _ h => h) zfin1_ok (zOk_no l _ _ _ _) (zCt_no l _ _ _ _ zQ1) (by decide) (zlr_2) (zscr 2 xs) [] [(0, .ref 2)] [] [] trivial ⟨zst_S2 xs, trivial, ⟨⟨rfl, zg_ofR (i := 2)⟩, trivial⟩, trivial, zst_X 2 xs⟩ trivial
  rw [← y_law0]
  exact h
theorem zst_S3 (f : Nat → Int32) : zg_S (zscr 3 f) zst_3.1 := ⟨zq_E _ _, zq_E _ _, zq_E _ _, trivial⟩
theorem zlaw_3 (l : Launch) (xs : Nat → Int32) : ZW l 2000 y_law (3, xs) 64 4062 (fun v _ => v = some (.int 1)) 0 [(0, .ref 2)] [] [] 0 0 := by
  have h := zGd_run (l := l) (X := (3, xs)) (XL := 3) (φ := []) (Q0 := zQ1) (P := zPt) (fun _ _ _ h => h) zfin1_ok (zOk_no l _ _ _ _) (zCt_no l _ _ _ _ zQ1) (by decide) (zlr_3) (zscr 3 xs) [] [(0, .ref 2)] [] [] trivial ⟨zst_S3 xs, trivial, ⟨⟨rfl, zg_ofR (i := 2)⟩, trivial⟩, trivial, zst_X 3 xs⟩ trivial
  rw [← y_law0]
  exact h
theorem zst_S4 (f : Nat → Int32) : zg_S (zscr 4 f) zst_4.1 := ⟨zq_E _ _, zq_E _ _, zq_E _ _, zq_E _ _, trivial⟩
theorem zlaw_4 (l : Launch) (xs : Nat → Int32) : ZW l 2000 y_law (4, xs) 64 4062 (fun v _ => v = some (.int 1)) 0 [(0, .ref 2)] [] [] 0 0 := by
  have h := zGd_run (l := l) (X := (4, xs)) (XL := 4) (φ := []) (Q0 := zQ1) (P := zPt) (fun _ _ _ h => h) zfin1_ok (zOk_no l _ _ _ _) (zCt_no l _ _ _ _ zQ1) (by decide) (zlr_4) (zscr 4 xs) [] [(0, .ref 2)] [] [] trivial ⟨zst_S4 xs, trivial, ⟨⟨rfl, zg_ofR (i := 2)⟩, trivial⟩, trivial, zst_X 4 xs⟩ trivial
  rw [← y_law0]
  exact h
theorem zst_S5 (f : Nat → Int32) : zg_S (zscr 5 f) zst_5.1 := ⟨zq_E _ _, zq_E _ _, zq_E _ _, zq_E _ _, zq_E _ _, trivial⟩
theorem zlaw_5 (l : Launch) (xs : Nat → Int32) : ZW l 2000 y_law (5, xs) 64 4062 (fun v _ => v = some (.int 1)) 0 [(0, .ref 2)] [] [] 0 0 := by
  have h := zGd_run (l := l) (X := (5, xs)) (XL := 5) (φ := []) (Q0 := zQ1) (P := zPt) (fun _ _ _ h => h) zfin1_ok (zOk_no l _ _ _ _) (zCt_no l _ _ _ _ zQ1) (by decide) (zlr_5) (zscr 5 xs) [] [(0, .ref 2)] [] [] trivial ⟨zst_S5 xs, trivial, ⟨⟨rfl, zg_ofR (i := 2)⟩, trivial⟩, trivial, zst_X 5 xs⟩ trivial
  rw [← y_law0]
  exact h
theorem zst_S6 (f : Nat → Int32) : zg_S (zscr 6 f) zst_6.1 := ⟨zq_E _ _, zq_E _ _, zq_E _ _, zq_E _ _, zq_E _ _, zq_E _ _, trivial⟩
theorem zlaw_6 (l : Launch) (xs : Nat → Int32) : ZW l 2000 y_law (6, xs) 64 4062 (fun v _ => v = some (.int 1)) 0 [(0, .ref 2)] [] [] 0 0 := by
  have h := zGd_run (l := l) (X := (6, xs)) (XL := 6) (φ := []) (Q0 := zQ1) (P := zPt) (fun _ _ _ h => h) zfin1_ok (zOk_no l _ _ _ _) (zcutK_g l _) (by decide) (zlr_6) (zscr 6 xs) [] [(0, .ref 2)] [] [] trivial ⟨zst_S6 xs, trivial, ⟨⟨rfl, zg_ofR (i := 2)⟩, trivial⟩, trivial, zst_X 6 xs⟩ trivial
  rw [← y_law0]
  exact h
