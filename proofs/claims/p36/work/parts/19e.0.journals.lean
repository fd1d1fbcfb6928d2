/-! PART 21.0: journals: arrays told row by row. -/
/-- the place k of the cell c -/
def zrd (φ : List z_C) (c k : Nat) : Int := match φ[c]? with
  | some (.inl (_, _, .inl f)) => (f k).toInt
  | _ => 0
def zjA (φ : List z_C) (c : Nat) : Prop := ∃ f : Nat → Int32, φ[c]? = some (.inl (0, 40, z_I f))
theorem zrd_eq {φ : List z_C} {c : Nat} {f : Nat → Int32} (h : φ[c]? = some (.inl (0, 40, z_I f))) (k : Nat) : zrd φ c k = (f k).toInt := by
  unfold zrd
  rw [h]
  rfl
theorem zrd_in (φ : List z_C) (c k : Nat) : -2147483648 ≤ zrd φ c k ∧ zrd φ c k ≤ 2147483647 := by
  unfold zrd
  split
  · next f _ => exact ⟨Int32.le_toInt (f k), by have := Int32.toInt_lt (f k); omega⟩
  · omega
def zIn (q : zI2) (v : Int) : Prop := q.1 ≤ v ∧ v ≤ q.2
/-- rows: each within one of the alternatives -/
def zjR (cs : List Nat) (alts : List (List zI2)) (φ : List z_C) : Prop := (∀ c ∈ cs, zjA φ c) ∧ ∀ k, k < 40 → ∃ al ∈ alts, zL2 zIn al (cs.map (fun c => zrd φ c k))
def zjaC : List (List zI2) := [[(0, 1), (0, 7)], [(2, 2), (0, 23)], [(3, 3), zfull]]
def zjaM : List (List zI2) := [[(0, 39), zfull, zfull], [(40, 40), (1, 9), (1, 9)]]
/-- no more may be undone than are kept -/
def zjK (fc ff fk : Nat) (φ : List z_C) : Prop := ∃ (n : Nat) (gs : List Value) (x y : Int32), φ[fc]? = some (.inr (n, gs)) ∧ gs[ff]? = some (.int x) ∧ gs[fk]? = some (.int y) ∧ x.toInt ≤ y.toInt
/-- a journal: its cells, its object and the fields there, its rows -/
abbrev zjD : Type := List Nat × Nat × Nat × Nat × List (List zI2)
def zjG (J : zjD) (φ : List z_C) : Prop := zjR J.1 J.2.2.2.2 φ ∧ zjK J.2.1 J.2.2.1 J.2.2.2.1 φ
def zjDC : zjD := ([23, 24], 22, 5, 6, zjaC)
def zjDM : zjD := ([45, 46, 47], 43, 5, 4, zjaM)
/-- fields that hold alike -/
def zjP (φ : List z_C) : Prop := ∀ p ∈ zPs, ∃ (n m : Nat) (gs hs : List Value) (v : Value), φ[p.1]? = some (.inr (n, gs)) ∧ gs[p.2.1]? = some v ∧ φ[p.2.2.1]? = some (.inr (m, hs)) ∧ hs[p.2.2.2]? = some v
/-- both journals, and what holds alike -/
def zJ (φ : List z_C) : Prop := zjG zjDC φ ∧ zjG zjDM φ ∧ zjP φ
/-- what is left told -/
def zjov (ff fk : Nat) (ov : List (Nat × zA_V)) : List (Nat × zA_V) := ov.filter (fun q => !(Nat.beq q.1 ff) && !(Nat.beq q.1 fk))
theorem zjov_g {φ : List z_C} {ff fk : Nat} {ov : List (Nat × zA_V)} {fs : List Value} (g : zg_Z φ ov fs) : zg_Z φ (zjov ff fk ov) fs := fun q hq => g q (List.mem_filter.mp hq).1
def zjS (n i : Nat) (al : List zI2) : zA_S := (List.range (40 * n)).map (fun q => if q % 40 = i then ((al.getD (q / 40) zfull).1, (al.getD (q / 40) zfull).2, zD0) else (-2147483648, 2147483647, zD0))
def zjC (b j : Nat) : zA_C := (1, 0, 40, [(0, 0)], zrl (fun k => (1, ((b + 40 * j + k : Nat) : Int))) 0 40)
def zjH (b : Nat) : Nat → List Nat → zA_H → zA_H
  | _, [], H => H
  | j, c :: cs, H => zjH b (j + 1) cs (H.set c (zjC b j))
def zjU (fc ff fk u kn : Nat) (H : zA_H) : zA_H := match H[fc]? with
  | some o => H.set fc (0, o.2.1, 0, (o.2.2.2.1.set ff (0, (u : Int))).set fk (1, (kn : Int)), zjov ff fk o.2.2.2.2)
  | none => H
/-- the state with its journal told, at u changes; alike but the row i -/
def zjT (te : zA_T) (J : zjD) (u i : Nat) (al : List zI2) : zA_T := (te.1 ++ zjS J.1.length i al ++ [((u : Int), 40, zD0)], zjH te.1.length 0 J.1 (zjU J.2.1 J.2.2.1 J.2.2.2.1 u (te.1.length + 40 * J.1.length) te.2.1), te.2.2)
def zjN (φ : List z_C) (cs : List Nat) : List Int := (List.range (40 * cs.length)).map (fun q => zrd φ (cs.getD (q / 40) 0) (q % 40))
theorem zL2.maps {α β γ : Type} {R : β → γ → Prop} {f : α → β} {g : α → γ} : ∀ {l : List α}, (∀ a ∈ l, R (f a) (g a)) → zL2 R (l.map f) (l.map g)
  | [], _ => trivial
  | _ :: _, h => ⟨h _ List.mem_cons_self, zL2.maps (fun a ha => h a (List.mem_cons_of_mem _ ha))⟩
theorem zL2.ofGet {α β : Type} {R : α → β → Prop} : ∀ {as : List α} {bs : List β}, as.length = bs.length → (∀ (i : Nat) a b, as[i]? = some a → bs[i]? = some b → R a b) → zL2 R as bs
  | [], [], _, _ => trivial
  | a :: as, b :: bs, hl, h => ⟨h 0 a b rfl rfl, zL2.ofGet (by simpa using hl) (fun i x y hx hy => h (i + 1) x y hx hy)⟩
  | [], _ :: _, hl, _ => by cases hl
  | _ :: _, [], hl, _ => by cases hl
theorem zjN_at {φ : List z_C} {cs : List Nat} {ρ : List Int} {j k c : Nat} (hc : cs[j]? = some c) (hk : k < 40) : (ρ ++ zjN φ cs)[ρ.length + 40 * j + k]? = some (zrd φ c k) := by
  have hj : j < cs.length := (List.getElem?_eq_some_iff.mp hc).1
  rw [List.getElem?_append_right (by omega)]
  have e : ρ.length + 40 * j + k - ρ.length = 40 * j + k := by omega
  unfold zjN
  rw [e, List.getElem?_map, List.getElem?_range (by omega)]
  have e1 : (40 * j + k) / 40 = j := by omega
  have e2 : (40 * j + k) % 40 = k := by omega
  show some (zrd φ (cs.getD ((40 * j + k) / 40) 0) ((40 * j + k) % 40)) = _
  rw [e1, e2, List.getD_eq_getElem?_getD, hc]
  rfl
theorem zjH_g {φ : List z_C} {ρ0 : List Int} {b : Nat} {ph : List z_C} : ∀ {cs : List Nat} {j : Nat} {H : zA_H}, zL2 (zg_C φ ρ0) H ph → (∀ j' c, cs[j']? = some c → ∀ x, ph[c]? = some x → zg_C φ ρ0 (zjC b (j + j')) x) → zL2 (zg_C φ ρ0) (zjH b j cs H) ph
  | [], _, _, h, _ => h
  | c :: cs, j, H, h, hc => zjH_g (cs := cs) (j := j + 1) (zL2.setL c h (fun x hx => by
      have := hc 0 c rfl x hx
      rw [Nat.add_zero] at this
      exact this)) (fun j' c' h' x hx => by
      have := hc (j' + 1) c' h' x hx
      have e : j + (j' + 1) = j + 1 + j' := by omega
      rw [e] at this
      exact this)
/-- the cells of a journal are told by φ -/
def zjck (cs : List Nat) (H : zA_H) : Bool := cs.all (fun c => match H[c]? with
  | some a => decide (a.1 = 8 ∧ a.2.1 = c)
  | none => false)
def zjcu (fc ff fk : Nat) (H : zA_H) : Bool := match H[fc]? with
  | some a => decide (a.1 = 0 ∧ ff ≠ fk ∧ a.2.2.2.1[ff]? = some (6, 347892350976) ∧ a.2.2.2.1[fk]? = some (6, 347892350976) ∧ (ff, ((8, (fc : Int)) : zA_V)) ∈ a.2.2.2.2 ∧ (fk, ((8, (fc : Int)) : zA_V)) ∈ a.2.2.2.2)
  | none => false
theorem zjck_g {φ : List z_C} {ρ : List Int} {cs : List Nat} {H : zA_H} {ph : List z_C} (h : zjck cs H = true) (g : zL2 (zg_C φ ρ) H ph) : ∀ c ∈ cs, ∀ x, ph[c]? = some x → φ[c]? = some x := by
  intro c hc x hx
  have h1 := List.all_eq_true.mp h c hc
  split at h1
  · next a ha =>
    have h2 := of_decide_eq_true h1
    obtain ⟨x', e1, gx⟩ := zL2.get g ha
    rw [hx] at e1
    cases e1
    rcases gx with ⟨-, gx⟩ | ⟨g1, -⟩ | ⟨g1, -⟩ | ⟨g1, -⟩ | ⟨g1, -⟩
    · rw [h2.2] at gx
      exact gx
    all_goals omega
  · cases h1
theorem z_w40 {ρ : List Int} {v : Value} (gv : zg_V ρ (6, 347892350976) v) : ∃ x : Int32, v = .int x ∧ 0 ≤ x.toInt ∧ x.toInt ≤ 40 := by
  rcases gv with ⟨q, -⟩ | ⟨q, -⟩ | ⟨q, -⟩ | ⟨q, -⟩ | ⟨q, -⟩ | ⟨q, -⟩ | ⟨q, ⟨x, e, p, hp, b1, b2⟩ | ⟨q, -⟩ | ⟨q, -⟩⟩
  · exact absurd q (by decide)
  · exact absurd q (by decide)
  · exact absurd q (by decide)
  · exact absurd q (by decide)
  · exact absurd q (by decide)
  · exact absurd q (by decide)
  · have hp : p ∈ [((0 : Int), (40 : Int))] := hp
    rw [List.mem_singleton] at hp
    subst hp
    exact ⟨x, e, b1, b2⟩
  · exact absurd q (by decide)
  · exact absurd q (by decide)
theorem zjU_g {φ : List z_C} {ρ0 : List Int} {H : zA_H} {ph : List z_C} {fc ff fk kn : Nat} (hcu : zjcu fc ff fk H = true) (hK : zjK fc ff fk φ) (g2 : zL2 (zg_C φ ρ0) H ph) : ∃ (u : Nat) (y : Int32), u < 41 ∧ (u : Int) ≤ y.toInt ∧ y.toInt ≤ 40 ∧ ∀ ρ1, zLE ρ0 ρ1 → ρ1[kn]? = some y.toInt → zL2 (zg_C φ ρ1) (zjU fc ff fk u kn H) ph := by
  unfold zjcu at hcu
  split at hcu
  · next a ha =>
    obtain ⟨c1, c2, c3, c4, c5, c6⟩ := of_decide_eq_true hcu
    obtain ⟨n, gs, x, y, k1, k2, k3, k4⟩ := hK
    obtain ⟨c', e1, gx⟩ := zL2.get g2 ha
    obtain ⟨fs, rfl, gf, gz⟩ := zg_C0 c1 gx
    obtain ⟨v, ev, gv⟩ := zL2.get gf c3
    obtain ⟨w, ew, gw⟩ := zL2.get gf c4
    obtain ⟨x', rfl, x0, x1⟩ := z_w40 gv
    obtain ⟨y', rfl, y0, y1⟩ := z_w40 gw
    obtain ⟨-, n1, gs1, z1, z2⟩ := gz _ c5
    obtain ⟨-, n2, gs2, z3, z4⟩ := gz _ c6
    have z1 : φ[fc]? = some (.inr (n1, gs1)) := z1
    have z3 : φ[fc]? = some (.inr (n2, gs2)) := z3
    rw [k1] at z1 z3
    cases z1
    cases z3
    have z2 : fs[ff]? = gs[ff]? := z2
    have z4 : fs[fk]? = gs[fk]? := z4
    rw [ev, k2] at z2
    rw [ew, k3] at z4
    have q2 : x'.toInt = x.toInt := by cases z2; rfl
    have q4 : y'.toInt = y.toInt := by cases z4; rfl
    refine ⟨x'.toInt.toNat, y', by omega, by omega, y1, fun ρ1 hle hy => ?_⟩
    unfold zjU
    rw [ha]
    refine zL2.setL fc (zL2.mono (fun _ _ => zg_C.mono hle) g2) (fun z hz => ?_)
    rw [e1] at hz
    cases hz
    refine Or.inr (Or.inl ⟨rfl, fs, rfl, ?_, zjov_g gz⟩)
    refine zL2.setL fk (zL2.setL ff (zL2.mono (fun _ _ => zg_V.mono hle) gf) (fun w hw => ?_)) (fun w hw => ?_)
    · rw [ev] at hw
      cases hw
      exact zg_ofI (by omega)
    · rw [ew] at hw
      cases hw
      exact zg_ofK hy
  · cases hcu
theorem zjT_g {X : zx_X} {φ : List z_C} {ρ : List Int} {te : zA_T} {ph : List z_C} {lv : List (Nat × Value)} {st : List Value} {J : zjD} (hck : zjck J.1 te.2.1 = true) (hcu : zjcu J.2.1 J.2.2.1 J.2.2.2.1 te.2.1 = true) (hJ : zjG J φ) (g : zg_T 2000000 X φ ρ te ph lv st) :
    ∃ u, u < 41 ∧ ∀ i, ∃ al ∈ (if i < 40 then J.2.2.2.2 else [[]]), ∃ ρ0, zLE (ρ ++ zjN φ J.1) ρ0 ∧ zg_T 2000000 X φ ρ0 (zjT te J u i al) ph lv st := by
  obtain ⟨cs, fc, ff, fk, alts⟩ := J
  obtain ⟨g1, g2, g3, g4, g5⟩ := g
  obtain ⟨hR, hK⟩ := hJ
  dsimp only at hck hcu hR hK ⊢
  have hlen : ρ.length = te.1.length := zL2.len g1
  have hle1 : zLE ρ (ρ ++ zjN φ cs) := fun k n hk => by
    rw [List.getElem?_append_left (List.getElem?_eq_some_iff.mp hk).1]
    exact hk
  have g2' : zL2 (zg_C φ (ρ ++ zjN φ cs)) te.2.1 ph := zL2.mono (fun _ _ => zg_C.mono hle1) g2
  obtain ⟨u, y, hu, y0, y1, gU⟩ := zjU_g (kn := te.1.length + 40 * cs.length) hcu hK g2'
  have hle2 := zLE.app (ρ ++ zjN φ cs) y.toInt
  have hle := hle1.trans hle2
  have hnl : (zjN φ cs).length = 40 * cs.length := by
    unfold zjN
    rw [List.length_map, List.length_range]
  have gU := gU _ hle2 (by
    rw [List.getElem?_append_right (by rw [List.length_append]; omega)]
    have e : te.1.length + 40 * cs.length - (ρ ++ zjN φ cs).length = 0 := by rw [List.length_append]; omega
    rw [e]
    rfl)
  refine ⟨u, hu, fun i => ?_⟩
  have hal : ∃ al ∈ (if i < 40 then alts else [[]]), ∀ q, q < 40 * cs.length → q % 40 = i → zIn (al.getD (q / 40) zfull) (zrd φ (cs.getD (q / 40) 0) (q % 40)) := by
    by_cases hi : i < 40
    · obtain ⟨al, m, hr⟩ := hR.2 i hi
      refine ⟨al, by rw [if_pos hi]; exact m, fun q hq hqi => ?_⟩
      have hj : q / 40 < cs.length := by omega
      have e1 : cs[q / 40]? = some cs[q / 40] := List.getElem?_eq_getElem hj
      have e2 : (cs.map (fun c => zrd φ c i))[q / 40]? = some (zrd φ cs[q / 40] i) := by rw [List.getElem?_map, e1]; rfl
      obtain ⟨r, er, hr⟩ := zL2.getR hr e2
      rw [List.getD_eq_getElem?_getD, er, List.getD_eq_getElem?_getD, e1, hqi]
      exact hr
    · exact ⟨[], by rw [if_neg hi]; exact List.mem_singleton.mpr rfl, fun q hq hqi => by omega⟩
  obtain ⟨al, m, hr⟩ := hal
  have gS : zg_S (ρ ++ zjN φ cs) (te.1 ++ zjS cs.length i al) := by
    show zL2 (zg_E (ρ ++ zjN φ cs)) (ρ ++ zjN φ cs) (te.1 ++ zjS cs.length i al)
    refine zL2.app (cs := zjN φ cs) (ds := zjS cs.length i al) ?_ (zL2.mono (fun _ _ q => ⟨q.1, q.2.1, q.2.2.mono hle1⟩) g1)
    refine zL2.maps (fun q hq => ?_)
    have hq := List.mem_range.mp hq
    split
    · next hqi =>
      have := hr q hq hqi
      exact ⟨this.1, this.2, Or.inl rfl⟩
    · have := zrd_in φ (cs.getD (q / 40) 0) (q % 40)
      exact ⟨this.1, this.2, Or.inl rfl⟩
  refine ⟨al, m, (ρ ++ zjN φ cs) ++ [y.toInt], hle2, gS.push (q := ((u : Int), 40)) y0 y1, ?_, zL2.mono (fun _ _ q => ⟨q.1, q.2.mono hle⟩) g3, zL2.mono (fun _ _ => zg_V.mono hle) g4, g5.mono hle⟩
  show zL2 (zg_C φ _) (zjH te.1.length 0 cs (zjU fc ff fk u (te.1.length + 40 * cs.length) te.2.1)) ph
  refine zjH_g gU (fun j c hj x hx => ?_)
  rw [Nat.zero_add]
  have hm := List.mem_of_getElem? hj
  have e := zjck_g hck g2 c hm x hx
  obtain ⟨f, ef⟩ := hR.1 c hm
  have e' := e
  rw [ef] at e'
  cases e'
  refine Or.inr (Or.inr (Or.inl ⟨rfl, rfl, f, rfl, fun k hk => ?_, fun q hq hk => ?_⟩))
  · have hk : k < 40 := hk
    show zg_V _ (((zrl (fun k => ((1, ((te.1.length + 40 * j + k : Nat) : Int)) : zA_V)) 0 40).lookup k).getD _) _
    rw [zrl_look _ 40 0 k (by omega) (by omega)]
    refine zg_ofK ?_
    rw [← hlen]
    refine hle2 _ _ ?_
    rw [zjN_at hj hk, zrd_eq ef]
  · have hq : q ∈ zrl (fun k => ((1, ((te.1.length + 40 * j + k : Nat) : Int)) : zA_V)) 0 40 := hq
    have := zrl_lt _ 40 0 q hq
    omega
/-! the end of a run -/
def zB2 {α β : Type} (e : α → β → Bool) : List α → List β → Bool
  | [], [] => true
  | a :: as, b :: bs => e a b && zB2 e as bs
  | _, _ => false
def zjs (fc ff fk i : Nat) (b : zA_C) : zA_C := match Nat.beq i fc with
  | true => (b.1, b.2.1, b.2.2.1, b.2.2.2.1, zjov ff fk b.2.2.2.2)
  | false => b
def zjHd (S : zA_S) (cs : List Nat) (fc ff fk : Nat) : Nat → zA_H → zA_H → Bool
  | _, [], [] => true
  | i, a :: as, b :: bs => (cs.any (fun c => Nat.beq c i) || zmC S [] a (zjs fc ff fk i b)) && zjHd S cs fc ff fk (i + 1) as bs
  | _, _, _ => false
def zjQ (S : zA_S) (q : zI2) (v : zA_V) : Bool := zIs v && (match zr S v with
  | some p => decide (q.1 ≤ p.1 ∧ p.2 ≤ q.2)
  | none => false)
def zjE (b n : Nat) (vs : List zA_V) : Bool := match vs with
  | [] => false
  | v :: _ => decide (v.2.toNat - b < 40) && zLeq zVeq vs ((List.range n).map (fun j => (1, ((b + 40 * j + (v.2.toNat - b) : Nat) : Int))))
def zjV (H : zA_H) (c k : Nat) : zA_V := match H[c]? with
  | some a => zx_el a k
  | none => (3, 0)
def zjI (H : zA_H) (c : Nat) : Bool := match H[c]? with
  | some a => decide (a.1 = 1 ∧ a.2.1 = 0 ∧ a.2.2.1 = 40)
  | none => false
def zjO (S : zA_S) : Option zI2 → Option zA_V → Bool
  | none, none => true
  | some q, some v => zjQ S q v
  | _, _ => false
def zjL (S : zA_S) (v w : zA_V) : Bool := zIs v && (zIs w && (match zr S v with
  | some p => (match zr S w with
    | some q => decide (p.2 ≤ q.1)
    | none => false)
  | none => false))
def zjKb (S : zA_S) (H : zA_H) (fc ff fk : Nat) : Bool := match H[fc]? with
  | some a => Nat.beq a.1 0 && (match a.2.2.2.1[ff]? with
    | some v => (match a.2.2.2.1[fk]? with
      | some w => zjL S v w
      | none => false)
    | none => false)
  | none => false
def zjF (H0 : zA_H) (J : zjD) (b : Nat) (rq : Option zI2) (t : zA_T) (r : Option zA_V) : Bool := zjHd t.1 J.1 J.2.1 J.2.2.1 J.2.2.2.1 0 t.2.1 H0 && (J.1.all (zjI t.2.1) && (zjKb t.1 t.2.1 J.2.1 J.2.2.1 J.2.2.2.1 && ((List.range 40).all (fun k => zjE b J.1.length (J.1.map (fun c => zjV t.2.1 c k)) || J.2.2.2.2.any (fun al => zB2 (zjQ t.1) al (J.1.map (fun c => zjV t.2.1 c k)))) && zjO t.1 rq r)))
def zrR : Option zI2 → Option Value → Prop
  | none, none => True
  | some q, some (.int x) => q.1 ≤ x.toInt ∧ x.toInt ≤ q.2
  | _, _ => False
theorem zjQ_g {ρ : List Int} {S : zA_S} {q : zI2} {v : zA_V} {x : Value} (hS : zg_S ρ S) (h : zjQ S q v = true) (g : zg_V ρ v x) : ∃ y : Int32, x = .int y ∧ zIn q y.toInt := by
  unfold zjQ at h
  obtain ⟨h1, h2⟩ := zw_and h
  obtain ⟨y, rfl, ey⟩ := zg_int h1 g
  split at h2
  · next p hp =>
    have b := zr_in hS ey hp
    have h2 := of_decide_eq_true h2
    exact ⟨y, rfl, by unfold zIn; omega⟩
  · cases h2
theorem zjKb_g {φ : List z_C} {ρ : List Int} {S : zA_S} {H : zA_H} {ph : List z_C} {fc ff fk : Nat} (hS : zg_S ρ S) (gH : zL2 (zg_C φ ρ) H ph) (h : zjKb S H fc ff fk = true) : zjK fc ff fk ph := by
  unfold zjKb at h
  split at h
  · next a ha =>
    obtain ⟨h0, h⟩ := zw_and h
    obtain ⟨x, ex, gx⟩ := zL2.get gH ha
    obtain ⟨fs, rfl, gf, -⟩ := zg_C0 (Nat.eq_of_beq_eq_true h0) gx
    split at h
    · next v hv =>
      split at h
      · next w hw =>
        unfold zjL at h
        obtain ⟨h1, h⟩ := zw_and h
        obtain ⟨h2, h⟩ := zw_and h
        obtain ⟨v', ev, gv⟩ := zL2.get gf hv
        obtain ⟨w', ew, gw⟩ := zL2.get gf hw
        obtain ⟨y, rfl, ey⟩ := zg_int h1 gv
        obtain ⟨z, rfl, ez⟩ := zg_int h2 gw
        split at h
        · next p hp =>
          split at h
          · next q hq =>
            have h := of_decide_eq_true h
            have b1 := zr_in hS ey hp
            have b2 := zr_in hS ez hq
            exact ⟨_, fs, y, z, ex, ev, ew, by omega⟩
          · cases h
        · cases h
      · cases h
    · cases h
  · cases h
theorem zjHd_len {S : zA_S} {cs : List Nat} {fc ff fk : Nat} : ∀ {i : Nat} {H H0 : zA_H}, zjHd S cs fc ff fk i H H0 = true → H.length = H0.length
  | _, [], [], _ => rfl
  | i, a :: as, b :: bs, h => congrArg (· + 1) (zjHd_len (zw_and h).2)
  | _, [], _ :: _, h => by cases h
  | _, _ :: _, [], h => by cases h
theorem zjHd_at {S : zA_S} {cs : List Nat} {fc ff fk : Nat} : ∀ {i : Nat} {H H0 : zA_H}, zjHd S cs fc ff fk i H H0 = true → ∀ j b, H0[j]? = some b → ¬ (i + j) ∈ cs → ∃ a, H[j]? = some a ∧ zmC S [] a (zjs fc ff fk (i + j) b) = true
  | i, [], [], _, j, b, hj, _ => by cases hj
  | i, a :: as, b0 :: bs, h, 0, b, hj, hn => by
    cases hj
    refine ⟨a, rfl, ?_⟩
    rcases zw_or (zw_and h).1 with h | h
    · obtain ⟨c, hc, e⟩ := List.any_eq_true.mp h
      rw [Nat.eq_of_beq_eq_true e] at hc
      exact absurd hc hn
    · exact h
  | i, a :: as, b0 :: bs, h, j + 1, b, hj, hn => by
    have e : i + 1 + j = i + (j + 1) := by omega
    rw [← e] at hn ⊢
    exact zjHd_at (i := i + 1) (H := as) (H0 := bs) (zw_and h).2 j b hj hn
  | _, [], _ :: _, h, _, _, _, _ => by cases h
  | _, _ :: _, [], h, _, _, _, _ => by cases h
/-- cells and fields that φ tells lie where they lie -/
def zh8 : Nat → zA_H → Bool
  | _, [] => true
  | i, a :: as => ((!(a.1 == 8) || a.2.1 == i) && (!(a.1 == 0) || a.2.2.2.2.all (fun q => decide (q.2 = ((8, (i : Int)) : zA_V))))) && zh8 (i + 1) as
theorem zh8_at : ∀ {i : Nat} {H : zA_H}, zh8 i H = true → ∀ j a, H[j]? = some a → (a.1 = 8 → a.2.1 = i + j) ∧ (a.1 = 0 → ∀ q ∈ a.2.2.2.2, q.2 = ((8, ((i + j : Nat) : Int)) : zA_V))
  | _, [], _, j, a, h => by cases h
  | i, b :: bs, h, 0, a, hj => by
    cases hj
    obtain ⟨h1, h2⟩ := zw_and (zw_and h).1
    refine ⟨fun h8 => ?_, fun h0 q hq => ?_⟩
    · rcases zw_or h1 with h | h
      · simp [h8] at h
      · simpa using h
    · rcases zw_or h2 with h | h
      · simp [h0] at h
      · exact of_decide_eq_true (List.all_eq_true.mp h q hq)
  | i, b :: bs, h, j + 1, a, hj => by
    have := zh8_at (zw_and h).2 j a hj
    have e : i + 1 + j = i + (j + 1) := by omega
    rw [← e]
    exact this
theorem zHT_8 : zh8 0 zHT = true := by decide +kernel
theorem zjR_same {cs : List Nat} {alts : List (List zI2)} {φ φ' : List z_C} (h : ∀ c ∈ cs, φ'[c]? = φ[c]?) (g : zjR cs alts φ) : zjR cs alts φ' := by
  have e : ∀ c ∈ cs, ∀ k, zrd φ' c k = zrd φ c k := fun c hc k => by
    unfold zrd
    rw [h c hc]
  refine ⟨fun c hc => ?_, fun k hk => ?_⟩
  · obtain ⟨f, hf⟩ := g.1 c hc
    exact ⟨f, by rw [h c hc]; exact hf⟩
  · obtain ⟨al, m, r⟩ := g.2 k hk
    refine ⟨al, m, ?_⟩
    rw [List.map_congr_left (fun c hc => e c hc k)]
    exact r
theorem zB2_g {ρ : List Int} {S : zA_S} (hS : zg_S ρ S) {H : zA_H} {ph : List z_C} {φ : List z_C} (gH : zL2 (zg_C φ ρ) H ph) {k : Nat} (hk : k < 40) : ∀ {al : List zI2} {cs : List Nat}, (∀ c ∈ cs, zjI H c = true) → zB2 (zjQ S) al (cs.map (fun c => zjV H c k)) = true → zL2 zIn al (cs.map (fun c => zrd ph c k))
  | [], [], _, _ => trivial
  | q :: al, c :: cs, hc, h => by
    obtain ⟨h1, h2⟩ := zw_and h
    refine ⟨?_, zB2_g hS gH hk (fun c' hc' => hc c' (List.mem_cons_of_mem _ hc')) h2⟩
    have hI := hc c List.mem_cons_self
    unfold zjI at hI
    split at hI
    · next a ha =>
      obtain ⟨i1, i2, i3⟩ := of_decide_eq_true hI
      obtain ⟨x, ex, gx⟩ := zL2.get gH ha
      obtain ⟨f, rfl, gf, -⟩ := zg_CI i1 i2 gx
      rw [i3] at ex gf
      have gv := gf k hk
      have h1 : zjQ S q (zjV H c k) = true := h1
      unfold zjV at h1
      rw [ha] at h1
      obtain ⟨y, ey, hy⟩ := zjQ_g hS h1 gv
      cases ey
      show zIn q (zrd ph c k)
      rw [zrd_eq ex]
      exact hy
    · cases hI
  | [], _ :: _, _, h => by cases h
  | _ :: _, [], _, h => by cases h
/-- any heap that fits is told by itself -/
theorem zself {H0 : zA_H} (h80 : zh8 0 H0 = true) {φ : List z_C} {ρ : List Int} {ph : List z_C} (hlen : H0.length = ph.length) (h : ∀ (i : Nat) (b : zA_C), H0[i]? = some b → b.1 ≠ 8 → ∀ x, ph[i]? = some x → zg_C φ ρ (b.1, b.2.1, b.2.2.1, b.2.2.2.1, if b.1 = 0 then [] else b.2.2.2.2) x) : zL2 (zg_C ph ρ) H0 ph := by
  refine zL2.ofGet hlen (fun i b x hb hx => ?_)
  obtain ⟨k1, k2⟩ := zh8_at h80 i b hb
  by_cases h8 : b.1 = 8
  · refine Or.inl ⟨h8, ?_⟩
    rw [k1 h8, Nat.zero_add]
    exact hx
  · have g := h i b hb h8 x hx
    by_cases h0 : b.1 = 0
    · rw [if_pos h0] at g
      obtain ⟨fs, rfl, gf, -⟩ := zg_C0 (a := (b.1, b.2.1, b.2.2.1, b.2.2.2.1, [])) h0 g
      refine Or.inr (Or.inl ⟨h0, fs, rfl, gf, fun q hq => ?_⟩)
      have e := k2 h0 q hq
      rw [Nat.zero_add] at e
      refine ⟨by rw [e], b.2.1, fs, ?_, rfl⟩
      rw [e]
      show ph[((i : Int)).toNat]? = _
      rw [Int.toNat_natCast]
      exact hx
    · rw [if_neg h0] at g
      rcases g with ⟨g1, -⟩ | ⟨g1, -⟩ | g
      · exact absurd g1 h8
      · exact absurd g1 h0
      · exact Or.inr (Or.inr g)
def zjck2 (H0 : zA_H) (J : zjD) : Bool := zjck J.1 H0 && zjcu J.2.1 J.2.2.1 J.2.2.2.1 H0
/-- a field that φ tells -/
def ztold (H : zA_H) (c f : Nat) : Bool := match H[c]? with
  | some a => decide (a.1 = 0 ∧ (f, ((8, (c : Int)) : zA_V)) ∈ a.2.2.2.2)
  | none => false
theorem ztold_g {φ : List z_C} {ρ : List Int} {H : zA_H} {ph : List z_C} {c f : Nat} (h : ztold H c f = true) (g : zL2 (zg_C φ ρ) H ph) : ∃ n gs m fs, φ[c]? = some (.inr (n, gs)) ∧ ph[c]? = some (.inr (m, fs)) ∧ fs[f]? = gs[f]? := by
  unfold ztold at h
  split at h
  · next a ha =>
    obtain ⟨h1, h2⟩ := of_decide_eq_true h
    obtain ⟨x, ex, gx⟩ := zL2.get g ha
    obtain ⟨fs, rfl, gf, gz⟩ := zg_C0 h1 gx
    obtain ⟨-, n, gs, z1, z2⟩ := gz _ h2
    exact ⟨n, gs, _, fs, z1, ex, z2⟩
  · cases h
def zpck (H : zA_H) : Bool := zPs.all (fun p => ztold H p.1 p.2.1 && ztold H p.2.2.1 p.2.2.2)
theorem zjP_self {φ : List z_C} {ρ : List Int} {H : zA_H} {ph : List z_C} (hc : zpck H = true) (h : zjP φ) (g : zL2 (zg_C φ ρ) H ph) : zjP ph := by
  intro p hp
  obtain ⟨c1, c2⟩ := zw_and (List.all_eq_true.mp hc p hp)
  obtain ⟨n1, gs1, m1, fs1, a1, a2, a3⟩ := ztold_g c1 g
  obtain ⟨n2, gs2, m2, fs2, b1, b2, b3⟩ := ztold_g c2 g
  obtain ⟨n, m, gs, hs, v, e1, e2, e3, e4⟩ := h p hp
  rw [e1] at a1
  cases a1
  rw [e3] at b1
  cases b1
  exact ⟨m1, m2, fs1, fs2, v, a2, a3.trans e2, b2, b3.trans e4⟩
/-- the cell c without what the journal tells -/
def zts (J : zjD) (H : zA_H) (c f : Nat) : Bool := match H[c]? with
  | some b => decide (b.1 = 0 ∧ (f, ((8, (c : Int)) : zA_V)) ∈ (zjs J.2.1 J.2.2.1 J.2.2.2.1 c b).2.2.2.2)
  | none => false
def zpck3 (J : zjD) (H : zA_H) : Bool := zPs.all (fun p => zts J H p.1 p.2.1 && zts J H p.2.2.1 p.2.2.2)
theorem zjcu_d {fc ff fk : Nat} {H : zA_H} (h : zjcu fc ff fk H = true) : ∃ a, H[fc]? = some a ∧ a.1 = 0 ∧ (ff, ((8, (fc : Int)) : zA_V)) ∈ a.2.2.2.2 ∧ (fk, ((8, (fc : Int)) : zA_V)) ∈ a.2.2.2.2 := by
  unfold zjcu at h
  split at h
  · next a ha =>
    obtain ⟨c1, c2, c3, c4, c5, c6⟩ := of_decide_eq_true h
    exact ⟨a, ha, c1, c5, c6⟩
  · cases h
theorem zjck_d {cs : List Nat} {H : zA_H} (hk : zjck cs H = true) : ∀ c ∈ cs, ∃ b, H[c]? = some b ∧ b.1 = 8 ∧ b.2.1 = c := by
  intro c hc
  have h1 := List.all_eq_true.mp hk c hc
  split at h1
  · next a ha => exact ⟨a, ha, of_decide_eq_true h1⟩
  · cases h1
theorem zjK_oth {φ : List z_C} {ρ : List Int} {H : zA_H} {ph : List z_C} {fc ff fk : Nat} {b : zA_C} {x : z_C} (hK : zjK fc ff fk φ) (c1 : b.1 = 0) (c5 : (ff, ((8, (fc : Int)) : zA_V)) ∈ b.2.2.2.2) (c6 : (fk, ((8, (fc : Int)) : zA_V)) ∈ b.2.2.2.2) (ex : ph[fc]? = some x) (gx : zg_C φ ρ b x) : zjK fc ff fk ph := by
  obtain ⟨n, gs, x, y, k1, k2, k3, k4⟩ := hK
  obtain ⟨fs, rfl, gf, gz⟩ := zg_C0 c1 gx
  obtain ⟨-, n1, gs1, z1, z2⟩ := gz _ c5
  obtain ⟨-, n2, gs2, z3, z4⟩ := gz _ c6
  have z1 : φ[fc]? = some (.inr (n1, gs1)) := z1
  have z3 : φ[fc]? = some (.inr (n2, gs2)) := z3
  rw [k1] at z1 z3
  cases z1
  cases z3
  have z2 : fs[ff]? = gs[ff]? := z2
  have z4 : fs[fk]? = gs[fk]? := z4
  exact ⟨_, fs, x, y, ex, z2.trans k2, z4.trans k3, k4⟩
theorem zjrow {φ : List z_C} {ρ ρ1 : List Int} {H : zA_H} {ph : List z_C} {cs : List Nat} {k : Nat} (hk : k < 40) (h2 : ∀ c ∈ cs, zjI H c = true) (gH : zL2 (zg_C φ ρ1) H ph) (hle : zLE (ρ ++ zjN φ cs) ρ1) (h : zjE ρ.length cs.length (cs.map (fun c => zjV H c k)) = true) : ∃ k', k' < 40 ∧ cs.map (fun c => zrd ph c k) = cs.map (fun c => zrd φ c k') := by
  generalize hvs : cs.map (fun c => zjV H c k) = vs at h
  unfold zjE at h
  split at h
  · cases h
  · next v0 vs' =>
    obtain ⟨hlt, he⟩ := zw_and h
    have hlt : v0.2.toNat - ρ.length < 40 := of_decide_eq_true hlt
    generalize v0.2.toNat - ρ.length = k' at hlt he
    have he := zLeq_eq zVeq_eq he
    refine ⟨k', hlt, ?_⟩
    apply List.ext_getElem?
    intro j
    rw [List.getElem?_map, List.getElem?_map]
    cases hj : cs[j]? with
    | none => exact (rfl : (none : Option Int) = none)
    | some c =>
      have hjl : j < cs.length := (List.getElem?_eq_some_iff.mp hj).1
      have e1 : (cs.map (fun c => zjV H c k))[j]? = some (1, ((ρ.length + 40 * j + k' : Nat) : Int)) := by
        rw [hvs, he, List.getElem?_map, List.getElem?_range hjl]
        rfl
      rw [List.getElem?_map, hj] at e1
      have e1 : zjV H c k = (1, ((ρ.length + 40 * j + k' : Nat) : Int)) := Option.some.inj e1
      have hI := h2 c (List.mem_of_getElem? hj)
      unfold zjI at hI
      split at hI
      · next a ha =>
        obtain ⟨i1, i2, i3⟩ := of_decide_eq_true hI
        obtain ⟨x, ex, gx⟩ := zL2.get gH ha
        obtain ⟨f, rfl, gf, -⟩ := zg_CI i1 i2 gx
        rw [i3] at ex gf
        have gv : zg_V ρ1 (zx_el a k) (.int (f k)) := gf k hk
        unfold zjV at e1
        rw [ha] at e1
        have e1 : zx_el a k = (1, ((ρ.length + 40 * j + k' : Nat) : Int)) := e1
        rw [e1] at gv
        obtain ⟨y, ey, hy⟩ := zg_int (a := (1, ((ρ.length + 40 * j + k' : Nat) : Int))) rfl gv
        cases ey
        have hn := hle _ _ (zjN_at (φ := φ) (ρ := ρ) hj hlt)
        show some (zrd ph c k) = some (zrd φ c k')
        rw [zrd_eq ex, zE_fun hy (zEk hn)]
      · cases hI
theorem zjF_g {H0 : zA_H} (h80 : zh8 0 H0 = true) {φ : List z_C} {ρ ρ1 : List Int} {J J2 : zjD} {rq : Option zI2} {t : zA_T} {r : Option zA_V} {ph : List z_C} {v : Option Value} (hc : zjck2 H0 J = true) (hc2 : zjck2 H0 J2 = true) (hdis : ∀ c ∈ J2.1, ¬ c ∈ J.1) (hd1 : ¬ J2.2.1 ∈ J.1) (hd2 : J2.2.1 ≠ J.2.1)
    (hc3 : zpck3 J H0 = true) (hP : zjP φ) (hJ : zjG J φ) (hJ2 : zjG J2 φ) (h : zjF H0 J ρ.length rq t r = true) (hle : zLE (ρ ++ zjN φ J.1) ρ1) (hS : zg_S ρ1 t.1) (gH : zL2 (zg_C φ ρ1) t.2.1 ph) (gR : zg_R ρ1 r v) : zjG J ph ∧ zjG J2 ph ∧ zL2 (zg_C ph []) H0 ph ∧ zrR rq v ∧ zjP ph := by
  obtain ⟨cs, fc, ff, fk, alts⟩ := J
  obtain ⟨cs2, fc2, ff2, fk2, alts2⟩ := J2
  unfold zjF at h
  unfold zjG at hJ hJ2 ⊢
  dsimp only at hc hc2 hdis hd1 hd2 hJ hJ2 h hle ⊢
  obtain ⟨h1, h⟩ := zw_and h
  obtain ⟨h2, h⟩ := zw_and h
  obtain ⟨h5, h⟩ := zw_and h
  obtain ⟨h3, h4⟩ := zw_and h
  obtain ⟨hc8, hcu⟩ := zw_and hc
  obtain ⟨hc82, hcu2⟩ := zw_and hc2
  dsimp only at hc8 hcu hc82 hcu2
  have h2 := List.all_eq_true.mp h2
  have hlen : H0.length = ph.length := (zjHd_len h1).symm.trans (zL2.len gH)
  have hat : ∀ i b, H0[i]? = some b → ¬ i ∈ cs → ∀ x, ph[i]? = some x → zg_C φ [] (zjs fc ff fk i b) x := by
    intro i b hb hn x hx
    obtain ⟨a, ha, hz⟩ := zjHd_at h1 i b hb (by rw [Nat.zero_add]; exact hn)
    rw [Nat.zero_add] at hz
    obtain ⟨x', ex, gx⟩ := zL2.get gH ha
    rw [hx] at ex
    cases ex
    exact zmC_g (σ := []) hS rfl hz gx
  have hne : ∀ i b, i ≠ fc → zjs fc ff fk i b = b := fun i b hi => by
    unfold zjs
    split
    · next e => exact absurd (Nat.eq_of_beq_eq_true e) hi
    · rfl
  refine ⟨⟨⟨fun c hc => ?_, fun k hk => ?_⟩, zjKb_g hS gH h5⟩, ⟨zjR_same (fun c hc => ?_) hJ2.1, ?_⟩, zself h80 (φ := φ) hlen (fun i b hb h8 x hx => ?_), ?_, ?_⟩
  · have hI := h2 c hc
    unfold zjI at hI
    split at hI
    · next a ha =>
      obtain ⟨i1, i2, i3⟩ := of_decide_eq_true hI
      obtain ⟨x, ex, gx⟩ := zL2.get gH ha
      obtain ⟨f, rfl, -, -⟩ := zg_CI i1 i2 gx
      rw [i3] at ex
      exact ⟨f, ex⟩
    · cases hI
  · rcases zw_or (List.all_eq_true.mp h3 k (List.mem_range.mpr hk)) with h | h
    · obtain ⟨k', hk', e⟩ := zjrow hk h2 gH hle h
      obtain ⟨al, m, hr⟩ := hJ.1.2 k' hk'
      exact ⟨al, m, by rw [e]; exact hr⟩
    · obtain ⟨al, m, hz⟩ := List.any_eq_true.mp h
      exact ⟨al, m, zB2_g hS gH hk h2 hz⟩
  · obtain ⟨b, hb, b8, bc⟩ := zjck_d hc82 c hc
    have hl : c < ph.length := by rw [← hlen]; exact (List.getElem?_eq_some_iff.mp hb).1
    have ex : ph[c]? = some ph[c] := List.getElem?_eq_getElem hl
    have gx := hat c b hb (hdis c hc) _ ex
    have e8 : (zjs fc ff fk c b).1 = 8 ∧ (zjs fc ff fk c b).2.1 = c := by
      unfold zjs
      split
      · exact ⟨b8, bc⟩
      · exact ⟨b8, bc⟩
    rcases gx with ⟨-, gx⟩ | ⟨g1, -⟩ | ⟨g1, -⟩ | ⟨g1, -⟩ | ⟨g1, -⟩
    · rw [e8.2] at gx
      rw [ex, gx]
    all_goals omega
  · obtain ⟨b, hb, c1, c5, c6⟩ := zjcu_d hcu2
    have hl : fc2 < ph.length := by rw [← hlen]; exact (List.getElem?_eq_some_iff.mp hb).1
    have ex : ph[fc2]? = some ph[fc2] := List.getElem?_eq_getElem hl
    have gx := hat fc2 b hb hd1 _ ex
    rw [hne _ _ hd2] at gx
    exact zjK_oth (H := H0) hJ2.2 c1 c5 c6 ex gx
  · have hn : ¬ i ∈ cs := fun hc => by
      obtain ⟨b', hb', b8, -⟩ := zjck_d hc8 i hc
      rw [hb] at hb'
      cases hb'
      exact h8 b8
    have g := hat i b hb hn x hx
    by_cases h0 : b.1 = 0
    · rw [if_pos h0]
      have e0 : (zjs fc ff fk i b).1 = 0 ∧ (zjs fc ff fk i b).2.1 = b.2.1 ∧ (zjs fc ff fk i b).2.2.2.1 = b.2.2.2.1 := by
        unfold zjs
        split
        · exact ⟨h0, rfl, rfl⟩
        · exact ⟨h0, rfl, rfl⟩
      obtain ⟨fs, rfl, gf, -⟩ := zg_C0 e0.1 g
      rw [e0.2.2] at gf
      rw [e0.2.1]
      exact Or.inr (Or.inl ⟨h0, fs, rfl, gf, zg_Z.nil _ _⟩)
    · rw [if_neg h0]
      by_cases hi : i = fc
      · obtain ⟨b', hb', c1, -, -⟩ := zjcu_d hcu
        rw [← hi, hb] at hb'
        cases hb'
        exact absurd c1 h0
      · rw [hne _ _ hi] at g
        exact g
  · cases rq with
    | none =>
      cases r with
      | none =>
        cases v with
        | none => trivial
        | some u => exact gR.elim
      | some u => cases h4
    | some q =>
      cases r with
      | none => cases h4
      | some a =>
        cases v with
        | none => exact gR.elim
        | some u =>
          obtain ⟨y, rfl, hy⟩ := zjQ_g hS h4 gR
          exact hy
  · have tell : ∀ c f, zts (cs, fc, ff, fk, alts) H0 c f = true → ∃ n gs m fs, φ[c]? = some (.inr (n, gs)) ∧ ph[c]? = some (.inr (m, fs)) ∧ fs[f]? = gs[f]? := by
      intro c f hcf
      unfold zts at hcf
      split at hcf
      · next b hb =>
        obtain ⟨q1, q2⟩ := of_decide_eq_true hcf
        have hn : ¬ c ∈ cs := fun hc' => by
          obtain ⟨b', hb', b8, -⟩ := zjck_d hc8 c hc'
          rw [hb] at hb'
          cases hb'
          omega
        have hl : c < ph.length := by rw [← hlen]; exact (List.getElem?_eq_some_iff.mp hb).1
        have ex : ph[c]? = some ph[c] := List.getElem?_eq_getElem hl
        have g := hat c b hb hn _ ex
        have e0 : (zjs fc ff fk c b).1 = 0 := by
          unfold zjs
          split
          · exact q1
          · exact q1
        obtain ⟨fs, e1, gf, gz⟩ := zg_C0 e0 g
        obtain ⟨-, n, gs, z1, z2⟩ := gz _ q2
        exact ⟨n, gs, _, fs, z1, by rw [ex, e1], z2⟩
      · cases hcf
    intro p hp
    obtain ⟨c1, c2⟩ := zw_and (List.all_eq_true.mp hc3 p hp)
    obtain ⟨n1, gs1, m1, fs1, a1, a2, a3⟩ := tell _ _ c1
    obtain ⟨n2, gs2, m2, fs2, b1, b2, b3⟩ := tell _ _ c2
    obtain ⟨n, m, gs, hs, v, e1, e2, e3, e4⟩ := hP p hp
    rw [e1] at a1
    cases a1
    rw [e3] at b1
    cases b1
    exact ⟨m1, m2, fs1, fs2, v, a2, a3.trans e2, b2, b3.trans e4⟩
/-- a contract that keeps the journals -/
def zConJ (m d : Nat) (te : zA_T) (rq : Option zI2) : Prop := ∀ (l : Launch) (X : zx_X) (φ : List z_C) (Q : Option Value → List z_C → Prop) (ρ : List Int) (ph : List z_C) (lv : List (Nat × Value)), zJ φ → zg_T 2000000 X φ ρ te ph lv [] →
  (∀ φ' v ph', zJ φ' → zL2 (zg_C φ' []) zHT ph' → zrR rq v → Q v ph') → ZW l d (zm m) X (zmc m).1 (zmc m).2 Q 0 lv [] ph te.2.2.2.2.1 te.2.2.2.2.2
/-- the run of a method with its journal told -/
def zjX (J : zjD) (te : zA_T) (rq : Option zI2) (n m d u i : Nat) (al : List zI2) : Prop := zx1 2000000 (zjF zHT J te.1.length rq) zno zon n m d 0 (zjT te J u i al) [] = true
theorem zConJ_of {m d n : Nat} {te : zA_T} {rq : Option zI2} (J J2 : zjD) (pl : Nat → Nat) (hm : m < 267) (hJ : ∀ φ, zJ φ → zjG J φ ∧ zjG J2 φ) (hJ' : ∀ φ, zjG J φ → zjG J2 φ → zjP φ → zJ φ) (hc3 : zpck3 J zHT = true)
    (hte : te.2.1 = zHT) (hc : zjck2 zHT J = true) (hc2 : zjck2 zHT J2 = true) (hdis : ∀ c ∈ J2.1, ¬ c ∈ J.1) (hd1 : ¬ J2.2.1 ∈ J.1) (hd2 : J2.2.1 ≠ J.2.1)
    (runs : ∀ u, u < 41 → ∀ al ∈ (if pl u < 40 then J.2.2.2.2 else [[]]), zjX J te rq n m d u (pl u) al) : zConJ m d te rq := by
  intro l X φ Q ρ ph lv hj g hQ
  obtain ⟨j1, j2⟩ := hJ φ hj
  obtain ⟨u, hu, h⟩ := zjT_g (J := J) (by rw [hte]; exact (zw_and hc).1) (by rw [hte]; exact (zw_and hc).2) j1 g
  obtain ⟨al, hal, ρ0, hle0, gT⟩ := h (pl u)
  have hlen : ρ.length = te.1.length := zL2.len g.1
  have k : zGd l X 2000000 φ (zPf (fun ns => ns = ρ0)) Q m d 0 (zjT te J u (pl u) al) [] := by
    refine zGd_run (zPf_up _) ?_ (zOk_no l X _ φ _) (zCt_no l X _ φ _ Q) hm (runs u hu al hal)
    intro t r hf ρ1 ph1 v hp gS gH gR
    obtain ⟨ns, hle, rfl⟩ := hp
    rw [← hlen] at hf
    obtain ⟨r1, r2, r3, r4, r5⟩ := zjF_g zHT_8 hc hc2 hdis hd1 hd2 hc3 hj.2.2 j1 j2 hf (hle0.trans hle) gS gH gR
    exact hQ ph1 v ph1 (hJ' _ r1 r2 r5) r3 r4
  exact k _ ph lv [] [] (zPf_self rfl) gT trivial
/-- runs for numbers of changes from lo on -/
noncomputable def zjXs (J : zjD) (te : zA_T) (rq : Option zI2) (n m d : Nat) (pl : Nat → Nat) (lo k : Nat) : Bool := (List.range' lo k).all (fun u => (if pl u < 40 then J.2.2.2.2 else [[]]).all (fun al => zx1 2000000 (zjF zHT J te.1.length rq) zno zon n m d 0 (zjT te J u (pl u) al) []))
theorem zjXs_g {J : zjD} {te : zA_T} {rq : Option zI2} {n m d : Nat} {pl : Nat → Nat} {lo k : Nat} (h : zjXs J te rq n m d pl lo k = true) : ∀ u, lo ≤ u → u < lo + k → ∀ al ∈ (if pl u < 40 then J.2.2.2.2 else [[]]), zjX J te rq n m d u (pl u) al := fun u h1 h2 al hal =>
  List.all_eq_true.mp (List.all_eq_true.mp h u (List.mem_range'_1.mpr ⟨h1, h2⟩)) al hal
