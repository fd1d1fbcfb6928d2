/-! PART 02: THE PURE WORLD. Cells made since the law's start lie one behind another: a pure reference i + 3 is the cell at z + i; 0 and 1 are the two static tables, 2 is the script. -/
def zx_tbl : List Cond := lw_tbl.filter goodWord
theorem zx_good : GoodIn zx_tbl zx_tbl := fun w h => ⟨h, good_of_word (List.mem_filter.mp h).2⟩
/-- the table by segments of 64 -/
def zx_s0 : List Cond := lw_tbl
def zx_s1 : List Cond := zx_s0.drop 64
def zx_s2 : List Cond := zx_s1.drop 64
def zx_s3 : List Cond := zx_s2.drop 64
def zx_s4 : List Cond := zx_s3.drop 64
def zx_s5 : List Cond := zx_s4.drop 64
def zx_s6 : List Cond := zx_s5.drop 64
def zx_s7 : List Cond := zx_s6.drop 64
def zx_s8 : List Cond := zx_s7.drop 64
def zx_s9 : List Cond := zx_s8.drop 64
def zx_s10 : List Cond := zx_s9.drop 64
def zx_s11 : List Cond := zx_s10.drop 64
def zx_s12 : List Cond := zx_s11.drop 64
def zx_s13 : List Cond := zx_s12.drop 64
def zx_s14 : List Cond := zx_s13.drop 64
def zx_s15 : List Cond := zx_s14.drop 64
def zx_s16 : List Cond := zx_s15.drop 64
def zx_s17 : List Cond := zx_s16.drop 64
def zx_s18 : List Cond := zx_s17.drop 64
def zx_s19 : List Cond := zx_s18.drop 64
def zx_s20 : List Cond := zx_s19.drop 64
def zx_s21 : List Cond := zx_s20.drop 64
def zx_s22 : List Cond := zx_s21.drop 64
def zx_s23 : List Cond := zx_s22.drop 64
def zx_s24 : List Cond := zx_s23.drop 64
def zx_s25 : List Cond := zx_s24.drop 64
noncomputable def zx_S : Lean.RArray (List Cond) := .branch 13 (.branch 6 (.branch 3 (.branch 1 (.leaf zx_s0) (.branch 2 (.leaf zx_s1) (.leaf zx_s2))) (.branch 4 (.leaf zx_s3) (.branch 5 (.leaf zx_s4) (.leaf zx_s5)))) (.branch 9 (.branch 7 (.leaf zx_s6) (.branch 8 (.leaf zx_s7) (.leaf zx_s8))) (.branch 11 (.branch 10 (.leaf zx_s9) (.leaf zx_s10)) (.branch 12 (.leaf zx_s11) (.leaf zx_s12))))) (.branch 19 (.branch 16 (.branch 14 (.leaf zx_s13) (.branch 15 (.leaf zx_s14) (.leaf zx_s15))) (.branch 17 (.leaf zx_s16) (.branch 18 (.leaf zx_s17) (.leaf zx_s18)))) (.branch 22 (.branch 20 (.leaf zx_s19) (.branch 21 (.leaf zx_s20) (.leaf zx_s21))) (.branch 24 (.branch 23 (.leaf zx_s22) (.leaf zx_s23)) (.branch 25 (.leaf zx_s24) (.leaf zx_s25)))))
noncomputable def zx_at (i : Nat) : Option Cond := (Lean.RArray.get zx_S (i / 64))[i % 64]?
theorem zx_dd {l : List Cond} {a n : Nat} (h : l = lw_tbl.drop a) (e : a + 64 = n) : l.drop 64 = lw_tbl.drop n := by
  rw [h, List.drop_drop]
  congr 1
theorem zx_e0 : zx_s0 = lw_tbl.drop 0 := rfl
theorem zx_e1 : zx_s1 = lw_tbl.drop 64 := zx_dd zx_e0 rfl
theorem zx_e2 : zx_s2 = lw_tbl.drop 128 := zx_dd zx_e1 rfl
theorem zx_e3 : zx_s3 = lw_tbl.drop 192 := zx_dd zx_e2 rfl
theorem zx_e4 : zx_s4 = lw_tbl.drop 256 := zx_dd zx_e3 rfl
theorem zx_e5 : zx_s5 = lw_tbl.drop 320 := zx_dd zx_e4 rfl
theorem zx_e6 : zx_s6 = lw_tbl.drop 384 := zx_dd zx_e5 rfl
theorem zx_e7 : zx_s7 = lw_tbl.drop 448 := zx_dd zx_e6 rfl
theorem zx_e8 : zx_s8 = lw_tbl.drop 512 := zx_dd zx_e7 rfl
theorem zx_e9 : zx_s9 = lw_tbl.drop 576 := zx_dd zx_e8 rfl
theorem zx_e10 : zx_s10 = lw_tbl.drop 640 := zx_dd zx_e9 rfl
theorem zx_e11 : zx_s11 = lw_tbl.drop 704 := zx_dd zx_e10 rfl
theorem zx_e12 : zx_s12 = lw_tbl.drop 768 := zx_dd zx_e11 rfl
theorem zx_e13 : zx_s13 = lw_tbl.drop 832 := zx_dd zx_e12 rfl
theorem zx_e14 : zx_s14 = lw_tbl.drop 896 := zx_dd zx_e13 rfl
theorem zx_e15 : zx_s15 = lw_tbl.drop 960 := zx_dd zx_e14 rfl
theorem zx_e16 : zx_s16 = lw_tbl.drop 1024 := zx_dd zx_e15 rfl
theorem zx_e17 : zx_s17 = lw_tbl.drop 1088 := zx_dd zx_e16 rfl
theorem zx_e18 : zx_s18 = lw_tbl.drop 1152 := zx_dd zx_e17 rfl
theorem zx_e19 : zx_s19 = lw_tbl.drop 1216 := zx_dd zx_e18 rfl
theorem zx_e20 : zx_s20 = lw_tbl.drop 1280 := zx_dd zx_e19 rfl
theorem zx_e21 : zx_s21 = lw_tbl.drop 1344 := zx_dd zx_e20 rfl
theorem zx_e22 : zx_s22 = lw_tbl.drop 1408 := zx_dd zx_e21 rfl
theorem zx_e23 : zx_s23 = lw_tbl.drop 1472 := zx_dd zx_e22 rfl
theorem zx_e24 : zx_s24 = lw_tbl.drop 1536 := zx_dd zx_e23 rfl
theorem zx_e25 : zx_s25 = lw_tbl.drop 1600 := zx_dd zx_e24 rfl
theorem zx_seg (k : Nat) (h : k < 26) : Lean.RArray.get zx_S k = lw_tbl.drop (64 * k) := by
  have e : k = 0 ∨ k = 1 ∨ k = 2 ∨ k = 3 ∨ k = 4 ∨ k = 5 ∨ k = 6 ∨ k = 7 ∨ k = 8 ∨ k = 9 ∨ k = 10 ∨ k = 11 ∨ k = 12 ∨ k = 13 ∨ k = 14 ∨ k = 15 ∨ k = 16 ∨ k = 17 ∨ k = 18 ∨ k = 19 ∨ k = 20 ∨ k = 21 ∨ k = 22 ∨ k = 23 ∨ k = 24 ∨ k = 25 := by omega
  rcases e with rfl | rfl | rfl | rfl | rfl | rfl | rfl | rfl | rfl | rfl | rfl | rfl | rfl | rfl | rfl | rfl | rfl | rfl | rfl | rfl | rfl | rfl | rfl | rfl | rfl | rfl
  · exact zx_e0
  · exact zx_e1
  · exact zx_e2
  · exact zx_e3
  · exact zx_e4
  · exact zx_e5
  · exact zx_e6
  · exact zx_e7
  · exact zx_e8
  · exact zx_e9
  · exact zx_e10
  · exact zx_e11
  · exact zx_e12
  · exact zx_e13
  · exact zx_e14
  · exact zx_e15
  · exact zx_e16
  · exact zx_e17
  · exact zx_e18
  · exact zx_e19
  · exact zx_e20
  · exact zx_e21
  · exact zx_e22
  · exact zx_e23
  · exact zx_e24
  · exact zx_e25
theorem zx_at_eq {i : Nat} (h : i < 1664) : zx_at i = lw_tbl[i]? := by
  unfold zx_at
  rw [zx_seg (i / 64) (by omega), List.getElem?_drop, show 64 * (i / 64) + i % 64 = i by omega]
noncomputable def zx_q (i : Nat) (w : Cond) : Bool := Nat.ble (i + 1) 1664 && (decide (zx_at i = some w) && goodWord w)
theorem zx_q_of {i : Nat} {w : Cond} (h0 : i < 1664) (h1 : lw_tbl[i]? = some w) (h2 : goodWord w = true) : zx_q i w = true := by
  unfold zx_q
  rw [zx_at_eq h0, decide_eq_true h1, h2, Nat.ble_eq_true_of_le h0]
  rfl
theorem zx_of {i : Nat} {w : Cond} (h : zx_q i w = true) : w ∈ zx_tbl := by
  unfold zx_q at h
  obtain ⟨h0, h⟩ := Bool.and_eq_true_iff.mp h
  obtain ⟨h1, h2⟩ := Bool.and_eq_true_iff.mp h
  have h1 := of_decide_eq_true h1
  rw [zx_at_eq (Nat.le_of_ble_eq_true h0)] at h1
  exact List.mem_filter.mpr ⟨List.mem_of_getElem? h1, h2⟩
/-- the classes whose objects there are: name, fields (declaring class, name, descriptor, final) -/
def zc_L : List (String × List (String × String × String × Bool)) := [
  ("NineOpinions", [("NineOpinions", "town", "LNineOpinions$Town;", true), ("NineOpinions", "law", "LNineOpinions$Law;", true), ("NineOpinions", "tape", "LNineOpinions$Tape;", true), ("NineOpinions", "thought", "LNineOpinions$Thought;", true), ("NineOpinions", "turns", "LNineOpinions$Turns;", true), ("NineOpinions", "votes", "LNineOpinions$Votes;", true), ("NineOpinions", "deeds", "LNineOpinions$Deeds;", true), ("NineOpinions", "changes", "LNineOpinions$Changes;", true), ("NineOpinions", "bodies", "LNineOpinions$Bodies;", true), ("NineOpinions", "shelves", "[LNineOpinions$Shelf;", true)]),
  ("NineOpinions$Town", [("NineOpinions$Town", "worn", "[I", true), ("NineOpinions$Town", "beliefs", "[I", true), ("NineOpinions$Town", "standings", "[I", true), ("NineOpinions$Town", "lines", "I", false), ("NineOpinions$Town", "room", "I", false), ("NineOpinions$Town", "people", "I", false)]),
  ("NineOpinions$Law", [("NineOpinions$Law", "steps", "[I", true), ("NineOpinions$Law", "stack", "[I", true), ("NineOpinions$Law", "names", "[I", true), ("NineOpinions$Law", "length", "I", false), ("NineOpinions$Law", "top", "I", false)]),
  ("NineOpinions$Tape", [("NineOpinions$Tape", "bytes", "[I", true), ("NineOpinions$Tape", "codes", "[I", true), ("NineOpinions$Tape", "length", "I", false), ("NineOpinions$Tape", "made", "I", false), ("NineOpinions$Tape", "at", "I", false), ("NineOpinions$Tape", "broken", "Z", false)]),
  ("NineOpinions$Thought", [("NineOpinions$Thought", "town", "LNineOpinions$Town;", true), ("NineOpinions$Thought", "law", "LNineOpinions$Law;", true), ("NineOpinions$Thought", "weighed", "[I", true), ("NineOpinions$Thought", "least", "[I", true), ("NineOpinions$Thought", "added", "I", false), ("NineOpinions$Thought", "taken", "I", false)]),
  ("NineOpinions$Turns", [("NineOpinions$Turns", "town", "LNineOpinions$Town;", true), ("NineOpinions$Turns", "thought", "LNineOpinions$Thought;", true), ("NineOpinions$Turns", "times", "I", false), ("NineOpinions$Turns", "bestFirst", "I", false)]),
  ("NineOpinions$Votes", [("NineOpinions$Votes", "town", "LNineOpinions$Town;", true)]),
  ("NineOpinions$Deeds", [("NineOpinions$Deeds", "town", "LNineOpinions$Town;", true), ("NineOpinions$Deeds", "led", "[I", true), ("NineOpinions$Deeds", "hasImage", "Z", false), ("NineOpinions$Deeds", "linesThen", "I", false), ("NineOpinions$Deeds", "peopleThen", "I", false), ("NineOpinions$Deeds", "wornThen", "[I", true), ("NineOpinions$Deeds", "beliefsThen", "[I", true), ("NineOpinions$Deeds", "ledThen", "[I", true)]),
  ("NineOpinions$Changes", [("NineOpinions$Changes", "town", "LNineOpinions$Town;", true), ("NineOpinions$Changes", "whats", "[I", true), ("NineOpinions$Changes", "numbers", "[I", true), ("NineOpinions$Changes", "befores", "[I", true), ("NineOpinions$Changes", "afters", "[I", true), ("NineOpinions$Changes", "undoable", "I", false), ("NineOpinions$Changes", "kept", "I", false)]),
  ("NineOpinions$Bodies", [("NineOpinions$Bodies", "kinds", "[I", true), ("NineOpinions$Bodies", "trail", "[I", true), ("NineOpinions$Bodies", "number", "I", false), ("NineOpinions$Bodies", "ran", "I", false)]),
  ("NineOpinions$Shelf", [("NineOpinions$Shelf", "cells", "[J", true), ("NineOpinions$Shelf", "body", "I", false), ("NineOpinions$Shelf", "sort", "I", false), ("NineOpinions$Shelf", "length", "I", false)]),
  ("NineOpinionsModel", [("NineOpinionsModel", "may", "[I", true), ("NineOpinionsModel", "changeAt", "[I", true), ("NineOpinionsModel", "changeWas", "[I", true), ("NineOpinionsModel", "changeIs", "[I", true), ("NineOpinionsModel", "keptMany", "I", false), ("NineOpinionsModel", "done", "I", false), ("NineOpinionsModel", "people", "I", false), ("NineOpinionsModel", "stands", "I", false), ("NineOpinionsModel", "tape", "[I", true), ("NineOpinionsModel", "tapeMany", "I", false), ("NineOpinionsModel", "text", "[I", true), ("NineOpinionsModel", "textMany", "I", false), ("NineOpinionsModel", "base", "I", false), ("NineOpinionsModel", "at", "I", false), ("NineOpinionsModel", "ends", "I", false), ("NineOpinionsModel", "fault", "I", false), ("NineOpinionsModel", "opened", "I", false), ("NineOpinionsModel", "names", "[I", true), ("NineOpinionsModel", "worn", "[I", true), ("NineOpinionsModel", "leastBy", "[I", true), ("NineOpinionsModel", "mindsBy", "[I", true), ("NineOpinionsModel", "ledNow", "[I", true), ("NineOpinionsModel", "isKept", "Z", false), ("NineOpinionsModel", "imagePeople", "I", false), ("NineOpinionsModel", "imageStands", "I", false), ("NineOpinionsModel", "imageBelief", "[I", true), ("NineOpinionsModel", "imageWorn", "[I", true), ("NineOpinionsModel", "imageLed", "[I", true), ("NineOpinionsModel", "bodies", "I", false), ("NineOpinionsModel", "bodyKind", "[I", true), ("NineOpinionsModel", "trace", "[I", true), ("NineOpinionsModel", "ran", "I", false), ("NineOpinionsModel", "ownKind", "I", false), ("NineOpinionsModel", "ownNumber", "I", false), ("NineOpinionsModel", "shelf", "[I", true), ("NineOpinionsModel", "many", "[I", true), ("NineOpinionsModel", "items", "[J", true), ("NineOpinionsModel", "carried", "[J", true)])]
/-- the places of the words that lay these fields -/
def zc_P : List (List Nat) := [
  [369, 371, 373, 375, 377, 379, 381, 383, 385, 387],
  [128, 130, 132, 134, 136, 138],
  [153, 155, 157, 159, 161],
  [179, 181, 183, 185, 187, 189],
  [204, 206, 208, 210, 212, 214],
  [228, 230, 232, 234],
  [244],
  [263, 265, 267, 269, 271, 273, 275, 277],
  [295, 297, 299, 301, 303, 305, 307],
  [324, 326, 328, 330],
  [349, 351, 353, 355],
  [1112, 1114, 1116, 1118, 1120, 1122, 1124, 1126, 1128, 1130, 1132, 1134, 1136, 1138, 1140, 1142, 1144, 1146, 1148, 1150, 1152, 1154, 1156, 1158, 1160, 1162, 1164, 1166, 1168, 1170, 1172, 1174, 1176, 1178, 1180, 1182, 1184, 1186]]
def zc_T (fs : List (String × String × String × Bool)) : u_T := fun k => fs.getD k ("", "", "", false)
def zc : List vw_C := zc_L.map (fun q => (q.1, zc_T q.2, q.2.length))
noncomputable def zc_ok (ci : Nat) : Bool := match zc[ci]? with
  | some q => (List.range q.2.2).all (fun k => zx_q ((zc_P.getD ci []).getD k 0) (u_lay q.1 q.2.1 k))
  | none => true
theorem zc_ok_all : (List.range 12).all zc_ok = true := by decide +kernel
theorem zc_len : zc.length = 12 := by decide +kernel
theorem zc_lt {ci : Nat} {q : vw_C} (h : zc[ci]? = some q) : ci < 12 := by
  have := (List.getElem?_eq_some_iff.mp h).1
  rw [zc_len] at this
  exact this
theorem zc_in {ci : Nat} {q : vw_C} (h : zc[ci]? = some q) : ∀ w ∈ u_ws q.1 q.2.1 q.2.2, w ∈ zx_tbl := by
  intro w hw
  obtain ⟨k, hk, rfl⟩ := List.mem_map.mp hw
  have h1 := List.all_eq_true.mp zc_ok_all ci (List.mem_range.mpr (zc_lt h))
  unfold zc_ok at h1
  rw [h] at h1
  exact zx_of (List.all_eq_true.mp h1 k hk)
def zc_ty (q : vw_C) (k : Nat) : FieldType := (parseFieldDescriptor (q.2.1 k).2.2.1).getD .int
theorem zc_tyB : (List.range 12).all (fun ci => match zc[ci]? with
  | some q => (List.range q.2.2).all (fun k => (parseFieldDescriptor (q.2.1 k).2.2.1).isSome)
  | none => true) = true := by decide +kernel
theorem zc_tyOk {ci : Nat} {q : vw_C} (h : zc[ci]? = some q) : ∀ k, k < q.2.2 → parseFieldDescriptor (q.2.1 k).2.2.1 = some (zc_ty q k) := by
  intro k hk
  have h1 := List.all_eq_true.mp zc_tyB ci (List.mem_range.mpr (zc_lt h))
  rw [h] at h1
  have h2 := List.all_eq_true.mp h1 k (List.mem_range.mpr hk)
  obtain ⟨t, ht⟩ := Option.isSome_iff_exists.mp h2
  rw [ht]
  simp [zc_ty, ht]
theorem zc_nmB : (List.range 12).all (fun ci => match zc[ci]? with
  | some q => (List.range q.2.2).all (fun a => (List.range q.2.2).all (fun b => a == b || decide ((q.2.1 a).2.1 ≠ (q.2.1 b).2.1)))
  | none => true) = true := by decide +kernel
theorem zc_nm {ci : Nat} {q : vw_C} (h : zc[ci]? = some q) : ∀ a, a < q.2.2 → ∀ b, b < q.2.2 → a ≠ b → (q.2.1 a).2.1 ≠ (q.2.1 b).2.1 := by
  intro a ha b hb hab
  have h1 := List.all_eq_true.mp zc_nmB ci (List.mem_range.mpr (zc_lt h))
  rw [h] at h1
  have h2 := List.all_eq_true.mp (List.all_eq_true.mp h1 a (List.mem_range.mpr ha)) b (List.mem_range.mpr hb)
  simp only [Bool.or_eq_true, beq_iff_eq, decide_eq_true_eq] at h2
  rcases h2 with h2 | h2
  · exact absurd h2 hab
  · exact h2
/-- what a machine start gives: (z, the tables' cells, the script's cell), the classes' numbers, the array classes' numbers -/
abbrev zx_K : Type := (Nat × Nat × Nat × Nat) × va_G × (Nat → ClassId)
def zk_z (K : zx_K) : Nat := K.1.1
def zk_o (K : zx_K) : Nat := K.1.2.1
def zk_a (K : zx_K) : Nat := K.1.2.2.1
def zk_b (K : zx_K) : Nat := K.1.2.2.2
def zk_D (K : zx_K) : va_G := K.2.1
def zk_c (K : zx_K) : Nat → ClassId := K.2.2
def zk_A (K : zx_K) : Nat → Prop := fun q => zk_z K ≤ q
/-- the script: how many ints, which -/
abbrev zx_X : Type := Nat × (Nat → Int32)
def z_ad (K : zx_K) : Nat → Nat
  | 0 => zk_o K
  | 1 => zk_a K
  | 2 => zk_b K
  | j + 3 => zk_z K + j
def z_em (K : zx_K) : Value → Value
  | .ref i => .ref (z_ad K i)
  | v => v
theorem z_emc (K : zx_K) (v : Value) : (z_em K v).category = v.category := by cases v <;> rfl
abbrev z_S : Type := (Nat → Int32) ⊕ (Nat → Int64) ⊕ (Nat → UInt32) ⊕ (Nat → UInt64) ⊕ (Nat → Option Nat)
def z_ax (K : zx_K) : z_S → z_S
  | .inl f => .inl f
  | .inr (.inl f) => .inr (.inl f)
  | .inr (.inr (.inl f)) => .inr (.inr (.inl f))
  | .inr (.inr (.inr (.inl f))) => .inr (.inr (.inr (.inl f)))
  | .inr (.inr (.inr (.inr f))) => .inr (.inr (.inr (.inr (fun j => (f j).map (z_ad K)))))
/-- a pure cell: an array (its class by number, its length, what it holds), or an object (its class by number, its fields) -/
abbrev z_C : Type := (Nat × Nat × z_S) ⊕ (Nat × List Value)
def z_ce (K : zx_K) : z_C → va_E
  | .inl q => .inl (zk_c K q.1, q.2.1, z_ax K q.2.2)
  | .inr q => .inr (q.1, q.2.map (z_em K))
def z_ws (K : zx_K) (ph : List z_C) : va_W := ph.mapIdx (fun i c => (zk_z K + i, z_ce K c))
theorem z_ws_get {K : zx_K} {ph : List z_C} {i : Nat} {c : z_C} (h : ph[i]? = some c) : (z_ws K ph)[i]? = some (zk_z K + i, z_ce K c) := by
  simp [z_ws, List.getElem?_mapIdx, h]
theorem z_ws_inv {K : zx_K} {ph : List z_C} {i : Nat} {q : Nat × va_E} (h : (z_ws K ph)[i]? = some q) : ∃ c, ph[i]? = some c ∧ q = (zk_z K + i, z_ce K c) := by
  simp only [z_ws, List.getElem?_mapIdx, Option.map_eq_some_iff] at h
  obtain ⟨c, h1, h2⟩ := h
  exact ⟨c, h1, h2.symm⟩
theorem z_ws_set (K : zx_K) (ph : List z_C) (i : Nat) (c : z_C) : (z_ws K ph).set i (zk_z K + i, z_ce K c) = z_ws K (ph.set i c) := by
  apply List.ext_getElem?
  intro j
  simp only [z_ws, List.getElem?_mapIdx, List.getElem?_set, List.length_mapIdx]
  by_cases hij : i = j
  · subst hij
    by_cases hl : i < ph.length
    · simp [hl]
    · simp [hl]
  · simp [hij]
theorem z_ws_push (K : zx_K) (ph : List z_C) (c : z_C) : z_ws K (ph ++ [c]) = z_ws K ph ++ [(zk_z K + ph.length, z_ce K c)] := by
  simp [z_ws, List.mapIdx_append]
theorem z_wsD (K : zx_K) (ph : List z_C) : va_D (zk_A K) (z_ws K ph) := by
  refine ⟨fun i j p q hi hj h => ?_, fun k q hk => ?_⟩
  · obtain ⟨c1, -, rfl⟩ := z_ws_inv hi
    obtain ⟨c2, -, rfl⟩ := z_ws_inv hj
    have h' : zk_z K + i = zk_z K + j := h
    omega
  · obtain ⟨c1, -, rfl⟩ := z_ws_inv hk
    exact Nat.le_add_right _ _
def zs_own : List Int32 := [1, 10, 11, 2, 20, 0, 0, 0, 0, 30, 0, 0, 0, 41, 40, 0, 0, 0, 50, 0, 0, 0, 0, 60, 70, 0, 0, 0, 0, 80, 0, 81]
def zs_abv : List Int32 := [-1, 0, 0, 2, 1, 3, 0, 4]
def zs_B : String := "NineOpinions$Bodies"
def zs_S : String := "NineOpinions$Shelf"
/-- links to a nest mate's private methods -/
def zn_L : List (String × Nat × MethodName × String) := [("NineOpinions", 9, ⟨"NineOpinions$Town", "<init>", "()V"⟩, "NineOpinions"),
  ("NineOpinions", 18, ⟨"NineOpinions$Law", "<init>", "()V"⟩, "NineOpinions"),
  ("NineOpinions", 25, ⟨"NineOpinions$Tape", "<init>", "()V"⟩, "NineOpinions"),
  ("NineOpinions", 73, ⟨"NineOpinions$Bodies", "<init>", "()V"⟩, "NineOpinions"),
  ("NineOpinions", 84, ⟨"NineOpinions$Shelf", "<init>", "()V"⟩, "NineOpinions"),
  ("NineOpinions$Town", 48, ⟨"NineOpinions", "isLine", "(I)Z"⟩, "NineOpinions"),
  ("NineOpinions$Thought", 47, ⟨"NineOpinions", "viewsOn", "(II)I"⟩, "NineOpinions"),
  ("NineOpinions$Thought", 59, ⟨"NineOpinions", "bit", "(II)I"⟩, "NineOpinions"),
  ("NineOpinions$Thought", 75, ⟨"NineOpinions", "viewIn", "(II)I"⟩, "NineOpinions"),
  ("NineOpinions$Town", 31, ⟨"NineOpinions", "bit", "(II)I"⟩, "NineOpinions"),
  ("NineOpinions$Town", 45, ⟨"NineOpinions", "viewIn", "(II)I"⟩, "NineOpinions"),
  ("NineOpinions$Votes", 33, ⟨"NineOpinions", "bit", "(II)I"⟩, "NineOpinions"),
  ("NineOpinions$Votes", 25, ⟨"NineOpinions", "viewIn", "(II)I"⟩, "NineOpinions"),
  ("NineOpinions$Turns", 54, ⟨"NineOpinions", "bit", "(II)I"⟩, "NineOpinions"),
  ("NineOpinions$Book", 19, ⟨"NineOpinions", "isLine", "(I)Z"⟩, "NineOpinions"),
  ("NineOpinions$Book", 37, ⟨"NineOpinions", "viewIn", "(II)I"⟩, "NineOpinions")]
def zNst (U : State) : Prop := ∀ q ∈ zn_L, va_Nw (.methodLinkNest q.1 q.2.1 q.2.2.1 q.2.2.2) U
/-- what is there before the law begins, and stays: the tables, the script -/
def z_St (K : zx_K) (X : zx_X) (U : State) (H : Heap) : Prop :=
  va_Z zs_B "OWN" "[I" (.ref (zk_o K)) (zk_A K) U H ∧ va_Z zs_B "ABOVE" "[I" (.ref (zk_a K)) (zk_A K) U H ∧
  va_T .int (zk_o K) 32 (fun j => .int (zs_own.getD j 0)) (zk_A K) U H ∧ va_T .int (zk_a K) 8 (fun j => .int (zs_abv.getD j 0)) (zk_A K) U H ∧
  va_X (zk_b K) X.1 X.2 U H ∧ zk_b K < zk_z K ∧ va_AO zs_S U ∧ zNst U
theorem z_St.moved {K : zx_K} {X : zx_X} {u U : State} {H : Heap} (hvm : u.vm.Alike U.vm) (hn : zNst u → zNst U) (h : z_St K X u H) : z_St K X U H := by
  obtain ⟨h1, h2, h3, h4, h5, h6, h7, h8⟩ := h
  exact ⟨h1.moved hvm, h2.moved hvm, h3.moved hvm, h4.moved hvm, h5.moved hvm, h6, h7.moved hvm, hn h8⟩
theorem z_St.kept {K : zx_K} {X : zx_X} {U : State} {H H1 : Heap} (h : z_St K X U H) (hz : zk_z K ≤ H.size) (hq : ∀ a : Nat, a < H.size → ¬ zk_A K a → H1[a]? = H[a]?) : z_St K X U H1 := by
  obtain ⟨h1, h2, h3, h4, h5, h6, h7⟩ := h
  exact ⟨h1.kept hq, h2.kept hq, h3.kept hq, h4.kept hq, h5.kept (hq _ (Nat.lt_of_lt_of_le h6 hz) (Nat.not_le.mpr h6)), h6, h7⟩
def z_tys (K : zx_K) : List (ClassId × FieldType) := [(zk_c K 0, .int), (zk_c K 1, .long), (zk_c K 2, .object zs_S)]
/-- the heap H is the pure one; since s.heap nothing old has changed; so many cells were made since -/
def zWo (K : zx_K) (s : State) (H : Heap) (locs : List Loc) (ph : List z_C) (cells : Nat) : Prop :=
  s.heap.size + cells = zk_z K + ph.length ∧ va_P (zk_D K) zc (z_ws K ph) H ∧ va_S (zk_A K) s.heap H locs
theorem z_size {p : Program} {l : Launch} {e : Env} {R : Room} {s : State} {m : MethodId} {args : Array Value} {below : List Frame} {meth : Method} {c : Code} {T : State} {locs : List Loc} {cells slots : Nat} {K : zx_K} {ph : List z_C}
    (X : Stand p l e R s m args below meth c T locs cells slots) (hz : zk_z K ≤ s.heap.size) (w : zWo K s T.heap locs ph cells) : T.heap.size = zk_z K + ph.length := by
  obtain ⟨h1, h2, h3⟩ := w
  have hu : T.heap.size ≤ s.heap.size + cells := X.same.2.2.1
  have hl : zk_z K + ph.length ≤ T.heap.size := by
    by_cases h0 : ph.length = 0
    · have := h3.1
      omega
    · have hlt : ph.length - 1 < ph.length := by omega
      obtain ⟨c0, hc0⟩ : ∃ c0, ph[ph.length - 1]? = some c0 := ⟨_, List.getElem?_eq_getElem hlt⟩
      have := (h2 _ _ (z_ws_get (K := K) hc0)).lt
      have h4 : zk_z K + (ph.length - 1) < T.heap.size := this
      omega
  omega
