/-! PART 46.3: the journals of changes. Made by wip/v4/gen_mend.py. -/
/-- where a new change is written, and how far the others move -/
def zju (u : Int32) : Nat := if u.toInt = 40 then 39 else u.toNatClampNeg
def zjs (u : Int32) : Nat := if u.toInt = 40 then 1 else 0
/-- the class's journal with one change more -/
def zJC (w n b a : Int32) (s t : zy_S) : Prop := t.2 = s.2 ∧ (∀ c k, c ≠ 22 → c ≠ 23 → c ≠ 24 → c ≠ 25 → c ≠ 26 → t.1 c k = s.1 c k) ∧ (∀ k, k < 5 → t.1 22 k = s.1 22 k) ∧
  (t.1 22 5).toInt = zju (s.1 22 5) + 1 ∧ (t.1 22 6).toInt = zju (s.1 22 5) + 1 ∧
  ∀ p, p ≤ zju (s.1 22 5) → (t.1 23 p = if p = zju (s.1 22 5) then w else s.1 23 (p + zjs (s.1 22 5))) ∧ (t.1 24 p = if p = zju (s.1 22 5) then n else s.1 24 (p + zjs (s.1 22 5))) ∧
    (t.1 25 p = if p = zju (s.1 22 5) then b else s.1 25 (p + zjs (s.1 22 5))) ∧ (t.1 26 p = if p = zju (s.1 22 5) then a else s.1 26 (p + zjs (s.1 22 5)))
theorem zys29_13 (w n b a : Int32) {s : zy_S} {u : Nat} (h : (s.1 22 5).toInt = (u : Int)) (hu : u < 40) : ∃ t, zyF29_13 w n b a s = some (0, t) ∧ t.2 = s.2 ∧ (∀ c k, c ≠ 22 → c ≠ 23 → c ≠ 24 → c ≠ 25 → c ≠ 26 → t.1 c k = s.1 c k) ∧ (∀ k, k < 5 → t.1 22 k = s.1 22 k) ∧
    (t.1 22 5).toInt = u + 1 ∧ (t.1 22 6).toInt = u + 1 ∧ ∀ p, (t.1 23 p = if p = u then w else s.1 23 p) ∧ (t.1 24 p = if p = u then n else s.1 24 p) ∧ (t.1 25 p = if p = u then b else s.1 25 p) ∧ (t.1 26 p = if p = u then a else s.1 26 p) := by
  have hin : zy_in (s.1 22 5) 40 = true := zq_in.mpr ⟨by omega, by omega⟩
  have eu : (s.1 22 5).toNatClampNeg = u := by rw [zq_ix]; omega
  have en : (s.1 22 5 + 1).toInt = u + 1 := by rw [zq_add (by rw [zq_l1]; omega) (by rw [zq_l1]; omega), zq_l1, h]
  unfold zyF29_13
  rw [if_pos hin, if_pos hin, if_pos hin, if_pos hin, eu]
  refine ⟨_, rfl, rfl, ?_, ?_, ?_, ?_, ?_⟩
  · intro c k a1 a2 a3 a4 a5
    rw [zf_up a1, zf_up a1, zf_up a5, zf_up a4, zf_up a3, zf_up a2]
  · intro k hk
    rw [zf_upk (by omega), zf_upk (by omega), zf_up (by decide), zf_up (by decide), zf_up (by decide), zf_up (by decide)]
  · rw [zf_upk (by decide), zf_upe]; exact en
  · rw [zf_upe]; exact en
  · intro p
    refine ⟨?_, ?_, ?_, ?_⟩ <;> simp [zy_up_at, zy_ua_at]
theorem zys29 (w n b a : Int32) {s : zy_S} (h0 : 0 ≤ (s.1 22 5).toInt) (h1 : (s.1 22 5).toInt ≤ 40) : ∃ t, zyF29 w n b a s = some (0, t) ∧ zJC w n b a s t := by
  unfold zyF29
  by_cases hu : (s.1 22 5).toInt = 40
  · have hz : zju (s.1 22 5) = 39 ∧ zjs (s.1 22 5) = 1 := ⟨if_pos hu, if_pos hu⟩
    rw [if_neg (by rw [Int32.lt_iff_toInt_lt, zq_l40]; omega)]
    unfold zyF30
    rw [zq_bind]
    obtain ⟨t, g0, g1, g2, g3, g4, g5, g6⟩ := zys29_13 w n b a (s := zy_up (zy_ua (zy_ua (zy_ua (zy_ua s 23 (va_cpy (s.1 23) (s.1 23) 1 0 39)) 24 (va_cpy (s.1 24) (s.1 24) 1 0 39)) 25 (va_cpy (s.1 25) (s.1 25) 1 0 39)) 26 (va_cpy (s.1 26) (s.1 26) 1 0 39)) 22 5 39) (u := 39) (by rw [zf_upe]; rfl) (by decide)
    refine ⟨t, g0, g1, ?_, ?_, ?_, ?_, ?_⟩
    · intro c k a1 a2 a3 a4 a5
      rw [g2 c k a1 a2 a3 a4 a5, zf_up a1, zy_ua_at, if_neg a5, zy_ua_at, if_neg a4, zy_ua_at, if_neg a3, zy_ua_at, if_neg a2]
    · intro k hk
      rw [g3 k hk, zf_upk (by omega)]
      rfl
    · rw [g4, hz.1]
    · rw [g5, hz.1]
    · intro p hp
      rw [hz.1] at hp ⊢
      rw [hz.2]
      obtain ⟨q1, q2, q3, q4⟩ := g6 p
      rw [q1, q2, q3, q4]
      refine ⟨?_, ?_, ?_, ?_⟩
      all_goals
        by_cases e : p = 39
        · rw [if_pos e, if_pos e]
        · rw [if_neg e, if_neg e]
          simp [zy_up_at, zy_ua_at]
          unfold va_cpy
          rw [if_pos (by omega), show 1 + (p - 0) = p + 1 by omega]
  · have hz : zju (s.1 22 5) = (s.1 22 5).toNatClampNeg ∧ zjs (s.1 22 5) = 0 := ⟨if_neg hu, if_neg hu⟩
    rw [if_pos (by rw [Int32.lt_iff_toInt_lt, zq_l40]; omega)]
    have eu : (s.1 22 5).toInt = ((s.1 22 5).toNatClampNeg : Int) := by rw [zq_ix]; omega
    obtain ⟨t, g0, g1, g2, g3, g4, g5, g6⟩ := zys29_13 w n b a (s := s) eu (by omega)
    refine ⟨t, g0, g1, g2, g3, by rw [g4, hz.1], by rw [g5, hz.1], ?_⟩
    intro p _
    rw [hz.1, hz.2]
    exact g6 p
/-- the model's journal and the place with one change more -/
def zJM (q v old : Int32) (s t : zy_S) : Prop := t.2 = s.2 ∧ (∀ c k, c ≠ 43 → c ≠ 44 → c ≠ 45 → c ≠ 46 → c ≠ 47 → t.1 c k = s.1 c k) ∧ (∀ k, k ≠ 4 → k ≠ 5 → t.1 43 k = s.1 43 k) ∧ (∀ k, t.1 44 k = if k = q.toNatClampNeg then v else s.1 44 k) ∧
  (t.1 43 5).toInt = zju (s.1 43 5) + 1 ∧ (t.1 43 4).toInt = zju (s.1 43 5) + 1 ∧
  ∀ p, p ≤ zju (s.1 43 5) → (t.1 45 p = if p = zju (s.1 43 5) then q else s.1 45 (p + zjs (s.1 43 5))) ∧ (t.1 46 p = if p = zju (s.1 43 5) then old else s.1 46 (p + zjs (s.1 43 5))) ∧
    (t.1 47 p = if p = zju (s.1 43 5) then v else s.1 47 (p + zjs (s.1 43 5)))
theorem zys187_97 (q v old : Int32) {s : zy_S} {u : Nat} (h : (s.1 43 5).toInt = (u : Int)) (hu : u < 40) (hq : zy_in q 41 = true) : ∃ t, zyF187_97 q v old s = some (old, t) ∧ t.2 = s.2 ∧ (∀ c k, c ≠ 43 → c ≠ 44 → c ≠ 45 → c ≠ 46 → c ≠ 47 → t.1 c k = s.1 c k) ∧ (∀ k, k ≠ 4 → k ≠ 5 → t.1 43 k = s.1 43 k) ∧ (∀ k, t.1 44 k = if k = q.toNatClampNeg then v else s.1 44 k) ∧
    (t.1 43 5).toInt = u + 1 ∧ (t.1 43 4).toInt = u + 1 ∧ ∀ p, (t.1 45 p = if p = u then q else s.1 45 p) ∧ (t.1 46 p = if p = u then old else s.1 46 p) ∧ (t.1 47 p = if p = u then v else s.1 47 p) := by
  have hin : zy_in (s.1 43 5) 40 = true := zq_in.mpr ⟨by omega, by omega⟩
  have eu : (s.1 43 5).toNatClampNeg = u := by rw [zq_ix]; omega
  have en : (s.1 43 5 + 1).toInt = u + 1 := by rw [zq_add (by rw [zq_l1]; omega) (by rw [zq_l1]; omega), zq_l1, h]
  unfold zyF187_97
  rw [if_pos hin, if_pos hin, if_pos hin, if_pos hq, eu]
  refine ⟨_, rfl, rfl, ?_, ?_, ?_, ?_, ?_, ?_⟩
  · intro c k a1 a2 a3 a4 a5
    rw [zf_up a2, zf_up a1, zf_up a1, zf_up a5, zf_up a4, zf_up a3]
  · intro k a1 a2
    rw [zf_up (by decide), zf_upk a1, zf_upk a2, zf_up (by decide), zf_up (by decide), zf_up (by decide)]
  · intro k
    simp [zy_up_at, zy_ua_at]
  · rw [zf_up (by decide), zf_upk (by decide), zf_upe]; exact en
  · rw [zf_up (by decide), zf_upe]; exact en
  · intro p
    refine ⟨?_, ?_, ?_⟩ <;> simp [zy_up_at, zy_ua_at]
theorem zl_187 (q v old : Int32) : ∀ (n k : Nat) (i : Int32) (s : zy_S), 1 ≤ k → k ≤ 40 → 40 - k < n → i.toInt = (k : Int) →
    ∃ t, zyF187_26 n q v old i s = zyF187_97 q v old (zy_up t 43 5 (t.1 43 5 - 1)) ∧ t.2 = s.2 ∧ (∀ c b, c ≠ 45 → c ≠ 46 → c ≠ 47 → t.1 c b = s.1 c b) ∧ ∀ c, c = 45 ∨ c = 46 ∨ c = 47 → ∀ p, t.1 c p = if k ≤ p + 1 ∧ p < 39 then s.1 c (p + 1) else s.1 c p
  | 0, k, i, s, h0, hk, hn, hi => by omega
  | n + 1, k, i, s, h0, hk, hn, hi => by
    show ∃ t, zyF187_26b (zyF187_26 n) q v old i s = zyF187_97 q v old (zy_up t 43 5 (t.1 43 5 - 1)) ∧ _
    unfold zyF187_26b
    by_cases h : k = 40
    · rw [if_pos (by rw [Int32.le_iff_toInt_le, zq_l40]; omega)]
      refine ⟨s, rfl, rfl, fun _ _ _ _ _ => rfl, fun c _ p => ?_⟩
      rw [if_neg (by omega)]
    · have hin : zy_in i 40 = true := zq_in.mpr ⟨by omega, by omega⟩
      have em : (i - 1).toInt = (k : Int) - 1 := by rw [zq_sub (by rw [zq_l1]; omega) (by rw [zq_l1]; omega), zq_l1, hi]
      have hin1 : zy_in (i - 1) 40 = true := zq_in.mpr ⟨by omega, by omega⟩
      have ei : i.toNatClampNeg = k := by rw [zq_ix]; omega
      have ei1 : (i - 1).toNatClampNeg = k - 1 := by rw [zq_ix]; omega
      rw [if_neg (by rw [Int32.le_iff_toInt_le, zq_l40]; omega), if_pos hin, if_pos hin1, if_pos hin, if_pos hin1, if_pos hin, if_pos hin1, ei, ei1]
      obtain ⟨t, q1, q2, q3, q4⟩ := zl_187 q v old n (k + 1) (i + 1) (zy_up (zy_up (zy_up s 45 (k - 1) (s.1 45 k)) 46 (k - 1) (s.1 46 k)) 47 (k - 1) (s.1 47 k)) (by omega) (by omega) (by omega) (by rw [zq_add (by rw [zq_l1]; omega) (by rw [zq_l1]; omega), zq_l1, hi]; omega)
      refine ⟨t, q1, q2, fun c b a1 a2 a3 => by rw [q3 c b a1 a2 a3, zf_up a3, zf_up a2, zf_up a1], fun c hc p => ?_⟩
      rw [q4 c hc p]
      have e : ∀ b, (zy_up (zy_up (zy_up s 45 (k - 1) (s.1 45 k)) 46 (k - 1) (s.1 46 k)) 47 (k - 1) (s.1 47 k)).1 c b = if b = k - 1 then s.1 c k else s.1 c b := by
        intro b
        rcases hc with rfl | rfl | rfl <;> simp [zy_up_at, zy_ua_at]
      rw [e, e]
      by_cases h1 : k + 1 ≤ p + 1 ∧ p < 39
      · rw [if_pos h1, if_neg (by omega), if_pos (by omega)]
      · rw [if_neg h1]
        by_cases h2 : p = k - 1
        · rw [if_pos h2, if_pos (by omega), show p + 1 = k by omega]
        · rw [if_neg h2, if_neg (by omega)]
theorem zys187 (q v : Int32) {s : zy_S} (h0 : 0 ≤ (s.1 43 5).toInt) (h1 : (s.1 43 5).toInt ≤ 40) (hq : zy_in q 41 = true) (hv : s.1 44 q.toNatClampNeg ≠ v) : ∃ t, zyF187 q v s = some (s.1 44 q.toNatClampNeg, t) ∧ zJM q v (s.1 44 q.toNatClampNeg) s t := by
  unfold zyF187
  rw [if_pos hq, if_pos hv]
  by_cases hu : (s.1 43 5).toInt = 40
  · have hz : zju (s.1 43 5) = 39 ∧ zjs (s.1 43 5) = 1 := ⟨if_pos hu, if_pos hu⟩
    rw [if_neg (show ¬ (s.1 43 5 ≠ 40) from fun g => g (zq_ext (by rw [zq_l40]; exact hu)))]
    obtain ⟨t0, q1, q2, q3, q4⟩ := zl_187 q v (s.1 44 q.toNatClampNeg) zy_fu 1 1 s (by decide) (by decide) (by unfold zy_fu; omega) rfl
    have e5 : t0.1 43 5 = s.1 43 5 := q3 43 5 (by decide) (by decide) (by decide)
    have em : (s.1 43 5 - 1).toInt = 39 := by rw [zq_sub (by rw [zq_l1]; omega) (by rw [zq_l1]; omega), zq_l1, hu]; rfl
    obtain ⟨t, g0, g1, g2, g3, g4, g5, g6, g7⟩ := zys187_97 q v (s.1 44 q.toNatClampNeg) (s := zy_up t0 43 5 (t0.1 43 5 - 1)) (u := 39) (by rw [zf_upe, e5, em]; rfl) (by decide) hq
    refine ⟨t, q1.trans g0, g1.trans q2, ?_, ?_, ?_, ?_, ?_, ?_⟩
    · intro c k a1 a2 a3 a4 a5
      rw [g2 c k a1 a2 a3 a4 a5, zf_up a1, q3 c k a3 a4 a5]
    · intro k a1 a2
      rw [g3 k a1 a2, zf_upk a2, q3 43 k (by decide) (by decide) (by decide)]
    · intro k
      rw [g4 k, zf_up (by decide), q3 44 k (by decide) (by decide) (by decide)]
    · rw [g5, hz.1]
    · rw [g6, hz.1]
    · intro p hp
      rw [hz.1] at hp ⊢
      rw [hz.2]
      obtain ⟨b1, b2, b3⟩ := g7 p
      rw [b1, b2, b3, zf_up (by decide), zf_up (by decide), zf_up (by decide), q4 45 (Or.inl rfl), q4 46 (Or.inr (Or.inl rfl)), q4 47 (Or.inr (Or.inr rfl))]
      refine ⟨?_, ?_, ?_⟩
      all_goals
        by_cases e : p = 39
        · rw [if_pos e, if_pos e]
        · rw [if_neg e, if_neg e, if_pos (by omega)]
  · have hz : zju (s.1 43 5) = (s.1 43 5).toNatClampNeg ∧ zjs (s.1 43 5) = 0 := ⟨if_neg hu, if_neg hu⟩
    rw [if_pos (show s.1 43 5 ≠ 40 from fun g => hu (by rw [g]; rfl))]
    have eu : (s.1 43 5).toInt = ((s.1 43 5).toNatClampNeg : Int) := by rw [zq_ix]; omega
    obtain ⟨t, g0, g1, g2, g3, g4, g5, g6, g7⟩ := zys187_97 q v (s.1 44 q.toNatClampNeg) (s := s) eu (by omega) hq
    refine ⟨t, g0, g1, g2, g3, g4, by rw [g5, hz.1], by rw [g6, hz.1], ?_⟩
    intro p _
    rw [hz.1, hz.2]
    exact g7 p
theorem zys187_s (q v : Int32) {s : zy_S} (hq : zy_in q 41 = true) (hv : s.1 44 q.toNatClampNeg = v) : zyF187 q v s = some (v, s) := by
  unfold zyF187
  rw [if_pos hq, if_neg (show ¬ (s.1 44 q.toNatClampNeg ≠ v) from fun g => g hv), hv]
