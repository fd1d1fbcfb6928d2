/-- the end that is wanted: 0, and the heap as it was -/
def zom_Q (Q : Option Value → List z_C → Prop) : Prop := ∀ ph', zL2 (zg_C [] []) zHW ph' → Q (some (.int 0)) ph'
/-- the place is 0 in f -/
def zom_P (f : Nat → Int32) (ρ : List Int) : Prop := ∃ n : Int, ρ[12]? = some n ∧ f n.toNat = 0
theorem zom_Pup (f : Nat → Int32) : ∀ ρ ρ' : List Int, zLE ρ ρ' → zom_P f ρ → zom_P f ρ' := fun _ _ h ⟨n, h1, h2⟩ => ⟨n, h _ _ h1, h2⟩
theorem zg_R0 {ρ : List Int} {v : Option Value} (g : zg_R ρ (some (0, 0)) v) : v = some (.int 0) := by
  cases v with
  | none => exact g.elim
  | some u =>
    obtain ⟨x, rfl, ex⟩ := zg_int (a := (0, 0)) rfl g
    have hx : x.toInt = 0 := by rcases ex with ⟨-, e⟩ | ⟨e, -⟩; exact e; exact absurd e (by decide)
    rw [Int32.toInt_inj.mp (show x.toInt = (0 : Int32).toInt from hx)]
