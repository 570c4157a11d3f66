/-! part 80: the reference: input, fault, reason -/
def KpI (I I' : Nat → Int) : Prop := ∀ k, k ≠ 9 → k ≠ 12 → k ≠ 15 → I' k = I k
def KpF (F F' : Nat → Nat → Int) : Prop := ∀ j, j ≤ 5 ∨ j = 10 → F' j = F j
theorem KpI.tr {I I' I'' : Nat → Int} (a : KpI I I') (b : KpI I' I'') : KpI I I'' := fun k h1 h2 h3 => (b k h1 h2 h3).trans (a k h1 h2 h3)
theorem KpF.tr {F F' F'' : Nat → Nat → Int} (a : KpF F F') (b : KpF F' F'') : KpF F F'' := fun j h => (b j h).trans (a j h)
theorem KpF.rf {F : Nat → Nat → Int} : KpF F F := fun _ _ => rfl
theorem KpI.rf {I : Nat → Int} : KpI I I := fun _ _ _ _ => rfl
theorem sv_diff {ps : List Part} {m : Nat} {γ : Nat → Int} {den : Int} {V : Nat → Int} (hs : 0 < solD ps m) (h : SvQ ps m γ den V) {p q : Nat} (hp : p < 7) (hq : q < 7) : (0 < V p - V q ↔ numer ps m γ q < numer ps m γ p) ∧ (V p - V q < 0 ↔ numer ps m γ p < numer ps m γ q) ∧ R6 (V p - V q) := by
  have e : solD ps m * (V p - V q) = den * (numer ps m γ p - numer ps m γ q) := by
    rw [Int.mul_sub, Int.mul_sub, h.2.2 p hp, h.2.2 q hq]
  have := sgn_eq hs h.1.1 e
  have b1 := h.2.1 p hp
  have b2 := h.2.1 q hq
  refine ⟨by rw [this.1]; omega, by rw [this.2]; omega, ?_⟩
  exact ⟨by have := b1.1; have := b2.2; omega, by have := b1.2; have := b2.1; omega⟩
def KpR (I I' : Nat → Int) : Prop := ∀ k, k ≠ 9 → k ≠ 12 → k ≠ 15 → k ≠ 16 → I' k = I k
