/-! part 62: the reference: amplifiers, cases -/
/-- the numbers Z hold the parts ps -/
def ZPs (Z : Nat → Int) (ps : List Part) : Prop := Z 48 = ps.length ∧ ps.length ≤ 12 ∧ (∀ i, i < ps.length → ps[i]? = some (Z (4 * i), Z (4 * i + 1), Z (4 * i + 2), Z (4 * i + 3))) ∧ ∀ p ∈ ps, PW p
theorem ZPs.is {Z : Nat → Int} {ps : List Part} (h : ZPs Z ps) {i : Nat} {p : Part} (hp : ps[i]? = some p) (k : Int) : isZ Z i k = (if p.1 = k then 1 else 0) ∧ R3 (Z (4 * (i : Int)).toNat) := by
  have hi := (List.getElem?_eq_some_iff.mp hp).1
  have hpe := Option.some.inj ((h.2.2.1 i hi).symm.trans hp)
  have hb := (h.2.2.2 p (List.mem_of_getElem? hp)).b
  have e : (4 * (i : Int)).toNat = 4 * i := by omega
  have ek : Z (4 * i) = p.1 := by rw [← hpe]
  unfold isZ
  rw [e, ek]
  exact ⟨rfl, R3_s (by omega)⟩
