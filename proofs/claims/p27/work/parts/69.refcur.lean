/-! part 69: the reference: currents -/
def othN (p : Part) (k : Int) : Int := if p.2.1 = k then p.2.2.1 else p.2.1
def kclS (k : Nat) (ρ : Nat → Int) (p : Part) : Nat → Int := if p.1 = 0 ∧ atB p k = true then fun q => (-p.2.2.2) * lb_d (some (othN p k).toNat) q + (fun q => p.2.2.2 * lb_d (some k) q + ρ q) q else ρ
/-- the sum of the currents at a node, as a row -/
def kclR (ps : List Part) (k : Nat) : Nat → Int := ps.foldl (kclS k) (fun _ => 0)
theorem kclR_s {ps : List Part} {i k : Nat} {p : Part} (h : ps[i]? = some p) : kclR (ps.take (i + 1)) k = kclS k (kclR (ps.take i) k) p := by
  unfold kclR
  rw [take_s h, List.foldl_append]
  rfl
theorem oth_src {ps : List Part} {i : Nat} {p : Part} {k o : Nat} (hp : ps[i]? = some p) (ha : atB p o = true) : o = 0 ∨ frF ps o = true ∨ srcI ps o ≠ -1 := by
  by_cases c : o = 0
  · exact Or.inl c
  · by_cases d : srcI ps o = -1
    · right
      left
      show freeB ps o = true
      unfold freeB
      rw [decide_eq_true (by omega), decide_eq_true d, List.any_eq_true.mpr ⟨p, List.mem_of_getElem? hp, ha⟩]
      rfl
    · exact Or.inr (Or.inr d)
