/-! part 66: the reference: sourceAt, isFree, partOf -/
def pAt (ps : List Part) (x : Int) : Part := ps.getD x.toNat (0, 0, 0, 0)
theorem pAt_some {ps : List Part} {x : Int} (h : 0 ≤ x ∧ x < ps.length) : ps[x.toNat]? = some (pAt ps x) := by
  have : x.toNat < ps.length := by omega
  unfold pAt
  rw [List.getD_eq_getElem?_getD, List.getElem?_eq_getElem this]
  rfl
theorem pAt_of {ps : List Part} {i : Nat} {p : Part} (h : ps[i]? = some p) : pAt ps i = p := by
  unfold pAt
  rw [List.getD_eq_getElem?_getD, show (i : Int).toNat = i by omega, h]
  rfl
theorem isZ_0 {Z : Nat → Int} {x k : Int} : isZ Z x k = 0 ↔ ¬ Z (4 * x).toNat = k := by
  unfold isZ
  split <;> simp_all
theorem isZ_1 {Z : Nat → Int} {x k : Int} : ¬ isZ Z x k = 0 ↔ Z (4 * x).toNat = k := by
  unfold isZ
  split <;> simp_all
theorem R3_isZ {Z : Nat → Int} {x k : Int} : R3 (isZ Z x k) := by
  unfold isZ
  split <;> exact ⟨by decide, by decide⟩
theorem bz_0 {b : Bool} : bz b = 0 ↔ b = false := bz0
theorem bz_1 {b : Bool} : ¬ bz b = 0 ↔ b = true := by cases b <;> decide
theorem R3_bz {b : Bool} : R3 (bz b) := bz01 b
theorem ZPs.of {Z : Nat → Int} {ps : List Part} (h : ZPs Z ps) {i : Nat} {p : Part} (hp : ps[i]? = some p) : Z (4 * i) = p.1 ∧ Z (4 * i + 1) = p.2.1 ∧ Z (4 * i + 2) = p.2.2.1 ∧ Z (4 * i + 3) = p.2.2.2 := by
  have hi := (List.getElem?_eq_some_iff.mp hp).1
  have hpe := Option.some.inj ((h.2.2.1 i hi).symm.trans hp)
  rw [← hpe]
  exact ⟨rfl, rfl, rfl, rfl⟩
def srcN (ps : List Part) (k : Int) : Nat → Int
  | 0 => -1
  | i + 1 => match ps[i]? with
    | some p => if p.1 = 1 ∧ p.2.1 = k then (i : Int) else srcN ps k i
    | none => srcN ps k i
def srcI (ps : List Part) (k : Int) : Int := srcN ps k ps.length
theorem srcN_r (ps : List Part) (k : Int) : ∀ i : Nat, (srcN ps k i = -1 ∧ ∀ j p, j < i → ps[j]? = some p → ¬ (p.1 = 1 ∧ p.2.1 = k)) ∨ ∃ j p, j < i ∧ srcN ps k i = (j : Nat) ∧ ps[j]? = some p ∧ p.1 = 1 ∧ p.2.1 = k
  | 0 => Or.inl ⟨rfl, fun j p h => absurd h (Nat.not_lt_zero j)⟩
  | i + 1 => by
    have ih := srcN_r ps k i
    unfold srcN
    cases e : ps[i]? with
    | none =>
      rcases ih with ⟨h1, h2⟩ | ⟨j, p, h1, h2, h3⟩
      · refine Or.inl ⟨h1, fun j p hj hp => ?_⟩
        by_cases c : j = i
        · subst c
          rw [e] at hp
          cases hp
        · exact h2 j p (by omega) hp
      · exact Or.inr ⟨j, p, by omega, h2, h3⟩
    | some q =>
      by_cases c : q.1 = 1 ∧ q.2.1 = k
      · right
        exact ⟨i, q, by omega, if_pos c, e, c.1, c.2⟩
      · simp only [if_neg c]
        rcases ih with ⟨h1, h2⟩ | ⟨j, p, h1, h2, h3⟩
        · refine Or.inl ⟨h1, fun j p hj hp => ?_⟩
          by_cases d : j = i
          · subst d
            rw [e] at hp
            cases hp
            exact c
          · exact h2 j p (by omega) hp
        · exact Or.inr ⟨j, p, by omega, h2, h3⟩
theorem srcI_r (ps : List Part) (k : Int) : (srcI ps k = -1 ∧ ∀ p ∈ ps, ¬ (p.1 = 1 ∧ p.2.1 = k)) ∨ ∃ (j : Nat) (p : Part), srcI ps k = (j : Nat) ∧ ps[j]? = some p ∧ p.1 = 1 ∧ p.2.1 = k := by
  rcases srcN_r ps k ps.length with ⟨h1, h2⟩ | ⟨j, p, h1, h2⟩
  · refine Or.inl ⟨h1, fun p hp => ?_⟩
    obtain ⟨j, hj, e⟩ := List.mem_iff_getElem.mp hp
    exact h2 j p hj (by rw [List.getElem?_eq_getElem hj, e])
  · exact Or.inr ⟨j, p, h2⟩
theorem srcI_b (ps : List Part) (k : Int) : -1 ≤ srcI ps k ∧ srcI ps k < ps.length ∨ srcI ps k = -1 := by
  rcases srcI_r ps k with ⟨h1, _⟩ | ⟨j, p, h1, h2, _⟩
  · exact Or.inr h1
  · have := (List.getElem?_eq_some_iff.mp h2).1
    left
    omega
def freeB (ps : List Part) (k : Int) : Bool := decide (0 < k) && ps.any (fun p => atB p k) && decide (srcI ps k = -1)
/-- the part of an amplifier -/
def pOfL : List Part → Nat → Nat → Nat
  | [], _, i => i
  | p :: ps, a, i => if p.1 = 2 then (if a = 0 then i else pOfL ps (a - 1) (i + 1)) else pOfL ps a (i + 1)
def pOf (ps : List Part) (a : Int) : Int := (pOfL ps a.toNat 0 : Nat)
theorem pOfL_at : ∀ {ps : List Part} {a i s : Nat} {p : Part}, AmpAt ps a i p → pOfL ps a s = s + i
  | [], a, i, s, p, h => by simp [AmpAt] at h
  | q :: ps, a, i, s, p, h => by
    obtain ⟨h1, h2, h3⟩ := h
    unfold pOfL
    cases i with
    | zero =>
      have e := Option.some.inj h1
      subst e
      have : a = 0 := h3.symm
      rw [if_pos h2, if_pos this]
      rfl
    | succ i =>
      rw [List.take_succ_cons, show q :: ps.take i = [q] ++ ps.take i from rfl, nA_app, nA_one] at h3
      by_cases c : q.1 = 2
      · rw [if_pos c] at h3
        rw [if_pos c, if_neg (by omega), pOfL_at (ps := ps) (a := a - 1) (i := i) ⟨h1, h2, by omega⟩]
        omega
      · rw [if_neg c] at h3
        rw [if_neg c, pOfL_at (ps := ps) (a := a) (i := i) ⟨h1, h2, by omega⟩]
        omega
theorem pOf_at {ps : List Part} {a i : Nat} {p : Part} (h : AmpAt ps a i p) : pOf ps a = i := by
  unfold pOf
  rw [show (a : Int).toNat = a by omega, pOfL_at h, Nat.zero_add]
theorem nA_mono {ps : List Part} {i j : Nat} (h : i ≤ j) : nA (ps.take i) ≤ nA (ps.take j) := by
  have := nA_take_le (ps.take j) i
  rw [List.take_take, show min i j = i by omega] at this
  exact this
