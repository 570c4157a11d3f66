/-! part 68: the reference's rules: what a row of numbers stands for; addTo -/
def srcV (ps : List Part) (k : Int) : Int := (pAt ps (srcI ps k)).2.2.2
/-- what is given: the nodes 0 to 6, then the rail, its opposite, and one -/
def valF (ps : List Part) (off rail : Int) : Nat → Int := fun k => if k = 7 then (if off = 0 ∧ 0 < nA ps then rail else 0) else if k = 8 then (if off = 0 ∧ 0 < nA ps then -rail else 0) else if k = 9 then (if 0 < nA ps then 1 else 0) else if k = 0 ∨ frF ps k = true ∨ off ≠ 0 ∨ srcI ps k = -1 then 0 else srcV ps k
theorem valF_s {ps : List Part} {off rail : Int} {k : Nat} (hk : k < 7) (h0 : k ≠ 0) (hf : ¬ frF ps k = true) (ho : off = 0) (hs : srcI ps k ≠ -1) : valF ps off rail k = srcV ps k := by
  have h7 : ¬ k = 7 := by omega
  have h8 : ¬ k = 8 := by omega
  have h9 : ¬ k = 9 := by omega
  have hh : ¬ (k = 0 ∨ frF ps k = true ∨ off ≠ 0 ∨ srcI ps k = -1) := by
    rintro (c | c | c | c)
    · exact h0 c
    · exact hf c
    · exact c ho
    · exact hs c
  unfold valF
  rw [if_neg h7, if_neg h8, if_neg h9, if_neg hh]
theorem valF_0 {ps : List Part} {off rail : Int} {k : Nat} (hk : k < 7) (h : k = 0 ∨ frF ps k = true ∨ off ≠ 0 ∨ srcI ps k = -1) : valF ps off rail k = 0 := by
  have h7 : ¬ k = 7 := by omega
  have h8 : ¬ k = 8 := by omega
  have h9 : ¬ k = 9 := by omega
  unfold valF
  rw [if_neg h7, if_neg h8, if_neg h9, if_pos h]
def nodeOf (ps : List Part) (q : Nat) : Nat := ((List.range 7).find? (fun k => frF ps k && decide (cn (frF ps) k = q))).getD 0
theorem nodeOf_cn {ps : List Part} {k : Nat} (hk : k < 7) (hf : frF ps k = true) : nodeOf ps (cn (frF ps) k) = k := by
  unfold nodeOf
  cases e : (List.range 7).find? (fun j => frF ps j && decide (cn (frF ps) j = cn (frF ps) k)) with
  | none =>
    have := List.find?_eq_none.mp e k (List.mem_range.mpr hk)
    rw [hf, decide_eq_true rfl] at this
    exact absurd rfl this
  | some j =>
    have h1 := List.find?_some e
    rw [Bool.and_eq_true, decide_eq_true_eq] at h1
    exact cn_inj h1.1 hf h1.2
theorem nodeOf_fr {ps : List Part} {q : Nat} (h : q < cn (frF ps) 7) : nodeOf ps q < 7 ∧ frF ps (nodeOf ps q) = true ∧ cn (frF ps) (nodeOf ps q) = q := by
  obtain ⟨i, h1, h2, h3⟩ := cn_ex h
  have := nodeOf_cn h1 h2
  rw [h3] at this
  rw [this]
  exact ⟨h1, h2, h3⟩
def Tr (ps : List Part) (val : Nat → Int) (ρ : Nat → Int) (q : Nat) : Int := if q = 6 then -la_s (fun k => val k * ρ k) 10 else if q < cn (frF ps) 7 then ρ (nodeOf ps q) else 0
theorem Tr_lt {ps : List Part} {val ρ : Nat → Int} {q : Nat} (h6 : q ≠ 6) (h : q < cn (frF ps) 7) : Tr ps val ρ q = ρ (nodeOf ps q) := by
  unfold Tr
  rw [if_neg h6, if_pos h]
theorem Tr_ge {ps : List Part} {val ρ : Nat → Int} {q : Nat} (h6 : q ≠ 6) (h : ¬ q < cn (frF ps) 7) : Tr ps val ρ q = 0 := by
  unfold Tr
  rw [if_neg h6, if_neg h]
def RowIs (ps : List Part) (val : Nat → Int) (R : Nat → Int) (r : Nat) (ρ : Nat → Int) : Prop := ∀ q, q < 7 → R (7 * r + q) = Tr ps val ρ q
theorem Tr_6 (ps : List Part) (val : Nat → Int) (ρ : Nat → Int) (k : Nat) (g : Int) (hk : k < 10) : Tr ps val (fun q => g * lb_d (some k) q + ρ q) 6 = Tr ps val ρ 6 - g * val k := by
  show -la_s _ 10 = -la_s _ 10 - _
  have e : la_s (fun j => val j * (g * lb_d (some k) j + ρ j)) 10 = la_s (fun j => g * (val j * lb_d (some k) j) + val j * ρ j) 10 := la_sE fun j _ => by grind
  rw [e, la_sadd, la_smul, la_s1 hk (fun j _ q => by
    unfold lb_d
    rw [if_neg (fun z => q (Option.some.inj z).symm), Int.mul_zero])]
  unfold lb_d
  rw [if_pos rfl, Int.mul_one]
  omega
theorem Tr_n {ps : List Part} {val : Nat → Int} {ρ : Nat → Int} {k q : Nat} {g : Int} (hq : q < 6) (h : q < cn (frF ps) 7 → nodeOf ps q ≠ k) : Tr ps val (fun q => g * lb_d (some k) q + ρ q) q = Tr ps val ρ q := by
  have h6 : q ≠ 6 := by omega
  by_cases c : q < cn (frF ps) 7
  · rw [Tr_lt h6 c, Tr_lt h6 c]
    unfold lb_d
    rw [if_neg (fun z => h c (Option.some.inj z).symm), Int.mul_zero, Int.zero_add]
  · rw [Tr_ge h6 c, Tr_ge h6 c]
theorem up_id {h : HP} {n a : Nat} {e : AE} (p : At h n a e) : va_up h a e = h := by
  funext x
  by_cases c : x = a
  · subst c
    rw [up_self, p.2]
  · rw [up_ne c]
/-- a row, and a number of a node that has a column -/
theorem RowIs.fr {ps : List Part} {off rail : Int} {R : Nat → Int} {r k : Nat} {ρ : Nat → Int} {g : Int} (p : RowIs ps (valF ps off rail) R r ρ) (hk : k < 7) (hf : frF ps k = true) : RowIs ps (valF ps off rail) (va_up R (7 * r + cn (frF ps) k) (R (7 * r + cn (frF ps) k) + g)) r (fun q => g * lb_d (some k) q + ρ q) := by
  have hu := fr6 ps
  have hc := cn_lt hk hf
  have hv : valF ps off rail k = 0 := valF_0 hk (Or.inr (Or.inl hf))
  intro q hq
  by_cases e : q = cn (frF ps) k
  · subst e
    rw [up_self, p _ hq]
    have h6 : cn (frF ps) k ≠ 6 := by omega
    rw [Tr_lt h6 hc, Tr_lt h6 hc, nodeOf_cn hk hf]
    unfold lb_d
    rw [if_pos rfl]
    omega
  · rw [up_ne (by omega), p q hq]
    by_cases c : q = 6
    · subst c
      rw [Tr_6 _ _ _ _ _ (by omega), hv]
      omega
    · refine (Tr_n (by omega) (fun d z => e ?_)).symm
      rw [← z, (nodeOf_fr d).2.2]
theorem RowIs.nf {ps : List Part} {off rail : Int} {R : Nat → Int} {r k : Nat} {ρ : Nat → Int} {g : Int} (p : RowIs ps (valF ps off rail) R r ρ) (hk : k < 10) (hf : ¬ (k < 7 ∧ frF ps k = true)) : RowIs ps (valF ps off rail) (va_up R (7 * r + 6) (R (7 * r + 6) - g * valF ps off rail k)) r (fun q => g * lb_d (some k) q + ρ q) := by
  intro q hq
  by_cases c : q = 6
  · subst c
    rw [up_self, p _ hq, Tr_6 _ _ _ _ _ hk]
  · rw [up_ne (by omega), p q hq]
    refine (Tr_n (by omega) (fun d z => hf ?_)).symm
    rw [← z]
    exact ⟨(nodeOf_fr d).1, (nodeOf_fr d).2.1⟩
theorem RowIs.n0 {ps : List Part} {off rail : Int} {R : Nat → Int} {r k : Nat} {ρ : Nat → Int} {g : Int} (p : RowIs ps (valF ps off rail) R r ρ) (hk : k < 10) (hf : ¬ (k < 7 ∧ frF ps k = true)) (hv : valF ps off rail k = 0) : RowIs ps (valF ps off rail) R r (fun q => g * lb_d (some k) q + ρ q) := by
  have := p.nf (g := g) hk hf
  rw [hv, Int.mul_zero, Int.sub_zero] at this
  intro q hq
  rw [← this q hq]
  by_cases c : 7 * r + q = 7 * r + 6
  · rw [c, up_self]
  · rw [up_ne c]
