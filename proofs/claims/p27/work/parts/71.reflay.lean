/-! part 71: the reference: as many rules as unknowns; layRules -/
theorem cn_or1 {f : Nat → Bool} {o : Nat} (hf : f o = false) : ∀ {n : Nat}, cn (fun k => decide (k = o) || f k) n = cn f n + if o < n then 1 else 0
  | 0 => rfl
  | n + 1 => by
    rw [cn_s, cn_s, cn_or1 hf]
    by_cases c : n = o
    · subst c
      rw [if_neg (Nat.lt_irrefl n), if_pos (Nat.lt_succ_self n), hf, decide_eq_true rfl]
      rfl
    · rw [decide_eq_false c, Bool.false_or]
      by_cases d : o < n
      · rw [if_pos d, if_pos (show o < n + 1 by omega)]
        omega
      · rw [if_neg d, if_neg (show ¬ o < n + 1 by omega)]
        omega
def outF (ps : List Part) : Nat → Bool := fun k => ps.any (fun p => outB p k)
theorem told_amp {p : Part} (h : PW p ∧ toldB p = true) (h2 : p.1 = 2) : (1 ≤ p.2.2.2 ∧ p.2.2.2 ≤ 6) ∧ (0 ≤ p.2.1 ∧ p.2.1 ≤ 6) ∧ (0 ≤ p.2.2.1 ∧ p.2.2.1 ≤ 6) ∧ p.2.1 ≠ p.2.2.1 ∧ p.2.2.2 ≠ p.2.1 ∧ p.2.2.2 ≠ p.2.2.1 := by
  obtain ⟨h1, h3⟩ := h
  unfold toldB at h3
  rw [if_neg (by omega)] at h3
  simp only [Bool.and_eq_true, Bool.or_eq_true, decide_eq_true_eq] at h3
  unfold PW at h1
  omega
theorem told_src {p : Part} (h : PW p ∧ toldB p = true) (h2 : p.1 = 1) : (1 ≤ p.2.1 ∧ p.2.1 ≤ 6) ∧ -200 ≤ p.2.2.2 ∧ p.2.2.2 ≤ 200 := by
  obtain ⟨h1, h3⟩ := h
  unfold toldB at h3
  rw [if_pos h2] at h3
  simp only [decide_eq_true_eq] at h3
  unfold PW at h1
  omega
theorem told_res {p : Part} (h : PW p ∧ toldB p = true) (h2 : p.1 = 0) : (0 ≤ p.2.1 ∧ p.2.1 ≤ 6) ∧ (0 ≤ p.2.2.1 ∧ p.2.2.1 ≤ 6) ∧ p.2.1 ≠ p.2.2.1 ∧ 1 ≤ p.2.2.2 ∧ p.2.2.2 ≤ 4 := by
  obtain ⟨h1, h3⟩ := h
  unfold toldB at h3
  rw [if_neg (by omega)] at h3
  simp only [Bool.and_eq_true, Bool.or_eq_true, decide_eq_true_eq] at h3
  unfold PW at h1
  omega
theorem drv_amp {p : Part} (h : p.1 = 2) : drv p = p.2.2.2 := by
  unfold drv
  rw [if_neg (by omega), if_pos h]
theorem drv_src {p : Part} (h : p.1 = 1) : drv p = p.2.1 := if_pos h
theorem outF_nA : ∀ {ps : List Part}, (∀ p ∈ ps, PW p ∧ toldB p = true) → PwD ps → cn (outF ps) 7 = nA ps
  | [], _, _ => rfl
  | p :: ps, hp, hw => by
    have ih := outF_nA (ps := ps) (fun q hq => hp q (List.mem_cons_of_mem _ hq)) (List.pairwise_cons.mp hw).2
    rw [show p :: ps = [p] ++ ps from rfl, nA_app, nA_one]
    by_cases c : p.1 = 2
    · have ht := told_amp (hp p List.mem_cons_self) c
      rw [if_pos c, ← ih]
      have hno : outF ps p.2.2.2.toNat = false := by
        cases e : outF ps p.2.2.2.toNat with
        | false => rfl
        | true =>
          obtain ⟨q, hq, hqe⟩ := List.any_eq_true.mp e
          unfold outB at hqe
          rw [Bool.and_eq_true, decide_eq_true_eq, decide_eq_true_eq] at hqe
          have h1 := (List.pairwise_cons.mp hw).1 q hq
          rw [drv_amp c, drv_amp hqe.1] at h1
          omega
      have := cn_or1 hno (n := 7)
      rw [if_pos (by omega)] at this
      rw [Nat.add_comm 1, ← this]
      refine cn_eq fun k _ => ?_
      show (p :: ps).any _ = _
      rw [List.any_cons]
      refine congr (congrArg or ?_) rfl
      unfold outB
      rw [decide_eq_true c, Bool.true_and]
      exact decide_eq_decide.mpr ⟨fun z => by omega, fun z => by omega⟩
    · rw [if_neg c, Nat.zero_add, ← ih]
      refine cn_eq fun k _ => ?_
      show (p :: ps).any _ = _
      rw [List.any_cons]
      unfold outB
      rw [decide_eq_false c, Bool.false_and, Bool.false_or]
      rfl
theorem PwD.ne {ps : List Part} (h : PwD ps) {i j : Nat} {p q : Part} (hp : ps[i]? = some p) (hq : ps[j]? = some q) (hij : i ≠ j) (h1 : p.1 ≠ 0) (h2 : q.1 ≠ 0) : drv p ≠ drv q := by
  have hi := (List.getElem?_eq_some_iff.mp hp)
  have hj := (List.getElem?_eq_some_iff.mp hq)
  obtain ⟨hi, ei⟩ := hi
  obtain ⟨hj, ej⟩ := hj
  have hw := List.pairwise_iff_getElem.mp h
  rcases Nat.lt_or_gt_of_ne hij with c | c
  · have := hw i j hi hj c
    rw [ei, ej] at this
    omega
  · have := hw j i hj hi c
    rw [ei, ej] at this
    omega
theorem out_free {ps : List Part} (h : GdP ps) {i : Nat} {p : Part} (hp : ps[i]? = some p) (h2 : p.1 = 2) : frF ps p.2.2.2.toNat = true := by
  have hm := List.mem_of_getElem? hp
  have ht := told_amp (h.2.2.1 p hm) h2
  have hat : atB p (p.2.2.2.toNat : Nat) = true := by
    unfold atB
    rw [decide_eq_true (show p.2.2.2 = ((p.2.2.2.toNat : Nat) : Int) by omega), decide_eq_true h2]
    simp
  rcases oth_src (k := 0) hp hat with c | c | c
  · omega
  · exact c
  · rcases srcI_r ps (p.2.2.2.toNat : Nat) with ⟨d, _⟩ | ⟨j, q, d1, d2, d3, d4⟩
    · exact absurd d c
    · have hne : i ≠ j := fun z => by
        rw [z, d2] at hp
        have := Option.some.inj hp
        rw [← this] at h2
        omega
      have := h.2.2.2.ne hp d2 hne (by omega) (by omega)
      rw [drv_amp h2, drv_src d3] at this
      omega
def kcB (ps : List Part) : Nat → Bool := fun k => frF ps k && !outF ps k
theorem kc_count {ps : List Part} (h : GdP ps) : cn (kcB ps) 7 + nA ps = cn (frF ps) 7 := by
  rw [cn_and (frF ps) (outF ps) 7, ← outF_nA h.2.2.1 h.2.2.2]
  refine congrArg _ (cn_eq fun k _ => ?_)
  cases e : outF ps k with
  | false => rw [Bool.and_false]
  | true =>
    obtain ⟨q, hq, hqe⟩ := List.any_eq_true.mp e
    unfold outB at hqe
    rw [Bool.and_eq_true, decide_eq_true_eq, decide_eq_true_eq] at hqe
    obtain ⟨j, hj, ej⟩ := List.mem_iff_getElem.mp hq
    have := out_free h (show ps[j]? = some q by rw [List.getElem?_eq_getElem hj, ej]) hqe.1
    rw [hqe.2, show ((k : Int)).toNat = k by omega] at this
    rw [this]
    rfl
/-- all the rules -/
def RwL (ps : List Part) (c t : Int) : List (Nat → Int) := (ln (kcB ps) 7).map (kclR ps) ++ (List.range (nA ps)).map (ampR ps c t)
theorem RwL_len {ps : List Part} (h : GdP ps) (c t : Int) : (RwL ps c t).length = cn (frF ps) 7 := by
  unfold RwL
  rw [List.length_append, List.length_map, List.length_map, ln_len, List.length_range, kc_count h]
def RowsAre (ps : List Part) (val : Nat → Int) (R : Nat → Int) (L : List (Nat → Int)) : Prop := (∀ i ρ, L[i]? = some ρ → RowIs ps val R i ρ) ∧ ∀ x, 7 * L.length ≤ x → x < 42 → R x = 0
theorem RowsAre.z {ps : List Part} {val R : Nat → Int} {L : List (Nat → Int)} (h : RowsAre ps val R L) (hl : L.length < 6) : RowIs ps val R L.length (fun _ => 0) := by
  intro q hq
  rw [h.2 _ (by omega) (by omega)]
  unfold Tr
  split
  · rw [la_s0 (fun j _ => Int.mul_zero _)]
    rfl
  · split <;> rfl
theorem RowsAre.app {ps : List Part} {val R R' : Nat → Int} {L : List (Nat → Int)} {ρ : Nat → Int} (h : RowsAre ps val R L) (hr : RowIs ps val R' L.length ρ) (hx : ∀ x, x < 7 * L.length ∨ 7 * L.length + 7 ≤ x → R' x = R x) : RowsAre ps val R' (L ++ [ρ]) := by
  refine ⟨fun i ρ' hi => ?_, fun x h1 h2 => ?_⟩
  · rw [List.getElem?_append] at hi
    by_cases c : i < L.length
    · rw [if_pos c] at hi
      intro q hq
      rw [hx _ (by omega)]
      exact h.1 i ρ' hi q hq
    · rw [if_neg c] at hi
      have e : i = L.length := by
        have := (List.getElem?_eq_some_iff.mp hi).1
        rw [List.length_singleton] at this
        omega
      subst e
      rw [Nat.sub_self] at hi
      have := Option.some.inj hi
      rw [← this]
      exact hr
  · rw [List.length_append, List.length_singleton] at h1
    rw [hx x (by omega)]
    exact h.2 x (by omega) h2
