/-! part 75: what the class's rows say -/
theorem mskn : ∀ m < 128, ∀ q < 128, band (m : Nat) (bxor (q : Nat) (-1)) = ((m &&& (127 ^^^ q) : Nat) : Int) := by decide +kernel
theorem mskt : ∀ m < 128, ∀ j < 7, bcon (m : Nat) (j : Nat) = if m.testBit j then 1 else 0 := by decide +kernel
theorem msk7 : ∀ j < 7, (127 : Nat).testBit j = true := by decide +kernel
theorem Mk.andn {m q j : Int} (hm : Mk m) (hq : Mk q) (hj : 0 ≤ j ∧ j ≤ 6) : bcon (band m (bxor q (-1))) j = if bcon q j = 0 then bcon m j else 0 := by
  obtain ⟨a, rfl⟩ : ∃ a : Nat, m = a := ⟨m.toNat, by have := hm.1; omega⟩
  obtain ⟨b, rfl⟩ : ∃ b : Nat, q = b := ⟨q.toNat, by have := hq.1; omega⟩
  obtain ⟨c, rfl⟩ : ∃ c : Nat, j = c := ⟨j.toNat, by omega⟩
  have ha : a < 128 := by have := hm.2; omega
  have hb : b < 128 := by have := hq.2; omega
  have hc : c < 7 := by omega
  have hlt : a &&& (127 ^^^ b) < 128 := Nat.lt_of_le_of_lt Nat.and_le_left ha
  rw [mskn a ha b hb, mskt _ hlt c hc, mskt a ha c hc, mskt b hb c hc, Nat.testBit_and, Nat.testBit_xor, msk7 c hc]
  cases a.testBit c <;> cases b.testBit c <;> decide
theorem um1_con {m j : Int} {p : Part} (h : Mk m) (hp : PW p) (hj : 0 ≤ j ∧ j ≤ 6) : bcon (um1 m p) j = if atB p j = true then 1 else bcon m j := by
  unfold PW at hp
  unfold um1 atB
  by_cases c2 : p.1 = 2
  · have r1 : 0 ≤ p.2.1 ∧ p.2.1 ≤ 6 := by omega
    have r2 : 0 ≤ p.2.2.1 ∧ p.2.2.1 ≤ 6 := by omega
    have r3 : 0 ≤ p.2.2.2 ∧ p.2.2.2 ≤ 6 := by omega
    rw [if_pos c2, ((h.or r1).or r2).con r3 hj, (h.or r1).con r2 hj, h.con r1 hj]
    simp only [Bool.or_eq_true, Bool.and_eq_true, decide_eq_true_eq]
    grind
  · rw [if_neg c2]
    by_cases c1 : p.1 = 1
    · have r1 : 0 ≤ p.2.1 ∧ p.2.1 ≤ 6 := by omega
      rw [if_pos c1, h.con r1 hj]
      simp only [Bool.or_eq_true, Bool.and_eq_true, decide_eq_true_eq]
      grind
    · have r1 : 0 ≤ p.2.1 ∧ p.2.1 ≤ 6 := by omega
      have r2 : 0 ≤ p.2.2.1 ∧ p.2.2.1 ≤ 6 := by omega
      rw [if_neg c1, (h.or r1).con r2 hj, h.con r1 hj]
      simp only [Bool.or_eq_true, Bool.and_eq_true, decide_eq_true_eq]
      grind
theorem um_con {j : Int} (hj : 0 ≤ j ∧ j ≤ 6) : ∀ {ps : List Part} {m : Int}, Mk m → (∀ p ∈ ps, PW p) → bcon (ps.foldl um1 m) j = if ps.any (fun p => atB p j) = true then 1 else bcon m j
  | [], _, _, _ => rfl
  | p :: ps, m, h, hp => by
    rw [List.foldl_cons, um_con hj (h.um1 (hp p List.mem_cons_self)) (fun q hq => hp q (List.mem_cons_of_mem _ hq)), um1_con h (hp p List.mem_cons_self) hj, List.any_cons]
    cases ps.any (fun p => atB p j) <;> cases atB p j <;> rfl
theorem used_con {ps : List Part} (hp : ∀ p ∈ ps, PW p) {j : Int} (hj : 0 ≤ j ∧ j ≤ 6) : bcon (usedM ps) j = if j ≠ 0 ∧ ps.any (fun p => atB p j) = true then 1 else 0 := by
  unfold usedM
  rw [(Mk.uf hp 0 Mk0).gndc hj, um_con hj Mk0 hp, Mk.zero hj]
  by_cases c : j = 0
  · rw [if_pos c, if_neg (fun z => z.1 c)]
  · rw [if_neg c]
    by_cases d : ps.any (fun p => atB p j) = true
    · rw [if_pos d, if_pos ⟨c, d⟩]
    · rw [if_neg d, if_neg (fun z => d z.2)]
def dvB (p : Part) (j : Int) : Bool := decide (p.1 ≠ 0) && decide (drv p = j)
theorem dm_con {j : Int} (hj : 0 ≤ j ∧ j ≤ 6) : ∀ {ps : List Part} {m : Int}, Mk m → (∀ p ∈ ps, PW p) → bcon (ps.foldl dm1 m) j = if ps.any (fun p => dvB p j) = true then 1 else bcon m j
  | [], _, _, _ => rfl
  | p :: ps, m, h, hp => by
    have hpw := hp p List.mem_cons_self
    rw [List.foldl_cons, dm_con hj (h.dm1 hpw) (fun q hq => hp q (List.mem_cons_of_mem _ hq)), List.any_cons]
    have e : bcon (dm1 m p) j = if dvB p j = true then 1 else bcon m j := by
      unfold dm1 dvB
      by_cases c : p.1 = 0
      · rw [if_pos c, decide_eq_false (show ¬ p.1 ≠ 0 from fun z => z c)]
        rfl
      · rw [if_neg c, decide_eq_true c, h.con (hpw.drv c) hj]
        by_cases d : j = drv p
        · rw [if_pos d, decide_eq_true d.symm]
          rfl
        · rw [if_neg d, decide_eq_false (fun z => d z.symm)]
          rfl
    rw [e]
    cases ps.any (fun p => dvB p j) <;> cases dvB p j <;> rfl
theorem drv_con {ps : List Part} (hp : ∀ p ∈ ps, PW p) {j : Int} (hj : 0 ≤ j ∧ j ≤ 6) : bcon (drivenM ps) j = if ps.any (fun p => dvB p j) = true then 1 else 0 := by
  unfold drivenM
  rw [dm_con hj Mk0 hp, Mk.zero hj]
theorem src_none {ps : List Part} {k : Int} (h : ∀ p ∈ ps, ¬ (p.1 = 1 ∧ p.2.1 = k)) : srcI ps k = -1 := by
  rcases srcI_r ps k with ⟨h1, _⟩ | ⟨j, p, h1, h2, h3, h4⟩
  · exact h1
  · exact absurd ⟨h3, h4⟩ (h p (List.mem_of_getElem? h2))
/-- the nodes whose currents balance, in both programs -/
theorem bal_con {ps : List Part} (hp : ∀ p ∈ ps, PW p) {k : Nat} (hk : k < 7) : bcon (balM ps) (k : Nat) = if kcB ps k = true then 1 else 0 := by
  have hj : (0 : Int) ≤ (k : Nat) ∧ ((k : Nat) : Int) ≤ 6 := by omega
  have h0 : bcon (balM ps) (k : Nat) = if bcon (drivenM ps) (k : Nat) = 0 then bcon (usedM ps) (k : Nat) else 0 := (Mk.uf hp 0 Mk0).gnd.andn (Mk.df hp 0 Mk0) hj
  rw [h0, used_con hp hj, drv_con hp hj]
  have hd : ps.any (fun p => dvB p k) = true ↔ srcI ps k ≠ -1 ∨ outF ps k = true := by
    constructor
    · intro h
      obtain ⟨p, hpm, hpe⟩ := List.any_eq_true.mp h
      unfold dvB at hpe
      rw [Bool.and_eq_true, decide_eq_true_eq, decide_eq_true_eq] at hpe
      have hpw := hp p hpm
      by_cases c : p.1 = 1
      · left
        rw [drv_src c] at hpe
        intro z
        rcases srcI_r ps k with ⟨_, h2⟩ | ⟨j, q, h1, _⟩
        · exact h2 p hpm ⟨c, hpe.2⟩
        · omega
      · right
        have c2 : p.1 = 2 := by
          unfold PW at hpw
          omega
        rw [drv_amp c2] at hpe
        refine List.any_eq_true.mpr ⟨p, hpm, ?_⟩
        unfold outB
        rw [decide_eq_true c2, decide_eq_true hpe.2]
        rfl
    · rintro (h | h)
      · rcases srcI_r ps k with ⟨h1, _⟩ | ⟨j, q, h1, h2, h3, h4⟩
        · exact absurd h1 h
        · refine List.any_eq_true.mpr ⟨q, List.mem_of_getElem? h2, ?_⟩
          unfold dvB
          rw [decide_eq_true (show q.1 ≠ 0 by omega), drv_src h3, decide_eq_true h4]
          rfl
      · obtain ⟨q, hq, hqe⟩ := List.any_eq_true.mp h
        unfold outB at hqe
        rw [Bool.and_eq_true, decide_eq_true_eq, decide_eq_true_eq] at hqe
        refine List.any_eq_true.mpr ⟨q, hq, ?_⟩
        unfold dvB
        rw [decide_eq_true (show q.1 ≠ 0 by omega), drv_amp hqe.1, decide_eq_true hqe.2]
        rfl
  unfold kcB
  show _ = if (freeB ps k && !outF ps k) = true then 1 else 0
  unfold freeB
  by_cases d : ps.any (fun p => dvB p k) = true
  · rw [if_pos d, if_neg (by decide)]
    rcases hd.mp d with z | z
    · rw [decide_eq_false z, Bool.and_false, Bool.false_and]
      rfl
    · rw [z, Bool.not_true, Bool.and_false]
      rfl
  · rw [if_neg d, if_pos rfl]
    have s1 : srcI ps k = -1 := by
      by_cases z : srcI ps k = -1
      · exact z
      · exact absurd (hd.mpr (Or.inl z)) d
    have s2 : outF ps k = false := by
      cases z : outF ps k with
      | false => rfl
      | true => exact absurd (hd.mpr (Or.inr z)) d
    rw [s2, decide_eq_true s1, Bool.not_false, Bool.and_true, Bool.and_true]
    by_cases c : (k : Int) ≠ 0 ∧ ps.any (fun p => atB p k) = true
    · rw [if_pos c, c.2, decide_eq_true (show (0 : Int) < k by omega)]
      rfl
    · rw [if_neg c]
      by_cases c0 : (0 : Int) < k
      · rw [decide_eq_true c0, Bool.true_and, if_neg (fun z => c ⟨by omega, z⟩)]
      · rw [decide_eq_false c0, Bool.false_and]
        rfl
/-- a row of the class -/
def RowC (ps : List Part) (c : Int) (i r : Nat) (ρ : Nat → Int) : Prop := (kcB ps r = true ∧ ρ = kclR (ps.take i) r) ∨ (kcB ps r = false ∧ ∃ a j p, j < i ∧ AmpAt ps a j p ∧ bcon c a = 0 ∧ p.2.2.2 = r ∧ ρ = lb_e (some p.2.1.toNat) (some p.2.2.1.toNat)) ∨ (kcB ps r = false ∧ (∀ a j p, j < i → AmpAt ps a j p → bcon c a = 0 → p.2.2.2 ≠ r) ∧ ρ = fun q => 1 * lb_e (some r) none q + lb_e (some (7 + r)) none q)
theorem join_row {bal : Int} {M : Mat} {a b : Nat} {g : Int} (r : Nat) : joinM bal M a b g r = if r = a ∧ bcon bal a ≠ 0 then fun q => g * lb_e (some a) (some b) q + M a q else M r := by
  unfold joinM
  by_cases c : bcon bal a = 0
  · rw [if_pos c, if_neg (fun z => z.2 c)]
  · rw [if_neg c]
    by_cases e : r = a
    · subst e
      rw [up_self, if_pos ⟨rfl, c⟩]
      funext q
      unfold va_up lb_e lb_d
      grind
    · rw [up_ne e, if_neg (fun z => e z.1)]
theorem rows_c {ps : List Part} (hp : ∀ p ∈ ps, PW p ∧ toldB p = true) (c : Int) : ∀ i, i ≤ ps.length → ((ps.take i).foldl (putP (balM ps) c) (startM (balM ps), 0)).2 = nA (ps.take i) ∧ ∀ r, r < 7 → RowC ps c i r (((ps.take i).foldl (putP (balM ps) c) (startM (balM ps), 0)).1 r)
  | 0, _ => by
    refine ⟨rfl, fun r hr => ?_⟩
    show RowC ps c 0 r (startM (balM ps) r)
    have hb := bal_con (fun p h => (hp p h).1) hr
    unfold startM
    cases e : kcB ps r with
    | true =>
      rw [e, if_pos rfl] at hb
      rw [hb, if_neg (by decide)]
      exact Or.inl ⟨e, rfl⟩
    | false =>
      rw [e, if_neg (by decide)] at hb
      rw [if_pos hb]
      refine Or.inr (Or.inr ⟨e, fun a j p h => absurd h (Nat.not_lt_zero j), ?_⟩)
      funext q
      unfold va_up lb_e lb_d
      grind
  | i + 1, hi => by
    have ih := rows_c hp c i (by omega)
    have hpi : ps[i]? = some ps[i] := List.getElem?_eq_getElem (by omega)
    generalize ps[i] = p at hpi
    rw [take_s hpi, List.foldl_append, nA_app, nA_one]
    generalize (ps.take i).foldl (putP (balM ps) c) (startM (balM ps), 0) = Mo at ih
    obtain ⟨h2, hR⟩ := ih
    have hpt := hp p (List.mem_of_getElem? hpi)
    rw [List.foldl_cons, List.foldl_nil]
    -- a part that changes no row
    have keep : ∀ r : Nat, r < 7 → ¬ (p.1 = 0 ∧ atB p r = true) → ¬ (p.1 = 2 ∧ bcon c Mo.2 = 0) → RowC ps c (i + 1) r (Mo.1 r) := by
      intro r hr k1 k2
      rcases hR r hr with ⟨q1, q2⟩ | ⟨q1, a, j, p', q2, q3⟩ | ⟨q1, q2, q3⟩
      · refine Or.inl ⟨q1, ?_⟩
        rw [q2, kclR_s hpi]
        unfold kclS
        rw [if_neg k1]
      · exact Or.inr (Or.inl ⟨q1, a, j, p', by omega, q3⟩)
      · refine Or.inr (Or.inr ⟨q1, fun a j p' hj hA hb => ?_, q3⟩)
        by_cases e : j = i
        · subst e
          have ep : p' = p := Option.some.inj (hA.1.symm.trans hpi)
          subst ep
          have := hA.2.2
          refine absurd ⟨hA.2.1, ?_⟩ k2
          rw [h2, this]
          exact hb
        · exact q2 a j p' (by omega) hA hb
    unfold putP
    by_cases c0 : p.1 = 0
    · rw [if_pos c0, if_neg (by omega)]
      refine ⟨by show Mo.2 = _; omega, fun r hr => ?_⟩
      show RowC ps c (i + 1) r (joinM _ (joinM _ Mo.1 _ _ _) _ _ _ r)
      have ht := told_res hpt c0
      obtain ⟨a1, ha1⟩ : ∃ k : Nat, p.2.1 = k := ⟨p.2.1.toNat, by omega⟩
      obtain ⟨a2, ha2⟩ : ∃ k : Nat, p.2.2.1 = k := ⟨p.2.2.1.toNat, by omega⟩
      rw [ha1, ha2, show (a1 : Int).toNat = a1 by omega, show (a2 : Int).toNat = a2 by omega]
      have hne : a1 ≠ a2 := by omega
      have hb1 := bal_con (fun p h => (hp p h).1) (show a1 < 7 by omega)
      have hb2 := bal_con (fun p h => (hp p h).1) (show a2 < 7 by omega)
      rw [join_row r]
      have ato : atB p r = true ↔ r = a1 ∨ r = a2 := by
        unfold atB
        rw [decide_eq_false (show ¬ p.1 = 2 by omega), Bool.false_and, Bool.or_false, decide_eq_true (show p.1 ≠ 1 by omega), Bool.true_and, Bool.or_eq_true, decide_eq_true_eq, decide_eq_true_eq]
        omega
      by_cases e2 : r = a2
      · subst e2
        by_cases kb : kcB ps r = true
        · rw [kb, if_pos rfl] at hb2
          rw [if_pos ⟨rfl, by rw [hb2]; decide⟩, join_row r, if_neg (fun z => hne z.1.symm)]
          rcases hR r hr with ⟨q1, q2⟩ | ⟨q1, _⟩ | ⟨q1, _⟩
          · refine Or.inl ⟨kb, ?_⟩
            rw [kclR_s hpi]
            unfold kclS
            rw [if_pos ⟨c0, ato.mpr (Or.inr rfl)⟩, q2]
            have : (othN p r).toNat = a1 := by
              unfold othN
              rw [if_neg (by omega)]
              omega
            rw [this]
            funext q
            unfold lb_e
            grind
          · rw [kb] at q1
            cases q1
          · rw [kb] at q1
            cases q1
        · rw [if_neg kb] at hb2
          rw [if_neg (fun z => z.2 hb2), join_row r, if_neg (fun z => hne z.1.symm)]
          rcases hR r hr with ⟨q1, _⟩ | ⟨q1, a, j, p', q2, q3⟩ | ⟨q1, q2, q3⟩
          · exact absurd q1 kb
          · exact Or.inr (Or.inl ⟨q1, a, j, p', by omega, q3⟩)
          · refine Or.inr (Or.inr ⟨q1, fun a j p' hj hA hb => ?_, q3⟩)
            by_cases e : j = i
            · subst e
              have ep : p' = p := Option.some.inj (hA.1.symm.trans hpi)
              subst ep
              have := hA.2.1
              omega
            · exact q2 a j p' (by omega) hA hb
      · rw [if_neg (fun z => e2 z.1), join_row r]
        by_cases e1 : r = a1
        · subst e1
          by_cases kb : kcB ps r = true
          · rw [kb, if_pos rfl] at hb1
            rw [if_pos ⟨rfl, by rw [hb1]; decide⟩]
            rcases hR r hr with ⟨q1, q2⟩ | ⟨q1, _⟩ | ⟨q1, _⟩
            · refine Or.inl ⟨kb, ?_⟩
              rw [kclR_s hpi]
              unfold kclS
              rw [if_pos ⟨c0, ato.mpr (Or.inl rfl)⟩, q2]
              have : (othN p r).toNat = a2 := by
                unfold othN
                rw [if_pos ha1]
                omega
              rw [this]
              funext q
              unfold lb_e
              grind
            · rw [kb] at q1
              cases q1
            · rw [kb] at q1
              cases q1
          · rw [if_neg kb] at hb1
            rw [if_neg (fun z => z.2 hb1)]
            rcases hR r hr with ⟨q1, _⟩ | ⟨q1, a, j, p', q2, q3⟩ | ⟨q1, q2, q3⟩
            · exact absurd q1 kb
            · exact Or.inr (Or.inl ⟨q1, a, j, p', by omega, q3⟩)
            · refine Or.inr (Or.inr ⟨q1, fun a j p' hj hA hb => ?_, q3⟩)
              by_cases e : j = i
              · subst e
                have ep : p' = p := Option.some.inj (hA.1.symm.trans hpi)
                subst ep
                have := hA.2.1
                omega
              · exact q2 a j p' (by omega) hA hb
        · rw [if_neg (fun z => e1 z.1)]
          exact keep r hr (fun z => by rcases ato.mp z.2 with w | w; exact e1 w; exact e2 w) (fun z => by omega)
    · rw [if_neg c0]
      by_cases c2 : p.1 = 2
      · rw [if_pos c2, if_pos c2]
        refine ⟨by show Mo.2 + 1 = _; omega, fun r hr => ?_⟩
        show RowC ps c (i + 1) r ((if bcon c Mo.2 = 0 then _ else Mo.1) r)
        by_cases cb : bcon c Mo.2 = 0
        · rw [if_pos cb]
          have ht := told_amp hpt c2
          unfold eqM
          by_cases e : r = p.2.2.2.toNat
          · have hA : AmpAt ps (nA (ps.take i)) i p := ⟨hpi, c2, rfl⟩
            have hkb : kcB ps r = false := by
              unfold kcB
              have : outF ps r = true := by
                refine List.any_eq_true.mpr ⟨p, List.mem_of_getElem? hpi, ?_⟩
                unfold outB
                rw [decide_eq_true c2, decide_eq_true (show p.2.2.2 = (r : Int) by omega)]
                rfl
              rw [this, Bool.not_true, Bool.and_false]
            refine Or.inr (Or.inl ⟨hkb, nA (ps.take i), i, p, by omega, hA, by rw [← h2]; exact cb, by omega, ?_⟩)
            subst e
            rw [up_self]
            funext q
            have : p.2.1.toNat ≠ p.2.2.1.toNat := by omega
            unfold va_up lb_e lb_d
            grind
          · rw [up_ne e]
            rcases hR r hr with ⟨q1, q2⟩ | ⟨q1, a, j, p', q2, q3⟩ | ⟨q1, q2, q3⟩
            · refine Or.inl ⟨q1, ?_⟩
              rw [q2, kclR_s hpi]
              unfold kclS
              rw [if_neg (fun z => c0 z.1)]
            · exact Or.inr (Or.inl ⟨q1, a, j, p', by omega, q3⟩)
            · refine Or.inr (Or.inr ⟨q1, fun a j p' hj hA hb => ?_, q3⟩)
              by_cases e' : j = i
              · subst e'
                have ep : p' = p := Option.some.inj (hA.1.symm.trans hpi)
                subst ep
                omega
              · exact q2 a j p' (by omega) hA hb
        · rw [if_neg cb]
          exact keep r hr (fun z => c0 z.1) (fun z => cb z.2)
      · rw [if_neg c2, if_neg c2]
        refine ⟨by show Mo.2 = _; omega, fun r hr => keep r hr (fun z => c0 z.1) (fun z => c2 z.1)⟩
