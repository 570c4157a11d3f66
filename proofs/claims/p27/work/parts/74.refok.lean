/-! part 74: weights and sources of the reference's rules -/
def degS (k : Nat) (d : Nat) (p : Part) : Nat := if p.1 = 0 ∧ atB p k = true then p.2.2.2.toNat + d else d
def degN (ps : List Part) (k : Nat) : Nat := ps.foldl (degS k) 0
def nR (ps : List Part) : Nat := ps.countP (fun p => decide (p.1 = 0))
def nS (ps : List Part) : Nat := ps.countP (fun p => decide (p.1 = 1))
theorem kcl_W {k : Nat} : ∀ {ps : List Part} {ρ : Nat → Int} {d : Nat}, (∀ p ∈ ps, PW p) → lb_W (d : Nat) ρ → lb_W ((ps.foldl (degS k) d : Nat) : Int) (ps.foldl (kclS k) ρ)
  | [], _, _, _, h => h
  | p :: ps, ρ, d, hp, h => by
    rw [List.foldl_cons, List.foldl_cons]
    refine kcl_W (fun q hq => hp q (List.mem_cons_of_mem _ hq)) ?_
    unfold degS kclS
    by_cases c : p.1 = 0 ∧ atB p k = true
    · rw [if_pos c, if_pos c]
      have hpw := hp p List.mem_cons_self
      have hg : 1 ≤ p.2.2.2 := by
        unfold PW at hpw
        omega
      have e : (fun q => (-p.2.2.2) * lb_d (some (othN p k).toNat) q + (fun q => p.2.2.2 * lb_d (some k) q + ρ q) q) = fun q => p.2.2.2 * lb_e (some k) (some (othN p k).toNat) q + ρ q := by
        funext q
        unfold lb_e
        grind
      rw [e]
      have := lb_Wa (c := p.2.2.2) (by omega) (lb_W1 (some k) (some (othN p k).toNat)) h
      rw [Int.mul_one] at this
      rw [Int.natCast_add, Int.toNat_of_nonneg (by omega)]
      exact this
    · rw [if_neg c, if_neg c]
      exact h
theorem deg_sum : ∀ {ps : List Part} {d : Nat → Nat}, (∀ p ∈ ps, PW p) → lb_t (fun k => ps.foldl (degS k) (d k)) 7 ≤ lb_t d 7 + 8 * nR ps
  | [], d, _ => Nat.le_refl _
  | p :: ps, d, hp => by
    have ih := deg_sum (ps := ps) (d := fun k => degS k (d k) p) (fun q hq => hp q (List.mem_cons_of_mem _ hq))
    simp only [List.foldl_cons]
    have hpw := hp p List.mem_cons_self
    have e : nR (p :: ps) = nR ps + if p.1 = 0 then 1 else 0 := by
      unfold nR
      rw [List.countP_cons]
      by_cases c : p.1 = 0
      · rw [if_pos c, if_pos (decide_eq_true c)]
      · rw [if_neg c, if_neg (by simp [c])]
    rw [e]
    by_cases c : p.1 = 0
    · rw [if_pos c]
      have hg : p.2.2.2 ≤ 4 := by
        unfold PW at hpw
        omega
      have h1 := lf_tu (n := 7) (x := d) (y := fun k => d k + if k = p.2.1.toNat then 4 else 0) (a := p.2.1.toNat) (c := 4) (fun r => Nat.le_refl _)
      have h2 := lf_tu (n := 7) (x := fun k => d k + if k = p.2.1.toNat then 4 else 0) (y := fun k => degS k (d k) p) (a := p.2.2.1.toNat) (c := 4) (fun r => by
        show (if _ then _ else _) ≤ (d r + _) + _
        by_cases z : p.1 = 0 ∧ atB p r = true
        · rw [if_pos z]
          have z2 := z.2
          unfold atB at z2
          simp only [Bool.or_eq_true, Bool.and_eq_true, decide_eq_true_eq] at z2
          have z2 : p.2.1 = r ∨ p.2.2.1 = r := by omega
          rcases z2 with w | w
          · rw [if_pos (show r = p.2.1.toNat by omega)]
            omega
          · rw [if_pos (show r = p.2.2.1.toNat by omega)]
            omega
        · rw [if_neg z]
          omega)
      omega
    · rw [if_neg c]
      have : lb_t (fun k => degS k (d k) p) 7 = lb_t d 7 := le_t0 fun i _ => if_neg (fun z => c z.1)
      omega
theorem ln_sum (f : Nat → Bool) (g : Nat → Nat) : ∀ k, lb_t (fun i => g ((ln f k).getD i 0)) (cn f k) ≤ lb_t g k
  | 0 => Nat.le_refl _
  | k + 1 => by
    have ih := ln_sum f g k
    rw [lt_sn g k, cn_s]
    by_cases c : f k = true
    · rw [if_pos c, lt_sn]
      have hl := ln_len f k
      have e : ln f (k + 1) = ln f k ++ [k] := by
        show ln f k ++ _ = _
        rw [if_pos c]
      have h1 : lb_t (fun i => g ((ln f (k + 1)).getD i 0)) (cn f k) = lb_t (fun i => g ((ln f k).getD i 0)) (cn f k) := le_t0 fun i hi => by
        rw [e, List.getD_eq_getElem?_getD, List.getElem?_append, if_pos (by omega), ← List.getD_eq_getElem?_getD]
      have h2 : (ln f (k + 1)).getD (cn f k) 0 = k := by
        rw [e, List.getD_eq_getElem?_getD, List.getElem?_append, if_neg (by omega), hl, Nat.sub_self]
        rfl
      rw [h1, h2]
      omega
    · rw [if_neg c]
      have e : ln f (k + 1) = ln f k := by
        show ln f k ++ _ = _
        rw [if_neg c, List.append_nil]
      rw [e]
      show lb_t _ (cn f k + 0) ≤ _
      rw [Nat.add_zero]
      omega
theorem lt_two (g : Nat → Nat) (b : Nat) : ∀ n, lb_t (fun i => 2 * g i + b) n = 2 * lb_t g n + b * n
  | 0 => rfl
  | n + 1 => by
    rw [lt_sn, lt_sn, lt_two g b n, Nat.mul_succ]
    omega
theorem lt_c (b : Nat) : ∀ n, lb_t (fun _ => b) n = b * n
  | 0 => rfl
  | n + 1 => by rw [lt_sn, lt_c b n, Nat.mul_succ]
theorem lt_app (g : Nat → Nat) (m : Nat) : ∀ n, lb_t g (m + n) = lb_t g m + lb_t (fun i => g (m + i)) n
  | 0 => rfl
  | n + 1 => by rw [← Nat.add_assoc, lt_sn, lt_sn, lt_app g m n, Nat.add_assoc]
/-- the row, its weight, what its weight costs -/
def rwF (ps : List Part) (c t : Int) (i : Nat) : Nat → Int := if i < cn (kcB ps) 7 then kclR ps ((ln (kcB ps) 7).getD i 0) else ampR ps c t (i - cn (kcB ps) 7)
theorem rwF_some {ps : List Part} {c t : Int} {i : Nat} (h : i < cn (kcB ps) 7 + nA ps) : (RwL ps c t)[i]? = some (rwF ps c t i) := by
  unfold RwL rwF
  rw [List.getElem?_append, List.length_map, ln_len]
  have hl := ln_len (kcB ps) 7
  by_cases c : i < cn (kcB ps) 7
  · rw [if_pos c, if_pos c, List.getElem?_map, List.getD_eq_getElem?_getD, List.getElem?_eq_getElem (show i < (ln (kcB ps) 7).length by omega)]
    rfl
  · rw [if_neg c, if_neg c, List.getElem?_map, List.getElem?_range (by omega)]
    rfl
theorem rw_bd {ps : List Part} {c t : Int} (hG : GdP ps) : ∃ w e : Nat → Nat, (∀ i, i < cn (frF ps) 7 → lb_W (w i : Nat) (rwF ps c t i)) ∧ (∀ i, i < cn (frF ps) 7 → (w i + 1) ^ 24 ≤ 2 ^ e i) ∧ lb_t e (cn (frF ps) 7) ≤ 16 * nR ps + 67 * cn (kcB ps) 7 + 24 * nA ps := by
  have hk := kc_count hG
  have hpw : ∀ p ∈ ps, PW p := fun p hp => (hG.2.2.1 p hp).1
  have hds := deg_sum (ps := ps) (d := fun _ => 0) hpw
  have hd7 : lb_t (fun _ => 0) 7 = 0 := rfl
  have hle : ∀ k, degN ps k < 199 := by
    intro k
    have : ∀ (qs : List Part) (d : Nat), (∀ p ∈ qs, PW p) → qs.foldl (degS k) d ≤ d + 4 * qs.length := by
      intro qs
      induction qs with
      | nil => exact fun d _ => Nat.le_refl _
      | cons p qs ih =>
        intro d hq
        rw [List.foldl_cons, List.length_cons]
        have := ih (degS k d p) (fun q h => hq q (List.mem_cons_of_mem _ h))
        have hp := hq p List.mem_cons_self
        have : degS k d p ≤ d + 4 := by
          unfold degS
          split
          · rename_i z
            unfold PW at hp
            omega
          · omega
        omega
    have := this ps 0 hpw
    have := hG.1
    unfold degN
    omega
  refine ⟨fun i => if i < cn (kcB ps) 7 then degN ps ((ln (kcB ps) 7).getD i 0) else 1, fun i => if i < cn (kcB ps) 7 then 2 * degN ps ((ln (kcB ps) 7).getD i 0) + 67 else 24, fun i hi => ?_, fun i hi => ?_, ?_⟩
  · show lb_W ((if i < cn (kcB ps) 7 then degN ps ((ln (kcB ps) 7).getD i 0) else 1 : Nat) : Int) _
    unfold rwF
    by_cases z : i < cn (kcB ps) 7
    · rw [if_pos z, if_pos z]
      exact kcl_W hpw lb_W0
    · rw [if_neg z, if_neg z]
      unfold ampR
      split
      · have e : ∀ a b : Nat, (fun q => (-1) * lb_d (some b) q + (fun q => 1 * lb_d (some a) q + (fun _ => 0) q) q) = lb_e (some a) (some b) := by
          intro a b
          funext q
          unfold lb_e
          grind
        rw [e]
        exact lb_W1 _ _
      · have e : ∀ a b : Nat, (fun q => (-1) * lb_d (some b) q + (fun q => 1 * lb_d (some a) q + (fun _ => 0) q) q) = lb_e (some a) (some b) := by
          intro a b
          funext q
          unfold lb_e
          grind
        rw [e]
        exact lb_W1 _ _
  · show ((if i < cn (kcB ps) 7 then degN ps ((ln (kcB ps) 7).getD i 0) else 1) + 1) ^ 24 ≤ 2 ^ (if i < cn (kcB ps) 7 then 2 * degN ps ((ln (kcB ps) 7).getD i 0) + 67 else 24)
    by_cases z : i < cn (kcB ps) 7
    · rw [if_pos z, if_pos z]
      exact lq_24 (degN ps ((ln (kcB ps) 7).getD i 0) + 1) (by have := hle ((ln (kcB ps) 7).getD i 0); omega)
    · rw [if_neg z, if_neg z]
      exact Nat.le_refl _
  · rw [← hk, lt_app]
    have h1 : lb_t (fun i => if i < cn (kcB ps) 7 then 2 * degN ps ((ln (kcB ps) 7).getD i 0) + 67 else 24) (cn (kcB ps) 7) = lb_t (fun i => 2 * degN ps ((ln (kcB ps) 7).getD i 0) + 67) (cn (kcB ps) 7) := le_t0 fun i hi => if_pos hi
    have h2 : lb_t (fun i => if cn (kcB ps) 7 + i < cn (kcB ps) 7 then 2 * degN ps ((ln (kcB ps) 7).getD (cn (kcB ps) 7 + i) 0) + 67 else 24) (nA ps) = lb_t (fun _ => 24) (nA ps) := le_t0 fun i _ => if_neg (by omega)
    rw [h1, h2, lt_c, lt_two (fun i => degN ps ((ln (kcB ps) 7).getD i 0))]
    have h3 := ln_sum (kcB ps) (degN ps) 7
    have h4 : lb_t (degN ps) 7 ≤ 0 + 8 * nR ps := hds
    omega
theorem cn_or_le (f : Nat → Bool) (o : Nat) : ∀ n, cn (fun k => decide (k = o) || f k) n ≤ cn f n + if o < n then 1 else 0
  | 0 => Nat.le_refl _
  | n + 1 => by
    have ih := cn_or_le f o n
    rw [cn_s, cn_s]
    by_cases c : n = o
    · subst c
      rw [if_neg (Nat.lt_irrefl n)] at ih
      rw [if_pos (Nat.lt_succ_self n), decide_eq_true rfl, Bool.true_or, if_pos rfl]
      omega
    · rw [decide_eq_false c, Bool.false_or]
      by_cases d : o < n
      · rw [if_pos d] at ih
        rw [if_pos (show o < n + 1 by omega)]
        omega
      · rw [if_neg d] at ih
        rw [if_neg (show ¬ o < n + 1 by omega)]
        omega
theorem cn_le_f {f g : Nat → Bool} (h : ∀ i, f i = true → g i = true) : ∀ n, cn f n ≤ cn g n
  | 0 => Nat.le_refl _
  | n + 1 => by
    have ih := cn_le_f h n
    rw [cn_s, cn_s]
    by_cases c : f n = true
    · rw [if_pos c, if_pos (h n c)]
      omega
    · rw [if_neg c]
      omega
theorem cn_dis {f g : Nat → Bool} (h : ∀ i, f i = true → g i = false) (f0 : f 0 = false) (g0 : g 0 = false) : ∀ n, cn f (n + 1) + cn g (n + 1) ≤ n
  | 0 => by
    rw [cn_s, cn_s, f0, g0]
    exact Nat.le_refl _
  | n + 1 => by
    have ih := cn_dis h f0 g0 n
    rw [cn_s f, cn_s g]
    by_cases c : f (n + 1) = true
    · rw [if_pos c, h _ c, if_neg (by decide)]
      omega
    · rw [if_neg c]
      split <;> omega
def sF (ps : List Part) : Nat → Bool := fun k => ps.any (fun p => decide (p.1 = 1) && decide (p.2.1 = (k : Int)))
theorem sF_le : ∀ {ps : List Part}, (∀ p ∈ ps, PW p) → cn (sF ps) 7 ≤ nS ps
  | [], _ => Nat.le_refl _
  | p :: ps, hp => by
    have ih := sF_le (ps := ps) (fun q hq => hp q (List.mem_cons_of_mem _ hq))
    have hpw := hp p List.mem_cons_self
    have e : nS (p :: ps) = nS ps + if p.1 = 1 then 1 else 0 := by
      unfold nS
      rw [List.countP_cons]
      by_cases c : p.1 = 1
      · rw [if_pos c, if_pos (decide_eq_true c)]
      · rw [if_neg c, if_neg (by simp [c])]
    rw [e]
    by_cases c : p.1 = 1
    · rw [if_pos c]
      have h1 := cn_or_le (sF ps) p.2.1.toNat 7
      have h2 : cn (sF (p :: ps)) 7 = cn (fun k => decide (k = p.2.1.toNat) || sF ps k) 7 := cn_eq fun k _ => by
        show (p :: ps).any _ = _
        rw [List.any_cons, decide_eq_true c, Bool.true_and]
        refine congr (congrArg or ?_) rfl
        have : 0 ≤ p.2.1 := hpw.b.2.2.1
        exact decide_eq_decide.mpr ⟨fun z => by omega, fun z => by omega⟩
      have h3 : (if p.2.1.toNat < 7 then 1 else 0) ≤ 1 := by split <;> omega
      omega
    · rw [if_neg c]
      have h2 : cn (sF (p :: ps)) 7 = cn (sF ps) 7 := cn_eq fun k _ => by
        show (p :: ps).any _ = _
        rw [List.any_cons, decide_eq_false c, Bool.false_and, Bool.false_or]
        rfl
      omega
theorem kinds_le : ∀ {ps : List Part}, nR ps + nS ps + nA ps ≤ ps.length
  | [] => Nat.le_refl _
  | p :: ps => by
    have ih := kinds_le (ps := ps)
    unfold nR nS nA at *
    rw [List.countP_cons, List.countP_cons, List.countP_cons, List.length_cons]
    by_cases c0 : p.1 = 0
    · rw [if_pos (decide_eq_true c0), if_neg (by simp [c0]), if_neg (by simp [c0])]
      omega
    · rw [if_neg (by simp [c0])]
      by_cases c1 : p.1 = 1
      · rw [if_pos (decide_eq_true c1), if_neg (by simp [c1])]
        omega
      · rw [if_neg (by simp [c1])]
        split <;> omega
/-- the nodes with a given voltage -/
def vF (ps : List Part) : Nat → Bool := fun k => !frF ps k && (decide (k ≠ 0) && sF ps k)
theorem src_sF {ps : List Part} {k : Nat} (h : srcI ps k ≠ -1) : sF ps k = true := by
  rcases srcI_r ps k with ⟨h1, _⟩ | ⟨j, p, h1, h2, h3, h4⟩
  · exact absurd h1 h
  · refine List.any_eq_true.mpr ⟨p, List.mem_of_getElem? h2, ?_⟩
    rw [decide_eq_true h3, decide_eq_true h4]
    rfl
def avF (ps : List Part) : Nat → Int := fun x => if x = 7 then (if 0 < nA ps then 200 else 0) else if x = 8 then (if 0 < nA ps then 200 else 0) else if x = 9 then (if 0 < nA ps then 1 else 0) else if vF ps x = true then 200 else 0
theorem avF_bd {ps : List Part} {off rail : Int} (hp : ∀ p ∈ ps, PW p) (hr : 0 ≤ rail ∧ rail ≤ 200) {x : Nat} (hx : x < 10) : lb_b (valF ps off rail x) (avF ps x) := by
  unfold avF
  by_cases c7 : x = 7
  · rw [if_pos c7]
    unfold valF
    rw [if_pos c7]
    split
    · rename_i z
      rw [if_pos z.2]
      exact ⟨by omega, hr.2⟩
    · split <;> exact ⟨by omega, by omega⟩
  · rw [if_neg c7]
    by_cases c8 : x = 8
    · rw [if_pos c8]
      unfold valF
      rw [if_neg c7, if_pos c8]
      split
      · rename_i z
        rw [if_pos z.2]
        exact ⟨by omega, by omega⟩
      · split <;> exact ⟨by omega, by omega⟩
    · rw [if_neg c8]
      by_cases c9 : x = 9
      · rw [if_pos c9]
        unfold valF
        rw [if_neg c7, if_neg c8, if_pos c9]
        split <;> exact ⟨by omega, by omega⟩
      · rw [if_neg c9]
        have hx7 : x < 7 := by omega
        by_cases z : x = 0 ∨ frF ps x = true ∨ off ≠ 0 ∨ srcI ps x = -1
        · rw [valF_0 hx7 z]
          split <;> exact ⟨by omega, by omega⟩
        · have z1 : x ≠ 0 := fun w => z (Or.inl w)
          have z2 : ¬ frF ps x = true := fun w => z (Or.inr (Or.inl w))
          have z3 : off = 0 := by
            by_cases w : off = 0
            · exact w
            · exact absurd (Or.inr (Or.inr (Or.inl w))) z
          have z4 : srcI ps x ≠ -1 := fun w => z (Or.inr (Or.inr (Or.inr w)))
          rw [valF_s hx7 z1 z2 z3 z4]
          have hv : vF ps x = true := by
            unfold vF
            rw [src_sF z4, decide_eq_true z1]
            cases e : frF ps x with
            | true => exact absurd e z2
            | false => rfl
          rw [if_pos hv]
          rcases srcI_r ps x with ⟨h1, _⟩ | ⟨j, p, h1, h2, h3, h4⟩
          · exact absurd h1 z4
          · unfold srcV
            rw [h1, pAt_of h2]
            have := (hp p (List.mem_of_getElem? h2)).b
            exact ⟨by omega, by omega⟩
theorem avF_sum (ps : List Part) : la_s (avF ps) 10 ≤ 200 * (cn (vF ps) 7 : Int) + if 0 < nA ps then 401 else 0 := by
  have h : ∀ n, n ≤ 7 → la_s (avF ps) n = 200 * (cn (vF ps) n : Int) := by
    intro n
    induction n with
    | zero => exact fun _ => rfl
    | succ n ih =>
      intro hn
      show la_s (avF ps) n + avF ps n = _
      have e : avF ps n = if vF ps n = true then 200 else 0 := by
        unfold avF
        rw [if_neg (by omega), if_neg (by omega), if_neg (by omega)]
      rw [ih (by omega), e, cn_s]
      split <;> omega
  show la_s (avF ps) 7 + avF ps 7 + avF ps 8 + avF ps 9 ≤ _
  rw [h 7 (Nat.le_refl _)]
  have e7 : avF ps 7 = if 0 < nA ps then 200 else 0 := rfl
  have e8 : avF ps 8 = if 0 < nA ps then 200 else 0 := rfl
  have e9 : avF ps 9 = if 0 < nA ps then 1 else 0 := rfl
  rw [e7, e8, e9]
  split <;> omega
theorem vT : ∀ s : Nat, s ≤ 6 → ∀ a : Nat, a ≤ 3 → s + a ≤ 6 → 594 - 83 * s - 59 * a < 744 ∧ (200 * s + if 0 < a then 401 else 0) ^ 24 * 2 ^ (594 - 83 * s - 59 * a) < 2 ^ 744 := by decide +kernel
theorem det_ok {ps : List Part} {c t rail : Int} {R : Nat → Int} (hG : GdP ps) (hr : 0 ≤ rail ∧ rail ≤ 200) (hR : RowsAre ps (valF ps (offT t) rail) R (RwL ps c t)) (col : Int) (hc : col = -1 ∨ ∃ y : Nat, col = y ∧ y < cn (frF ps) 7) : DOk (cn (frF ps) 7) (detQ R col) := by
  have hk := kc_count hG
  have hu := fr6 ps
  have hpw : ∀ p ∈ ps, PW p := fun p hp => (hG.2.2.1 p hp).1
  obtain ⟨w, e, h1, h2, h3⟩ := rw_bd (c := c) (t := t) hG
  have hs1 : cn (frF ps) 7 + cn (vF ps) 7 ≤ 6 := cn_dis (f := frF ps) (g := vF ps) (fun i z => by unfold vF; rw [z]; rfl) (fr0 ps) rfl 6
  have hs2 := cn_le_f (f := vF ps) (g := sF ps) (fun i z => by
    unfold vF at z
    rw [Bool.and_eq_true, Bool.and_eq_true] at z
    exact z.2.2) 7
  have hs3 := sF_le hpw
  have hs4 := kinds_le (ps := ps)
  have hs5 := hG.1
  have hs6 := hG.2.1
  have hv := vT (cn (vF ps) 7) (by omega) (nA ps) hs6 (by omega)
  have hy : ∃ y : Nat, ∀ q : Nat, q < cn (frF ps) 7 → ((q : Int) = col ↔ q = y) := by
    rcases hc with z | ⟨y, z, hy⟩
    · exact ⟨cn (frF ps) 7, fun q hq => by omega⟩
    · exact ⟨y, fun q hq => by omega⟩
  obtain ⟨y, hy⟩ := hy
  refine ⟨PaM ps (valF ps (offT t) rail) y (594 - 83 * cn (vF ps) 7 - 59 * nA ps), ⟨rwF ps c t, w, e, fun i q hi hq => ?_, h1, h2, by omega⟩, fun A a b ha hb hA => hA.x ha hb, fun A hA k l j hl hj => ?_⟩
  · have hRi := hR.1 i _ (rwF_some (c := c) (t := t) (by omega))
    unfold detQ
    by_cases z : (q : Int) = col
    · rw [if_pos z, if_pos ((hy q hq).mp z)]
      exact hRi 6 (by omega)
    · rw [if_neg z, if_neg (fun x => z ((hy q hq).mpr x))]
      exact hRi q (by omega)
  · refine hA.bd (V := 200 * cn (vF ps) 7 + if 0 < nA ps then 401 else 0) (av := avF ps) (fun x hx => avF_bd hpw hr hx) (fun x hx hf => valF_0 hx (Or.inr (Or.inl hf))) ?_ hv.1 hv.2 hl hj
    have := avF_sum ps
    split <;> rename_i z
    · rw [if_pos z] at this
      omega
    · rw [if_neg z] at this
      omega
