/-! part 77: the reference's rules are the class's equations -/
theorem cn_re {ps : List Part} (G : Nat → Nat → Int) : ∀ n, n ≤ 7 → la_s (fun c => G (nodeOf ps c) c) (cn (frF ps) n) = la_s (fun k => if frF ps k = true then G k (cn (frF ps) k) else 0) n
  | 0, _ => rfl
  | n + 1, h => by
    have ih := cn_re (ps := ps) G n (by omega)
    rw [cn_s]
    show _ = la_s (fun k => if frF ps k = true then G k (cn (frF ps) k) else 0) n + (if frF ps n = true then G n (cn (frF ps) n) else 0)
    by_cases c : frF ps n = true
    · rw [if_pos c, if_pos c]
      show la_s _ (cn (frF ps) n) + G (nodeOf ps (cn (frF ps) n)) (cn (frF ps) n) = _
      rw [ih, nodeOf_cn (by omega) c]
    · rw [if_neg c, if_neg c]
      show la_s _ (cn (frF ps) n) = _
      rw [ih, Int.add_zero]
/-- the potentials that numbers of the unknowns, and what is given, make -/
def XX (ps : List Part) (val y : Nat → Int) (d : Int) (k : Nat) : Int := if k < 7 ∧ frF ps k = true then y (cn (frF ps) k) else d * val k
theorem row_dot {ps : List Part} {val R : Nat → Int} {i : Nat} {ρ : Nat → Int} (hR : RowIs ps val R i ρ) (hv : ∀ k, k < 7 → frF ps k = true → val k = 0) (y : Nat → Int) (d : Int) : la_s (fun k => ρ k * XX ps val y d k) 10 = la_s (fun c => R (7 * i + c) * y c) (cn (frF ps) 7) - d * R (7 * i + 6) := by
  have hu := fr6 ps
  have e1 : la_s (fun c => R (7 * i + c) * y c) (cn (frF ps) 7) = la_s (fun c => (fun a b => ρ a * y b) (nodeOf ps c) c) (cn (frF ps) 7) := la_sE fun c hc => by
    rw [hR c (by omega), Tr_lt (by omega) hc]
  rw [e1, cn_re (ps := ps) (fun a b => ρ a * y b) 7 (Nat.le_refl _), hR 6 (by omega)]
  show _ = _ - d * -la_s (fun k => val k * ρ k) 10
  have e2 : la_s (fun k => ρ k * XX ps val y d k) 10 = la_s (fun k => (if k < 7 then (if frF ps k = true then ρ k * y (cn (frF ps) k) else 0) else 0) + d * (val k * ρ k)) 10 := la_sE fun k _ => by
    unfold XX
    by_cases c : k < 7 ∧ frF ps k = true
    · rw [if_pos c, if_pos c.1, if_pos c.2, hv k c.1 c.2]
      grind
    · rw [if_neg c]
      by_cases c7 : k < 7
      · rw [if_pos c7, if_neg (fun z => c ⟨c7, z⟩)]
        grind
      · rw [if_neg c7]
        grind
  rw [e2, la_sadd, la_smul]
  have e3 : la_s (fun k => if k < 7 then (if frF ps k = true then ρ k * y (cn (frF ps) k) else 0) else 0) 10 = la_s (fun k => if frF ps k = true then ρ k * y (cn (frF ps) k) else 0) 7 := by
    show la_s _ 7 + 0 + 0 + 0 = _
    rw [Int.add_zero, Int.add_zero, Int.add_zero]
    exact la_sE fun k hk => if_pos hk
  rw [e3]
  grind
/-- the rules, as equations of potentials -/
def SysT (ps : List Part) (c t : Int) (val x : Nat → Int) (d : Int) : Prop := (∀ r, r < 7 → kcB ps r = true → la_s (fun k => kclR ps r k * x k) 7 = 0) ∧ (∀ (a j : Nat) (p : Part), AmpAt ps a j p → if c / 3 ^ a % 3 = 0 ∧ (a : Int) ≠ t then x p.2.1.toNat = x p.2.2.1.toNat else x p.2.2.2.toNat = d * val (ampX c t a)) ∧ ∀ r, r < 7 → frF ps r = false → x r = d * val r
theorem ampX_r (c t : Int) (a : Nat) : 7 ≤ ampX c t a ∧ ampX c t a < 10 := by
  unfold ampX
  split
  · omega
  · split <;> omega
theorem ampR_dot {ps : List Part} (hG : GdP ps) {c t : Int} {a j : Nat} {p : Part} (hA : AmpAt ps a j p) (x : Nat → Int) : la_s (fun k => ampR ps c t a k * x k) 10 = if c / 3 ^ a % 3 = 0 ∧ (a : Int) ≠ t then x p.2.1.toNat - x p.2.2.1.toNat else x p.2.2.2.toNat - x (ampX c t a) := by
  have ht := told_amp (hG.2.2.1 p (List.mem_of_getElem? hA.1)) hA.2.1
  have hX := ampX_r c t a
  have ep : pAt ps (pOf ps a) = p := by rw [pOf_at hA, pAt_of hA.1]
  have e : ∀ u v : Nat, (fun q => (-1) * lb_d (some v) q + (fun q => 1 * lb_d (some u) q + (fun _ => 0) q) q) = lb_e (some u) (some v) := by
    intro u v
    funext q
    unfold lb_e
    grind
  have eR : ampR ps c t a = if c / 3 ^ a % 3 = 0 ∧ (a : Int) ≠ t then lb_e (some p.2.1.toNat) (some p.2.2.1.toNat) else lb_e (some p.2.2.2.toNat) (some (ampX c t a)) := by
    unfold ampR
    rw [ep, e, e]
  rw [eR]
  by_cases z : c / 3 ^ a % 3 = 0 ∧ (a : Int) ≠ t
  · rw [if_pos z, if_pos z]
    exact dt_e x (by omega) (by omega)
  · rw [if_neg z, if_neg z]
    exact dt_e x (by omega) hX.2
theorem kcl_10 {ps : List Part} (hp : ∀ p ∈ ps, PW p) {r : Nat} (hr : r < 7) (x : Nat → Int) : la_s (fun k => kclR ps r k * x k) 10 = la_s (fun k => kclR ps r k * x k) 7 := by
  have h : ∀ q, 7 ≤ q → kclR ps r q = 0 := fun q hq => kcl_sup (q := q) (ρ := fun _ => 0) hr hq hp rfl
  show la_s _ 7 + kclR ps r 7 * x 7 + kclR ps r 8 * x 8 + kclR ps r 9 * x 9 = _
  rw [h 7 (by omega), h 8 (by omega), h 9 (by omega)]
  omega
theorem ln_mem {f : Nat → Bool} : ∀ {n k : Nat}, k < n → f k = true → (ln f n)[cn f k]? = some k
  | 0, k, h, _ => absurd h (Nat.not_lt_zero k)
  | n + 1, k, h, hf => by
    have hl := ln_len f n
    show (ln f n ++ _)[_]? = _
    by_cases c : k = n
    · subst c
      rw [if_pos hf, List.getElem?_append, if_neg (by omega), hl, Nat.sub_self]
      rfl
    · have hlt := cn_lt (f := f) (i := k) (j := n) (by omega) hf
      rw [List.getElem?_append, if_pos (by omega)]
      exact ln_mem (by omega) hf
theorem ln_get {f : Nat → Bool} {i : Nat} : ∀ {n : Nat}, i < cn f n → ∃ k, k < n ∧ f k = true ∧ (ln f n).getD i 0 = k := by
  intro n h
  obtain ⟨k, h1, h2, h3⟩ := cn_ex h
  have := ln_mem h1 h2
  rw [h3] at this
  exact ⟨k, h1, h2, by rw [List.getD_eq_getElem?_getD, this]; rfl⟩
/-- all rows say 0 just if the equations hold -/
theorem sysT_iff {ps : List Part} (hG : GdP ps) {c t : Int} {val y : Nat → Int} {d : Int} : (∀ i, i < cn (frF ps) 7 → la_s (fun k => rwF ps c t i k * XX ps val y d k) 10 = 0) ↔ SysT ps c t val (XX ps val y d) d := by
  have hpw : ∀ p ∈ ps, PW p := fun p hp => (hG.2.2.1 p hp).1
  have hk := kc_count hG
  have h7 : ∀ q, 7 ≤ q → XX ps val y d q = d * val q := fun q hq => if_neg (by omega)
  constructor
  · intro h
    refine ⟨fun r hr hkr => ?_, fun a j p hA => ?_, fun r hr hf => if_neg (fun z => by rw [hf] at z; exact absurd z.2 (by decide))⟩
    · have hlt := cn_lt (f := kcB ps) hr hkr
      have := h (cn (kcB ps) r) (by omega)
      unfold rwF at this
      rw [if_pos hlt, List.getD_eq_getElem?_getD, ln_mem hr hkr] at this
      rw [← kcl_10 hpw hr]
      exact this
    · have hal := hA.lt.2
      have := h (cn (kcB ps) 7 + a) (by omega)
      unfold rwF at this
      rw [if_neg (by omega), Nat.add_sub_cancel_left, ampR_dot hG hA] at this
      by_cases z : c / 3 ^ a % 3 = 0 ∧ (a : Int) ≠ t
      · rw [if_pos z] at this ⊢
        omega
      · rw [if_neg z, h7 _ (ampX_r c t a).1] at this
        rw [if_neg z]
        omega
  · rintro ⟨h1, h2, h3⟩ i hi
    unfold rwF
    by_cases z : i < cn (kcB ps) 7
    · rw [if_pos z]
      obtain ⟨k, k1, k2, k3⟩ := ln_get z
      rw [k3, kcl_10 hpw k1]
      exact h1 k k1 k2
    · rw [if_neg z]
      obtain ⟨j, p, hA⟩ := AmpAt.ex (ps := ps) (a := i - cn (kcB ps) 7) (by omega)
      rw [ampR_dot hG hA]
      have := h2 _ j p hA
      by_cases w : c / 3 ^ (i - cn (kcB ps) 7) % 3 = 0 ∧ ((i - cn (kcB ps) 7 : Nat) : Int) ≠ t
      · rw [if_pos w] at this ⊢
        omega
      · rw [if_neg w] at this ⊢
        rw [h7 _ (ampX_r c t _).1]
        omega
/-- the set of saturated amplifiers and the given voltages of a case, or of the test of an amplifier -/
def Mat7 (ps : List Part) (c t : Int) (m : Nat) (val γ : Nat → Int) : Prop := (∀ a, a < nA ps → (bcon (m : Nat) (a : Nat) = 0 ↔ c / 3 ^ a % 3 = 0 ∧ (a : Int) ≠ t)) ∧ (∀ r, r < 7 → frF ps r = false → γ r = val r) ∧ ∀ (a j : Nat) (p : Part), AmpAt ps a j p → ¬ (c / 3 ^ a % 3 = 0 ∧ (a : Int) ≠ t) → γ p.2.2.2.toNat = val (ampX c t a)
theorem fr_cases {ps : List Part} {r : Nat} (hf : frF ps r = true) (hk : kcB ps r = false) : ∃ (a j : Nat) (p : Part), AmpAt ps a j p ∧ p.2.2.2 = r := by
  unfold kcB at hk
  rw [hf, Bool.true_and] at hk
  have : outF ps r = true := by
    cases e : outF ps r with
    | true => rfl
    | false => rw [e] at hk; cases hk
  obtain ⟨q, hq, hqe⟩ := List.any_eq_true.mp this
  unfold outB at hqe
  rw [Bool.and_eq_true, decide_eq_true_eq, decide_eq_true_eq] at hqe
  obtain ⟨j, hj, ej⟩ := List.mem_iff_getElem.mp hq
  exact ⟨nA (ps.take j), j, q, ⟨by rw [List.getElem?_eq_getElem hj, ej], hqe.1, rfl⟩, hqe.2⟩
theorem kc_fr {ps : List Part} {r : Nat} (h : kcB ps r = true) : frF ps r = true := by
  unfold kcB at h
  rw [Bool.and_eq_true] at h
  exact h.1
theorem sys_T {ps : List Part} (hG : GdP ps) {c t : Int} {m : Nat} {val γ x : Nat → Int} {d : Int} (hm : Mat7 ps c t m val γ) : SysT ps c t val x d ↔ SysC ps (m : Nat) γ x d := by
  constructor
  · rintro ⟨h1, h2, h3⟩
    refine ⟨h1, fun a j p hA hb => ?_, fun r hr hk hn => ?_⟩
    · have := h2 a j p hA
      rw [if_pos ((hm.1 a hA.lt.2).mp hb)] at this
      exact this
    · by_cases hf : frF ps r = true
      · obtain ⟨a, j, p, hA, hp⟩ := fr_cases hf hk
        have hz : ¬ (c / 3 ^ a % 3 = 0 ∧ (a : Int) ≠ t) := fun z => hn a j p hA ((hm.1 a hA.lt.2).mpr z) hp
        have := h2 a j p hA
        rw [if_neg hz, ← hm.2.2 a j p hA hz, show p.2.2.2.toNat = r by omega] at this
        exact this
      · have hf : frF ps r = false := by
          cases e : frF ps r with
          | true => exact absurd e hf
          | false => rfl
        rw [h3 r hr hf, hm.2.1 r hr hf]
  · rintro ⟨h1, h2, h3⟩
    refine ⟨h1, fun a j p hA => ?_, fun r hr hf => ?_⟩
    · have ht := told_amp (hG.2.2.1 p (List.mem_of_getElem? hA.1)) hA.2.1
      by_cases z : c / 3 ^ a % 3 = 0 ∧ (a : Int) ≠ t
      · rw [if_pos z]
        exact h2 a j p hA ((hm.1 a hA.lt.2).mpr z)
      · rw [if_neg z, ← hm.2.2 a j p hA z]
        obtain ⟨r, hr⟩ : ∃ r : Nat, p.2.2.2 = r := ⟨p.2.2.2.toNat, by omega⟩
        rw [show p.2.2.2.toNat = r by omega]
        refine h3 r (by omega) (out_kc hA hr) fun a' j' p' hA' hb' e' => ?_
        obtain ⟨ea, _, _⟩ := amp_out hG hA hA' (hr.trans e'.symm)
        subst ea
        exact z ((hm.1 a hA.lt.2).mp hb')
    · rw [← hm.2.1 r hr hf]
      refine h3 r hr ?_ fun a j p hA _ e => ?_
      · cases e : kcB ps r with
        | false => rfl
        | true => rw [kc_fr e] at hf; cases hf
      · have := out_free hG hA.1 hA.2.1
        rw [show p.2.2.2.toNat = r by omega, hf] at this
        cases this
theorem detQ_c {R : Nat → Int} {u c : Nat} : la_D u (detQ R c) = la_D u (la_c (detQ R (-1)) c (fun i => R (7 * i + 6))) := by
  refine la_DE fun i q _ _ => ?_
  unfold detQ la_c
  by_cases e : q = c
  · rw [if_pos (by rw [e]), if_pos e]
  · rw [if_neg (by omega), if_neg e]
    exact (if_neg (by omega)).symm
/-- the reference's answers are the class's -/
theorem ref_eq {ps : List Part} (hG : GdP ps) {c t : Int} {m : Nat} {val γ R : Nat → Int} (hm : Mat7 ps c t m val γ) (hv : ∀ k, k < 7 → frF ps k = true → val k = 0) (hR : RowsAre ps val R (RwL ps c t)) : (la_D (cn (frF ps) 7) (detQ R (-1)) = 0 ↔ solD ps m = 0) ∧ (solD ps m ≠ 0 → ∀ k, k < 7 → solD ps m * XX ps val (fun q => la_D (cn (frF ps) 7) (detQ R q)) (la_D (cn (frF ps) 7) (detQ R (-1))) k = la_D (cn (frF ps) 7) (detQ R (-1)) * numer ps m γ k) := by
  have hk := kc_count hG
  have hRi : ∀ i, i < cn (frF ps) 7 → RowIs ps val R i (rwF ps c t i) := fun i hi => hR.1 i _ (rwF_some (by omega))
  have hd : ∀ i q, detQ R (-1) i q = R (7 * i + q) := fun i q => if_neg (by omega)
  have main : SysC ps (m : Nat) γ (XX ps val (fun q => la_D (cn (frF ps) 7) (detQ R q)) (la_D (cn (frF ps) 7) (detQ R (-1)))) (la_D (cn (frF ps) 7) (detQ R (-1))) := by
    refine (sys_T hG hm).mp ((sysT_iff hG).mp fun i hi => ?_)
    rw [row_dot (hRi i hi) hv]
    have := la_cr (detQ R (-1)) (fun i => R (7 * i + 6)) hi
    have e : la_s (fun q => R (7 * i + q) * la_D (cn (frF ps) 7) (detQ R q)) (cn (frF ps) 7) = la_s (fun q => detQ R (-1) i q * la_D (cn (frF ps) 7) (la_c (detQ R (-1)) q (fun i => R (7 * i + 6)))) (cn (frF ps) 7) := la_sE fun q _ => by rw [hd, detQ_c]
    rw [e, this]
    omega
  refine ⟨⟨fun h0 => ?_, fun h0 => ?_⟩, fun hs k hk7 => cls_u hG hs main hk7⟩
  · by_cases hs : solD ps m = 0
    · exact hs
    · exfalso
      obtain ⟨z, ⟨q, hq, hzq⟩, hz⟩ := ld_ker0 h0
      have hsys : SysC ps (m : Nat) γ (XX ps val z 0) 0 := by
        refine (sys_T hG hm).mp ((sysT_iff hG).mp fun i hi => ?_)
        rw [row_dot (hRi i hi) hv]
        have := hz i hi
        have e : la_s (fun q => R (7 * i + q) * z q) (cn (frF ps) 7) = la_s (fun q => detQ R (-1) i q * z q) (cn (frF ps) 7) := la_sE fun q _ => by rw [hd]
        rw [e, this]
        omega
      have hn := nodeOf_fr hq
      have := (cls_1 hG hs).2.2 _ γ hsys (nodeOf ps q) hn.1
      unfold XX at this
      rw [if_pos ⟨hn.1, hn.2.1⟩, hn.2.2] at this
      exact hzq this
  · by_cases hD : la_D (cn (frF ps) 7) (detQ R (-1)) = 0
    · exact hD
    · exfalso
      obtain ⟨z, ⟨q, hq, hzq⟩, hz⟩ := cls_0 hG h0
      have hT := (sys_T hG hm (x := z) (d := 0)).mpr (hz γ)
      -- z is what its own free nodes make
      have hX : ∀ k, k < 7 → XX ps val (fun c => z (nodeOf ps c)) 0 k = z k := by
        intro k hk7
        unfold XX
        by_cases f : frF ps k = true
        · rw [if_pos ⟨hk7, f⟩]
          show z (nodeOf ps _) = _
          rw [nodeOf_cn hk7 f]
        · rw [if_neg (fun w => f w.2), Int.zero_mul]
          have hf : frF ps k = false := by
            cases e : frF ps k with
            | true => exact absurd e f
            | false => rfl
          rw [hT.2.2 k hk7 hf, Int.zero_mul]
      have hT2 : SysT ps c t val (XX ps val (fun c => z (nodeOf ps c)) 0) 0 := by
        refine ⟨fun r hr hkr => ?_, fun a j p hA => ?_, fun r hr hf => ?_⟩
        · exact (la_sE fun k hk7 => by rw [hX k hk7]).trans (hT.1 r hr hkr)
        · have ht := told_amp (hG.2.2.1 p (List.mem_of_getElem? hA.1)) hA.2.1
          have := hT.2.1 a j p hA
          rw [hX _ (by omega), hX _ (by omega), hX _ (by omega)]
          exact this
        · rw [hX r hr]
          exact hT.2.2 r hr hf
      have hrow := (sysT_iff hG).mpr hT2
      have hker : ∀ k, k < cn (frF ps) 7 → z (nodeOf ps k) = 0 := by
        intro k hk7
        have := la_kn (detQ R (-1)) (fun c => z (nodeOf ps c)) (fun i hi => by
          have h1 := hrow i hi
          rw [row_dot (hRi i hi) hv] at h1
          have e : la_s (fun q => detQ R (-1) i q * z (nodeOf ps q)) (cn (frF ps) 7) = la_s (fun q => R (7 * i + q) * z (nodeOf ps q)) (cn (frF ps) 7) := la_sE fun q _ => by rw [hd]
          rw [e]
          omega) hk7
        exact (Int.mul_eq_zero.mp this).resolve_left hD
      by_cases f : frF ps q = true
      · have := hker (cn (frF ps) q) (cn_lt hq f)
        rw [nodeOf_cn hq f] at this
        exact hzq this
      · have hf : frF ps q = false := by
          cases e : frF ps q with
          | true => exact absurd e f
          | false => rfl
        have := hT.2.2 q hq hf
        rw [Int.zero_mul] at this
        exact hzq this
