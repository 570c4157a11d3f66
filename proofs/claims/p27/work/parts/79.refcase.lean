/-! part 79: the reference: what a case, and the test of an amplifier, give; input, fault, reason -/
def ZSt (Z : Nat → Int) (S : Stt) : Prop := ZPs Z S.1 ∧ Z 49 = S.2.1 ∧ Z 50 = S.2.2.1 ∧ Z 51 = S.2.2.2
theorem sat_key : ∀ k ≤ 3, ∀ b0 b1 b2 : Bool, ∀ a < k, (bcon (((if 0 < k then (if b0 = true then 0 else 1) else 0) + (if 1 < k then (if b1 = true then 0 else 2) else 0) + (if 2 < k then (if b2 = true then 0 else 4) else 0) : Nat) : Int) (a : Nat) = 0 ↔ [b0, b1, b2].getD a false = true) := by decide +kernel
theorem satN_bit {c : Int} {k a : Nat} (hk : k ≤ 3) (ha : a < k) : bcon (satN c k : Nat) (a : Nat) = 0 ↔ c / 3 ^ a % 3 = 0 := by
  have h := sat_key k hk (decide (c / 3 ^ 0 % 3 = 0)) (decide (c / 3 ^ 1 % 3 = 0)) (decide (c / 3 ^ 2 % 3 = 0)) a ha
  simp only [decide_eq_true_eq] at h
  have e : satN c k = (if 0 < k then (if c / 3 ^ 0 % 3 = 0 then 0 else 1) else 0) + (if 1 < k then (if c / 3 ^ 1 % 3 = 0 then 0 else 2) else 0) + (if 2 < k then (if c / 3 ^ 2 % 3 = 0 then 0 else 4) else 0) := by
    rcases (show k = 0 ∨ k = 1 ∨ k = 2 ∨ k = 3 by omega) with r | r | r | r <;> subst r <;> simp [satN]
  rw [e, h]
  rcases (show a = 0 ∨ a = 1 ∨ a = 2 by omega) with r | r | r <;> subst r <;> simp
theorem orN_bit {m a j : Nat} (hm : m < 8) (ha : a < 3) (hj : j < 3) : bcon (orN m a : Nat) (j : Nat) = if j = a then 1 else bcon (m : Nat) (j : Nat) := by
  have h := msk1 m (by omega) a (by omega)
  unfold orN
  rw [Int.toNat_of_nonneg h.1]
  exact h.2.2 j (by omega)
theorem gSrc_at {ps : List Part} (hp : ∀ p ∈ ps, PW p) (r : Nat) : ∀ i, i ≤ ps.length → gSrc (ps.take i) r = if srcN ps r i = -1 then 0 else (pAt ps (srcN ps r i)).2.2.2
  | 0, _ => rfl
  | i + 1, h => by
    have ih := gSrc_at hp r i (by omega)
    have hpi : ps[i]? = some ps[i] := List.getElem?_eq_getElem (by omega)
    have hpw := hp _ (List.mem_of_getElem? hpi)
    generalize ps[i] = p at hpi hpw
    have e1 : gSrc (ps.take (i + 1)) = if p.1 = 1 then va_up (gSrc (ps.take i)) p.2.1.toNat p.2.2.2 else gSrc (ps.take i) := by
      unfold gSrc
      rw [take_s hpi, List.foldl_append]
      rfl
    have e2 : srcN ps r (i + 1) = if p.1 = 1 ∧ p.2.1 = r then (i : Int) else srcN ps r i := by
      simp only [srcN, hpi]
    rw [e1]
    by_cases c : p.1 = 1
    · rw [if_pos c]
      have hn : 0 ≤ p.2.1 := hpw.b.2.2.1
      by_cases d : p.2.1 = r
      · rw [if_pos ⟨c, d⟩] at e2
        rw [e2, if_neg (by omega), pAt_of hpi, show p.2.1.toNat = r by omega, up_self]
      · rw [if_neg (fun z => d z.2)] at e2
        rw [e2, up_ne (by omega), ih]
    · rw [if_neg (fun z => c z.1)] at e2
      rw [e2, if_neg c, ih]
theorem gSrc_v {ps : List Part} (hp : ∀ p ∈ ps, PW p) (r : Nat) : gSrc ps r = if srcI ps r = -1 then 0 else srcV ps r := by
  have := gSrc_at hp r ps.length (Nat.le_refl _)
  rw [List.take_length] at this
  exact this
theorem gAmp_s {ps : List Part} {rail c : Int} {k j : Nat} {p : Part} (hA : AmpAt ps k j p) : gAmp ps rail c (k + 1) = gStep rail (c / 3 ^ k % 3) (gAmp ps rail c k) p := by
  simp only [gAmp, hA.amps]
theorem gAmp_no {ps : List Part} {rail c : Int} {r : Nat} (h : ∀ (a j : Nat) (p : Part), AmpAt ps a j p → p.2.2.2.toNat ≠ r) : ∀ k, k ≤ nA ps → gAmp ps rail c k r = gSrc ps r
  | 0, _ => rfl
  | k + 1, hk => by
    have ih := gAmp_no (rail := rail) (c := c) h k (by omega)
    obtain ⟨j, p, hA⟩ := AmpAt.ex (ps := ps) (a := k) (by omega)
    rw [gAmp_s hA]
    have := h k j p hA
    unfold gStep
    split
    · rw [up_ne (fun z => this z.symm), ih]
    · split
      · rw [up_ne (fun z => this z.symm), ih]
      · exact ih
theorem gAmp_at {ps : List Part} (hG : GdP ps) {rail c : Int} {a j : Nat} {p : Part} (hA : AmpAt ps a j p) : ∀ k, k ≤ nA ps → a < k → gAmp ps rail c k p.2.2.2.toNat = if c / 3 ^ a % 3 = 1 then rail else if c / 3 ^ a % 3 = 2 then -rail else gAmp ps rail c a p.2.2.2.toNat
  | 0, _, h => absurd h (Nat.not_lt_zero a)
  | k + 1, hk, h => by
    obtain ⟨j', p', hA'⟩ := AmpAt.ex (ps := ps) (a := k) (by omega)
    rw [gAmp_s hA']
    by_cases d : k = a
    · subst d
      have hj : j' = j := by
        have h1 := pOf_at hA
        have h2 := pOf_at hA'
        omega
      subst hj
      have ep : p' = p := Option.some.inj (hA'.1.symm.trans hA.1)
      subst ep
      unfold gStep
      by_cases q1 : c / 3 ^ k % 3 = 1
      · rw [if_pos q1, if_pos q1, up_self]
      · rw [if_neg q1, if_neg q1]
        by_cases q2 : c / 3 ^ k % 3 = 2
        · rw [if_pos q2, if_pos q2, up_self]
        · rw [if_neg q2, if_neg q2]
    · have ih := gAmp_at hG (rail := rail) (c := c) hA k (by omega) (by omega)
      have t1 := told_amp (hG.2.2.1 p (List.mem_of_getElem? hA.1)) hA.2.1
      have t2 := told_amp (hG.2.2.1 p' (List.mem_of_getElem? hA'.1)) hA'.2.1
      have hne : p.2.2.2.toNat ≠ p'.2.2.2.toNat := fun z => by
        have := amp_out hG hA hA' (by omega)
        omega
      rw [← ih]
      unfold gStep
      split
      · rw [up_ne hne]
      · split
        · rw [up_ne hne]
        · rfl
theorem st3 (c : Int) (a : Nat) : c / 3 ^ a % 3 = 0 ∨ c / 3 ^ a % 3 = 1 ∨ c / 3 ^ a % 3 = 2 := by
  have h1 := Int.emod_nonneg (c / 3 ^ a) (show (3 : Int) ≠ 0 by decide)
  have h2 := Int.emod_lt_of_pos (c / 3 ^ a) (show (0 : Int) < 3 by decide)
  omega
/-- a case -/
theorem mat_case {S : Stt} (hG : GdP S.1) (c : Int) : Mat7 S.1 c (-1) (satN c (nA S.1)) (valF S.1 (offT (-1)) S.2.1) (givC S c) := by
  have hpw : ∀ p ∈ S.1, PW p := fun p hp => (hG.2.2.1 p hp).1
  refine ⟨fun a ha => ?_, fun r hr hf => ?_, fun a j p hA hz => ?_⟩
  · rw [satN_bit hG.2.1 ha]
    exact ⟨fun z => ⟨z, by omega⟩, fun z => z.1⟩
  · have hno : ∀ (a j : Nat) (p : Part), AmpAt S.1 a j p → p.2.2.2.toNat ≠ r := by
      intro a j p hA e
      have := out_free hG hA.1 hA.2.1
      rw [e, hf] at this
      cases this
    unfold givC
    rw [gAmp_no hno _ (Nat.le_refl _), gSrc_v hpw]
    have hf' : ¬ frF S.1 r = true := by rw [hf]; decide
    by_cases s : srcI S.1 r = -1
    · rw [if_pos s, valF_0 hr (Or.inr (Or.inr (Or.inr s)))]
    · rw [if_neg s]
      have r0 : r ≠ 0 := by
        intro e
        subst e
        rcases srcI_r S.1 ((0 : Nat) : Int) with ⟨s1, _⟩ | ⟨i, p, s1, s2, s3, s4⟩
        · exact s s1
        · have := told_src (hG.2.2.1 p (List.mem_of_getElem? s2)) s3
          omega
      exact (valF_s (off := offT (-1)) hr r0 hf' rfl s).symm
  · have hna : 0 < nA S.1 := by have := hA.lt.2; omega
    unfold givC
    rw [gAmp_at hG hA _ (Nat.le_refl _) hA.lt.2]
    unfold ampX valF
    rw [if_neg (show ¬ ((a : Int) = -1) by omega)]
    rcases st3 c a with q | q | q
    · exact absurd ⟨q, by omega⟩ hz
    · rw [if_pos q, if_pos q, if_pos rfl, if_pos ⟨rfl, hna⟩]
    · have q1 : ¬ c / 3 ^ a % 3 = 1 := by omega
      rw [if_neg q1, if_pos q, if_neg q1, if_neg (by decide), if_pos rfl, if_pos ⟨rfl, hna⟩]
/-- the test of an amplifier -/
theorem mat_test {S : Stt} (hG : GdP S.1) (c : Int) {a j : Nat} {p : Part} (hA : AmpAt S.1 a j p) : Mat7 S.1 c a (orN (satN c (nA S.1)) a) (valF S.1 (offT a) S.2.1) (fun g => if g = p.2.2.2.toNat then 1 else 0) := by
  have h3 := hG.2.1
  have ha := hA.lt.2
  have hoff : offT a = 1 := if_neg (by omega)
  have h8 := satN_8 (c := c) h3
  refine ⟨fun b hb => ?_, fun r hr hf => ?_, fun b j' p' hB hz => ?_⟩
  · rw [orN_bit h8 (by omega) (by omega)]
    by_cases e : b = a
    · rw [if_pos e]
      exact ⟨fun z => absurd z (by decide), fun z => absurd (by rw [e]) z.2⟩
    · rw [if_neg e, satN_bit h3 hb]
      exact ⟨fun z => ⟨z, by omega⟩, fun z => z.1⟩
  · have hne : r ≠ p.2.2.2.toNat := fun e => by
      have := out_free hG hA.1 hA.2.1
      rw [← e, hf] at this
      cases this
    show (if r = _ then _ else _) = _
    rw [if_neg hne, valF_0 hr (Or.inr (Or.inr (Or.inl (by rw [hoff]; decide))))]
  · have t1 := told_amp (hG.2.2.1 p (List.mem_of_getElem? hA.1)) hA.2.1
    have t2 := told_amp (hG.2.2.1 p' (List.mem_of_getElem? hB.1)) hB.2.1
    have hna : 0 < nA S.1 := by omega
    show (if p'.2.2.2.toNat = _ then _ else _) = _
    unfold ampX valF
    rw [hoff]
    by_cases e : b = a
    · subst e
      have hj : j' = j := by
        have h1 := pOf_at hA
        have h2 := pOf_at hB
        omega
      subst hj
      have ep : p' = p := Option.some.inj (hB.1.symm.trans hA.1)
      subst ep
      rw [if_pos rfl, if_pos rfl, if_neg (by decide), if_neg (by decide), if_pos rfl, if_pos hna]
    · have hne : p'.2.2.2.toNat ≠ p.2.2.2.toNat := fun z => e (amp_out hG hB hA (by omega)).1
      rw [if_neg hne, if_neg (show ¬ ((b : Int) = a) by omega)]
      split
      · rw [if_pos rfl, if_neg (fun z => absurd z.1 (by decide))]
      · rw [if_neg (by decide), if_pos rfl, if_neg (fun z => absurd z.1 (by decide))]
theorem sgn_eq {A B x y : Int} (hA : 0 < A) (hB : 0 < B) (h : A * x = B * y) : (0 < x ↔ 0 < y) ∧ (x < 0 ↔ y < 0) := by
  have p1 : 0 < x → 0 < y := fun hx => by
    have := Int.mul_pos hA hx
    rw [h] at this
    exact Int.pos_of_mul_pos_left (a := y) (b := B) (by rw [Int.mul_comm]; exact this) hB
  have p2 : 0 < y → 0 < x := fun hy => by
    have := Int.mul_pos hB hy
    rw [← h] at this
    exact Int.pos_of_mul_pos_left (a := x) (b := A) (by rw [Int.mul_comm]; exact this) hA
  have p3 : x = 0 → y = 0 := fun hx => by
    rw [hx, Int.mul_zero] at h
    exact (Int.mul_eq_zero.mp h.symm).resolve_left (by omega)
  have p4 : y = 0 → x = 0 := fun hy => by
    rw [hy, Int.mul_zero] at h
    exact (Int.mul_eq_zero.mp h).resolve_left (by omega)
  omega
