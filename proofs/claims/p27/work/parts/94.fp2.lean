/-! part 94: doubles: sums, comparisons, what bitsOf does -/
theorem log2_mul {c j : Nat} (h : 4503599627370496 ≤ c ∧ c < 9007199254740992) : (c * 2 ^ j).log2 = 52 + j := by
  have hp : 0 < 2 ^ j := Nat.pow_pos (by decide)
  have hc : 0 < c * 2 ^ j := Nat.mul_pos (by omega) hp
  refine (Nat.log2_eq_iff (by omega)).mpr ⟨?_, ?_⟩
  · rw [Nat.pow_add]
    exact Nat.mul_le_mul_right _ h.1
  · rw [show 52 + j + 1 = 53 + j by omega, Nat.pow_add]
    exact Nat.mul_lt_mul_of_pos_right h.2 hp
theorem round_1 {s : Bool} {c j : Nat} {e q : Int} (h : Nrm c q) (he : e + j = q) (h7 : q ≤ 970) : FP.Core.roundRatio FP.Core.b64 s (c * 2 ^ j) 1 e = .fin s c q := by
  obtain ⟨hc, h1, h2⟩ := id h
  have hp : 0 < 2 ^ j := Nat.pow_pos (by decide)
  have hpos : 0 < c * 2 ^ j := Nat.mul_pos (by omega) hp
  obtain ⟨c', q', e', hN, b1, b2, hx⟩ := round_nrm (num := c * 2 ^ j) (den := 1) (e := e) (s := s) hpos (by decide) (lead_1 hpos) (by rw [log2_mul hc]; omega) (by rw [log2_mul hc]; omega)
  have := hx c (by
    unfold FP.Core.unitsNum FP.Core.unitsDen
    rw [log2_mul hc, show (e - (((52 + j : Nat) : Int) + e - 52)).toNat = 0 by omega, show ((((52 + j : Nat) : Int) + e - 52) - e).toNat = j by omega, Nat.pow_zero, Nat.mul_one, Nat.one_mul])
  rw [e', this.1, this.2, log2_mul hc]
  rw [show (((52 + j : Nat) : Int) + e - 52) = q by omega]
theorem dadd_gd {lo hi : Int} {x y : UInt64} (hx : Gd lo hi x) (hy : Gd lo hi y) (b1 : -1000 ≤ lo - 53) (b2 : hi ≤ 900) : Gd (lo - 53) (hi + 3) (FP.dadd x y) := by
  show Gd _ _ (.ofNat (FP.Core.encode FP.Core.b64 (FP.Core.round FP.Core.b64 (FP.Core.exactSum (FP.Core.decode FP.Core.b64 x.toNat) (FP.Core.decode FP.Core.b64 y.toNat)))))
  rcases hx with h | ⟨s, c, q, e, hN, a, b⟩
  · subst h
    rcases hy with h | ⟨t, d, r, e, hN, a, b⟩
    · subst h
      exact Or.inl (by decide +kernel)
    · subst e
      rw [dE_dec hN, dZ_dec]
      obtain ⟨hc, h1, h2⟩ := id hN
      show Gd _ _ (.ofNat (FP.Core.encode FP.Core.b64 (FP.Core.roundRatio FP.Core.b64 (FP.Core.sumSign false t (FP.Core.signed false (0 * 2 ^ (-1074 - min (-1074) r).toNat) + FP.Core.signed t (d * 2 ^ (r - min (-1074) r).toNat))) (FP.Core.signed false (0 * 2 ^ (-1074 - min (-1074) r).toNat) + FP.Core.signed t (d * 2 ^ (r - min (-1074) r).toNat)).natAbs 1 (min (-1074) r))))
      rw [show min (-1074) r = -1074 by omega, Nat.zero_mul, show (FP.Core.signed false 0 + FP.Core.signed t (d * 2 ^ (r - -1074).toNat)).natAbs = d * 2 ^ (r - -1074).toNat by
        generalize d * 2 ^ (r - -1074).toNat = z
        unfold FP.Core.signed
        cases t <;> simp]
      rw [round_1 (q := r) hN (by omega) (by omega)]
      exact Or.inr ⟨_, d, r, rfl, hN, by omega, by omega⟩
  · subst e
    obtain ⟨hc, h1, h2⟩ := id hN
    rw [dE_dec hN]
    rcases hy with h | ⟨t, d, r, e, hN2, a2, b3⟩
    · subst h
      rw [dZ_dec]
      show Gd _ _ (.ofNat (FP.Core.encode FP.Core.b64 (FP.Core.roundRatio FP.Core.b64 (FP.Core.sumSign s false (FP.Core.signed s (c * 2 ^ (q - min q (-1074)).toNat) + FP.Core.signed false (0 * 2 ^ (-1074 - min q (-1074)).toNat))) (FP.Core.signed s (c * 2 ^ (q - min q (-1074)).toNat) + FP.Core.signed false (0 * 2 ^ (-1074 - min q (-1074)).toNat)).natAbs 1 (min q (-1074)))))
      rw [show min q (-1074) = -1074 by omega, Nat.zero_mul, show (FP.Core.signed s (c * 2 ^ (q - -1074).toNat) + FP.Core.signed false 0).natAbs = c * 2 ^ (q - -1074).toNat by
        generalize c * 2 ^ (q - -1074).toNat = z
        unfold FP.Core.signed
        cases s <;> simp]
      rw [round_1 (q := q) hN (by omega) (by omega)]
      exact Or.inr ⟨_, c, q, rfl, hN, by omega, by omega⟩
    · subst e
      rw [dE_dec hN2]
      obtain ⟨hc2, h3, h4⟩ := id hN2
      show Gd _ _ (.ofNat (FP.Core.encode FP.Core.b64 (FP.Core.roundRatio FP.Core.b64 (FP.Core.sumSign s t (FP.Core.signed s (c * 2 ^ (q - min q r).toNat) + FP.Core.signed t (d * 2 ^ (r - min q r).toNat))) (FP.Core.signed s (c * 2 ^ (q - min q r).toNat) + FP.Core.signed t (d * 2 ^ (r - min q r).toNat)).natAbs 1 (min q r))))
      have hm1 : min q r ≤ q := by omega
      have hm2 : min q r ≤ r := by omega
      have hM1 : q ≤ max q r := by omega
      have hM2 : r ≤ max q r := by omega
      have hM3 : max q r ≤ hi := by omega
      have hm3 : lo ≤ min q r := by omega
      generalize min q r = m at *
      generalize max q r = M at *
      have p1 : 0 < c * 2 ^ (q - m).toNat := Nat.mul_pos (by omega) (Nat.pow_pos (by decide))
      have p2 : 0 < d * 2 ^ (r - m).toNat := Nat.mul_pos (by omega) (Nat.pow_pos (by decide))
      have u : ∀ (z : Nat) (k : Int), z < 9007199254740992 → k ≤ M → z * 2 ^ (k - m).toNat < 2 ^ (53 + (M - m).toNat) := by
        intro z k hz hk
        have i1 : 2 ^ (k - m).toNat ≤ 2 ^ (M - m).toNat := Nat.pow_le_pow_right (by decide) (by omega)
        have i2 : z * 2 ^ (k - m).toNat ≤ z * 2 ^ (M - m).toNat := Nat.mul_le_mul_left _ i1
        have i3 : z * 2 ^ (M - m).toNat < 2 ^ 53 * 2 ^ (M - m).toNat := Nat.mul_lt_mul_of_pos_right hz (Nat.pow_pos (by decide))
        rw [Nat.pow_add]
        omega
      have u1 := u c q hc.2 hM1
      have u2 := u d r hc2.2 hM2
      generalize c * 2 ^ (q - m).toNat = A at *
      generalize d * 2 ^ (r - m).toNat = B at *
      by_cases z : FP.Core.signed s A + FP.Core.signed t B = 0
      · rw [z]
        have : (s && t) = false := by
          unfold FP.Core.signed at z
          cases s <;> cases t <;> simp at z ⊢ <;> omega
        have e0 : FP.Core.roundRatio FP.Core.b64 (FP.Core.sumSign s t 0) (0 : Int).natAbs 1 m = .fin (s && t) 0 (-1074) := by
          unfold FP.Core.roundRatio FP.Core.sumSign
          rw [if_pos rfl, if_pos (show Int.natAbs 0 = 0 from rfl)]
          rfl
        rw [e0, this]
        exact Or.inl dZ_enc
      · have hN : 0 < (FP.Core.signed s A + FP.Core.signed t B).natAbs := by omega
        have hlt : (FP.Core.signed s A + FP.Core.signed t B).natAbs < 2 ^ (54 + (M - m).toNat) := by
          rw [show 54 + (M - m).toNat = (53 + (M - m).toNat) + 1 by omega, Nat.pow_succ]
          unfold FP.Core.signed
          split <;> split <;> omega
        generalize (FP.Core.signed s A + FP.Core.signed t B).natAbs = N at *
        have hl := (Nat.log2_lt (show N ≠ 0 by omega)).mpr hlt
        obtain ⟨c', q', e', hN', b4, b5, -⟩ := round_nrm (num := N) (den := 1) (e := m) (s := FP.Core.sumSign s t (FP.Core.signed s A + FP.Core.signed t B)) hN (by decide) (lead_1 hN) (by omega) (by omega)
        rw [e']
        exact Or.inr ⟨_, c', q', rfl, hN', by omega, by omega⟩
theorem nn_n {s : Bool} {c : Nat} {q : Int} (h : Nrm c q) : vf_n64 (dE s c q) := by
  show dE s c q &&& 0x7fffffffffffffff ≤ 0x7ff0000000000000
  rw [UInt64.le_iff_toNat_le, UInt64.toNat_and, dE_nat h]
  show encN s c q &&& (2 ^ 63 - 1) ≤ 9218868437227405312
  rw [Nat.and_two_pow_sub_one_eq_mod]
  obtain ⟨⟨h1, h2⟩, h3, h4⟩ := h
  unfold encN
  have : s.toNat ≤ 1 := by cases s <;> decide
  omega
theorem Gd.nn {lo hi : Int} {x : UInt64} (h : Gd lo hi x) : vf_n64 x := by
  rcases h with h | ⟨s, c, q, e, h, -⟩
  · subst h
    show (0 : UInt64) &&& 0x7fffffffffffffff ≤ 0x7ff0000000000000
    decide
  · subst e
    exact nn_n h
theorem cv_gt {x y : UInt64} {a b : Int} (h : FP.dcmp x y = some (compare a b)) (hl : b < a) (op : CmpOp) : (Op.cmpValue (FP.dcmp x y) op).toInt = 1 := by
  rw [h, show compare a b = .gt by
    show compareOfLessAndEq a b = .gt
    unfold compareOfLessAndEq
    rw [if_neg (by omega), if_neg (by omega)]]
  rfl
theorem cv_lt {x y : UInt64} {a b : Int} (h : FP.dcmp x y = some (compare a b)) (hl : a < b) (op : CmpOp) : (Op.cmpValue (FP.dcmp x y) op).toInt = -1 := by
  rw [h, show compare a b = .lt by
    show compareOfLessAndEq a b = .lt
    unfold compareOfLessAndEq
    rw [if_pos (by omega)]]
  rfl
theorem cv_eq {x y : UInt64} {a b : Int} (h : FP.dcmp x y = some (compare a b)) (hl : a = b) (op : CmpOp) : (Op.cmpValue (FP.dcmp x y) op).toInt = 0 := by
  rw [h, show compare a b = .eq by
    show compareOfLessAndEq a b = .eq
    unfold compareOfLessAndEq
    rw [if_neg (by omega), if_pos (by omega)]]
  rfl
theorem dcmp_self {lo hi : Int} {x : UInt64} (h : Gd lo hi x) (op : CmpOp) : (Op.cmpValue (FP.dcmp x x) op).toInt = 0 := by
  rcases h with h | ⟨s, c, q, e, h, -⟩
  · subst h
    cases op <;> decide +kernel
  · subst e
    have : FP.dcmp (dE s c q) (dE s c q) = some (compare (FP.Core.signed s (FP.Core.inUnits c q (min q q))) (FP.Core.signed s (FP.Core.inUnits c q (min q q)))) := by
      show FP.Core.order (FP.Core.decode FP.Core.b64 (dE s c q).toNat) (FP.Core.decode FP.Core.b64 (dE s c q).toNat) = _
      rw [dE_dec h]
      rfl
    exact cv_eq this rfl op
theorem dcmp_0 {s : Bool} {c : Nat} {q : Int} (h : Nrm c q) (op : CmpOp) : (Op.cmpValue (FP.dcmp (dE s c q) FP.dconst0) op).toInt = if s = true then -1 else 1 := by
  obtain ⟨hc, h1, h2⟩ := id h
  have : FP.dcmp (dE s c q) FP.dconst0 = some (compare (FP.Core.signed s (c * 2 ^ (q - min q (-1074)).toNat)) (FP.Core.signed false (0 * 2 ^ (-1074 - min q (-1074)).toNat))) := by
    show FP.Core.order (FP.Core.decode FP.Core.b64 (dE s c q).toNat) (FP.Core.decode FP.Core.b64 (0 : UInt64).toNat) = _
    rw [dE_dec h, dZ_dec]
    rfl
  have hp : 0 < c * 2 ^ (q - min q (-1074)).toNat := Nat.mul_pos (by omega) (Nat.pow_pos (by decide))
  rw [Nat.zero_mul] at this
  cases s with
  | false =>
    rw [cv_gt this (by show (0 : Int) < ((c * 2 ^ (q - min q (-1074)).toNat : Nat) : Int); omega)]
    rfl
  | true =>
    rw [cv_lt this (by show -((c * 2 ^ (q - min q (-1074)).toNat : Nat) : Int) < 0; omega)]
    rfl
theorem d2_dec : FP.Core.decode FP.Core.b64 (4611686018427387904 : UInt64).toNat = .fin false 4503599627370496 (-51) := by decide +kernel
theorem d1_dec : FP.Core.decode FP.Core.b64 FP.dconst1.toNat = .fin false 4503599627370496 (-52) := by decide +kernel
theorem d52_dec : FP.Core.decode FP.Core.b64 (4841369599423283200 : UInt64).toNat = .fin false 4503599627370496 0 := by decide +kernel
/-- at least two .. -/
theorem dcmp_2 {c : Nat} {q : Int} (h : Nrm c q) (op : CmpOp) : (Op.cmpValue (FP.dcmp (dE false c q) 4611686018427387904) op).toInt < 0 ↔ q < -51 := by
  obtain ⟨hc, h1, h2⟩ := id h
  have : FP.dcmp (dE false c q) 4611686018427387904 = some (compare (((c * 2 ^ (q - min q (-51)).toNat : Nat) : Int)) ((4503599627370496 * 2 ^ (-51 - min q (-51)).toNat : Nat) : Int)) := by
    show FP.Core.order (FP.Core.decode FP.Core.b64 (dE false c q).toNat) (FP.Core.decode FP.Core.b64 (4611686018427387904 : UInt64).toNat) = _
    rw [dE_dec h, d2_dec]
    rfl
  by_cases z : q < -51
  · rw [show min q (-51) = q by omega, Int.sub_self, show (0 : Int).toNat = 0 from rfl, Nat.pow_zero, Nat.mul_one, show (-51 - q).toNat = 1 + (-52 - q).toNat by omega, Nat.pow_add] at this
    have p := Nat.mul_le_mul_left (4503599627370496 * 2 ^ 1) (show 1 ≤ 2 ^ (-52 - q).toNat from Nat.pow_pos (by decide))
    rw [Nat.mul_assoc 4503599627370496] at p
    rw [cv_lt this (by omega)]
    omega
  · rw [show min q (-51) = -51 by omega, show (-51 - -51 : Int).toNat = 0 from rfl, Nat.pow_zero, Nat.mul_one] at this
    have p := Nat.mul_le_mul_left c (show 1 ≤ 2 ^ (q - -51).toNat from Nat.pow_pos (by decide))
    by_cases y : 4503599627370496 = c * 2 ^ (q - -51).toNat
    · rw [cv_eq this (by omega)]
      omega
    · rw [cv_gt this (by omega)]
      omega
/-- less than one .. -/
theorem dcmp_1 {c : Nat} {q : Int} (h : Nrm c q) (op : CmpOp) : 0 ≤ (Op.cmpValue (FP.dcmp (dE false c q) FP.dconst1) op).toInt ↔ -52 ≤ q := by
  obtain ⟨hc, h1, h2⟩ := id h
  have : FP.dcmp (dE false c q) FP.dconst1 = some (compare (((c * 2 ^ (q - min q (-52)).toNat : Nat) : Int)) ((4503599627370496 * 2 ^ (-52 - min q (-52)).toNat : Nat) : Int)) := by
    show FP.Core.order (FP.Core.decode FP.Core.b64 (dE false c q).toNat) (FP.Core.decode FP.Core.b64 FP.dconst1.toNat) = _
    rw [dE_dec h, d1_dec]
    rfl
  by_cases z : q < -52
  · rw [show min q (-52) = q by omega, Int.sub_self, show (0 : Int).toNat = 0 from rfl, Nat.pow_zero, Nat.mul_one, show (-52 - q).toNat = 1 + (-53 - q).toNat by omega, Nat.pow_add] at this
    have p := Nat.mul_le_mul_left (4503599627370496 * 2 ^ 1) (show 1 ≤ 2 ^ (-53 - q).toNat from Nat.pow_pos (by decide))
    rw [Nat.mul_assoc 4503599627370496] at p
    rw [cv_lt this (by omega)]
    omega
  · rw [show min q (-52) = -52 by omega, show (-52 - -52 : Int).toNat = 0 from rfl, Nat.pow_zero, Nat.mul_one] at this
    have p := Nat.mul_le_mul_left c (show 1 ≤ 2 ^ (q - -52).toNat from Nat.pow_pos (by decide))
    by_cases y : 4503599627370496 = c * 2 ^ (q - -52).toNat
    · rw [cv_eq this (by omega)]
      omega
    · rw [cv_gt this (by omega)]
      omega
theorem div_2 {s : Bool} {c : Nat} {q : Int} (h : Nrm c q) (hq : -1073 ≤ q) (h7 : q ≤ 970) : FP.ddiv (dE s c q) 4611686018427387904 = dE s c (q - 1) := by
  obtain ⟨hc, h1, h2⟩ := id h
  show UInt64.ofNat (FP.Core.encode FP.Core.b64 (FP.Core.quotient FP.Core.b64 (FP.Core.decode FP.Core.b64 (dE s c q).toNat) (FP.Core.decode FP.Core.b64 (4611686018427387904 : UInt64).toNat))) = _
  rw [dE_dec h, d2_dec]
  show UInt64.ofNat (FP.Core.encode FP.Core.b64 (FP.Core.roundRatio FP.Core.b64 (s != false) c 4503599627370496 (q - -51))) = _
  have hk : FP.Core.leading c 4503599627370496 = 0 := by
    have l1 : c.log2 = 52 := by
      have := log2_mul (j := 0) hc
      rw [Nat.pow_zero, Nat.mul_one] at this
      exact this
    have l2 : (4503599627370496 : Nat).log2 = 52 := by decide +kernel
    unfold FP.Core.leading
    rw [l1, l2]
    show (if 4503599627370496 * 2 ^ 0 ≤ c * 2 ^ 0 then (0 : Int) else _) = 0
    rw [if_pos (by omega)]
  obtain ⟨c', q', e', hN, b1, b2, hx⟩ := round_nrm (num := c) (den := 4503599627370496) (e := q - -51) (s := s != false) (by omega) (by decide) hk (by omega) (by omega)
  have := hx c (by
    unfold FP.Core.unitsNum FP.Core.unitsDen
    rw [show (q - -51 - (0 + (q - -51) - 52)).toNat = 52 by omega, show (0 + (q - -51) - 52 - (q - -51)).toNat = 0 by omega])
  rw [e', this.1, this.2, show (0 : Int) + (q - -51) - 52 = q - 1 by omega, show (s != false) = s by cases s <;> rfl]
  rfl
theorem mul_k {s : Bool} {c : Nat} {q r : Int} {y : UInt64} (h : Nrm c q) (hy : FP.Core.decode FP.Core.b64 y.toNat = .fin false 4503599627370496 r) (hN : Nrm c (q + r + 52)) (h7 : q + r + 52 ≤ 970) : FP.dmul (dE s c q) y = dE s c (q + r + 52) := by
  show UInt64.ofNat (FP.Core.encode FP.Core.b64 (FP.Core.round FP.Core.b64 (FP.Core.exactProduct (FP.Core.decode FP.Core.b64 (dE s c q).toNat) (FP.Core.decode FP.Core.b64 y.toNat)))) = _
  rw [dE_dec h, hy]
  show UInt64.ofNat (FP.Core.encode FP.Core.b64 (FP.Core.roundRatio FP.Core.b64 (s != false) (c * 2 ^ 52) 1 (q + r))) = _
  rw [round_1 (q := q + r + 52) hN (by omega) h7, show (s != false) = s by cases s <;> rfl]
  rfl
/-- the significand's tail, drawn from a double in [1, 2) -/
theorem tail_of {c : Nat} (h : 4503599627370496 ≤ c ∧ c < 9007199254740992) : vf_n64 (FP.dsub (dE false c (-52)) FP.dconst1) ∧ vf_n64 (FP.dmul (FP.dsub (dE false c (-52)) FP.dconst1) 4841369599423283200) ∧ (FP.d2l (FP.dmul (FP.dsub (dE false c (-52)) FP.dconst1) 4841369599423283200)).toInt = ((c - 4503599627370496 : Nat) : Int) := by
  have hN : Nrm c (-52) := ⟨h, by decide, by decide⟩
  have es : FP.dsub (dE false c (-52)) FP.dconst1 = UInt64.ofNat (FP.Core.encode FP.Core.b64 (FP.Core.round FP.Core.b64 (.fin (FP.Core.sumSign false true (((c * 2 ^ 0 : Nat) : Int) + -((4503599627370496 * 2 ^ 0 : Nat) : Int))) (((c * 2 ^ 0 : Nat) : Int) + -((4503599627370496 * 2 ^ 0 : Nat) : Int)).natAbs (-52)))) := by
    show UInt64.ofNat (FP.Core.encode FP.Core.b64 (FP.Core.round FP.Core.b64 (FP.Core.exactSum (FP.Core.decode FP.Core.b64 (dE false c (-52)).toNat) (FP.Core.negate (FP.Core.decode FP.Core.b64 FP.dconst1.toNat))))) = _
    rw [dE_dec hN, d1_dec]
    rfl
  rw [Nat.pow_zero, Nat.mul_one, Nat.mul_one] at es
  by_cases z : c = 4503599627370496
  · subst z
    have e0 : FP.dsub (dE false 4503599627370496 (-52)) FP.dconst1 = 0 := by
      rw [es]
      decide +kernel
    have e2 : FP.dmul 0 4841369599423283200 = 0 := by decide +kernel
    have nz : vf_n64 0 := Gd.nn (lo := 0) (hi := 0) (Or.inl rfl)
    rw [e0, e2]
    exact ⟨nz, nz, by decide +kernel⟩
  · obtain ⟨v, rfl⟩ : ∃ v, c = 4503599627370496 + v := ⟨c - 4503599627370496, by omega⟩
    have hv : 0 < v := by omega
    have hl : v.log2 < 52 := (Nat.log2_lt (by omega)).mpr (by omega)
    rw [show ((((4503599627370496 + v : Nat) : Int) + -((4503599627370496 : Nat) : Int))) = (v : Int) by omega] at es
    rw [show FP.Core.sumSign false true (v : Int) = false by
      unfold FP.Core.sumSign
      rw [if_neg (by omega)]
      exact decide_eq_false (by omega), Int.natAbs_natCast] at es
    obtain ⟨c', q', e', hN', b1, b2, hx⟩ := round_nrm (num := v) (den := 1) (e := -52) (s := false) hv (by decide) (lead_1 hv) (by omega) (by omega)
    have := hx (v * 2 ^ (52 - v.log2)) (by
      unfold FP.Core.unitsNum FP.Core.unitsDen
      rw [show (-52 - (((v.log2 : Nat) : Int) + -52 - 52)).toNat = 52 - v.log2 by omega, show ((((v.log2 : Nat) : Int) + -52 - 52) - -52).toNat = 0 by omega, Nat.pow_zero, Nat.mul_one]
      done)
    have e1 : FP.dsub (dE false (4503599627370496 + v) (-52)) FP.dconst1 = dE false c' q' := by
      rw [es]
      show UInt64.ofNat (FP.Core.encode FP.Core.b64 (FP.Core.roundRatio FP.Core.b64 false v 1 (-52))) = _
      rw [e']
      rfl
    obtain ⟨hc', h1', h2'⟩ := id hN'
    have hN2 : Nrm c' (q' + 0 + 52) := ⟨hc', by omega, by omega⟩
    rw [e1, mul_k hN' d52_dec hN2 (by omega)]
    refine ⟨nn_n hN', nn_n hN2, ?_⟩
    show (FP.Core.toL (FP.Core.decode FP.Core.b64 (dE false c' (q' + 0 + 52)).toNat)).toInt = _
    rw [dE_dec hN2]
    show (Int64.ofInt (max (-2 ^ 63) (min (2 ^ 63 - 1) ((c' * 2 ^ (q' + 0 + 52).toNat / 2 ^ (-(q' + 0 + 52)).toNat : Nat) : Int)))).toInt = _
    rw [this.1, this.2, show (((v.log2 : Nat) : Int) + -52 - 52 + 0 + 52).toNat = 0 by omega, show (-(((v.log2 : Nat) : Int) + -52 - 52 + 0 + 52)).toNat = 52 - v.log2 by omega, Nat.pow_zero, Nat.mul_one, Nat.mul_div_cancel _ (Nat.pow_pos (by decide)), Nat.add_sub_cancel_left]
    have hv2 : (v : Int) < 4503599627370496 := by omega
    rw [show max (-2 ^ 63) (min (2 ^ 63 - 1) (v : Int)) = (v : Int) by omega]
    exact Int64.toInt_ofInt_of_le (by show -9223372036854775808 ≤ (v : Int); omega) (by show (v : Int) < 9223372036854775808; omega)
