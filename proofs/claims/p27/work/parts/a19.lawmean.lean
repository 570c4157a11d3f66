/-! part a19: the law's mean -/
theorem mul_1 {lo hi : Int} {x : UInt64} (h : Gd lo hi x) (h7 : hi ≤ 900) : FP.dmul FP.dconst1 x = x := by
  rcases h with h | ⟨s, c, q, e, hN, a, b⟩
  · subst h
    decide +kernel
  · subst e
    show UInt64.ofNat (FP.Core.encode FP.Core.b64 (FP.Core.round FP.Core.b64 (FP.Core.exactProduct (FP.Core.decode FP.Core.b64 FP.dconst1.toNat) (FP.Core.decode FP.Core.b64 (dE s c q).toNat)))) = _
    rw [dE_dec hN, d1_dec]
    show UInt64.ofNat (FP.Core.encode FP.Core.b64 (FP.Core.roundRatio FP.Core.b64 (false != s) (4503599627370496 * c) 1 (-52 + q))) = _
    rw [show 4503599627370496 * c = c * 2 ^ 52 from Nat.mul_comm _ _, round_1 (q := q) hN (by omega) (by omega), show (false != s) = s by cases s <;> rfl]
    rfl
theorem add_0l {lo hi : Int} {x : UInt64} (h : Gd lo hi x) (h7 : hi ≤ 900) : FP.dadd 0 x = x := by
  rcases h with h | ⟨t, d, r, e, hN, a, b⟩
  · subst h
    decide +kernel
  · subst e
    show UInt64.ofNat (FP.Core.encode FP.Core.b64 (FP.Core.round FP.Core.b64 (FP.Core.exactSum (FP.Core.decode FP.Core.b64 (0 : UInt64).toNat) (FP.Core.decode FP.Core.b64 (dE t d r).toNat)))) = _
    rw [dE_dec hN, dZ_dec]
    obtain ⟨hc, h1, h2⟩ := id hN
    show UInt64.ofNat (FP.Core.encode FP.Core.b64 (FP.Core.roundRatio FP.Core.b64 (FP.Core.sumSign false t (FP.Core.signed false (0 * 2 ^ (-1074 - min (-1074) r).toNat) + FP.Core.signed t (d * 2 ^ (r - min (-1074) r).toNat))) (FP.Core.signed false (0 * 2 ^ (-1074 - min (-1074) r).toNat) + FP.Core.signed t (d * 2 ^ (r - min (-1074) r).toNat)).natAbs 1 (min (-1074) r))) = _
    have hz : 0 < d * 2 ^ (r - -1074).toNat := Nat.mul_pos (by omega) (Nat.pow_pos (by decide))
    rw [show min (-1074) r = -1074 by omega, Nat.zero_mul, show (FP.Core.signed false 0 + FP.Core.signed t (d * 2 ^ (r - -1074).toNat)).natAbs = d * 2 ^ (r - -1074).toNat by
      generalize d * 2 ^ (r - -1074).toNat = z
      unfold FP.Core.signed
      cases t <;> simp, show FP.Core.sumSign false t (FP.Core.signed false 0 + FP.Core.signed t (d * 2 ^ (r - -1074).toNat)) = t by
      generalize d * 2 ^ (r - -1074).toNat = z at hz
      unfold FP.Core.sumSign FP.Core.signed
      cases t <;> simp <;> omega]
    rw [round_1 (q := r) hN (by omega) (by omega)]
    rfl
theorem add_0r {lo hi : Int} {x : UInt64} (h : Gd lo hi x) (h7 : hi ≤ 900) : FP.dadd x 0 = x := by
  rcases h with h | ⟨t, d, r, e, hN, a, b⟩
  · subst h
    decide +kernel
  · subst e
    show UInt64.ofNat (FP.Core.encode FP.Core.b64 (FP.Core.round FP.Core.b64 (FP.Core.exactSum (FP.Core.decode FP.Core.b64 (dE t d r).toNat) (FP.Core.decode FP.Core.b64 (0 : UInt64).toNat)))) = _
    rw [dE_dec hN, dZ_dec]
    obtain ⟨hc, h1, h2⟩ := id hN
    show UInt64.ofNat (FP.Core.encode FP.Core.b64 (FP.Core.roundRatio FP.Core.b64 (FP.Core.sumSign t false (FP.Core.signed t (d * 2 ^ (r - min r (-1074)).toNat) + FP.Core.signed false (0 * 2 ^ (-1074 - min r (-1074)).toNat))) (FP.Core.signed t (d * 2 ^ (r - min r (-1074)).toNat) + FP.Core.signed false (0 * 2 ^ (-1074 - min r (-1074)).toNat)).natAbs 1 (min r (-1074)))) = _
    have hz : 0 < d * 2 ^ (r - -1074).toNat := Nat.mul_pos (by omega) (Nat.pow_pos (by decide))
    rw [show min r (-1074) = -1074 by omega, Nat.zero_mul, show (FP.Core.signed t (d * 2 ^ (r - -1074).toNat) + FP.Core.signed false 0).natAbs = d * 2 ^ (r - -1074).toNat by
      generalize d * 2 ^ (r - -1074).toNat = z
      unfold FP.Core.signed
      cases t <;> simp, show FP.Core.sumSign t false (FP.Core.signed t (d * 2 ^ (r - -1074).toNat) + FP.Core.signed false 0) = t by
      generalize d * 2 ^ (r - -1074).toNat = z at hz
      unfold FP.Core.sumSign FP.Core.signed
      cases t <;> simp <;> omega]
    rw [round_1 (q := r) hN (by omega) (by omega)]
    rfl
/-- a node that nothing touches has no voltage -/
theorem num_unused {S : Stt} (hG : GdP S.1) {c : Int} (hs : solD S.1 (satN c (nA S.1)) ≠ 0) {k : Nat} (hk : k < 7) (hu : k = 0 ∨ S.1.any (fun p => atB p k) = false) : numer S.1 (satN c (nA S.1)) (givC S c) k = 0 := by
  obtain ⟨z1, z2, z3⟩ := nd_0 hG (mat_case hG c) hk hu
  have := ((cls_1 hG hs).2.1 (givC S c)).2.2 k hk z1 z2
  rw [this, z3, Int.mul_zero]
theorem lowT_0 {d : Int} (hd : 0 < d) : lowT 0 d 0 = 0 ∧ lowT 0 d 1 = 1 := by
  obtain ⟨g, g0, hx, hD, h1⟩ := low_g (x := 0) hd
  have hz : lowT 0 d 0 = 0 := by
    rcases Int.mul_eq_zero.mp hx.symm with z | z
    · omega
    · exact z
  refine ⟨hz, ?_⟩
  unfold lowT
  rw [if_neg (show ¬ Nat.gcd (0 : Int).natAbs d.natAbs = 0 by rw [Int.natAbs_zero, Nat.gcd_zero_left]; omega), if_neg (by decide), Int.natAbs_zero, Nat.gcd_zero_left, show (d.natAbs : Int) = d by omega]
  exact Int.tdiv_self (by omega)
/-- what the law adds for a node -/
def tD (S : Stt) (c : Int) (k : Nat) : UInt64 := FP.ddiv (FP.dmul FP.dconst1 (FP.l2d (i6 (lowT (numer S.1 (satN c (nA S.1)) (givC S c) k) (solD S.1 (satN c (nA S.1))) 0)))) (FP.l2d (i6 (lowT (numer S.1 (satN c (nA S.1)) (givC S c) k) (solD S.1 (satN c (nA S.1))) 1)))
theorem tD_un {S : Stt} (hG : GdP S.1) {c : Int} (hs : 0 < solD S.1 (satN c (nA S.1))) {k : Nat} (hk : k < 7) (hu : k = 0 ∨ S.1.any (fun p => atB p k) = false) : tD S c k = 0 := by
  unfold tD
  rw [num_unused hG (by omega) hk hu, (lowT_0 hs).1, (lowT_0 hs).2]
  decide +kernel
theorem used_bc {ps : List Part} (hp : ∀ p ∈ ps, PW p) {k : Nat} (hk : k < 7) (h0 : k ≠ 0) : bcon (usedM ps) k = 0 ↔ ps.any (fun p => atB p k) = false := by
  rw [used_con hp (by omega)]
  constructor
  · intro z
    cases e : ps.any (fun p => atB p k) with
    | false => rfl
    | true => rw [if_pos ⟨by omega, e⟩] at z; exact absurd z (by decide)
  · intro z
    exact if_neg (fun w => by rw [z] at w; exact absurd w.2 (by decide))
theorem mul1_gd {z : Int} (h : -3758096384000 ≤ z ∧ z ≤ 3758096384000) : FP.dmul FP.dconst1 (FP.l2d (i6 z)) = FP.l2d (i6 z) := mul_1 (l2d_gd h) (by decide)
