/-! part 93: doubles: encodings, rounding -/
def Nrm (c : Nat) (q : Int) : Prop := (4503599627370496 ≤ c ∧ c < 9007199254740992) ∧ -1074 ≤ q ∧ q ≤ 971
def encN (s : Bool) (c : Nat) (q : Int) : Nat := s.toNat * 9223372036854775808 + ((q + 1074).toNat + 1) * 4503599627370496 + (c - 4503599627370496)
theorem enc_n {s : Bool} {c : Nat} {q : Int} (h : Nrm c q) : FP.Core.encode FP.Core.b64 (.fin s c q) = encN s c q := by
  obtain ⟨⟨h1, h2⟩, h3, h4⟩ := h
  show (if c < 4503599627370496 then _ else ((s.toNat * 2048 + ((q - (-1074)).toNat + 1)) * 4503599627370496 + (c - 4503599627370496))) = _
  rw [if_neg (by omega)]
  unfold encN
  rw [show q - (-1074) = q + 1074 by omega]
  omega
theorem encN_lt {s : Bool} {c : Nat} {q : Int} (h : Nrm c q) : encN s c q < 18446744073709551616 := by
  obtain ⟨⟨h1, h2⟩, h3, h4⟩ := h
  unfold encN
  have : s.toNat ≤ 1 := by cases s <;> decide
  omega
theorem dec_n {s : Bool} {c : Nat} {q : Int} (h : Nrm c q) : FP.Core.decode FP.Core.b64 (encN s c q) = .fin s c q := by
  obtain ⟨⟨h1, h2⟩, h3, h4⟩ := h
  have hs : s.toNat ≤ 1 := by cases s <;> decide
  have e1 : encN s c q / 4503599627370496 % 2048 = (q + 1074).toNat + 1 := by
    unfold encN
    omega
  have e2 : encN s c q % 4503599627370496 = c - 4503599627370496 := by
    unfold encN
    omega
  have e3 : encN s c q / 4503599627370496 / 2048 % 2 = s.toNat := by
    unfold encN
    omega
  show (if encN s c q / 4503599627370496 % 2048 = 2047 then (if encN s c q % 4503599627370496 = 0 then FP.Core.Datum.inf _ else FP.Core.Datum.nan) else if encN s c q / 4503599627370496 % 2048 = 0 then FP.Core.Datum.fin _ _ _ else FP.Core.Datum.fin (encN s c q / 4503599627370496 / 2048 % 2 == 1) (4503599627370496 + encN s c q % 4503599627370496) (-1074 + (((encN s c q / 4503599627370496 % 2048 : Nat) : Int) - 1))) = _
  rw [e1, e2, e3, if_neg (by omega), if_neg (by omega)]
  rw [show (s.toNat == 1) = s by cases s <;> rfl, show 4503599627370496 + (c - 4503599627370496) = c by omega, show (-1074 + ((((q + 1074).toNat + 1 : Nat) : Int) - 1)) = q by omega]
def dE (s : Bool) (c : Nat) (q : Int) : UInt64 := .ofNat (FP.Core.encode FP.Core.b64 (.fin s c q))
theorem dE_nat {s : Bool} {c : Nat} {q : Int} (h : Nrm c q) : (dE s c q).toNat = encN s c q := by
  unfold dE
  rw [enc_n h]
  exact UInt64.toNat_ofNat_of_lt' (encN_lt h)
theorem dE_dec {s : Bool} {c : Nat} {q : Int} (h : Nrm c q) : FP.Core.decode FP.Core.b64 (dE s c q).toNat = .fin s c q := by rw [dE_nat h, dec_n h]
theorem dZ_dec : FP.Core.decode FP.Core.b64 (0 : UInt64).toNat = .fin false 0 (-1074) := by decide +kernel
theorem dZ_enc : (UInt64.ofNat (FP.Core.encode FP.Core.b64 (.fin false 0 (-1074)))) = 0 := by decide +kernel
theorem lead_spec {num den : Nat} (hn : 0 < num) (hd : 0 < den) : den * 2 ^ (FP.Core.leading num den).toNat ≤ num * 2 ^ (-(FP.Core.leading num den)).toNat ∧ num * 2 ^ (-(FP.Core.leading num den)).toNat < 2 * (den * 2 ^ (FP.Core.leading num den).toNat) := by
  have a1 := Nat.log2_self_le (show num ≠ 0 by omega)
  have a2 := Nat.lt_log2_self (n := num)
  have b1 := Nat.log2_self_le (show den ≠ 0 by omega)
  have b2 := Nat.lt_log2_self (n := den)
  unfold FP.Core.leading
  simp only
  generalize num.log2 = a at *
  generalize den.log2 = b at *
  rw [Nat.pow_succ] at a2 b2
  by_cases hab : b ≤ a
  · obtain ⟨d, rfl⟩ : ∃ d, a = b + d := ⟨a - b, by omega⟩
    rw [Nat.pow_add] at a1 a2
    have t1 : (((b + d : Nat) : Int) - (b : Int)).toNat = d := by omega
    have t2 : (-(((b + d : Nat) : Int) - (b : Int))).toNat = 0 := by omega
    have m1 : 2 ^ b * 2 ^ d ≤ den * 2 ^ d := Nat.mul_le_mul_right _ b1
    rw [t1, t2, Nat.pow_zero, Nat.mul_one]
    split
    · rename_i z
      rw [t1, t2, Nat.pow_zero, Nat.mul_one]
      exact ⟨z, by omega⟩
    · rename_i z
      cases d with
      | zero =>
        rw [show ((((b + 0 : Nat) : Int) - (b : Int)) - 1).toNat = 0 by omega, show (-((((b + 0 : Nat) : Int) - (b : Int)) - 1)).toNat = 1 by omega]
        simp only [Nat.pow_zero, Nat.pow_one, Nat.mul_one] at *
        omega
      | succ d =>
        rw [show ((((b + (d + 1) : Nat) : Int) - (b : Int)) - 1).toNat = d by omega, show (-((((b + (d + 1) : Nat) : Int) - (b : Int)) - 1)).toNat = 0 by omega]
        rw [Nat.pow_succ] at a1 z
        have m2 : den * 2 ^ d < 2 ^ b * 2 * 2 ^ d := Nat.mul_lt_mul_of_pos_right b2 (Nat.pow_pos (by decide))
        have e1 : 2 ^ b * (2 ^ d * 2) = 2 ^ b * 2 * 2 ^ d := by grind
        have e2 : den * (2 ^ d * 2) = 2 * (den * 2 ^ d) := by grind
        rw [Nat.pow_zero, Nat.mul_one]
        omega
  · obtain ⟨d, rfl⟩ : ∃ d, b = a + (d + 1) := ⟨b - a - 1, by omega⟩
    rw [Nat.pow_add] at b1 b2
    have t1 : ((a : Int) - ((a + (d + 1) : Nat) : Int)).toNat = 0 := by omega
    have t2 : (-((a : Int) - ((a + (d + 1) : Nat) : Int))).toNat = d + 1 := by omega
    have m1 : num * 2 ^ (d + 1) < 2 ^ a * 2 * 2 ^ (d + 1) := Nat.mul_lt_mul_of_pos_right a2 (Nat.pow_pos (by decide))
    have m2 : 2 ^ a * 2 ^ (d + 1) ≤ num * 2 ^ (d + 1) := Nat.mul_le_mul_right _ a1
    have e1 : 2 ^ a * 2 * 2 ^ (d + 1) = 2 * (2 ^ a * 2 ^ (d + 1)) := by grind
    rw [t1, t2, Nat.pow_zero, Nat.mul_one]
    split
    · rename_i z
      rw [t1, t2, Nat.pow_zero, Nat.mul_one]
      exact ⟨z, by omega⟩
    · rename_i z
      rw [show ((a : Int) - ((a + (d + 1) : Nat) : Int) - 1).toNat = 0 by omega, show (-((a : Int) - ((a + (d + 1) : Nat) : Int) - 1)).toNat = (d + 1) + 1 by omega]
      rw [Nat.pow_succ 2 (d + 1), Nat.pow_zero, Nat.mul_one, ← Nat.mul_assoc]
      omega
theorem near_bd {U V : Nat} (hV : 0 < V) (h1 : V * 4503599627370496 ≤ U) (h2 : U < V * 9007199254740992) : 4503599627370496 ≤ FP.Core.nearest U V ∧ FP.Core.nearest U V ≤ 9007199254740992 := by
  have a1 : 4503599627370496 ≤ U / V := (Nat.le_div_iff_mul_le hV).mpr (by rw [Nat.mul_comm]; exact h1)
  have a2 : U / V < 9007199254740992 := (Nat.div_lt_iff_lt_mul hV).mpr (by rw [Nat.mul_comm]; exact h2)
  unfold FP.Core.nearest
  split
  · omega
  · split <;> omega
theorem near_ex {c V : Nat} (hV : 0 < V) : FP.Core.nearest (c * V) V = c := by
  unfold FP.Core.nearest
  rw [Nat.mul_mod_left, if_pos (by omega), Nat.mul_div_cancel _ hV]
/-- the two sides of the quotient, in units of the last digit -/
theorem units_bd {num den : Nat} (hn : 0 < num) (hd : 0 < den) {e : Int} {k : Int} (hk : FP.Core.leading num den = k) : 0 < FP.Core.unitsDen den e (k + e - 52) ∧ FP.Core.unitsDen den e (k + e - 52) * 4503599627370496 ≤ FP.Core.unitsNum num e (k + e - 52) ∧ FP.Core.unitsNum num e (k + e - 52) < FP.Core.unitsDen den e (k + e - 52) * 9007199254740992 := by
  have h := lead_spec hn hd
  rw [hk] at h
  unfold FP.Core.unitsDen FP.Core.unitsNum
  rw [show e - (k + e - 52) = 52 - k by omega, show k + e - 52 - e = k - 52 by omega]
  have hp : ∀ x, 0 < 2 ^ x := fun x => Nat.pow_pos (by decide)
  refine ⟨Nat.mul_pos hd (hp _), ?_⟩
  by_cases c1 : k ≤ 0
  · rw [show k.toNat = 0 by omega, Nat.pow_zero, Nat.mul_one] at h
    rw [show (k - 52).toNat = 0 by omega, show (52 - k).toNat = (-k).toNat + 52 by omega, Nat.pow_zero, Nat.mul_one, Nat.pow_add, ← Nat.mul_assoc, show (2 : Nat) ^ 52 = 4503599627370496 from rfl]
    omega
  · rw [show (-k).toNat = 0 by omega, Nat.pow_zero, Nat.mul_one] at h
    by_cases c2 : k ≤ 52
    · rw [show (k - 52).toNat = 0 by omega, Nat.pow_zero, Nat.mul_one]
      have e1 : 2 ^ k.toNat * 2 ^ (52 - k).toNat = 4503599627370496 := by rw [← Nat.pow_add, show k.toNat + (52 - k).toNat = 52 by omega]
      have m1 := Nat.mul_le_mul_right (2 ^ (52 - k).toNat) h.1
      have m2 := Nat.mul_lt_mul_of_pos_right h.2 (hp (52 - k).toNat)
      have e2 : den * 2 ^ k.toNat * 2 ^ (52 - k).toNat = den * 4503599627370496 := by rw [Nat.mul_assoc, e1]
      have e3 : 2 * (den * 2 ^ k.toNat) * 2 ^ (52 - k).toNat = 2 * (den * 4503599627370496) := by rw [Nat.mul_assoc, e2]
      omega
    · rw [show (52 - k).toNat = 0 by omega, Nat.pow_zero, Nat.mul_one]
      have e1 : 2 ^ (k - 52).toNat * 4503599627370496 = 2 ^ k.toNat := by
        rw [show (4503599627370496 : Nat) = 2 ^ 52 from rfl, ← Nat.pow_add, show (k - 52).toNat + 52 = k.toNat by omega]
      have e2 : den * 2 ^ (k - 52).toNat * 4503599627370496 = den * 2 ^ k.toNat := by rw [Nat.mul_assoc, e1]
      omega
theorem round_nrm {num den : Nat} (hn : 0 < num) (hd : 0 < den) {e k : Int} {s : Bool} (hk : FP.Core.leading num den = k) (h1 : -1074 ≤ k + e - 52) (h2 : k + e - 52 ≤ 970) : ∃ (c : Nat) (q : Int), FP.Core.roundRatio FP.Core.b64 s num den e = .fin s c q ∧ Nrm c q ∧ k + e - 52 ≤ q ∧ q ≤ k + e - 51 ∧ (∀ c0, FP.Core.unitsNum num e (k + e - 52) = c0 * FP.Core.unitsDen den e (k + e - 52) → c = c0 ∧ q = k + e - 52) := by
  obtain ⟨u0, u1, u2⟩ := units_bd hn hd (e := e) hk
  have hq : FP.Core.quantum FP.Core.b64 num den e = k + e - 52 := by
    show max (-1074) (FP.Core.leading num den + e - (53 - 1)) = _
    rw [hk]
    omega
  have hb := near_bd u0 u1 u2
  unfold FP.Core.roundRatio
  rw [if_neg (by omega), hq]
  unfold FP.Core.roundAt
  have hx : ∀ c0, FP.Core.unitsNum num e (k + e - 52) = c0 * FP.Core.unitsDen den e (k + e - 52) → FP.Core.nearest (FP.Core.unitsNum num e (k + e - 52)) (FP.Core.unitsDen den e (k + e - 52)) = c0 ∧ c0 < 9007199254740992 := by
    intro c0 z
    refine ⟨by rw [z]; exact near_ex u0, ?_⟩
    rw [z, Nat.mul_comm] at u2
    exact Nat.lt_of_mul_lt_mul_left u2
  generalize FP.Core.nearest (FP.Core.unitsNum num e (k + e - 52)) (FP.Core.unitsDen den e (k + e - 52)) = c at *
  by_cases cc : c < 9007199254740992
  · refine ⟨c, k + e - 52, ?_, ⟨⟨hb.1, cc⟩, by omega, by omega⟩, by omega, by omega, fun c0 z => ⟨(hx c0 z).1, rfl⟩⟩
    show (if c < 9007199254740992 then (if k + e - 52 ≤ 971 then FP.Core.Datum.fin s c (k + e - 52) else _) else _) = _
    rw [if_pos cc, if_pos (by omega)]
  · refine ⟨4503599627370496, k + e - 52 + 1, ?_, ⟨⟨by decide, by decide⟩, by omega, by omega⟩, by omega, by omega, fun c0 z => absurd (hx c0 z) (by omega)⟩
    show (if c < 9007199254740992 then _ else (if k + e - 52 + 1 ≤ 971 then FP.Core.Datum.fin s 4503599627370496 (k + e - 52 + 1) else _)) = _
    rw [if_neg cc, if_pos (by omega)]
theorem lead_1 {N : Nat} (hN : 0 < N) : FP.Core.leading N 1 = (N.log2 : Int) := by
  have a1 := Nat.log2_self_le (show N ≠ 0 by omega)
  show (if 1 * 2 ^ (((N.log2 : Nat) : Int) - 0).toNat ≤ N * 2 ^ (-(((N.log2 : Nat) : Int) - 0)).toNat then ((N.log2 : Nat) : Int) - 0 else _) = _
  rw [if_pos]
  · omega
  · rw [show (((N.log2 : Nat) : Int) - 0).toNat = N.log2 by omega, show (-(((N.log2 : Nat) : Int) - 0)).toNat = 0 by omega, Nat.pow_zero, Nat.mul_one, Nat.one_mul]
    exact a1
/-- a double that is +0, or normal, of an exponent within bounds -/
def Gd (lo hi : Int) (x : UInt64) : Prop := x = 0 ∨ ∃ s c q, x = dE s c q ∧ Nrm c q ∧ lo ≤ q ∧ q ≤ hi
theorem Gd.le {lo hi lo' hi' : Int} {x : UInt64} (h : Gd lo hi x) (h1 : lo' ≤ lo) (h2 : hi ≤ hi') : Gd lo' hi' x := by
  rcases h with h | ⟨s, c, q, e, h, a, b⟩
  · exact Or.inl h
  · exact Or.inr ⟨s, c, q, e, h, by omega, by omega⟩
theorem fromI_gd {i : Int} (h : i.natAbs < 2 ^ 63) : Gd (-52) 11 (.ofNat (FP.Core.fromInt FP.Core.b64 i)) := by
  show Gd (-52) 11 (.ofNat (FP.Core.encode FP.Core.b64 (FP.Core.roundRatio FP.Core.b64 (decide (i < 0)) i.natAbs 1 0)))
  by_cases z : i = 0
  · subst z
    exact Or.inl dZ_enc
  · have hl : i.natAbs.log2 < 63 := (Nat.log2_lt (by omega)).mpr h
    obtain ⟨c, q, e, hN, b1, b2, -⟩ := round_nrm (num := i.natAbs) (den := 1) (e := 0) (s := decide (i < 0)) (by omega) (by decide) (lead_1 (by omega)) (by omega) (by omega)
    rw [e]
    exact Or.inr ⟨_, c, q, rfl, hN, by omega, by omega⟩
theorem i2d_pos {i : Int} (h0 : 0 < i) (h : i < 2 ^ 62) : ∃ c q, UInt64.ofNat (FP.Core.fromInt FP.Core.b64 i) = dE false c q ∧ Nrm c q ∧ -52 ≤ q ∧ q ≤ 11 := by
  show ∃ c q, UInt64.ofNat (FP.Core.encode FP.Core.b64 (FP.Core.roundRatio FP.Core.b64 (decide (i < 0)) i.natAbs 1 0)) = dE false c q ∧ Nrm c q ∧ -52 ≤ q ∧ q ≤ 11
  have hl : i.natAbs.log2 < 63 := (Nat.log2_lt (by omega)).mpr (by omega)
  obtain ⟨c, q, e, hN, b1, b2, -⟩ := round_nrm (num := i.natAbs) (den := 1) (e := 0) (s := decide (i < 0)) (by omega) (by decide) (lead_1 (by omega)) (by omega) (by omega)
  rw [e, decide_eq_false (show ¬ i < 0 by omega)]
  exact ⟨c, q, rfl, hN, by omega, by omega⟩
theorem ddiv_gd {lo hi lo2 hi2 : Int} {x : UInt64} {d : Nat} {r : Int} (hx : Gd lo hi x) (hd : Nrm d r) (hr : lo2 ≤ r ∧ r ≤ hi2) (b1 : -1000 ≤ lo - hi2 - 53) (b2 : hi - lo2 ≤ 900) : Gd (lo - hi2 - 53) (hi - lo2 - 51) (FP.ddiv x (dE false d r)) := by
  obtain ⟨hd1, hd2⟩ := id hd
  show Gd _ _ (.ofNat (FP.Core.encode FP.Core.b64 (FP.Core.quotient FP.Core.b64 (FP.Core.decode FP.Core.b64 x.toNat) (FP.Core.decode FP.Core.b64 (dE false d r).toNat))))
  rw [dE_dec hd]
  rcases hx with h | ⟨s, c, q, e, hN, a, b⟩
  · subst h
    rw [dZ_dec]
    show Gd _ _ (.ofNat (FP.Core.encode FP.Core.b64 (if d = 0 then _ else FP.Core.Datum.fin (false != false) 0 (-1074))))
    rw [if_neg (by omega)]
    exact Or.inl dZ_enc
  · subst e
    rw [dE_dec hN]
    show Gd _ _ (.ofNat (FP.Core.encode FP.Core.b64 (if d = 0 then _ else FP.Core.roundRatio FP.Core.b64 (s != false) c d (q - r))))
    rw [if_neg (by omega)]
    obtain ⟨hc1, hc2⟩ := hN
    have hs := lead_spec (num := c) (den := d) (by omega) (by omega)
    have hk : -1 ≤ FP.Core.leading c d ∧ FP.Core.leading c d ≤ 0 := by
      generalize FP.Core.leading c d = k at hs
      constructor
      · by_cases z : -1 ≤ k
        · exact z
        · rw [show k.toNat = 0 by omega, show (-k).toNat = 2 + (-k - 2).toNat by omega, Nat.pow_add, Nat.pow_zero, Nat.mul_one] at hs
          have : 1 ≤ 2 ^ (-k - 2).toNat := Nat.pow_pos (by decide)
          have m := Nat.mul_le_mul_left (c * 2 ^ 2) this
          rw [← Nat.mul_assoc] at hs
          omega
      · by_cases z : k ≤ 0
        · exact z
        · rw [show (-k).toNat = 0 by omega, show k.toNat = 1 + (k - 1).toNat by omega, Nat.pow_add, Nat.pow_zero, Nat.mul_one] at hs
          have : 1 ≤ 2 ^ (k - 1).toNat := Nat.pow_pos (by decide)
          have m := Nat.mul_le_mul_left (d * 2 ^ 1) this
          rw [← Nat.mul_assoc] at hs
          omega
    obtain ⟨c', q', e, hN', b1, b2, -⟩ := round_nrm (num := c) (den := d) (e := q - r) (s := s != false) (by omega) (by omega) rfl (by omega) (by omega)
    rw [e]
    exact Or.inr ⟨_, c', q', rfl, hN', by omega, by omega⟩
