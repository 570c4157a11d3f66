/-! part 89: fractions that are equal have the same lowest terms -/
theorem low_eq {x y d e w : Int} (hd : 0 < d) (he : 0 < e) (h : d * x = e * y) : lowT x e w = lowT y d w := by
  have hg : 0 < Nat.gcd x.natAbs e.natAbs := Nat.gcd_pos_of_pos_right _ (by omega)
  have hg' : 0 < Nat.gcd y.natAbs d.natAbs := Nat.gcd_pos_of_pos_right _ (by omega)
  have key : d.natAbs * Nat.gcd x.natAbs e.natAbs = e.natAbs * Nat.gcd y.natAbs d.natAbs := by
    rw [← Nat.gcd_mul_left, ← Nat.gcd_mul_left, ← Int.natAbs_mul, ← Int.natAbs_mul, h, Int.natAbs_mul e y, Int.natAbs_mul d e, Nat.mul_comm d.natAbs e.natAbs]
  obtain ⟨x1, hx⟩ : ((Nat.gcd x.natAbs e.natAbs : Nat) : Int) ∣ x := Int.ofNat_dvd_left.mpr (Nat.gcd_dvd_left _ _)
  obtain ⟨e1, hE⟩ : ((Nat.gcd x.natAbs e.natAbs : Nat) : Int) ∣ e := Int.ofNat_dvd_left.mpr (Nat.gcd_dvd_right _ _)
  obtain ⟨y1, hy⟩ : ((Nat.gcd y.natAbs d.natAbs : Nat) : Int) ∣ y := Int.ofNat_dvd_left.mpr (Nat.gcd_dvd_left _ _)
  obtain ⟨d1, hD⟩ : ((Nat.gcd y.natAbs d.natAbs : Nat) : Int) ∣ d := Int.ofNat_dvd_left.mpr (Nat.gcd_dvd_right _ _)
  have key2 : d * ((Nat.gcd x.natAbs e.natAbs : Nat) : Int) = e * ((Nat.gcd y.natAbs d.natAbs : Nat) : Int) := by
    have := congrArg (fun z : Nat => (z : Int)) key
    simp only [Int.natCast_mul] at this
    rw [show (d.natAbs : Int) = d by omega, show (e.natAbs : Int) = e by omega] at this
    exact this
  unfold lowT
  rw [if_neg (Nat.ne_of_gt hg), if_neg (Nat.ne_of_gt hg')]
  generalize Nat.gcd x.natAbs e.natAbs = g at *
  generalize Nat.gcd y.natAbs d.natAbs = g' at *
  have gz : (g : Int) ≠ 0 := by omega
  have gz' : (g' : Int) ≠ 0 := by omega
  have ede : d1 = e1 := by
    have : ((g : Int) * g') * d1 = ((g : Int) * g') * e1 := by
      rw [hD, hE] at key2
      grind
    exact Int.eq_of_mul_eq_mul_left (Int.mul_ne_zero gz gz') this
  have d1z : d1 ≠ 0 := fun z => by rw [z, Int.mul_zero] at hD; omega
  have exy : x1 = y1 := by
    have : ((g : Int) * g' * d1) * x1 = ((g : Int) * g' * d1) * y1 := by
      rw [hx, hy, hD, hE, ← ede] at h
      grind
    exact Int.eq_of_mul_eq_mul_left (Int.mul_ne_zero (Int.mul_ne_zero gz gz') d1z) this
  have t1 : x.tdiv g = x1 := by rw [hx, Int.mul_tdiv_cancel_left _ gz]
  have t2 : y.tdiv g' = y1 := by rw [hy, Int.mul_tdiv_cancel_left _ gz']
  have t3 : e.tdiv g = e1 := by rw [hE, Int.mul_tdiv_cancel_left _ gz]
  have t4 : d.tdiv g' = d1 := by rw [hD, Int.mul_tdiv_cancel_left _ gz']
  rw [t1, t2, t3, t4, exy, ede]
def nowV (S : Stt) (k w : Int) : Int := if S.2.2.2 = 0 then 0 else nodeV S S.2.2.1 k w
