/-! part 96: the mean: no step is a NaN; the reference's mean -/
theorem volt_now {q : Dsk} {k w : Int} (hk : 0 ≤ k ∧ k < 7) (hw : w = 0 ∨ w = 1) : unL (opVolt q k w) = nowV q.1 k w := by
  unfold opVolt nowV
  rw [if_neg (fun c => c hk), if_neg (fun c => c hw)]
  split <;> rfl
theorem now_num {S : Stt} (hG : GdS S) (hO : StOk S) (hs : S.2.2.2 = 1) {k : Int} (hk : 0 ≤ k ∧ k ≤ 6) (hu : ¬ bcon (usedM S.1) k = 0) : (-3758096384000 ≤ nowV S k 0 ∧ nowV S k 0 ≤ 3758096384000) ∧ 0 < nowV S k 1 ∧ nowV S k 1 ≤ 536870912 := by
  have hsol := jud_sol (hO hs)
  have hsp := (cls_1 hG.1 hsol).1
  have hm := satN_lt S.2.2.1 (nA S.1)
  have hF := hG.fit.2
  have hn := numer_bd hF hm (show k.toNat < 7 by omega) (gAmp_bd (c := S.2.2.1) (fun p hp => (hG.1.2.2.1 p hp).1) (show 0 ≤ S.2.1 ∧ S.2.1 ≤ 1000 by have := hG.2.1; omega) (nA S.1))
  have hsd := hF.sD hm
  unfold nowV
  rw [if_neg (by omega), if_neg (by omega)]
  unfold nodeV
  have hu' : ¬ (k ≠ 0 ∧ bcon (usedM S.1) k = 0) := fun z => hu z.2
  rw [if_neg hu', if_neg hsol, if_neg hu', if_neg hsol]
  have e : givC S S.2.2.1 = gAmp S.1 S.2.1 S.2.2.1 (nA S.1) := rfl
  rw [e]
  generalize numer S.1 (satN S.2.2.1 (nA S.1)) (gAmp S.1 S.2.1 S.2.2.1 (nA S.1)) k.toNat = x at *
  generalize solD S.1 (satN S.2.2.1 (nA S.1)) = d at *
  have hg : 0 < Nat.gcd x.natAbs d.natAbs := Nat.gcd_pos_of_pos_right _ (by omega)
  unfold lowT
  rw [if_neg (Nat.ne_of_gt hg), if_neg (Nat.ne_of_gt hg), if_pos rfl, if_neg (show ¬ ((1 : Int) = 0) by decide)]
  have t1 := tdiv_bd (a := x) (p := (Nat.gcd x.natAbs d.natAbs : Nat))
  have t2 := tdiv_bd (a := d) (p := (Nat.gcd x.natAbs d.natAbs : Nat))
  obtain ⟨d1, hD⟩ : ((Nat.gcd x.natAbs d.natAbs : Nat) : Int) ∣ d := Int.ofNat_dvd_left.mpr (Nat.gcd_dvd_right _ _)
  have t4 : d.tdiv (Nat.gcd x.natAbs d.natAbs : Nat) = d1 := by
    generalize Nat.gcd x.natAbs d.natAbs = g at *
    rw [hD, Int.mul_tdiv_cancel_left _ (by omega)]
  have hd1 : 0 < d1 := by
    by_cases z : 0 < d1
    · exact z
    · have := Int.mul_le_mul_of_nonneg_left (show d1 ≤ 0 by omega) (show (0 : Int) ≤ (Nat.gcd x.natAbs d.natAbs : Nat) by omega)
      rw [← hD, Int.mul_zero] at this
      omega
  rw [t4] at t2 ⊢
  omega
theorem l2d_gd {z : Int} (h : -3758096384000 ≤ z ∧ z ≤ 3758096384000) : Gd (-52) 11 (FP.l2d (i6 z)) := by
  show Gd (-52) 11 (.ofNat (FP.Core.fromInt FP.Core.b64 (i6 z).toInt))
  rw [i6_toInt ⟨by omega, by omega⟩]
  exact fromI_gd (by omega)
theorem l2d_pos {z : Int} (h : 0 < z ∧ z ≤ 536870912) : ∃ c q, FP.l2d (i6 z) = dE false c q ∧ Nrm c q ∧ -52 ≤ q ∧ q ≤ 11 := by
  show ∃ c q, UInt64.ofNat (FP.Core.fromInt FP.Core.b64 (i6 z).toInt) = dE false c q ∧ _
  rw [i6_toInt ⟨by omega, by omega⟩]
  exact i2d_pos h.1 (by omega)
theorem i2d_pos3 {z : Int} (h : 0 < z ∧ z ≤ 7) : ∃ c q, FP.i2d (i3 z) = dE false c q ∧ Nrm c q ∧ -52 ≤ q ∧ q ≤ 11 := by
  show ∃ c q, UInt64.ofNat (FP.Core.fromInt FP.Core.b64 (i3 z).toInt) = dE false c q ∧ _
  rw [i3_toInt (R3_s (by omega))]
  exact i2d_pos h.1 (by omega)
theorem vD_gd {q : Dsk} (hG : GdS q.1) (hO : StOk q.1) (hs : q.1.2.2.2 = 1) {k : Nat} (hk : k ≤ 6) (hu : ¬ bcon (usedM q.1.1) k = 0) : Gd (-116) 12 (vD q k) := by
  have h := now_num hG hO hs (k := k) (by omega) hu
  unfold vD
  rw [volt_now (by omega) (Or.inl rfl), volt_now (by omega) (Or.inr rfl)]
  obtain ⟨c, r, e, hN, b1, b2⟩ := l2d_pos h.2
  rw [e]
  exact (ddiv_gd (l2d_gd h.1) hN ⟨b1, b2⟩ (by omega) (by omega)).le (by omega) (by omega)
theorem mean_ok {q : Dsk} (hG : GdS q.1) (hO : StOk q.1) (hs : q.1.2.2.2 = 1) (hn : 0 < nodesN (usedM q.1.1)) : ∀ (j k i : Nat) (w : UInt64), i + j = 6 → k = i + 1 → Gd (-116 - 53 * i) (12 + 3 * i) w → MnOk q (usedM q.1.1) j k w ∧ Gd (-900) 900 (FP.ddiv (meanN q (usedM q.1.1) j k w) (FP.i2d (i3 (nodesN (usedM q.1.1)))))
  | 0, k, i, w, hi, hk, hw => by
    have hr := nodesN_r (usedM q.1.1)
    obtain ⟨c, r, e, hN, b1, b2⟩ := i2d_pos3 (z := nodesN (usedM q.1.1)) ⟨hn, hr.2⟩
    have : i = 6 := by omega
    subst this
    have g := ddiv_gd hw hN ⟨b1, b2⟩ (by omega) (by omega)
    rw [← e] at g
    exact ⟨g.nn, g.le (by omega) (by omega)⟩
  | j + 1, k, i, w, hi, hk, hw => by
    by_cases u : bcon (usedM q.1.1) k = 0
    · have ih := mean_ok hG hO hs hn j (k + 1) (i + 1) w (by omega) (by omega) (hw.le (by omega) (by omega))
      refine ⟨Or.inl ⟨u, ih.1⟩, ?_⟩
      show Gd (-900) 900 (FP.ddiv (meanN q (usedM q.1.1) j (k + 1) (if bcon (usedM q.1.1) k = 0 then w else FP.dadd w (vD q k))) _)
      rw [if_pos u]
      exact ih.2
    · have hv := vD_gd hG hO hs (k := k) (by omega) u
      have ha := dadd_gd (lo := -116 - 53 * i) (hi := 12 + 3 * i) hw (hv.le (by omega) (by omega)) (by omega) (by omega)
      have ih := mean_ok hG hO hs hn j (k + 1) (i + 1) (FP.dadd w (vD q k)) (by omega) (by omega) (ha.le (by omega) (by omega))
      refine ⟨Or.inr ⟨u, hv.nn, ha.nn, ih.1⟩, ?_⟩
      show Gd (-900) 900 (FP.ddiv (meanN q (usedM q.1.1) j (k + 1) (if bcon (usedM q.1.1) k = 0 then w else FP.dadd w (vD q k))) _)
      rw [if_neg u]
      exact ih.2
theorem mn_all {q : Dsk} (hG : GdS q.1) (hO : StOk q.1) (hs : ¬ q.1.2.2.2 = 0) (hn : ¬ nodesN (usedM q.1.1) = 0) : MnOk q (usedM q.1.1) 6 1 FP.dconst0 := by
  have hr := nodesN_r (usedM q.1.1)
  exact (mean_ok hG hO (by have := hG.2.2.2; omega) (by omega) 6 1 0 FP.dconst0 rfl rfl (Or.inl rfl)).1
theorem meanD_gd {q : Dsk} (hG : GdS q.1) (hO : StOk q.1) : Gd (-900) 900 (meanD q) := by
  unfold meanD
  split
  · exact Or.inl rfl
  · split
    · exact Or.inl rfl
    · rename_i hs hn
      have hr := nodesN_r (usedM q.1.1)
      exact (mean_ok hG hO (by have := hG.2.2.2; omega) (by omega) 6 1 0 FP.dconst0 rfl rfl (Or.inl rfl)).2
