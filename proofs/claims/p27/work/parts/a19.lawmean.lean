/-! part a19: the law's mean -/
theorem mul_1 {lo hi : Int} {x : UInt64} (h : Gd lo hi x) (h7 : hi ≤ 900) : FP.dmul FP.dconst1 x = x := by
  rcases h with h | ⟨s, c, q, e, hN, a, b⟩
  · subst h
    decide +kernel
  · subst e
    show UInt64.ofNat (FP.Core.encode FP.Core.b64 (FP.Core.round FP.Core.b64 (FP.Core.exactProduct (FP.Core.decode FP.Core.b64 FP.dconst1.toNat) (FP.Core.decode FP.Core.b64 (dE s c q).toNat)))) = _
    rw [dE_dec hN, d1_dec]
    show UInt64.ofNat (FP.Core.encode FP.Core.b64 (FP.Core.roundRatio FP.Core.b64 (false != s) (4503599627370496 * c) 1 (-52 + q))) = _
    rw [show 4503599627370496 * c = c * 2 ^ 52 from Nat.mul_comm _ _, round_1 (q := q) hN (by omega) (by omega), show (false != s) = s by cases s <;> rfl]
    rfl
theorem add_0l {lo hi : Int} {x : UInt64} (h : Gd lo hi x) (h7 : hi ≤ 900) : FP.dadd 0 x = x := by
  rcases h with h | ⟨t, d, r, e, hN, a, b⟩
  · subst h
    decide +kernel
  · subst e
    show UInt64.ofNat (FP.Core.encode FP.Core.b64 (FP.Core.round FP.Core.b64 (FP.Core.exactSum (FP.Core.decode FP.Core.b64 (0 : UInt64).toNat) (FP.Core.decode FP.Core.b64 (dE t d r).toNat)))) = _
    rw [dE_dec hN, dZ_dec]
    obtain ⟨hc, h1, h2⟩ := id hN
    show UInt64.ofNat (FP.Core.encode FP.Core.b64 (FP.Core.roundRatio FP.Core.b64 (FP.Core.sumSign false t (FP.Core.signed false (0 * 2 ^ (-1074 - min (-1074) r).toNat) + FP.Core.signed t (d * 2 ^ (r - min (-1074) r).toNat))) (FP.Core.signed false (0 * 2 ^ (-1074 - min (-1074) r).toNat) + FP.Core.signed t (d * 2 ^ (r - min (-1074) r).toNat)).natAbs 1 (min (-1074) r))) = _
    have hz : 0 < d * 2 ^ (r - -1074).toNat := Nat.mul_pos (by omega) (Nat.pow_pos (by decide))
    rw [show min (-1074) r = -1074 by omega, Nat.zero_mul, show (FP.Core.signed false 0 + FP.Core.signed t (d * 2 ^ (r - -1074).toNat)).natAbs = d * 2 ^ (r - -1074).toNat by
      generalize d * 2 ^ (r - -1074).toNat = z
      unfold FP.Core.signed
      cases t <;> simp, show FP.Core.sumSign false t (FP.Core.signed false 0 + FP.Core.signed t (d * 2 ^ (r - -1074).toNat)) = t by
      generalize d * 2 ^ (r - -1074).toNat = z at hz
      unfold FP.Core.sumSign FP.Core.signed
      cases t <;> simp <;> omega]
    rw [round_1 (q := r) hN (by omega) (by omega)]
    rfl
theorem add_0r {lo hi : Int} {x : UInt64} (h : Gd lo hi x) (h7 : hi ≤ 900) : FP.dadd x 0 = x := by
  rcases h with h | ⟨t, d, r, e, hN, a, b⟩
  · subst h
    decide +kernel
  · subst e
    show UInt64.ofNat (FP.Core.encode FP.Core.b64 (FP.Core.round FP.Core.b64 (FP.Core.exactSum (FP.Core.decode FP.Core.b64 (dE t d r).toNat) (FP.Core.decode FP.Core.b64 (0 : UInt64).toNat)))) = _
    rw [dE_dec hN, dZ_dec]
    obtain ⟨hc, h1, h2⟩ := id hN
    show UInt64.ofNat (FP.Core.encode FP.Core.b64 (FP.Core.roundRatio FP.Core.b64 (FP.Core.sumSign t false (FP.Core.signed t (d * 2 ^ (r - min r (-1074)).toNat) + FP.Core.signed false (0 * 2 ^ (-1074 - min r (-1074)).toNat))) (FP.Core.signed t (d * 2 ^ (r - min r (-1074)).toNat) + FP.Core.signed false (0 * 2 ^ (-1074 - min r (-1074)).toNat)).natAbs 1 (min r (-1074)))) = _
    have hz : 0 < d * 2 ^ (r - -1074).toNat := Nat.mul_pos (by omega) (Nat.pow_pos (by decide))
    rw [show min r (-1074) = -1074 by omega, Nat.zero_mul, show (FP.Core.signed t (d * 2 ^ (r - -1074).toNat) + FP.Core.signed false 0).natAbs = d * 2 ^ (r - -1074).toNat by
      generalize d * 2 ^ (r - -1074).toNat = z
      unfold FP.Core.signed
      cases t <;> simp, show FP.Core.sumSign t false (FP.Core.signed t (d * 2 ^ (r - -1074).toNat) + FP.Core.signed false 0) = t by
      generalize d * 2 ^ (r - -1074).toNat = z at hz
      unfold FP.Core.sumSign FP.Core.signed
      cases t <;> simp <;> omega]
    rw [round_1 (q := r) hN (by omega) (by omega)]
    rfl
/-- a node that nothing touches has no voltage -/
theorem num_unused {S : Stt} (hG : GdP S.1) {c : Int} (hs : solD S.1 (satN c (nA S.1)) ≠ 0) {k : Nat} (hk : k < 7) (hu : k = 0 ∨ S.1.any (fun p => atB p k) = false) : numer S.1 (satN c (nA S.1)) (givC S c) k = 0 := by
  obtain ⟨z1, z2, z3⟩ := nd_0 hG (mat_case hG c) hk hu
  have := ((cls_1 hG hs).2.1 (givC S c)).2.2 k hk z1 z2
  rw [this, z3, Int.mul_zero]
theorem lowT_0 {d : Int} (hd : 0 < d) : lowT 0 d 0 = 0 ∧ lowT 0 d 1 = 1 := by
  obtain ⟨g, g0, hx, hD, h1⟩ := low_g (x := 0) hd
  have hz : lowT 0 d 0 = 0 := by
    rcases Int.mul_eq_zero.mp hx.symm with z | z
    · omega
    · exact z
  refine ⟨hz, ?_⟩
  unfold lowT
  rw [if_neg (show ¬ Nat.gcd (0 : Int).natAbs d.natAbs = 0 by rw [Int.natAbs_zero, Nat.gcd_zero_left]; omega), if_neg (by decide), Int.natAbs_zero, Nat.gcd_zero_left, show (d.natAbs : Int) = d by omega]
  exact Int.tdiv_self (by omega)
/-- what the law adds for a node -/
def tD (S : Stt) (c : Int) (k : Nat) : UInt64 := FP.ddiv (FP.dmul FP.dconst1 (FP.l2d (i6 (lowT (numer S.1 (satN c (nA S.1)) (givC S c) k) (solD S.1 (satN c (nA S.1))) 0)))) (FP.l2d (i6 (lowT (numer S.1 (satN c (nA S.1)) (givC S c) k) (solD S.1 (satN c (nA S.1))) 1)))
theorem tD_un {S : Stt} (hG : GdP S.1) {c : Int} (hs : 0 < solD S.1 (satN c (nA S.1))) {k : Nat} (hk : k < 7) (hu : k = 0 ∨ S.1.any (fun p => atB p k) = false) : tD S c k = 0 := by
  unfold tD
  rw [num_unused hG (by omega) hk hu, (lowT_0 hs).1, (lowT_0 hs).2]
  decide +kernel
theorem used_bc {ps : List Part} (hp : ∀ p ∈ ps, PW p) {k : Nat} (hk : k < 7) (h0 : k ≠ 0) : bcon (usedM ps) k = 0 ↔ ps.any (fun p => atB p k) = false := by
  rw [used_con hp (by omega)]
  constructor
  · intro z
    cases e : ps.any (fun p => atB p k) with
    | false => rfl
    | true => rw [if_pos ⟨by omega, e⟩] at z; exact absurd z (by decide)
  · intro z
    exact if_neg (fun w => by rw [z] at w; exact absurd w.2 (by decide))
theorem mul1_gd {z : Int} (h : -3758096384000 ≤ z ∧ z ≤ 3758096384000) : FP.dmul FP.dconst1 (FP.l2d (i6 z)) = FP.l2d (i6 z) := mul_1 (l2d_gd h) (by decide)
theorem tD_v {q : Dsk} (hG : GdS q.1) (hO : StOk q.1) (hs : q.1.2.2.2 = 1) {k : Nat} (hk : 1 ≤ k ∧ k ≤ 6) : Gd (-116) 12 (tD q.1 q.1.2.2.1 k) ∧ ∀ {lo hi : Int} {w : UInt64}, Gd lo hi w → hi ≤ 900 → (if bcon (usedM q.1.1) k = 0 then w else FP.dadd w (vD q k)) = FP.dadd w (tD q.1 q.1.2.2.1 k) := by
  have hpw : ∀ p ∈ q.1.1, PW p := fun p hp => (hG.1.2.2.1 p hp).1
  have hsol := jud_sol (hO hs)
  have hpos := (cls_1 hG.1 hsol).1
  by_cases u : bcon (usedM q.1.1) k = 0
  · have hu := (used_bc hpw (by omega) (by omega)).mp u
    have t0 := tD_un hG.1 hpos (k := k) (by omega) (Or.inr hu)
    rw [t0]
    refine ⟨Or.inl rfl, fun hw h9 => ?_⟩
    rw [if_pos u, add_0r hw h9]
  · have hn := now_num hG hO hs (k := k) (by omega) u
    have hv := vD_gd hG hO hs (k := k) (by omega) u
    have e : ∀ w : Int, nowV q.1 k w = lowT (numer q.1.1 (satN q.1.2.2.1 (nA q.1.1)) (givC q.1 q.1.2.2.1) k) (solD q.1.1 (satN q.1.2.2.1 (nA q.1.1))) w := by
      intro w
      unfold nowV nodeV
      rw [if_neg (show ¬ q.1.2.2.2 = 0 by omega), if_neg (fun z => u z.2), if_neg hsol, show (k : Int).toNat = k by omega]
    have et : tD q.1 q.1.2.2.1 k = vD q k := by
      unfold tD vD
      rw [volt_now (by omega) (Or.inl rfl), volt_now (by omega) (Or.inr rfl), ← e 0, ← e 1, mul1_gd hn.1]
    rw [et]
    refine ⟨hv, fun _ _ => ?_⟩
    rw [if_neg u]
def lawN (S : Stt) (c : Int) : Nat → Nat → UInt64 → UInt64
  | 0, _, w => w
  | j + 1, k, w => lawN S c j (k + 1) (FP.dadd w (tD S c k))
theorem mean_law {q : Dsk} (hG : GdS q.1) (hO : StOk q.1) (hs : q.1.2.2.2 = 1) : ∀ (j k i : Nat) (w : UInt64), i + j = 6 → k = i + 1 → Gd (-116 - 53 * i) (12 + 3 * i) w → meanN q (usedM q.1.1) j k w = lawN q.1 q.1.2.2.1 j k w
  | 0, _, _, _, _, _, _ => rfl
  | j + 1, k, i, w, hi, hk, hw => by
    obtain ⟨gt, ht⟩ := tD_v hG hO hs (k := k) (by omega)
    show meanN q (usedM q.1.1) j (k + 1) (if bcon (usedM q.1.1) k = 0 then w else FP.dadd w (vD q k)) = lawN q.1 q.1.2.2.1 j (k + 1) (FP.dadd w (tD q.1 q.1.2.2.1 k))
    rw [ht hw (by omega)]
    refine mean_law hG hO hs j (k + 1) (i + 1) _ (by omega) (by omega) ?_
    exact (dadd_gd (lo := -116 - 53 * i) (hi := 12 + 3 * i) hw (gt.le (by omega) (by omega)) (by omega) (by omega)).le (by omega) (by omega)
set_option maxHeartbeats 4000000 in
set_option maxRecDepth 100000 in
theorem sL_mean_0 {X : Xt} {n : Nat} {h : HP} {a0 : Nat} {x1 : Int} {x2 : Int} {a3 : Nat} {a4 : Nat} {a5 : Nat} {bb : Nat} {sb9 : Nat} (hc : Cx X cL_mean RL 6 9 157) {K : KT} (hr : CxR X (some .boolean) K) 
    (P : (R3 x1) ∧ (x1 = 0 → Ok X bb sb9 8 [(0, .ref a0), (1, .int (i3 x1)), (2, .int (i3 x2)), (3, .ref a3), (4, .ref a4), (5, .ref a5)] [] n h) ∧ (¬ x1 = 0 → (R3 x2) ∧ (¬ x2 = 0 → Ok X bb sb9 23 [(0, .ref a0), (1, .int (i3 x1)), (2, .int (i3 x2)), (3, .ref a3), (4, .ref a4), (5, .ref a5)] [] n h) ∧ (x2 = 0 → Ok X bb sb9 8 [(0, .ref a0), (1, .int (i3 x1)), (2, .int (i3 x2)), (3, .ref a3), (4, .ref a4), (5, .ref a5)] [] n h))) :
    Ok X bb sb9 0 [(0, .ref a0), (1, .int (i3 x1)), (2, .int (i3 x2)), (3, .ref a3), (4, .ref a4), (5, .ref a5)] [] n h := by
  refine ok_iload_n (pc := 0) hc dL_mean_0 rfl 1 rfl ?_
  obtain ⟨r1, P⟩ := P
  refine zk_if_eq (pc := 1) (tgt := 8) hc dL_mean_1 (by decide) r1 (fun c => ?_) (fun c => ?_)
  · have P := P.1 c
    exact P
  · have P := P.2 c
    refine ok_iload_n (pc := 4) hc dL_mean_4 rfl 2 rfl ?_
    obtain ⟨r2, P⟩ := P
    refine zk_if_ne (pc := 5) (tgt := 23) hc dL_mean_5 (by decide) r2 (fun c => ?_) (fun c => ?_)
    · have P := P.1 c
      exact P
    · have P := P.2 c
      exact P

set_option maxHeartbeats 4000000 in
set_option maxRecDepth 100000 in
theorem sL_mean_8 {X : Xt} {n : Nat} {h : HP} {a0 : Nat} {x1 : Int} {x2 : Int} {a3 : Nat} {a4 : Nat} {a5 : Nat} {fs1 : List Value} (hc : Cx X cL_mean RL 6 9 157) {K : KT} (hr : CxR X (some .boolean) K) (e1 : At h n a0 (.inl (6, fs1))) (z1 : fs1.length = 6)
    (P : spec_X6_meanVoltage [.ref a0] n h (kc X 0 0 9 [(0, .ref a0), (1, .int (i3 x1)), (2, .int (i3 x2)), (3, .ref a3), (4, .ref a4), (5, .ref a5)] [] n)) :
    Ok X 24 144 8 [(0, .ref a0), (1, .int (i3 x1)), (2, .int (i3 x2)), (3, .ref a3), (4, .ref a4), (5, .ref a5)] [] n h := by
  refine ok_aload_n (pc := 8) hc dL_mean_8 rfl 0 rfl ?_
  exact ok_callV (pc := 9) (a := a0) (cb := 0) (sb := 0) (st := []) hc [] cv_L_101 sp_X6_meanVoltage (by decide) dL_mean_9 rfl e1.1 e1.2 rfl rfl rfl (Nat.le_of_ble_eq_true rfl) P

set_option maxHeartbeats 4000000 in
set_option maxRecDepth 100000 in
theorem sL_mean_12 {X : Xt} {n : Nat} {h : HP} {a0 : Nat} {x1 : Int} {x2 : Int} {a3 : Nat} {a4 : Nat} {a5 : Nat} {td0 : UInt64} (hc : Cx X cL_mean RL 6 9 157) {K : KT} (hr : CxR X (some .boolean) K) 
    (P : (R3 ((Op.cmpValue (FP.dcmp td0 FP.dconst0) .l).toInt)) ∧ (¬ (Op.cmpValue (FP.dcmp td0 FP.dconst0) .l).toInt = 0 → K (.inl (some (.int (i3 0)))) n h) ∧ ((Op.cmpValue (FP.dcmp td0 FP.dconst0) .l).toInt = 0 → K (.inl (some (.int (i3 1)))) n h)) :
    Ok X 0 0 12 [(0, .ref a0), (1, .int (i3 x1)), (2, .int (i3 x2)), (3, .ref a3), (4, .ref a4), (5, .ref a5)] [.double td0] n h := by
  refine ok_dconst0 (pc := 12) hc dL_mean_12 ?_
  refine ok_dcmp (pc := 13) hc dL_mean_13 ?_
  rw [← i3_T (Op.cmpValue (FP.dcmp td0 FP.dconst0) .l)]
  obtain ⟨r1, P⟩ := P
  refine zk_if_ne (pc := 14) (tgt := 21) hc dL_mean_14 (by decide) r1 (fun c => ?_) (fun c => ?_)
  · have P := P.1 c
    refine ok_iconst (pc := 21) hc (v := i3 0) dL_mean_21 (by decide) ?_
    exact ok_zret (st := []) (pc := 22) hc (nar_z (by decide)) hr dL_mean_22 P
  · have P := P.2 c
    refine ok_iconst (pc := 17) hc (v := i3 1) dL_mean_17 (by decide) ?_
    refine ok_goto (pc := 18) (tgt := 22) hc dL_mean_18 (by decide) ?_
    exact ok_zret (st := []) (pc := 22) hc (nar_z (by decide)) hr dL_mean_22 P

set_option maxHeartbeats 4000000 in
set_option maxRecDepth 100000 in
theorem sL_mean_23 {X : Xt} {n : Nat} {h : HP} {a0 : Nat} {x1 : Int} {x2 : Int} {a3 : Nat} {a4 : Nat} {a5 : Nat} {fs1 : List Value} (hc : Cx X cL_mean RL 6 9 157) {K : KT} (hr : CxR X (some .boolean) K) (e1 : At h n a0 (.inl (6, fs1))) (z1 : fs1.length = 6)
    (P : spec_X6_meanVoltage [.ref a0] n h (kc X 0 0 24 [(0, .ref a0), (1, .int (i3 x1)), (2, .int (i3 x2)), (3, .ref a3), (4, .ref a4), (5, .ref a5)] [] n)) :
    Ok X 24 144 23 [(0, .ref a0), (1, .int (i3 x1)), (2, .int (i3 x2)), (3, .ref a3), (4, .ref a4), (5, .ref a5)] [] n h := by
  refine ok_aload_n (pc := 23) hc dL_mean_23 rfl 0 rfl ?_
  exact ok_callV (pc := 24) (a := a0) (cb := 0) (sb := 0) (st := []) hc [] cv_L_101 sp_X6_meanVoltage (by decide) dL_mean_24 rfl e1.1 e1.2 rfl rfl rfl (Nat.le_of_ble_eq_true rfl) P

set_option maxHeartbeats 4000000 in
set_option maxRecDepth 100000 in
theorem sL_mean_27 {X : Xt} {n : Nat} {h : HP} {a0 : Nat} {x1 : Int} {x2 : Int} {a3 : Nat} {a4 : Nat} {a5 : Nat} {td0 : UInt64} {f1 : Nat → Int} {qs2 : List Part} {m2 : Nat} {γ2 : Nat → Int} (hc : Cx X cL_mean RL 6 9 157) {K : KT} (hr : CxR X (some .boolean) K) (e1 : At h n a5 (al 56 f1)) (hS2 : Svd qs2 m2 γ2 f1)
    (P : (((0 : Int) ≤ 1 ∧ (1 : Int) < 7) ∧ (((0) : Int) = 0 ∨ ((0) : Int) = 1)) ∧ (vf_n64 (FP.dmul FP.dconst1 (FP.l2d (i6 (lowT (numer qs2 m2 γ2 (1 : Int).toNat) (solD qs2 m2) 0))))) ∧ (((0 : Int) ≤ 1 ∧ (1 : Int) < 7) ∧ (((1) : Int) = 0 ∨ ((1) : Int) = 1)) ∧ (vf_n64 (FP.ddiv (FP.dmul FP.dconst1 (FP.l2d (i6 (lowT (numer qs2 m2 γ2 (1 : Int).toNat) (solD qs2 m2) 0)))) (FP.l2d (i6 (lowT (numer qs2 m2 γ2 (1 : Int).toNat) (solD qs2 m2) 1))))) ∧ (((0 : Int) ≤ 2 ∧ (2 : Int) < 7) ∧ (((0) : Int) = 0 ∨ ((0) : Int) = 1)) ∧ (vf_n64 (FP.dmul FP.dconst1 (FP.l2d (i6 (lowT (numer qs2 m2 γ2 (2 : Int).toNat) (solD qs2 m2) 0))))) ∧ (((0 : Int) ≤ 2 ∧ (2 : Int) < 7) ∧ (((1) : Int) = 0 ∨ ((1) : Int) = 1)) ∧ (vf_n64 (FP.ddiv (FP.dmul FP.dconst1 (FP.l2d (i6 (lowT (numer qs2 m2 γ2 (2 : Int).toNat) (solD qs2 m2) 0)))) (FP.l2d (i6 (lowT (numer qs2 m2 γ2 (2 : Int).toNat) (solD qs2 m2) 1))))) ∧ (vf_n64 (FP.dadd (FP.ddiv (FP.dmul FP.dconst1 (FP.l2d (i6 (lowT (numer qs2 m2 γ2 (1 : Int).toNat) (solD qs2 m2) 0)))) (FP.l2d (i6 (lowT (numer qs2 m2 γ2 (1 : Int).toNat) (solD qs2 m2) 1)))) (FP.ddiv (FP.dmul FP.dconst1 (FP.l2d (i6 (lowT (numer qs2 m2 γ2 (2 : Int).toNat) (solD qs2 m2) 0)))) (FP.l2d (i6 (lowT (numer qs2 m2 γ2 (2 : Int).toNat) (solD qs2 m2) 1)))))) ∧ (((0 : Int) ≤ 3 ∧ (3 : Int) < 7) ∧ (((0) : Int) = 0 ∨ ((0) : Int) = 1)) ∧ (vf_n64 (FP.dmul FP.dconst1 (FP.l2d (i6 (lowT (numer qs2 m2 γ2 (3 : Int).toNat) (solD qs2 m2) 0))))) ∧ (((0 : Int) ≤ 3 ∧ (3 : Int) < 7) ∧ (((1) : Int) = 0 ∨ ((1) : Int) = 1)) ∧ (vf_n64 (FP.ddiv (FP.dmul FP.dconst1 (FP.l2d (i6 (lowT (numer qs2 m2 γ2 (3 : Int).toNat) (solD qs2 m2) 0)))) (FP.l2d (i6 (lowT (numer qs2 m2 γ2 (3 : Int).toNat) (solD qs2 m2) 1))))) ∧ (vf_n64 (FP.dadd (FP.dadd (FP.ddiv (FP.dmul FP.dconst1 (FP.l2d (i6 (lowT (numer qs2 m2 γ2 (1 : Int).toNat) (solD qs2 m2) 0)))) (FP.l2d (i6 (lowT (numer qs2 m2 γ2 (1 : Int).toNat) (solD qs2 m2) 1)))) (FP.ddiv (FP.dmul FP.dconst1 (FP.l2d (i6 (lowT (numer qs2 m2 γ2 (2 : Int).toNat) (solD qs2 m2) 0)))) (FP.l2d (i6 (lowT (numer qs2 m2 γ2 (2 : Int).toNat) (solD qs2 m2) 1))))) (FP.ddiv (FP.dmul FP.dconst1 (FP.l2d (i6 (lowT (numer qs2 m2 γ2 (3 : Int).toNat) (solD qs2 m2) 0)))) (FP.l2d (i6 (lowT (numer qs2 m2 γ2 (3 : Int).toNat) (solD qs2 m2) 1)))))) ∧ (((0 : Int) ≤ 4 ∧ (4 : Int) < 7) ∧ (((0) : Int) = 0 ∨ ((0) : Int) = 1)) ∧ (vf_n64 (FP.dmul FP.dconst1 (FP.l2d (i6 (lowT (numer qs2 m2 γ2 (4 : Int).toNat) (solD qs2 m2) 0))))) ∧ (((0 : Int) ≤ 4 ∧ (4 : Int) < 7) ∧ (((1) : Int) = 0 ∨ ((1) : Int) = 1)) ∧ (vf_n64 (FP.ddiv (FP.dmul FP.dconst1 (FP.l2d (i6 (lowT (numer qs2 m2 γ2 (4 : Int).toNat) (solD qs2 m2) 0)))) (FP.l2d (i6 (lowT (numer qs2 m2 γ2 (4 : Int).toNat) (solD qs2 m2) 1))))) ∧ (vf_n64 (FP.dadd (FP.dadd (FP.dadd (FP.ddiv (FP.dmul FP.dconst1 (FP.l2d (i6 (lowT (numer qs2 m2 γ2 (1 : Int).toNat) (solD qs2 m2) 0)))) (FP.l2d (i6 (lowT (numer qs2 m2 γ2 (1 : Int).toNat) (solD qs2 m2) 1)))) (FP.ddiv (FP.dmul FP.dconst1 (FP.l2d (i6 (lowT (numer qs2 m2 γ2 (2 : Int).toNat) (solD qs2 m2) 0)))) (FP.l2d (i6 (lowT (numer qs2 m2 γ2 (2 : Int).toNat) (solD qs2 m2) 1))))) (FP.ddiv (FP.dmul FP.dconst1 (FP.l2d (i6 (lowT (numer qs2 m2 γ2 (3 : Int).toNat) (solD qs2 m2) 0)))) (FP.l2d (i6 (lowT (numer qs2 m2 γ2 (3 : Int).toNat) (solD qs2 m2) 1))))) (FP.ddiv (FP.dmul FP.dconst1 (FP.l2d (i6 (lowT (numer qs2 m2 γ2 (4 : Int).toNat) (solD qs2 m2) 0)))) (FP.l2d (i6 (lowT (numer qs2 m2 γ2 (4 : Int).toNat) (solD qs2 m2) 1)))))) ∧ (((0 : Int) ≤ 5 ∧ (5 : Int) < 7) ∧ (((0) : Int) = 0 ∨ ((0) : Int) = 1)) ∧ (vf_n64 (FP.dmul FP.dconst1 (FP.l2d (i6 (lowT (numer qs2 m2 γ2 (5 : Int).toNat) (solD qs2 m2) 0))))) ∧ (((0 : Int) ≤ 5 ∧ (5 : Int) < 7) ∧ (((1) : Int) = 0 ∨ ((1) : Int) = 1)) ∧ (vf_n64 (FP.ddiv (FP.dmul FP.dconst1 (FP.l2d (i6 (lowT (numer qs2 m2 γ2 (5 : Int).toNat) (solD qs2 m2) 0)))) (FP.l2d (i6 (lowT (numer qs2 m2 γ2 (5 : Int).toNat) (solD qs2 m2) 1))))) ∧ (vf_n64 (FP.dadd (FP.dadd (FP.dadd (FP.dadd (FP.ddiv (FP.dmul FP.dconst1 (FP.l2d (i6 (lowT (numer qs2 m2 γ2 (1 : Int).toNat) (solD qs2 m2) 0)))) (FP.l2d (i6 (lowT (numer qs2 m2 γ2 (1 : Int).toNat) (solD qs2 m2) 1)))) (FP.ddiv (FP.dmul FP.dconst1 (FP.l2d (i6 (lowT (numer qs2 m2 γ2 (2 : Int).toNat) (solD qs2 m2) 0)))) (FP.l2d (i6 (lowT (numer qs2 m2 γ2 (2 : Int).toNat) (solD qs2 m2) 1))))) (FP.ddiv (FP.dmul FP.dconst1 (FP.l2d (i6 (lowT (numer qs2 m2 γ2 (3 : Int).toNat) (solD qs2 m2) 0)))) (FP.l2d (i6 (lowT (numer qs2 m2 γ2 (3 : Int).toNat) (solD qs2 m2) 1))))) (FP.ddiv (FP.dmul FP.dconst1 (FP.l2d (i6 (lowT (numer qs2 m2 γ2 (4 : Int).toNat) (solD qs2 m2) 0)))) (FP.l2d (i6 (lowT (numer qs2 m2 γ2 (4 : Int).toNat) (solD qs2 m2) 1))))) (FP.ddiv (FP.dmul FP.dconst1 (FP.l2d (i6 (lowT (numer qs2 m2 γ2 (5 : Int).toNat) (solD qs2 m2) 0)))) (FP.l2d (i6 (lowT (numer qs2 m2 γ2 (5 : Int).toNat) (solD qs2 m2) 1)))))) ∧ (((0 : Int) ≤ 6 ∧ (6 : Int) < 7) ∧ (((0) : Int) = 0 ∨ ((0) : Int) = 1)) ∧ (vf_n64 (FP.dmul FP.dconst1 (FP.l2d (i6 (lowT (numer qs2 m2 γ2 (6 : Int).toNat) (solD qs2 m2) 0))))) ∧ (((0 : Int) ≤ 6 ∧ (6 : Int) < 7) ∧ (((1) : Int) = 0 ∨ ((1) : Int) = 1)) ∧ (vf_n64 (FP.ddiv (FP.dmul FP.dconst1 (FP.l2d (i6 (lowT (numer qs2 m2 γ2 (6 : Int).toNat) (solD qs2 m2) 0)))) (FP.l2d (i6 (lowT (numer qs2 m2 γ2 (6 : Int).toNat) (solD qs2 m2) 1))))) ∧ (vf_n64 (FP.dadd (FP.dadd (FP.dadd (FP.dadd (FP.dadd (FP.ddiv (FP.dmul FP.dconst1 (FP.l2d (i6 (lowT (numer qs2 m2 γ2 (1 : Int).toNat) (solD qs2 m2) 0)))) (FP.l2d (i6 (lowT (numer qs2 m2 γ2 (1 : Int).toNat) (solD qs2 m2) 1)))) (FP.ddiv (FP.dmul FP.dconst1 (FP.l2d (i6 (lowT (numer qs2 m2 γ2 (2 : Int).toNat) (solD qs2 m2) 0)))) (FP.l2d (i6 (lowT (numer qs2 m2 γ2 (2 : Int).toNat) (solD qs2 m2) 1))))) (FP.ddiv (FP.dmul FP.dconst1 (FP.l2d (i6 (lowT (numer qs2 m2 γ2 (3 : Int).toNat) (solD qs2 m2) 0)))) (FP.l2d (i6 (lowT (numer qs2 m2 γ2 (3 : Int).toNat) (solD qs2 m2) 1))))) (FP.ddiv (FP.dmul FP.dconst1 (FP.l2d (i6 (lowT (numer qs2 m2 γ2 (4 : Int).toNat) (solD qs2 m2) 0)))) (FP.l2d (i6 (lowT (numer qs2 m2 γ2 (4 : Int).toNat) (solD qs2 m2) 1))))) (FP.ddiv (FP.dmul FP.dconst1 (FP.l2d (i6 (lowT (numer qs2 m2 γ2 (5 : Int).toNat) (solD qs2 m2) 0)))) (FP.l2d (i6 (lowT (numer qs2 m2 γ2 (5 : Int).toNat) (solD qs2 m2) 1))))) (FP.ddiv (FP.dmul FP.dconst1 (FP.l2d (i6 (lowT (numer qs2 m2 γ2 (6 : Int).toNat) (solD qs2 m2) 0)))) (FP.l2d (i6 (lowT (numer qs2 m2 γ2 (6 : Int).toNat) (solD qs2 m2) 1)))))) ∧ (vf_n64 (FP.ddiv (FP.dadd (FP.dadd (FP.dadd (FP.dadd (FP.dadd (FP.ddiv (FP.dmul FP.dconst1 (FP.l2d (i6 (lowT (numer qs2 m2 γ2 (1 : Int).toNat) (solD qs2 m2) 0)))) (FP.l2d (i6 (lowT (numer qs2 m2 γ2 (1 : Int).toNat) (solD qs2 m2) 1)))) (FP.ddiv (FP.dmul FP.dconst1 (FP.l2d (i6 (lowT (numer qs2 m2 γ2 (2 : Int).toNat) (solD qs2 m2) 0)))) (FP.l2d (i6 (lowT (numer qs2 m2 γ2 (2 : Int).toNat) (solD qs2 m2) 1))))) (FP.ddiv (FP.dmul FP.dconst1 (FP.l2d (i6 (lowT (numer qs2 m2 γ2 (3 : Int).toNat) (solD qs2 m2) 0)))) (FP.l2d (i6 (lowT (numer qs2 m2 γ2 (3 : Int).toNat) (solD qs2 m2) 1))))) (FP.ddiv (FP.dmul FP.dconst1 (FP.l2d (i6 (lowT (numer qs2 m2 γ2 (4 : Int).toNat) (solD qs2 m2) 0)))) (FP.l2d (i6 (lowT (numer qs2 m2 γ2 (4 : Int).toNat) (solD qs2 m2) 1))))) (FP.ddiv (FP.dmul FP.dconst1 (FP.l2d (i6 (lowT (numer qs2 m2 γ2 (5 : Int).toNat) (solD qs2 m2) 0)))) (FP.l2d (i6 (lowT (numer qs2 m2 γ2 (5 : Int).toNat) (solD qs2 m2) 1))))) (FP.ddiv (FP.dmul FP.dconst1 (FP.l2d (i6 (lowT (numer qs2 m2 γ2 (6 : Int).toNat) (solD qs2 m2) 0)))) (FP.l2d (i6 (lowT (numer qs2 m2 γ2 (6 : Int).toNat) (solD qs2 m2) 1))))) (FP.i2d (i3 x2)))) ∧ (R3 ((Op.cmpValue (FP.dcmp td0 (FP.ddiv (FP.dadd (FP.dadd (FP.dadd (FP.dadd (FP.dadd (FP.ddiv (FP.dmul FP.dconst1 (FP.l2d (i6 (lowT (numer qs2 m2 γ2 (1 : Int).toNat) (solD qs2 m2) 0)))) (FP.l2d (i6 (lowT (numer qs2 m2 γ2 (1 : Int).toNat) (solD qs2 m2) 1)))) (FP.ddiv (FP.dmul FP.dconst1 (FP.l2d (i6 (lowT (numer qs2 m2 γ2 (2 : Int).toNat) (solD qs2 m2) 0)))) (FP.l2d (i6 (lowT (numer qs2 m2 γ2 (2 : Int).toNat) (solD qs2 m2) 1))))) (FP.ddiv (FP.dmul FP.dconst1 (FP.l2d (i6 (lowT (numer qs2 m2 γ2 (3 : Int).toNat) (solD qs2 m2) 0)))) (FP.l2d (i6 (lowT (numer qs2 m2 γ2 (3 : Int).toNat) (solD qs2 m2) 1))))) (FP.ddiv (FP.dmul FP.dconst1 (FP.l2d (i6 (lowT (numer qs2 m2 γ2 (4 : Int).toNat) (solD qs2 m2) 0)))) (FP.l2d (i6 (lowT (numer qs2 m2 γ2 (4 : Int).toNat) (solD qs2 m2) 1))))) (FP.ddiv (FP.dmul FP.dconst1 (FP.l2d (i6 (lowT (numer qs2 m2 γ2 (5 : Int).toNat) (solD qs2 m2) 0)))) (FP.l2d (i6 (lowT (numer qs2 m2 γ2 (5 : Int).toNat) (solD qs2 m2) 1))))) (FP.ddiv (FP.dmul FP.dconst1 (FP.l2d (i6 (lowT (numer qs2 m2 γ2 (6 : Int).toNat) (solD qs2 m2) 0)))) (FP.l2d (i6 (lowT (numer qs2 m2 γ2 (6 : Int).toNat) (solD qs2 m2) 1))))) (FP.i2d (i3 x2)))) .l).toInt)) ∧ (¬ (Op.cmpValue (FP.dcmp td0 (FP.ddiv (FP.dadd (FP.dadd (FP.dadd (FP.dadd (FP.dadd (FP.ddiv (FP.dmul FP.dconst1 (FP.l2d (i6 (lowT (numer qs2 m2 γ2 (1 : Int).toNat) (solD qs2 m2) 0)))) (FP.l2d (i6 (lowT (numer qs2 m2 γ2 (1 : Int).toNat) (solD qs2 m2) 1)))) (FP.ddiv (FP.dmul FP.dconst1 (FP.l2d (i6 (lowT (numer qs2 m2 γ2 (2 : Int).toNat) (solD qs2 m2) 0)))) (FP.l2d (i6 (lowT (numer qs2 m2 γ2 (2 : Int).toNat) (solD qs2 m2) 1))))) (FP.ddiv (FP.dmul FP.dconst1 (FP.l2d (i6 (lowT (numer qs2 m2 γ2 (3 : Int).toNat) (solD qs2 m2) 0)))) (FP.l2d (i6 (lowT (numer qs2 m2 γ2 (3 : Int).toNat) (solD qs2 m2) 1))))) (FP.ddiv (FP.dmul FP.dconst1 (FP.l2d (i6 (lowT (numer qs2 m2 γ2 (4 : Int).toNat) (solD qs2 m2) 0)))) (FP.l2d (i6 (lowT (numer qs2 m2 γ2 (4 : Int).toNat) (solD qs2 m2) 1))))) (FP.ddiv (FP.dmul FP.dconst1 (FP.l2d (i6 (lowT (numer qs2 m2 γ2 (5 : Int).toNat) (solD qs2 m2) 0)))) (FP.l2d (i6 (lowT (numer qs2 m2 γ2 (5 : Int).toNat) (solD qs2 m2) 1))))) (FP.ddiv (FP.dmul FP.dconst1 (FP.l2d (i6 (lowT (numer qs2 m2 γ2 (6 : Int).toNat) (solD qs2 m2) 0)))) (FP.l2d (i6 (lowT (numer qs2 m2 γ2 (6 : Int).toNat) (solD qs2 m2) 1))))) (FP.i2d (i3 x2)))) .l).toInt = 0 → K (.inl (some (.int (i3 0)))) n h) ∧ ((Op.cmpValue (FP.dcmp td0 (FP.ddiv (FP.dadd (FP.dadd (FP.dadd (FP.dadd (FP.dadd (FP.ddiv (FP.dmul FP.dconst1 (FP.l2d (i6 (lowT (numer qs2 m2 γ2 (1 : Int).toNat) (solD qs2 m2) 0)))) (FP.l2d (i6 (lowT (numer qs2 m2 γ2 (1 : Int).toNat) (solD qs2 m2) 1)))) (FP.ddiv (FP.dmul FP.dconst1 (FP.l2d (i6 (lowT (numer qs2 m2 γ2 (2 : Int).toNat) (solD qs2 m2) 0)))) (FP.l2d (i6 (lowT (numer qs2 m2 γ2 (2 : Int).toNat) (solD qs2 m2) 1))))) (FP.ddiv (FP.dmul FP.dconst1 (FP.l2d (i6 (lowT (numer qs2 m2 γ2 (3 : Int).toNat) (solD qs2 m2) 0)))) (FP.l2d (i6 (lowT (numer qs2 m2 γ2 (3 : Int).toNat) (solD qs2 m2) 1))))) (FP.ddiv (FP.dmul FP.dconst1 (FP.l2d (i6 (lowT (numer qs2 m2 γ2 (4 : Int).toNat) (solD qs2 m2) 0)))) (FP.l2d (i6 (lowT (numer qs2 m2 γ2 (4 : Int).toNat) (solD qs2 m2) 1))))) (FP.ddiv (FP.dmul FP.dconst1 (FP.l2d (i6 (lowT (numer qs2 m2 γ2 (5 : Int).toNat) (solD qs2 m2) 0)))) (FP.l2d (i6 (lowT (numer qs2 m2 γ2 (5 : Int).toNat) (solD qs2 m2) 1))))) (FP.ddiv (FP.dmul FP.dconst1 (FP.l2d (i6 (lowT (numer qs2 m2 γ2 (6 : Int).toNat) (solD qs2 m2) 0)))) (FP.l2d (i6 (lowT (numer qs2 m2 γ2 (6 : Int).toNat) (solD qs2 m2) 1))))) (FP.i2d (i3 x2)))) .l).toInt = 0 → K (.inl (some (.int (i3 1)))) n h)) :
    Ok X 0 0 27 [(0, .ref a0), (1, .int (i3 x1)), (2, .int (i3 x2)), (3, .ref a3), (4, .ref a4), (5, .ref a5)] [.double td0] n h := by
  refine ok_dconst1 (pc := 27) hc dL_mean_27 ?_
  refine ok_iconst (pc := 28) hc (v := i3 1) dL_mean_28 (by decide) ?_
  refine ok_iconst (pc := 29) hc (v := i3 0) dL_mean_29 (by decide) ?_
  refine ok_aload (pc := 30) hc dL_mean_30 5 rfl ?_
  obtain ⟨r0, P⟩ := P
  refine ok_callS (pc := 32) (cb := 0) (sb := 0) (st := [.double FP.dconst1, .double td0]) hc [.int (i3 1), .int (i3 0), .ref a5] cs_L_41 sp_L_part (by decide) dL_mean_32 rfl rfl rfl rfl (Nat.le_of_ble_eq_true rfl) (⟨_, _, _, _, _, _, _, rfl, ⟨e1.1, e1.2⟩, hS2, r0.1, r0.2, rfl, ?_⟩)
  show Ok X 0 0 (32 + 3) [(0, .ref a0), (1, .int (i3 x1)), (2, .int (i3 x2)), (3, .ref a3), (4, .ref a4), (5, .ref a5)] [.long (i6 (lowT (numer qs2 m2 γ2 (1 : Int).toNat) (solD qs2 m2) 0)), .double FP.dconst1, .double td0] n h
  refine ok_l2d (pc := 35) hc dL_mean_35 ?_
  obtain ⟨r, P⟩ := P
  refine ok_dmul (pc := 36) hc dL_mean_36 r ?_
  refine ok_iconst (pc := 37) hc (v := i3 1) dL_mean_37 (by decide) ?_
  refine ok_iconst (pc := 38) hc (v := i3 1) dL_mean_38 (by decide) ?_
  refine ok_aload (pc := 39) hc dL_mean_39 5 rfl ?_
  obtain ⟨r0, P⟩ := P
  refine ok_callS (pc := 41) (cb := 0) (sb := 0) (st := [.double (FP.dmul FP.dconst1 (FP.l2d (i6 (lowT (numer qs2 m2 γ2 (1 : Int).toNat) (solD qs2 m2) 0)))), .double td0]) hc [.int (i3 1), .int (i3 1), .ref a5] cs_L_41 sp_L_part (by decide) dL_mean_41 rfl rfl rfl rfl (Nat.le_of_ble_eq_true rfl) (⟨_, _, _, _, _, _, _, rfl, ⟨e1.1, e1.2⟩, hS2, r0.1, r0.2, rfl, ?_⟩)
  show Ok X 0 0 (41 + 3) [(0, .ref a0), (1, .int (i3 x1)), (2, .int (i3 x2)), (3, .ref a3), (4, .ref a4), (5, .ref a5)] [.long (i6 (lowT (numer qs2 m2 γ2 (1 : Int).toNat) (solD qs2 m2) 1)), .double (FP.dmul FP.dconst1 (FP.l2d (i6 (lowT (numer qs2 m2 γ2 (1 : Int).toNat) (solD qs2 m2) 0)))), .double td0] n h
  refine ok_l2d (pc := 44) hc dL_mean_44 ?_
  obtain ⟨r, P⟩ := P
  refine ok_ddiv (pc := 45) hc dL_mean_45 r ?_
  refine ok_dconst1 (pc := 46) hc dL_mean_46 ?_
  refine ok_iconst (pc := 47) hc (v := i3 2) dL_mean_47 (by decide) ?_
  refine ok_iconst (pc := 48) hc (v := i3 0) dL_mean_48 (by decide) ?_
  refine ok_aload (pc := 49) hc dL_mean_49 5 rfl ?_
  obtain ⟨r0, P⟩ := P
  refine ok_callS (pc := 51) (cb := 0) (sb := 0) (st := [.double FP.dconst1, .double (FP.ddiv (FP.dmul FP.dconst1 (FP.l2d (i6 (lowT (numer qs2 m2 γ2 (1 : Int).toNat) (solD qs2 m2) 0)))) (FP.l2d (i6 (lowT (numer qs2 m2 γ2 (1 : Int).toNat) (solD qs2 m2) 1)))), .double td0]) hc [.int (i3 2), .int (i3 0), .ref a5] cs_L_41 sp_L_part (by decide) dL_mean_51 rfl rfl rfl rfl (Nat.le_of_ble_eq_true rfl) (⟨_, _, _, _, _, _, _, rfl, ⟨e1.1, e1.2⟩, hS2, r0.1, r0.2, rfl, ?_⟩)
  show Ok X 0 0 (51 + 3) [(0, .ref a0), (1, .int (i3 x1)), (2, .int (i3 x2)), (3, .ref a3), (4, .ref a4), (5, .ref a5)] [.long (i6 (lowT (numer qs2 m2 γ2 (2 : Int).toNat) (solD qs2 m2) 0)), .double FP.dconst1, .double (FP.ddiv (FP.dmul FP.dconst1 (FP.l2d (i6 (lowT (numer qs2 m2 γ2 (1 : Int).toNat) (solD qs2 m2) 0)))) (FP.l2d (i6 (lowT (numer qs2 m2 γ2 (1 : Int).toNat) (solD qs2 m2) 1)))), .double td0] n h
  refine ok_l2d (pc := 54) hc dL_mean_54 ?_
  obtain ⟨r, P⟩ := P
  refine ok_dmul (pc := 55) hc dL_mean_55 r ?_
  refine ok_iconst (pc := 56) hc (v := i3 2) dL_mean_56 (by decide) ?_
  refine ok_iconst (pc := 57) hc (v := i3 1) dL_mean_57 (by decide) ?_
  refine ok_aload (pc := 58) hc dL_mean_58 5 rfl ?_
  obtain ⟨r0, P⟩ := P
  refine ok_callS (pc := 60) (cb := 0) (sb := 0) (st := [.double (FP.dmul FP.dconst1 (FP.l2d (i6 (lowT (numer qs2 m2 γ2 (2 : Int).toNat) (solD qs2 m2) 0)))), .double (FP.ddiv (FP.dmul FP.dconst1 (FP.l2d (i6 (lowT (numer qs2 m2 γ2 (1 : Int).toNat) (solD qs2 m2) 0)))) (FP.l2d (i6 (lowT (numer qs2 m2 γ2 (1 : Int).toNat) (solD qs2 m2) 1)))), .double td0]) hc [.int (i3 2), .int (i3 1), .ref a5] cs_L_41 sp_L_part (by decide) dL_mean_60 rfl rfl rfl rfl (Nat.le_of_ble_eq_true rfl) (⟨_, _, _, _, _, _, _, rfl, ⟨e1.1, e1.2⟩, hS2, r0.1, r0.2, rfl, ?_⟩)
  show Ok X 0 0 (60 + 3) [(0, .ref a0), (1, .int (i3 x1)), (2, .int (i3 x2)), (3, .ref a3), (4, .ref a4), (5, .ref a5)] [.long (i6 (lowT (numer qs2 m2 γ2 (2 : Int).toNat) (solD qs2 m2) 1)), .double (FP.dmul FP.dconst1 (FP.l2d (i6 (lowT (numer qs2 m2 γ2 (2 : Int).toNat) (solD qs2 m2) 0)))), .double (FP.ddiv (FP.dmul FP.dconst1 (FP.l2d (i6 (lowT (numer qs2 m2 γ2 (1 : Int).toNat) (solD qs2 m2) 0)))) (FP.l2d (i6 (lowT (numer qs2 m2 γ2 (1 : Int).toNat) (solD qs2 m2) 1)))), .double td0] n h
  refine ok_l2d (pc := 63) hc dL_mean_63 ?_
  obtain ⟨r, P⟩ := P
  refine ok_ddiv (pc := 64) hc dL_mean_64 r ?_
  obtain ⟨r, P⟩ := P
  refine ok_dadd (pc := 65) hc dL_mean_65 r ?_
  refine ok_dconst1 (pc := 66) hc dL_mean_66 ?_
  refine ok_iconst (pc := 67) hc (v := i3 3) dL_mean_67 (by decide) ?_
  refine ok_iconst (pc := 68) hc (v := i3 0) dL_mean_68 (by decide) ?_
  refine ok_aload (pc := 69) hc dL_mean_69 5 rfl ?_
  obtain ⟨r0, P⟩ := P
  refine ok_callS (pc := 71) (cb := 0) (sb := 0) (st := [.double FP.dconst1, .double (FP.dadd (FP.ddiv (FP.dmul FP.dconst1 (FP.l2d (i6 (lowT (numer qs2 m2 γ2 (1 : Int).toNat) (solD qs2 m2) 0)))) (FP.l2d (i6 (lowT (numer qs2 m2 γ2 (1 : Int).toNat) (solD qs2 m2) 1)))) (FP.ddiv (FP.dmul FP.dconst1 (FP.l2d (i6 (lowT (numer qs2 m2 γ2 (2 : Int).toNat) (solD qs2 m2) 0)))) (FP.l2d (i6 (lowT (numer qs2 m2 γ2 (2 : Int).toNat) (solD qs2 m2) 1))))), .double td0]) hc [.int (i3 3), .int (i3 0), .ref a5] cs_L_41 sp_L_part (by decide) dL_mean_71 rfl rfl rfl rfl (Nat.le_of_ble_eq_true rfl) (⟨_, _, _, _, _, _, _, rfl, ⟨e1.1, e1.2⟩, hS2, r0.1, r0.2, rfl, ?_⟩)
  show Ok X 0 0 (71 + 3) [(0, .ref a0), (1, .int (i3 x1)), (2, .int (i3 x2)), (3, .ref a3), (4, .ref a4), (5, .ref a5)] [.long (i6 (lowT (numer qs2 m2 γ2 (3 : Int).toNat) (solD qs2 m2) 0)), .double FP.dconst1, .double (FP.dadd (FP.ddiv (FP.dmul FP.dconst1 (FP.l2d (i6 (lowT (numer qs2 m2 γ2 (1 : Int).toNat) (solD qs2 m2) 0)))) (FP.l2d (i6 (lowT (numer qs2 m2 γ2 (1 : Int).toNat) (solD qs2 m2) 1)))) (FP.ddiv (FP.dmul FP.dconst1 (FP.l2d (i6 (lowT (numer qs2 m2 γ2 (2 : Int).toNat) (solD qs2 m2) 0)))) (FP.l2d (i6 (lowT (numer qs2 m2 γ2 (2 : Int).toNat) (solD qs2 m2) 1))))), .double td0] n h
  refine ok_l2d (pc := 74) hc dL_mean_74 ?_
  obtain ⟨r, P⟩ := P
  refine ok_dmul (pc := 75) hc dL_mean_75 r ?_
  refine ok_iconst (pc := 76) hc (v := i3 3) dL_mean_76 (by decide) ?_
  refine ok_iconst (pc := 77) hc (v := i3 1) dL_mean_77 (by decide) ?_
  refine ok_aload (pc := 78) hc dL_mean_78 5 rfl ?_
  obtain ⟨r0, P⟩ := P
  refine ok_callS (pc := 80) (cb := 0) (sb := 0) (st := [.double (FP.dmul FP.dconst1 (FP.l2d (i6 (lowT (numer qs2 m2 γ2 (3 : Int).toNat) (solD qs2 m2) 0)))), .double (FP.dadd (FP.ddiv (FP.dmul FP.dconst1 (FP.l2d (i6 (lowT (numer qs2 m2 γ2 (1 : Int).toNat) (solD qs2 m2) 0)))) (FP.l2d (i6 (lowT (numer qs2 m2 γ2 (1 : Int).toNat) (solD qs2 m2) 1)))) (FP.ddiv (FP.dmul FP.dconst1 (FP.l2d (i6 (lowT (numer qs2 m2 γ2 (2 : Int).toNat) (solD qs2 m2) 0)))) (FP.l2d (i6 (lowT (numer qs2 m2 γ2 (2 : Int).toNat) (solD qs2 m2) 1))))), .double td0]) hc [.int (i3 3), .int (i3 1), .ref a5] cs_L_41 sp_L_part (by decide) dL_mean_80 rfl rfl rfl rfl (Nat.le_of_ble_eq_true rfl) (⟨_, _, _, _, _, _, _, rfl, ⟨e1.1, e1.2⟩, hS2, r0.1, r0.2, rfl, ?_⟩)
  show Ok X 0 0 (80 + 3) [(0, .ref a0), (1, .int (i3 x1)), (2, .int (i3 x2)), (3, .ref a3), (4, .ref a4), (5, .ref a5)] [.long (i6 (lowT (numer qs2 m2 γ2 (3 : Int).toNat) (solD qs2 m2) 1)), .double (FP.dmul FP.dconst1 (FP.l2d (i6 (lowT (numer qs2 m2 γ2 (3 : Int).toNat) (solD qs2 m2) 0)))), .double (FP.dadd (FP.ddiv (FP.dmul FP.dconst1 (FP.l2d (i6 (lowT (numer qs2 m2 γ2 (1 : Int).toNat) (solD qs2 m2) 0)))) (FP.l2d (i6 (lowT (numer qs2 m2 γ2 (1 : Int).toNat) (solD qs2 m2) 1)))) (FP.ddiv (FP.dmul FP.dconst1 (FP.l2d (i6 (lowT (numer qs2 m2 γ2 (2 : Int).toNat) (solD qs2 m2) 0)))) (FP.l2d (i6 (lowT (numer qs2 m2 γ2 (2 : Int).toNat) (solD qs2 m2) 1))))), .double td0] n h
  refine ok_l2d (pc := 83) hc dL_mean_83 ?_
  obtain ⟨r, P⟩ := P
  refine ok_ddiv (pc := 84) hc dL_mean_84 r ?_
  obtain ⟨r, P⟩ := P
  refine ok_dadd (pc := 85) hc dL_mean_85 r ?_
  refine ok_dconst1 (pc := 86) hc dL_mean_86 ?_
  refine ok_iconst (pc := 87) hc (v := i3 4) dL_mean_87 (by decide) ?_
  refine ok_iconst (pc := 88) hc (v := i3 0) dL_mean_88 (by decide) ?_
  refine ok_aload (pc := 89) hc dL_mean_89 5 rfl ?_
  obtain ⟨r0, P⟩ := P
  refine ok_callS (pc := 91) (cb := 0) (sb := 0) (st := [.double FP.dconst1, .double (FP.dadd (FP.dadd (FP.ddiv (FP.dmul FP.dconst1 (FP.l2d (i6 (lowT (numer qs2 m2 γ2 (1 : Int).toNat) (solD qs2 m2) 0)))) (FP.l2d (i6 (lowT (numer qs2 m2 γ2 (1 : Int).toNat) (solD qs2 m2) 1)))) (FP.ddiv (FP.dmul FP.dconst1 (FP.l2d (i6 (lowT (numer qs2 m2 γ2 (2 : Int).toNat) (solD qs2 m2) 0)))) (FP.l2d (i6 (lowT (numer qs2 m2 γ2 (2 : Int).toNat) (solD qs2 m2) 1))))) (FP.ddiv (FP.dmul FP.dconst1 (FP.l2d (i6 (lowT (numer qs2 m2 γ2 (3 : Int).toNat) (solD qs2 m2) 0)))) (FP.l2d (i6 (lowT (numer qs2 m2 γ2 (3 : Int).toNat) (solD qs2 m2) 1))))), .double td0]) hc [.int (i3 4), .int (i3 0), .ref a5] cs_L_41 sp_L_part (by decide) dL_mean_91 rfl rfl rfl rfl (Nat.le_of_ble_eq_true rfl) (⟨_, _, _, _, _, _, _, rfl, ⟨e1.1, e1.2⟩, hS2, r0.1, r0.2, rfl, ?_⟩)
  show Ok X 0 0 (91 + 3) [(0, .ref a0), (1, .int (i3 x1)), (2, .int (i3 x2)), (3, .ref a3), (4, .ref a4), (5, .ref a5)] [.long (i6 (lowT (numer qs2 m2 γ2 (4 : Int).toNat) (solD qs2 m2) 0)), .double FP.dconst1, .double (FP.dadd (FP.dadd (FP.ddiv (FP.dmul FP.dconst1 (FP.l2d (i6 (lowT (numer qs2 m2 γ2 (1 : Int).toNat) (solD qs2 m2) 0)))) (FP.l2d (i6 (lowT (numer qs2 m2 γ2 (1 : Int).toNat) (solD qs2 m2) 1)))) (FP.ddiv (FP.dmul FP.dconst1 (FP.l2d (i6 (lowT (numer qs2 m2 γ2 (2 : Int).toNat) (solD qs2 m2) 0)))) (FP.l2d (i6 (lowT (numer qs2 m2 γ2 (2 : Int).toNat) (solD qs2 m2) 1))))) (FP.ddiv (FP.dmul FP.dconst1 (FP.l2d (i6 (lowT (numer qs2 m2 γ2 (3 : Int).toNat) (solD qs2 m2) 0)))) (FP.l2d (i6 (lowT (numer qs2 m2 γ2 (3 : Int).toNat) (solD qs2 m2) 1))))), .double td0] n h
  refine ok_l2d (pc := 94) hc dL_mean_94 ?_
  obtain ⟨r, P⟩ := P
  refine ok_dmul (pc := 95) hc dL_mean_95 r ?_
  refine ok_iconst (pc := 96) hc (v := i3 4) dL_mean_96 (by decide) ?_
  refine ok_iconst (pc := 97) hc (v := i3 1) dL_mean_97 (by decide) ?_
  refine ok_aload (pc := 98) hc dL_mean_98 5 rfl ?_
  obtain ⟨r0, P⟩ := P
  refine ok_callS (pc := 100) (cb := 0) (sb := 0) (st := [.double (FP.dmul FP.dconst1 (FP.l2d (i6 (lowT (numer qs2 m2 γ2 (4 : Int).toNat) (solD qs2 m2) 0)))), .double (FP.dadd (FP.dadd (FP.ddiv (FP.dmul FP.dconst1 (FP.l2d (i6 (lowT (numer qs2 m2 γ2 (1 : Int).toNat) (solD qs2 m2) 0)))) (FP.l2d (i6 (lowT (numer qs2 m2 γ2 (1 : Int).toNat) (solD qs2 m2) 1)))) (FP.ddiv (FP.dmul FP.dconst1 (FP.l2d (i6 (lowT (numer qs2 m2 γ2 (2 : Int).toNat) (solD qs2 m2) 0)))) (FP.l2d (i6 (lowT (numer qs2 m2 γ2 (2 : Int).toNat) (solD qs2 m2) 1))))) (FP.ddiv (FP.dmul FP.dconst1 (FP.l2d (i6 (lowT (numer qs2 m2 γ2 (3 : Int).toNat) (solD qs2 m2) 0)))) (FP.l2d (i6 (lowT (numer qs2 m2 γ2 (3 : Int).toNat) (solD qs2 m2) 1))))), .double td0]) hc [.int (i3 4), .int (i3 1), .ref a5] cs_L_41 sp_L_part (by decide) dL_mean_100 rfl rfl rfl rfl (Nat.le_of_ble_eq_true rfl) (⟨_, _, _, _, _, _, _, rfl, ⟨e1.1, e1.2⟩, hS2, r0.1, r0.2, rfl, ?_⟩)
  show Ok X 0 0 (100 + 3) [(0, .ref a0), (1, .int (i3 x1)), (2, .int (i3 x2)), (3, .ref a3), (4, .ref a4), (5, .ref a5)] [.long (i6 (lowT (numer qs2 m2 γ2 (4 : Int).toNat) (solD qs2 m2) 1)), .double (FP.dmul FP.dconst1 (FP.l2d (i6 (lowT (numer qs2 m2 γ2 (4 : Int).toNat) (solD qs2 m2) 0)))), .double (FP.dadd (FP.dadd (FP.ddiv (FP.dmul FP.dconst1 (FP.l2d (i6 (lowT (numer qs2 m2 γ2 (1 : Int).toNat) (solD qs2 m2) 0)))) (FP.l2d (i6 (lowT (numer qs2 m2 γ2 (1 : Int).toNat) (solD qs2 m2) 1)))) (FP.ddiv (FP.dmul FP.dconst1 (FP.l2d (i6 (lowT (numer qs2 m2 γ2 (2 : Int).toNat) (solD qs2 m2) 0)))) (FP.l2d (i6 (lowT (numer qs2 m2 γ2 (2 : Int).toNat) (solD qs2 m2) 1))))) (FP.ddiv (FP.dmul FP.dconst1 (FP.l2d (i6 (lowT (numer qs2 m2 γ2 (3 : Int).toNat) (solD qs2 m2) 0)))) (FP.l2d (i6 (lowT (numer qs2 m2 γ2 (3 : Int).toNat) (solD qs2 m2) 1))))), .double td0] n h
  refine ok_l2d (pc := 103) hc dL_mean_103 ?_
  obtain ⟨r, P⟩ := P
  refine ok_ddiv (pc := 104) hc dL_mean_104 r ?_
  obtain ⟨r, P⟩ := P
  refine ok_dadd (pc := 105) hc dL_mean_105 r ?_
  refine ok_dconst1 (pc := 106) hc dL_mean_106 ?_
  refine ok_iconst (pc := 107) hc (v := i3 5) dL_mean_107 (by decide) ?_
  refine ok_iconst (pc := 108) hc (v := i3 0) dL_mean_108 (by decide) ?_
  refine ok_aload (pc := 109) hc dL_mean_109 5 rfl ?_
  obtain ⟨r0, P⟩ := P
  refine ok_callS (pc := 111) (cb := 0) (sb := 0) (st := [.double FP.dconst1, .double (FP.dadd (FP.dadd (FP.dadd (FP.ddiv (FP.dmul FP.dconst1 (FP.l2d (i6 (lowT (numer qs2 m2 γ2 (1 : Int).toNat) (solD qs2 m2) 0)))) (FP.l2d (i6 (lowT (numer qs2 m2 γ2 (1 : Int).toNat) (solD qs2 m2) 1)))) (FP.ddiv (FP.dmul FP.dconst1 (FP.l2d (i6 (lowT (numer qs2 m2 γ2 (2 : Int).toNat) (solD qs2 m2) 0)))) (FP.l2d (i6 (lowT (numer qs2 m2 γ2 (2 : Int).toNat) (solD qs2 m2) 1))))) (FP.ddiv (FP.dmul FP.dconst1 (FP.l2d (i6 (lowT (numer qs2 m2 γ2 (3 : Int).toNat) (solD qs2 m2) 0)))) (FP.l2d (i6 (lowT (numer qs2 m2 γ2 (3 : Int).toNat) (solD qs2 m2) 1))))) (FP.ddiv (FP.dmul FP.dconst1 (FP.l2d (i6 (lowT (numer qs2 m2 γ2 (4 : Int).toNat) (solD qs2 m2) 0)))) (FP.l2d (i6 (lowT (numer qs2 m2 γ2 (4 : Int).toNat) (solD qs2 m2) 1))))), .double td0]) hc [.int (i3 5), .int (i3 0), .ref a5] cs_L_41 sp_L_part (by decide) dL_mean_111 rfl rfl rfl rfl (Nat.le_of_ble_eq_true rfl) (⟨_, _, _, _, _, _, _, rfl, ⟨e1.1, e1.2⟩, hS2, r0.1, r0.2, rfl, ?_⟩)
  show Ok X 0 0 (111 + 3) [(0, .ref a0), (1, .int (i3 x1)), (2, .int (i3 x2)), (3, .ref a3), (4, .ref a4), (5, .ref a5)] [.long (i6 (lowT (numer qs2 m2 γ2 (5 : Int).toNat) (solD qs2 m2) 0)), .double FP.dconst1, .double (FP.dadd (FP.dadd (FP.dadd (FP.ddiv (FP.dmul FP.dconst1 (FP.l2d (i6 (lowT (numer qs2 m2 γ2 (1 : Int).toNat) (solD qs2 m2) 0)))) (FP.l2d (i6 (lowT (numer qs2 m2 γ2 (1 : Int).toNat) (solD qs2 m2) 1)))) (FP.ddiv (FP.dmul FP.dconst1 (FP.l2d (i6 (lowT (numer qs2 m2 γ2 (2 : Int).toNat) (solD qs2 m2) 0)))) (FP.l2d (i6 (lowT (numer qs2 m2 γ2 (2 : Int).toNat) (solD qs2 m2) 1))))) (FP.ddiv (FP.dmul FP.dconst1 (FP.l2d (i6 (lowT (numer qs2 m2 γ2 (3 : Int).toNat) (solD qs2 m2) 0)))) (FP.l2d (i6 (lowT (numer qs2 m2 γ2 (3 : Int).toNat) (solD qs2 m2) 1))))) (FP.ddiv (FP.dmul FP.dconst1 (FP.l2d (i6 (lowT (numer qs2 m2 γ2 (4 : Int).toNat) (solD qs2 m2) 0)))) (FP.l2d (i6 (lowT (numer qs2 m2 γ2 (4 : Int).toNat) (solD qs2 m2) 1))))), .double td0] n h
  refine ok_l2d (pc := 114) hc dL_mean_114 ?_
  obtain ⟨r, P⟩ := P
  refine ok_dmul (pc := 115) hc dL_mean_115 r ?_
  refine ok_iconst (pc := 116) hc (v := i3 5) dL_mean_116 (by decide) ?_
  refine ok_iconst (pc := 117) hc (v := i3 1) dL_mean_117 (by decide) ?_
  refine ok_aload (pc := 118) hc dL_mean_118 5 rfl ?_
  obtain ⟨r0, P⟩ := P
  refine ok_callS (pc := 120) (cb := 0) (sb := 0) (st := [.double (FP.dmul FP.dconst1 (FP.l2d (i6 (lowT (numer qs2 m2 γ2 (5 : Int).toNat) (solD qs2 m2) 0)))), .double (FP.dadd (FP.dadd (FP.dadd (FP.ddiv (FP.dmul FP.dconst1 (FP.l2d (i6 (lowT (numer qs2 m2 γ2 (1 : Int).toNat) (solD qs2 m2) 0)))) (FP.l2d (i6 (lowT (numer qs2 m2 γ2 (1 : Int).toNat) (solD qs2 m2) 1)))) (FP.ddiv (FP.dmul FP.dconst1 (FP.l2d (i6 (lowT (numer qs2 m2 γ2 (2 : Int).toNat) (solD qs2 m2) 0)))) (FP.l2d (i6 (lowT (numer qs2 m2 γ2 (2 : Int).toNat) (solD qs2 m2) 1))))) (FP.ddiv (FP.dmul FP.dconst1 (FP.l2d (i6 (lowT (numer qs2 m2 γ2 (3 : Int).toNat) (solD qs2 m2) 0)))) (FP.l2d (i6 (lowT (numer qs2 m2 γ2 (3 : Int).toNat) (solD qs2 m2) 1))))) (FP.ddiv (FP.dmul FP.dconst1 (FP.l2d (i6 (lowT (numer qs2 m2 γ2 (4 : Int).toNat) (solD qs2 m2) 0)))) (FP.l2d (i6 (lowT (numer qs2 m2 γ2 (4 : Int).toNat) (solD qs2 m2) 1))))), .double td0]) hc [.int (i3 5), .int (i3 1), .ref a5] cs_L_41 sp_L_part (by decide) dL_mean_120 rfl rfl rfl rfl (Nat.le_of_ble_eq_true rfl) (⟨_, _, _, _, _, _, _, rfl, ⟨e1.1, e1.2⟩, hS2, r0.1, r0.2, rfl, ?_⟩)
  show Ok X 0 0 (120 + 3) [(0, .ref a0), (1, .int (i3 x1)), (2, .int (i3 x2)), (3, .ref a3), (4, .ref a4), (5, .ref a5)] [.long (i6 (lowT (numer qs2 m2 γ2 (5 : Int).toNat) (solD qs2 m2) 1)), .double (FP.dmul FP.dconst1 (FP.l2d (i6 (lowT (numer qs2 m2 γ2 (5 : Int).toNat) (solD qs2 m2) 0)))), .double (FP.dadd (FP.dadd (FP.dadd (FP.ddiv (FP.dmul FP.dconst1 (FP.l2d (i6 (lowT (numer qs2 m2 γ2 (1 : Int).toNat) (solD qs2 m2) 0)))) (FP.l2d (i6 (lowT (numer qs2 m2 γ2 (1 : Int).toNat) (solD qs2 m2) 1)))) (FP.ddiv (FP.dmul FP.dconst1 (FP.l2d (i6 (lowT (numer qs2 m2 γ2 (2 : Int).toNat) (solD qs2 m2) 0)))) (FP.l2d (i6 (lowT (numer qs2 m2 γ2 (2 : Int).toNat) (solD qs2 m2) 1))))) (FP.ddiv (FP.dmul FP.dconst1 (FP.l2d (i6 (lowT (numer qs2 m2 γ2 (3 : Int).toNat) (solD qs2 m2) 0)))) (FP.l2d (i6 (lowT (numer qs2 m2 γ2 (3 : Int).toNat) (solD qs2 m2) 1))))) (FP.ddiv (FP.dmul FP.dconst1 (FP.l2d (i6 (lowT (numer qs2 m2 γ2 (4 : Int).toNat) (solD qs2 m2) 0)))) (FP.l2d (i6 (lowT (numer qs2 m2 γ2 (4 : Int).toNat) (solD qs2 m2) 1))))), .double td0] n h
  refine ok_l2d (pc := 123) hc dL_mean_123 ?_
  obtain ⟨r, P⟩ := P
  refine ok_ddiv (pc := 124) hc dL_mean_124 r ?_
  obtain ⟨r, P⟩ := P
  refine ok_dadd (pc := 125) hc dL_mean_125 r ?_
  refine ok_dconst1 (pc := 126) hc dL_mean_126 ?_
  refine ok_bipush (pc := 127) hc (v := i3 6) dL_mean_127 (by decide) ?_
  refine ok_iconst (pc := 129) hc (v := i3 0) dL_mean_129 (by decide) ?_
  refine ok_aload (pc := 130) hc dL_mean_130 5 rfl ?_
  obtain ⟨r0, P⟩ := P
  refine ok_callS (pc := 132) (cb := 0) (sb := 0) (st := [.double FP.dconst1, .double (FP.dadd (FP.dadd (FP.dadd (FP.dadd (FP.ddiv (FP.dmul FP.dconst1 (FP.l2d (i6 (lowT (numer qs2 m2 γ2 (1 : Int).toNat) (solD qs2 m2) 0)))) (FP.l2d (i6 (lowT (numer qs2 m2 γ2 (1 : Int).toNat) (solD qs2 m2) 1)))) (FP.ddiv (FP.dmul FP.dconst1 (FP.l2d (i6 (lowT (numer qs2 m2 γ2 (2 : Int).toNat) (solD qs2 m2) 0)))) (FP.l2d (i6 (lowT (numer qs2 m2 γ2 (2 : Int).toNat) (solD qs2 m2) 1))))) (FP.ddiv (FP.dmul FP.dconst1 (FP.l2d (i6 (lowT (numer qs2 m2 γ2 (3 : Int).toNat) (solD qs2 m2) 0)))) (FP.l2d (i6 (lowT (numer qs2 m2 γ2 (3 : Int).toNat) (solD qs2 m2) 1))))) (FP.ddiv (FP.dmul FP.dconst1 (FP.l2d (i6 (lowT (numer qs2 m2 γ2 (4 : Int).toNat) (solD qs2 m2) 0)))) (FP.l2d (i6 (lowT (numer qs2 m2 γ2 (4 : Int).toNat) (solD qs2 m2) 1))))) (FP.ddiv (FP.dmul FP.dconst1 (FP.l2d (i6 (lowT (numer qs2 m2 γ2 (5 : Int).toNat) (solD qs2 m2) 0)))) (FP.l2d (i6 (lowT (numer qs2 m2 γ2 (5 : Int).toNat) (solD qs2 m2) 1))))), .double td0]) hc [.int (i3 6), .int (i3 0), .ref a5] cs_L_41 sp_L_part (by decide) dL_mean_132 rfl rfl rfl rfl (Nat.le_of_ble_eq_true rfl) (⟨_, _, _, _, _, _, _, rfl, ⟨e1.1, e1.2⟩, hS2, r0.1, r0.2, rfl, ?_⟩)
  show Ok X 0 0 (132 + 3) [(0, .ref a0), (1, .int (i3 x1)), (2, .int (i3 x2)), (3, .ref a3), (4, .ref a4), (5, .ref a5)] [.long (i6 (lowT (numer qs2 m2 γ2 (6 : Int).toNat) (solD qs2 m2) 0)), .double FP.dconst1, .double (FP.dadd (FP.dadd (FP.dadd (FP.dadd (FP.ddiv (FP.dmul FP.dconst1 (FP.l2d (i6 (lowT (numer qs2 m2 γ2 (1 : Int).toNat) (solD qs2 m2) 0)))) (FP.l2d (i6 (lowT (numer qs2 m2 γ2 (1 : Int).toNat) (solD qs2 m2) 1)))) (FP.ddiv (FP.dmul FP.dconst1 (FP.l2d (i6 (lowT (numer qs2 m2 γ2 (2 : Int).toNat) (solD qs2 m2) 0)))) (FP.l2d (i6 (lowT (numer qs2 m2 γ2 (2 : Int).toNat) (solD qs2 m2) 1))))) (FP.ddiv (FP.dmul FP.dconst1 (FP.l2d (i6 (lowT (numer qs2 m2 γ2 (3 : Int).toNat) (solD qs2 m2) 0)))) (FP.l2d (i6 (lowT (numer qs2 m2 γ2 (3 : Int).toNat) (solD qs2 m2) 1))))) (FP.ddiv (FP.dmul FP.dconst1 (FP.l2d (i6 (lowT (numer qs2 m2 γ2 (4 : Int).toNat) (solD qs2 m2) 0)))) (FP.l2d (i6 (lowT (numer qs2 m2 γ2 (4 : Int).toNat) (solD qs2 m2) 1))))) (FP.ddiv (FP.dmul FP.dconst1 (FP.l2d (i6 (lowT (numer qs2 m2 γ2 (5 : Int).toNat) (solD qs2 m2) 0)))) (FP.l2d (i6 (lowT (numer qs2 m2 γ2 (5 : Int).toNat) (solD qs2 m2) 1))))), .double td0] n h
  refine ok_l2d (pc := 135) hc dL_mean_135 ?_
  obtain ⟨r, P⟩ := P
  refine ok_dmul (pc := 136) hc dL_mean_136 r ?_
  refine ok_bipush (pc := 137) hc (v := i3 6) dL_mean_137 (by decide) ?_
  refine ok_iconst (pc := 139) hc (v := i3 1) dL_mean_139 (by decide) ?_
  refine ok_aload (pc := 140) hc dL_mean_140 5 rfl ?_
  obtain ⟨r0, P⟩ := P
  refine ok_callS (pc := 142) (cb := 0) (sb := 0) (st := [.double (FP.dmul FP.dconst1 (FP.l2d (i6 (lowT (numer qs2 m2 γ2 (6 : Int).toNat) (solD qs2 m2) 0)))), .double (FP.dadd (FP.dadd (FP.dadd (FP.dadd (FP.ddiv (FP.dmul FP.dconst1 (FP.l2d (i6 (lowT (numer qs2 m2 γ2 (1 : Int).toNat) (solD qs2 m2) 0)))) (FP.l2d (i6 (lowT (numer qs2 m2 γ2 (1 : Int).toNat) (solD qs2 m2) 1)))) (FP.ddiv (FP.dmul FP.dconst1 (FP.l2d (i6 (lowT (numer qs2 m2 γ2 (2 : Int).toNat) (solD qs2 m2) 0)))) (FP.l2d (i6 (lowT (numer qs2 m2 γ2 (2 : Int).toNat) (solD qs2 m2) 1))))) (FP.ddiv (FP.dmul FP.dconst1 (FP.l2d (i6 (lowT (numer qs2 m2 γ2 (3 : Int).toNat) (solD qs2 m2) 0)))) (FP.l2d (i6 (lowT (numer qs2 m2 γ2 (3 : Int).toNat) (solD qs2 m2) 1))))) (FP.ddiv (FP.dmul FP.dconst1 (FP.l2d (i6 (lowT (numer qs2 m2 γ2 (4 : Int).toNat) (solD qs2 m2) 0)))) (FP.l2d (i6 (lowT (numer qs2 m2 γ2 (4 : Int).toNat) (solD qs2 m2) 1))))) (FP.ddiv (FP.dmul FP.dconst1 (FP.l2d (i6 (lowT (numer qs2 m2 γ2 (5 : Int).toNat) (solD qs2 m2) 0)))) (FP.l2d (i6 (lowT (numer qs2 m2 γ2 (5 : Int).toNat) (solD qs2 m2) 1))))), .double td0]) hc [.int (i3 6), .int (i3 1), .ref a5] cs_L_41 sp_L_part (by decide) dL_mean_142 rfl rfl rfl rfl (Nat.le_of_ble_eq_true rfl) (⟨_, _, _, _, _, _, _, rfl, ⟨e1.1, e1.2⟩, hS2, r0.1, r0.2, rfl, ?_⟩)
  show Ok X 0 0 (142 + 3) [(0, .ref a0), (1, .int (i3 x1)), (2, .int (i3 x2)), (3, .ref a3), (4, .ref a4), (5, .ref a5)] [.long (i6 (lowT (numer qs2 m2 γ2 (6 : Int).toNat) (solD qs2 m2) 1)), .double (FP.dmul FP.dconst1 (FP.l2d (i6 (lowT (numer qs2 m2 γ2 (6 : Int).toNat) (solD qs2 m2) 0)))), .double (FP.dadd (FP.dadd (FP.dadd (FP.dadd (FP.ddiv (FP.dmul FP.dconst1 (FP.l2d (i6 (lowT (numer qs2 m2 γ2 (1 : Int).toNat) (solD qs2 m2) 0)))) (FP.l2d (i6 (lowT (numer qs2 m2 γ2 (1 : Int).toNat) (solD qs2 m2) 1)))) (FP.ddiv (FP.dmul FP.dconst1 (FP.l2d (i6 (lowT (numer qs2 m2 γ2 (2 : Int).toNat) (solD qs2 m2) 0)))) (FP.l2d (i6 (lowT (numer qs2 m2 γ2 (2 : Int).toNat) (solD qs2 m2) 1))))) (FP.ddiv (FP.dmul FP.dconst1 (FP.l2d (i6 (lowT (numer qs2 m2 γ2 (3 : Int).toNat) (solD qs2 m2) 0)))) (FP.l2d (i6 (lowT (numer qs2 m2 γ2 (3 : Int).toNat) (solD qs2 m2) 1))))) (FP.ddiv (FP.dmul FP.dconst1 (FP.l2d (i6 (lowT (numer qs2 m2 γ2 (4 : Int).toNat) (solD qs2 m2) 0)))) (FP.l2d (i6 (lowT (numer qs2 m2 γ2 (4 : Int).toNat) (solD qs2 m2) 1))))) (FP.ddiv (FP.dmul FP.dconst1 (FP.l2d (i6 (lowT (numer qs2 m2 γ2 (5 : Int).toNat) (solD qs2 m2) 0)))) (FP.l2d (i6 (lowT (numer qs2 m2 γ2 (5 : Int).toNat) (solD qs2 m2) 1))))), .double td0] n h
  refine ok_l2d (pc := 145) hc dL_mean_145 ?_
  obtain ⟨r, P⟩ := P
  refine ok_ddiv (pc := 146) hc dL_mean_146 r ?_
  obtain ⟨r, P⟩ := P
  refine ok_dadd (pc := 147) hc dL_mean_147 r ?_
  refine ok_iload_n (pc := 148) hc dL_mean_148 rfl 2 rfl ?_
  refine ok_i2d (pc := 149) hc dL_mean_149 ?_
  obtain ⟨r, P⟩ := P
  refine ok_ddiv (pc := 150) hc dL_mean_150 r ?_
  refine ok_dcmp (pc := 151) hc dL_mean_151 ?_
  rw [← i3_T (Op.cmpValue (FP.dcmp td0 (FP.ddiv (FP.dadd (FP.dadd (FP.dadd (FP.dadd (FP.dadd (FP.ddiv (FP.dmul FP.dconst1 (FP.l2d (i6 (lowT (numer qs2 m2 γ2 (1 : Int).toNat) (solD qs2 m2) 0)))) (FP.l2d (i6 (lowT (numer qs2 m2 γ2 (1 : Int).toNat) (solD qs2 m2) 1)))) (FP.ddiv (FP.dmul FP.dconst1 (FP.l2d (i6 (lowT (numer qs2 m2 γ2 (2 : Int).toNat) (solD qs2 m2) 0)))) (FP.l2d (i6 (lowT (numer qs2 m2 γ2 (2 : Int).toNat) (solD qs2 m2) 1))))) (FP.ddiv (FP.dmul FP.dconst1 (FP.l2d (i6 (lowT (numer qs2 m2 γ2 (3 : Int).toNat) (solD qs2 m2) 0)))) (FP.l2d (i6 (lowT (numer qs2 m2 γ2 (3 : Int).toNat) (solD qs2 m2) 1))))) (FP.ddiv (FP.dmul FP.dconst1 (FP.l2d (i6 (lowT (numer qs2 m2 γ2 (4 : Int).toNat) (solD qs2 m2) 0)))) (FP.l2d (i6 (lowT (numer qs2 m2 γ2 (4 : Int).toNat) (solD qs2 m2) 1))))) (FP.ddiv (FP.dmul FP.dconst1 (FP.l2d (i6 (lowT (numer qs2 m2 γ2 (5 : Int).toNat) (solD qs2 m2) 0)))) (FP.l2d (i6 (lowT (numer qs2 m2 γ2 (5 : Int).toNat) (solD qs2 m2) 1))))) (FP.ddiv (FP.dmul FP.dconst1 (FP.l2d (i6 (lowT (numer qs2 m2 γ2 (6 : Int).toNat) (solD qs2 m2) 0)))) (FP.l2d (i6 (lowT (numer qs2 m2 γ2 (6 : Int).toNat) (solD qs2 m2) 1))))) (FP.i2d (i3 x2)))) .l)]
  obtain ⟨r3, P⟩ := P
  refine zk_if_ne (pc := 152) (tgt := 159) hc dL_mean_152 (by decide) r3 (fun c => ?_) (fun c => ?_)
  · have P := P.1 c
    refine ok_iconst (pc := 159) hc (v := i3 0) dL_mean_159 (by decide) ?_
    exact ok_zret (st := []) (pc := 160) hc (nar_z (by decide)) hr dL_mean_160 P
  · have P := P.2 c
    refine ok_iconst (pc := 155) hc (v := i3 1) dL_mean_155 (by decide) ?_
    refine ok_goto (pc := 156) (tgt := 160) hc dL_mean_156 (by decide) ?_
    exact ok_zret (st := []) (pc := 160) hc (nar_z (by decide)) hr dL_mean_160 P

def spec_L_mean (args : List Value) (n : Nat) (h : HP) (K : KT) : Prop := ∃ (q : Dsk) (d a e : Nat) (E : Nat → Int), args = [.ref 0, .int (i3 q.1.2.2.2), .int (i3 (nodesN (usedM q.1.1))), .ref d, .ref a, .ref e] ∧ DkA h n q ∧ StOk q.1 ∧ 127 < e ∧ At h n e (al 56 E) ∧ (q.1.2.2.2 = 1 → Svd q.1.1 (satN q.1.2.2.1 (nA q.1.1)) (givC q.1 q.1.2.2.1) E) ∧ ∀ h', DkA h' n q → Fr h h' 0 127 → K (.inl (some (.int (i3 1)))) n h'
set_option maxHeartbeats 4000000 in
theorem sp_L_mean : Sp yL_mean cL_mean 6 (some .boolean) 9 157 24 144 spec_L_mean := by
  refine sp_intro (by decide) (by rintro args n h K ⟨q, d, a, e, E, rfl, -⟩; exact Nat.le_of_ble_eq_true rfl) ?_
  rintro X args n h K hc hr ⟨q, d, a, e, E, rfl, hq, hO, le, ee, hS, kk⟩
  have hG := hq.gd.1
  have hst := hG.2.2.2
  have hnr := nodesN_r (usedM q.1.1)
  have rst : R3 q.1.2.2.2 := R3_s (by omega)
  have rnn : R3 (nodesN (usedM q.1.1)) := R3_s (by omega)
  have none8 : meanD q = FP.dconst0 → Ok X 24 144 8 [(0, .ref 0), (1, .int (i3 q.1.2.2.2)), (2, .int (i3 (nodesN (usedM q.1.1)))), (3, .ref d), (4, .ref a), (5, .ref e)] [] n h := by
    intro hz
    refine sL_mean_8 hc hr hq.1 rfl ⟨q, rfl, hq, fun h1 h2 => mn_all hG hO h1 h2, fun h1 hq1 f1 => ⟨rfl, ?_⟩⟩
    rw [hz]
    refine sL_mean_12 (td0 := FP.dconst0) hc hr ⟨R3_T _, fun z => absurd (dcmp_self (x := FP.dconst0) (lo := 0) (hi := 0) (Or.inl rfl) .l) z, fun _ => kk h1 hq1 f1⟩
  refine sL_mean_0 (bb := 24) (sb9 := 144) hc hr ⟨rst, fun y => none8 ?_, fun y => ⟨rnn, fun y2 => ?_, fun y2 => none8 ?_⟩⟩
  · unfold meanD
    rw [if_pos y]
  · have hs1 : q.1.2.2.2 = 1 := by omega
    have hS := hS hs1
    refine sL_mean_23 hc hr hq.1 rfl ⟨q, rfl, hq, fun h1 h2 => mn_all hG hO h1 h2, fun h1 hq1 f1 => ⟨rfl, ?_⟩⟩
    have gm := meanD_gd hG hO
    have g0 : Gd (-116) 12 FP.dconst0 := Or.inl rfl
    have ht := fun (k : Nat) (hk : 1 ≤ k ∧ k ≤ 6) => (tD_v hG hO hs1 hk).1
    have emn : meanD q = FP.ddiv (FP.dadd (FP.dadd (FP.dadd (FP.dadd (FP.dadd (tD q.1 q.1.2.2.1 1) (tD q.1 q.1.2.2.1 2)) (tD q.1 q.1.2.2.1 3)) (tD q.1 q.1.2.2.1 4)) (tD q.1 q.1.2.2.1 5)) (tD q.1 q.1.2.2.1 6)) (FP.i2d (i3 (nodesN (usedM q.1.1)))) := by
      have e1 := mean_law hG hO hs1 6 1 0 FP.dconst0 rfl rfl g0
      unfold meanD
      rw [if_neg y, if_neg y2, e1]
      show FP.ddiv (FP.dadd (FP.dadd (FP.dadd (FP.dadd (FP.dadd (FP.dadd 0 (tD q.1 q.1.2.2.1 1)) (tD q.1 q.1.2.2.1 2)) (tD q.1 q.1.2.2.1 3)) (tD q.1 q.1.2.2.1 4)) (tD q.1 q.1.2.2.1 5)) (tD q.1 q.1.2.2.1 6)) (FP.i2d (i3 (nodesN (usedM q.1.1)))) = _
      rw [add_0l (ht 1 (by decide)) (by decide)]
    have s2 := dadd_gd (ht 1 (by decide)) (ht 2 (by decide)) (by decide) (by decide)
    have s3 := dadd_gd s2 ((ht 3 (by decide)).le (by decide) (by decide)) (by decide) (by decide)
    have s4 := dadd_gd s3 ((ht 4 (by decide)).le (by decide) (by decide)) (by decide) (by decide)
    have s5 := dadd_gd s4 ((ht 5 (by decide)).le (by decide) (by decide)) (by decide) (by decide)
    have s6 := dadd_gd s5 ((ht 6 (by decide)).le (by decide) (by decide)) (by decide) (by decide)
    have md : ∀ (k : Nat), k < 7 → vf_n64 (FP.dmul FP.dconst1 (FP.l2d (i6 (lowT (numer q.1.1 (satN q.1.2.2.1 (nA q.1.1)) (givC q.1 q.1.2.2.1) k) (solD q.1.1 (satN q.1.2.2.1 (nA q.1.1))) 0)))) := fun k hk => by
      obtain ⟨B, C, hBC, b1, b2, b3⟩ := hS.n hk
      have hC := hBC.2.2.1
      have hz : -3758096384000 ≤ lowT (numer q.1.1 (satN q.1.2.2.1 (nA q.1.1)) (givC q.1 q.1.2.2.1) k) (solD q.1.1 (satN q.1.2.2.1 (nA q.1.1))) 0 ∧ lowT (numer q.1.1 (satN q.1.2.2.1 (nA q.1.1)) (givC q.1 q.1.2.2.1) k) (solD q.1.1 (satN q.1.2.2.1 (nA q.1.1))) 0 ≤ 3758096384000 := ⟨by have := b1.1; omega, by have := b1.2; omega⟩
      rw [mul1_gd hz]
      exact (l2d_gd hz).nn
    rw [emn] at gm ⊢
    refine sL_mean_27 hc hr (ee.fr f1 (by omega)) hS ⟨⟨⟨by decide, by decide⟩, Or.inl rfl⟩, md 1 (by decide), ⟨⟨by decide, by decide⟩, Or.inr rfl⟩, (ht 1 (by decide)).nn, ⟨⟨by decide, by decide⟩, Or.inl rfl⟩, md 2 (by decide), ⟨⟨by decide, by decide⟩, Or.inr rfl⟩, (ht 2 (by decide)).nn, s2.nn, ⟨⟨by decide, by decide⟩, Or.inl rfl⟩, md 3 (by decide), ⟨⟨by decide, by decide⟩, Or.inr rfl⟩, (ht 3 (by decide)).nn, s3.nn, ⟨⟨by decide, by decide⟩, Or.inl rfl⟩, md 4 (by decide), ⟨⟨by decide, by decide⟩, Or.inr rfl⟩, (ht 4 (by decide)).nn, s4.nn, ⟨⟨by decide, by decide⟩, Or.inl rfl⟩, md 5 (by decide), ⟨⟨by decide, by decide⟩, Or.inr rfl⟩, (ht 5 (by decide)).nn, s5.nn, ⟨⟨by decide, by decide⟩, Or.inl rfl⟩, md 6 (by decide), ⟨⟨by decide, by decide⟩, Or.inr rfl⟩, (ht 6 (by decide)).nn, s6.nn, gm.nn, R3_T _, fun z => absurd (dcmp_self gm .l) z, fun _ => kk h1 hq1 f1⟩
  · unfold meanD
    rw [if_neg y, if_pos y2]
