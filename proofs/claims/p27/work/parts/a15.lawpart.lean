/-! part a15: the law's part, higher -/
def Svd (ps : List Part) (m : Nat) (γ : Nat → Int) (E : Nat → Int) : Prop := SvE ps m γ E ∧ 0 < solD ps m ∧ BdL ps m γ
theorem low_g {x d : Int} (hd : 0 < d) : ∃ g : Int, 0 < g ∧ x = g * lowT x d 0 ∧ d = g * lowT x d 1 ∧ 0 < lowT x d 1 := by
  have hg : 0 < Nat.gcd x.natAbs d.natAbs := Nat.gcd_pos_of_pos_right _ (by omega)
  obtain ⟨x1, hx⟩ : ((Nat.gcd x.natAbs d.natAbs : Nat) : Int) ∣ x := Int.ofNat_dvd_left.mpr (Nat.gcd_dvd_left _ _)
  obtain ⟨d1, hD⟩ : ((Nat.gcd x.natAbs d.natAbs : Nat) : Int) ∣ d := Int.ofNat_dvd_left.mpr (Nat.gcd_dvd_right _ _)
  refine ⟨(Nat.gcd x.natAbs d.natAbs : Nat), by omega, ?_⟩
  unfold lowT
  rw [if_neg (Nat.ne_of_gt hg), if_neg (Nat.ne_of_gt hg), if_pos rfl, if_neg (by decide)]
  generalize Nat.gcd x.natAbs d.natAbs = g at *
  have gz : (g : Int) ≠ 0 := by omega
  have t1 : x.tdiv g = x1 := by rw [hx, Int.mul_tdiv_cancel_left _ gz]
  have t2 : d.tdiv g = d1 := by rw [hD, Int.mul_tdiv_cancel_left _ gz]
  rw [t1, t2]
  refine ⟨hx, hD, ?_⟩
  rw [hD] at hd
  exact Int.pos_of_mul_pos_right (a := (g : Int)) hd (by omega)
theorem low_b {x d : Int} (hd : 0 < d) : ((lowT x d 0).natAbs ≤ x.natAbs) ∧ 0 < lowT x d 1 ∧ lowT x d 1 ≤ d := by
  obtain ⟨g, g0, hx, hD, h1⟩ := low_g (x := x) hd
  refine ⟨?_, h1, ?_⟩
  · have := congrArg Int.natAbs hx
    rw [Int.natAbs_mul] at this
    rw [this]
    exact Nat.le_mul_of_pos_left _ (by omega)
  · have h2 : 1 * lowT x d 1 ≤ g * lowT x d 1 := Int.mul_le_mul_of_nonneg_right (by omega) (by omega)
    omega
theorem low_x {x d : Int} (hd : 0 < d) : lowT x d 0 * d = x * lowT x d 1 := by
  obtain ⟨g, g0, hx, hD, h1⟩ := low_g (x := x) hd
  have e1 : lowT x d 0 * d = lowT x d 0 * (g * lowT x d 1) := by rw [← hD]
  have e2 : x * lowT x d 1 = (g * lowT x d 0) * lowT x d 1 := by rw [← hx]
  rw [e1, e2]
  grind
theorem Svd.n {ps : List Part} {m : Nat} {γ E : Nat → Int} (h : Svd ps m γ E) {k : Nat} (hk : k < 7) : ∃ B C : Nat, BCok B C ∧ lb_b (lowT (numer ps m γ k) (solD ps m) 0) (C : Int) ∧ 0 < lowT (numer ps m γ k) (solD ps m) 1 ∧ lowT (numer ps m γ k) (solD ps m) 1 ≤ (B : Int) := by
  obtain ⟨_, hs, B, C, hBC, h1, h2⟩ := h
  obtain ⟨q1, q2, q3⟩ := low_b (x := numer ps m γ k) hs
  exact ⟨B, C, hBC, nat_b q1 (h2 k hk), q2, Int.le_trans q3 h1.2⟩
theorem Svd.n2 {ps : List Part} {m : Nat} {γ E : Nat → Int} (h : Svd ps m γ E) : ∃ B C : Nat, BCok B C ∧ ∀ k, k < 7 → lb_b (lowT (numer ps m γ k) (solD ps m) 0) (C : Int) ∧ 0 < lowT (numer ps m γ k) (solD ps m) 1 ∧ lowT (numer ps m γ k) (solD ps m) 1 ≤ (B : Int) := by
  obtain ⟨_, hs, B, C, hBC, h1, h2⟩ := h
  refine ⟨B, C, hBC, fun k hk => ?_⟩
  obtain ⟨q1, q2, q3⟩ := low_b (x := numer ps m γ k) hs
  exact ⟨nat_b q1 (h2 k hk), q2, Int.le_trans q3 h1.2⟩
set_option maxHeartbeats 4000000 in
set_option maxRecDepth 100000 in
theorem sL_part_0 {X : Xt} {n : Nat} {h : HP} {x0 : Int} {x1 : Int} {a2 : Nat} {f1 : Nat → Int} (hc : Cx X cL_part RL 9 1 29) {K : KT} (hr : CxR X (some .long) K) (e1 : At h n a2 (al 56 f1))
    (P : (Ix ((8 * x0) + 7) 56) ∧ (Ix ((8 * x0) + x0) 56) ∧ (R6p (f1 (((8 * x0) + 7) : Int).toNat) ∧ R6p (f1 (((8 * x0) + x0) : Int).toNat)) ∧ (R6 (f1 (((8 * x0) + x0) : Int).toNat) ∧ R6 0) ∧ (0 ≤ (f1 (((8 * x0) + x0) : Int).toNat) → (R3 x1) ∧ (¬ x1 = 0 → (R6 (f1 (((8 * x0) + x0) : Int).toNat) ∧ R6 (gcZ (f1 (((8 * x0) + 7) : Int).toNat) (f1 (((8 * x0) + x0) : Int).toNat)) ∧ R6 (((f1 (((8 * x0) + x0) : Int).toNat) : Int).tdiv (gcZ (f1 (((8 * x0) + 7) : Int).toNat) (f1 (((8 * x0) + x0) : Int).toNat))) ∧ (gcZ (f1 (((8 * x0) + 7) : Int).toNat) (f1 (((8 * x0) + x0) : Int).toNat)) ≠ 0) ∧ K (.inl (some (.long (i6 (((f1 (((8 * x0) + x0) : Int).toNat) : Int).tdiv (gcZ (f1 (((8 * x0) + 7) : Int).toNat) (f1 (((8 * x0) + x0) : Int).toNat))))))) n h) ∧ (x1 = 0 → (R6 (f1 (((8 * x0) + 7) : Int).toNat) ∧ R6 (gcZ (f1 (((8 * x0) + 7) : Int).toNat) (f1 (((8 * x0) + x0) : Int).toNat)) ∧ R6 (((f1 (((8 * x0) + 7) : Int).toNat) : Int).tdiv (gcZ (f1 (((8 * x0) + 7) : Int).toNat) (f1 (((8 * x0) + x0) : Int).toNat))) ∧ (gcZ (f1 (((8 * x0) + 7) : Int).toNat) (f1 (((8 * x0) + x0) : Int).toNat)) ≠ 0) ∧ K (.inl (some (.long (i6 (((f1 (((8 * x0) + 7) : Int).toNat) : Int).tdiv (gcZ (f1 (((8 * x0) + 7) : Int).toNat) (f1 (((8 * x0) + x0) : Int).toNat))))))) n h)) ∧ (¬ 0 ≤ (f1 (((8 * x0) + x0) : Int).toNat) → (R3 x1) ∧ (¬ x1 = 0 → (R6 (f1 (((8 * x0) + x0) : Int).toNat) ∧ R6 (-(gcZ (f1 (((8 * x0) + 7) : Int).toNat) (f1 (((8 * x0) + x0) : Int).toNat))) ∧ R6 (((f1 (((8 * x0) + x0) : Int).toNat) : Int).tdiv (-(gcZ (f1 (((8 * x0) + 7) : Int).toNat) (f1 (((8 * x0) + x0) : Int).toNat)))) ∧ (-(gcZ (f1 (((8 * x0) + 7) : Int).toNat) (f1 (((8 * x0) + x0) : Int).toNat))) ≠ 0) ∧ K (.inl (some (.long (i6 (((f1 (((8 * x0) + x0) : Int).toNat) : Int).tdiv (-(gcZ (f1 (((8 * x0) + 7) : Int).toNat) (f1 (((8 * x0) + x0) : Int).toNat)))))))) n h) ∧ (x1 = 0 → (R6 (f1 (((8 * x0) + 7) : Int).toNat) ∧ R6 (-(gcZ (f1 (((8 * x0) + 7) : Int).toNat) (f1 (((8 * x0) + x0) : Int).toNat))) ∧ R6 (((f1 (((8 * x0) + 7) : Int).toNat) : Int).tdiv (-(gcZ (f1 (((8 * x0) + 7) : Int).toNat) (f1 (((8 * x0) + x0) : Int).toNat)))) ∧ (-(gcZ (f1 (((8 * x0) + 7) : Int).toNat) (f1 (((8 * x0) + x0) : Int).toNat))) ≠ 0) ∧ K (.inl (some (.long (i6 (((f1 (((8 * x0) + 7) : Int).toNat) : Int).tdiv (-(gcZ (f1 (((8 * x0) + 7) : Int).toNat) (f1 (((8 * x0) + x0) : Int).toNat)))))))) n h))) :
    Ok X 0 0 0 [(0, .int (i3 x0)), (1, .int (i3 x1)), (2, .ref a2)] [] n h := by
  refine ok_aload_n (pc := 0) hc dL_part_0 rfl 2 rfl ?_
  refine ok_bipush (pc := 1) hc (v := i3 8) dL_part_1 (by decide) ?_
  refine ok_iload_n (pc := 3) hc dL_part_3 rfl 0 rfl ?_
  refine zk_imul (pc := 4) hc dL_part_4 ?_
  refine ok_bipush (pc := 5) hc (v := i3 7) dL_part_5 (by decide) ?_
  refine zk_iadd (pc := 7) hc dL_part_7 ?_
  obtain ⟨r, P⟩ := P
  refine zk_lald (pc := 8) hc dL_part_8 e1.1 e1.2 r ?_
  refine ok_lstore_n (pc := 9) hc (lv' := [(3, .long (i6 (f1 (((8 * x0) + 7) : Int).toNat))), (0, .int (i3 x0)), (1, .int (i3 x1)), (2, .ref a2)]) dL_part_9 rfl (by decide) rfl ?_
  refine ok_aload_n (pc := 10) hc dL_part_10 rfl 3 rfl ?_
  refine ok_bipush (pc := 11) hc (v := i3 8) dL_part_11 (by decide) ?_
  refine ok_iload_n (pc := 13) hc dL_part_13 rfl 1 rfl ?_
  refine zk_imul (pc := 14) hc dL_part_14 ?_
  refine ok_iload_n (pc := 15) hc dL_part_15 rfl 1 rfl ?_
  refine zk_iadd (pc := 16) hc dL_part_16 ?_
  obtain ⟨r, P⟩ := P
  refine zk_lald (pc := 17) hc dL_part_17 e1.1 e1.2 r ?_
  refine ok_lstore (pc := 18) hc (lv' := [(5, .long (i6 (f1 (((8 * x0) + x0) : Int).toNat))), (3, .long (i6 (f1 (((8 * x0) + 7) : Int).toNat))), (0, .int (i3 x0)), (1, .int (i3 x1)), (2, .ref a2)]) dL_part_18 (by decide) rfl ?_
  refine ok_lload_n (pc := 20) hc dL_part_20 rfl 1 rfl ?_
  refine ok_lload (pc := 21) hc dL_part_21 0 rfl ?_
  obtain ⟨r0, P⟩ := P
  refine ok_callS (pc := 23) (cb := 0) (sb := 0) (st := []) hc [.long (i6 (f1 (((8 * x0) + 7) : Int).toNat)), .long (i6 (f1 (((8 * x0) + x0) : Int).toNat))] cs_L_37 sp_L_common (by decide) dL_part_23 rfl rfl rfl rfl (Nat.le_of_ble_eq_true rfl) (⟨_, _, rfl, r0, rfl, ?_⟩)
  show Ok X 0 0 (23 + 3) [(5, .long (i6 (f1 (((8 * x0) + x0) : Int).toNat))), (3, .long (i6 (f1 (((8 * x0) + 7) : Int).toNat))), (0, .int (i3 x0)), (1, .int (i3 x1)), (2, .ref a2)] [.long (i6 (gcZ (f1 (((8 * x0) + 7) : Int).toNat) (f1 (((8 * x0) + x0) : Int).toNat)))] n h
  refine ok_lstore (pc := 26) hc (lv' := [(7, .long (i6 (gcZ (f1 (((8 * x0) + 7) : Int).toNat) (f1 (((8 * x0) + x0) : Int).toNat)))), (5, .long (i6 (f1 (((8 * x0) + x0) : Int).toNat))), (3, .long (i6 (f1 (((8 * x0) + 7) : Int).toNat))), (0, .int (i3 x0)), (1, .int (i3 x1)), (2, .ref a2)]) dL_part_26 (by decide) rfl ?_
  refine ok_lload (pc := 28) hc dL_part_28 1 rfl ?_
  refine ok_lconst (pc := 30) hc (v := i6 0) dL_part_30 (by decide) ?_
  obtain ⟨r, P⟩ := P
  refine zk_lcmp (pc := 31) hc dL_part_31 r ?_
  refine zk_if_ge (pc := 32) (tgt := 40) hc dL_part_32 (by decide) R3_cmp (fun c => ?_) (fun c => ?_)
  · have P := P.1 (cmp_ge.mp c)
    refine ok_iload_n (pc := 40) hc dL_part_40 rfl 4 rfl ?_
    obtain ⟨r2, P⟩ := P
    refine zk_if_ne (pc := 41) (tgt := 51) hc dL_part_41 (by decide) r2 (fun c => ?_) (fun c => ?_)
    · have P := P.1 c
      refine ok_lload (pc := 51) hc dL_part_51 1 rfl ?_
      refine ok_lload (pc := 53) hc dL_part_53 0 rfl ?_
      obtain ⟨r, P⟩ := P
      refine zk_ldiv (pc := 55) hc dL_part_55 r ?_
      exact ok_lret (st := []) (pc := 56) hc hr dL_part_56 P
    · have P := P.2 c
      refine ok_lload_n (pc := 44) hc dL_part_44 rfl 2 rfl ?_
      refine ok_lload (pc := 45) hc dL_part_45 0 rfl ?_
      obtain ⟨r, P⟩ := P
      refine zk_ldiv (pc := 47) hc dL_part_47 r ?_
      refine ok_goto (pc := 48) (tgt := 56) hc dL_part_48 (by decide) ?_
      exact ok_lret (st := []) (pc := 56) hc hr dL_part_56 P
  · have P := P.2 (fun z => c (cmp_ge.mpr z))
    refine ok_lload (pc := 35) hc dL_part_35 0 rfl ?_
    refine zk_lneg (pc := 37) hc dL_part_37 ?_
    refine ok_lstore (pc := 38) hc (lv' := [(7, .long (i6 (-(gcZ (f1 (((8 * x0) + 7) : Int).toNat) (f1 (((8 * x0) + x0) : Int).toNat))))), (5, .long (i6 (f1 (((8 * x0) + x0) : Int).toNat))), (3, .long (i6 (f1 (((8 * x0) + 7) : Int).toNat))), (0, .int (i3 x0)), (1, .int (i3 x1)), (2, .ref a2)]) dL_part_38 (by decide) rfl ?_
    refine ok_iload_n (pc := 40) hc dL_part_40 rfl 4 rfl ?_
    obtain ⟨r3, P⟩ := P
    refine zk_if_ne (pc := 41) (tgt := 51) hc dL_part_41 (by decide) r3 (fun c => ?_) (fun c => ?_)
    · have P := P.1 c
      refine ok_lload (pc := 51) hc dL_part_51 1 rfl ?_
      refine ok_lload (pc := 53) hc dL_part_53 0 rfl ?_
      obtain ⟨r, P⟩ := P
      refine zk_ldiv (pc := 55) hc dL_part_55 r ?_
      exact ok_lret (st := []) (pc := 56) hc hr dL_part_56 P
    · have P := P.2 c
      refine ok_lload_n (pc := 44) hc dL_part_44 rfl 2 rfl ?_
      refine ok_lload (pc := 45) hc dL_part_45 0 rfl ?_
      obtain ⟨r, P⟩ := P
      refine zk_ldiv (pc := 47) hc dL_part_47 r ?_
      refine ok_goto (pc := 48) (tgt := 56) hc dL_part_48 (by decide) ?_
      exact ok_lret (st := []) (pc := 56) hc hr dL_part_56 P

def spec_L_part (args : List Value) (n : Nat) (h : HP) (K : KT) : Prop := ∃ (e : Nat) (E : Nat → Int) (ps : List Part) (m : Nat) (γ : Nat → Int) (k w : Int), args = [.int (i3 k), .int (i3 w), .ref e] ∧ At h n e (al 56 E) ∧ Svd ps m γ E ∧ (0 ≤ k ∧ k < 7) ∧ (w = 0 ∨ w = 1) ∧ K (.inl (some (.long (i6 (lowT (numer ps m γ k.toNat) (solD ps m) w))))) n h
theorem sp_L_part : Sp yL_part cL_part 9 (some .long) 1 29 0 0 spec_L_part := by
  refine sp_intro (by decide) (by rintro args n h K ⟨e, E, ps, m, γ, k, w, rfl, -⟩; exact Nat.le_of_ble_eq_true rfl) ?_
  rintro X args n h K hc hr ⟨e, E, ps, m, γ, k, w, rfl, ee, hS, hk, hw, kk⟩
  obtain ⟨k, rfl⟩ : ∃ z : Nat, k = z := ⟨k.toNat, by omega⟩
  have etk : (k : Int).toNat = k := by omega
  rw [etk] at kk
  obtain ⟨z, hs, r7, rk⟩ := hS.1 k (by omega)
  have e7 : (8 * (k : Int) + 7 : Int).toNat = 8 * k + 7 := by omega
  have ek : (8 * (k : Int) + k : Int).toNat = 8 * k + k := by omega
  have i7 : Ix (8 * (k : Int) + 7) 56 := ⟨by omega, by omega, by omega⟩
  have ik : Ix (8 * (k : Int) + k) 56 := ⟨by omega, by omega, by omega⟩
  have rw9 : R3 w := R3_s (by omega)
  refine sL_part_0 hc hr ee ?_
  rw [e7, ek]
  generalize E (8 * k + 7) = A at *
  generalize E (8 * k + k) = D at *
  have g0 : 0 < Nat.gcd A.natAbs D.natAbs := Nat.gcd_pos_of_pos_right _ (by omega)
  have gle : Nat.gcd A.natAbs D.natAbs ≤ D.natAbs := Nat.le_of_dvd (by omega) (Nat.gcd_dvd_right _ _)
  have td : ∀ y : Int, R6p y → ∀ q : Int, R6 (y.tdiv q) := fun y hy q => by
    have := tdiv_bd (a := y) (p := q)
    unfold R6p at hy
    exact ⟨by omega, by omega⟩
  have rg : R6 (gcZ A D) := by
    unfold gcZ
    unfold R6p at rk
    exact ⟨by omega, by omega⟩
  have rng : R6 (-gcZ A D) := by
    unfold gcZ
    unfold R6p at rk
    exact ⟨by omega, by omega⟩
  have gz : gcZ A D ≠ 0 := by
    unfold gcZ
    omega
  have gz2 : -gcZ A D ≠ 0 := by omega
  refine ⟨i7, ik, ⟨r7, rk⟩, ⟨rk.r, R6_0⟩, fun c => ?_, fun c => ?_⟩
  · have he := low_eq (x := A) (y := numer ps m γ k) (d := solD ps m) (e := D) (w := w) hS.2.1 (by omega) (by rw [hs, Int.mul_comm])
    rw [← he] at kk
    unfold lowT at kk
    rw [if_neg (Nat.ne_of_gt g0)] at kk
    refine ⟨rw9, fun y => ⟨⟨rk.r, rg, td _ rk _, gz⟩, ?_⟩, fun y => ⟨⟨r7.r, rg, td _ r7 _, gz⟩, ?_⟩⟩
    · rw [if_neg y] at kk
      exact kk
    · rw [if_pos y] at kk
      exact kk
  · have he := low_eq (x := -A) (y := numer ps m γ k) (d := solD ps m) (e := -D) (w := w) hS.2.1 (by omega) (by rw [Int.mul_neg, hs, Int.neg_mul, Int.mul_comm])
    rw [← he] at kk
    unfold lowT at kk
    rw [Int.natAbs_neg, Int.natAbs_neg, if_neg (Nat.ne_of_gt g0), Int.neg_tdiv, Int.neg_tdiv, ← Int.tdiv_neg, ← Int.tdiv_neg] at kk
    refine ⟨rw9, fun y => ⟨⟨rk.r, rng, td _ rk _, gz2⟩, ?_⟩, fun y => ⟨⟨r7.r, rng, td _ r7 _, gz2⟩, ?_⟩⟩
    · rw [if_neg y] at kk
      exact kk
    · rw [if_pos y] at kk
      exact kk
/-- the difference of two fractions, across -/
theorem low_far {ps : List Part} {m : Nat} {γ E : Nat → Int} (h : Svd ps m γ E) {a b : Nat} (ha : a < 7) (hb : b < 7) : (-1576259869579673600 ≤ lowT (numer ps m γ a) (solD ps m) 0 * lowT (numer ps m γ b) (solD ps m) 1 - lowT (numer ps m γ b) (solD ps m) 0 * lowT (numer ps m γ a) (solD ps m) 1 ∧ lowT (numer ps m γ a) (solD ps m) 0 * lowT (numer ps m γ b) (solD ps m) 1 - lowT (numer ps m γ b) (solD ps m) 0 * lowT (numer ps m γ a) (solD ps m) 1 ≤ 1576259869579673600) ∧ solD ps m * (lowT (numer ps m γ a) (solD ps m) 0 * lowT (numer ps m γ b) (solD ps m) 1 - lowT (numer ps m γ b) (solD ps m) 0 * lowT (numer ps m γ a) (solD ps m) 1) = (numer ps m γ a - numer ps m γ b) * (lowT (numer ps m γ a) (solD ps m) 1 * lowT (numer ps m γ b) (solD ps m) 1) := by
  obtain ⟨B, C, hBC, hn⟩ := h.n2
  obtain ⟨a1, a2, a3⟩ := hn a ha
  obtain ⟨b1, b2, b3⟩ := hn b hb
  have xa := low_x (x := numer ps m γ a) h.2.1
  have xb := low_x (x := numer ps m γ b) h.2.1
  obtain ⟨q1, q2, q3, q4⟩ := hBC
  have e : (C : Int) * (B : Int) = ((B * C : Nat) : Int) := by rw [Int.mul_comm]; exact (Int.natCast_mul B C).symm
  have m1 := mul_bd (B := (C : Int)) (C := (B : Int)) a1 (b := lowT (numer ps m γ b) (solD ps m) 1) ⟨by omega, b3⟩
  have m2 := mul_bd (B := (C : Int)) (C := (B : Int)) b1 (b := lowT (numer ps m γ a) (solD ps m) 1) ⟨by omega, a3⟩
  rw [e] at m1 m2
  refine ⟨⟨by have := m1.1; have := m2.2; omega, by have := m1.2; have := m2.1; omega⟩, ?_⟩
  generalize lowT (numer ps m γ a) (solD ps m) 0 = x1 at *
  generalize lowT (numer ps m γ a) (solD ps m) 1 = d1 at *
  generalize lowT (numer ps m γ b) (solD ps m) 0 = x2 at *
  generalize lowT (numer ps m γ b) (solD ps m) 1 = d2 at *
  have : solD ps m * (x1 * d2 - x2 * d1) = (x1 * solD ps m) * d2 - (x2 * solD ps m) * d1 := by grind
  rw [this, xa, xb]
  grind
theorem low_sign {ps : List Part} {m : Nat} {γ E : Nat → Int} (h : Svd ps m γ E) {a b : Nat} (ha : a < 7) (hb : b < 7) : (0 < lowT (numer ps m γ a) (solD ps m) 0 * lowT (numer ps m γ b) (solD ps m) 1 - lowT (numer ps m γ b) (solD ps m) 0 * lowT (numer ps m γ a) (solD ps m) 1 ↔ numer ps m γ b < numer ps m γ a) ∧ (lowT (numer ps m γ a) (solD ps m) 0 * lowT (numer ps m γ b) (solD ps m) 1 - lowT (numer ps m γ b) (solD ps m) 0 * lowT (numer ps m γ a) (solD ps m) 1 < 0 ↔ numer ps m γ a < numer ps m γ b) := by
  have e := (low_far h ha hb).2
  obtain ⟨B, C, hBC, hn⟩ := h.n2
  have dd := Int.mul_pos (hn a ha).2.1 (hn b hb).2.1
  rw [Int.mul_comm (numer ps m γ a - numer ps m γ b)] at e
  have := sgn_eq h.2.1 dd e
  omega
set_option maxHeartbeats 4000000 in
set_option maxRecDepth 100000 in
theorem sL_higher_0 {X : Xt} {n : Nat} {h : HP} {x0 : Int} {x1 : Int} {a2 : Nat} {f1 : Nat → Int} {qs2 : List Part} {m2 : Nat} {γ2 : Nat → Int} (hc : Cx X cL_higher RL 5 2 57) {K : KT} (hr : CxR X (some .int) K) (e1 : At h n a2 (al 56 f1)) (hS2 : Svd qs2 m2 γ2 f1)
    (P : ((0 ≤ x0 ∧ x0 < 7) ∧ (((0) : Int) = 0 ∨ ((0) : Int) = 1)) ∧ ((0 ≤ x1 ∧ x1 < 7) ∧ (((1) : Int) = 0 ∨ ((1) : Int) = 1)) ∧ ((0 ≤ x1 ∧ x1 < 7) ∧ (((0) : Int) = 0 ∨ ((0) : Int) = 1)) ∧ ((0 ≤ x0 ∧ x0 < 7) ∧ (((1) : Int) = 0 ∨ ((1) : Int) = 1)) ∧ (R6 (((lowT (numer qs2 m2 γ2 (x0 : Int).toNat) (solD qs2 m2) 0) * (lowT (numer qs2 m2 γ2 (x1 : Int).toNat) (solD qs2 m2) 1)) - ((lowT (numer qs2 m2 γ2 (x1 : Int).toNat) (solD qs2 m2) 0) * (lowT (numer qs2 m2 γ2 (x0 : Int).toNat) (solD qs2 m2) 1))) ∧ R6 0) ∧ ((((lowT (numer qs2 m2 γ2 (x0 : Int).toNat) (solD qs2 m2) 0) * (lowT (numer qs2 m2 γ2 (x1 : Int).toNat) (solD qs2 m2) 1)) - ((lowT (numer qs2 m2 γ2 (x1 : Int).toNat) (solD qs2 m2) 0) * (lowT (numer qs2 m2 γ2 (x0 : Int).toNat) (solD qs2 m2) 1))) ≤ 0 → (R6 (((lowT (numer qs2 m2 γ2 (x0 : Int).toNat) (solD qs2 m2) 0) * (lowT (numer qs2 m2 γ2 (x1 : Int).toNat) (solD qs2 m2) 1)) - ((lowT (numer qs2 m2 γ2 (x1 : Int).toNat) (solD qs2 m2) 0) * (lowT (numer qs2 m2 γ2 (x0 : Int).toNat) (solD qs2 m2) 1))) ∧ R6 0) ∧ (0 ≤ (((lowT (numer qs2 m2 γ2 (x0 : Int).toNat) (solD qs2 m2) 0) * (lowT (numer qs2 m2 γ2 (x1 : Int).toNat) (solD qs2 m2) 1)) - ((lowT (numer qs2 m2 γ2 (x1 : Int).toNat) (solD qs2 m2) 0) * (lowT (numer qs2 m2 γ2 (x0 : Int).toNat) (solD qs2 m2) 1))) → K (.inl (some (.int (i3 0)))) n h) ∧ (¬ 0 ≤ (((lowT (numer qs2 m2 γ2 (x0 : Int).toNat) (solD qs2 m2) 0) * (lowT (numer qs2 m2 γ2 (x1 : Int).toNat) (solD qs2 m2) 1)) - ((lowT (numer qs2 m2 γ2 (x1 : Int).toNat) (solD qs2 m2) 0) * (lowT (numer qs2 m2 γ2 (x0 : Int).toNat) (solD qs2 m2) 1))) → K (.inl (some (.int (i3 (-1))))) n h)) ∧ (¬ (((lowT (numer qs2 m2 γ2 (x0 : Int).toNat) (solD qs2 m2) 0) * (lowT (numer qs2 m2 γ2 (x1 : Int).toNat) (solD qs2 m2) 1)) - ((lowT (numer qs2 m2 γ2 (x1 : Int).toNat) (solD qs2 m2) 0) * (lowT (numer qs2 m2 γ2 (x0 : Int).toNat) (solD qs2 m2) 1))) ≤ 0 → K (.inl (some (.int (i3 1)))) n h)) :
    Ok X 0 0 0 [(0, .int (i3 x0)), (1, .int (i3 x1)), (2, .ref a2)] [] n h := by
  refine ok_iload_n (pc := 0) hc dL_higher_0 rfl 0 rfl ?_
  refine ok_iconst (pc := 1) hc (v := i3 0) dL_higher_1 (by decide) ?_
  refine ok_aload_n (pc := 2) hc dL_higher_2 rfl 2 rfl ?_
  obtain ⟨r0, P⟩ := P
  refine ok_callS (pc := 3) (cb := 0) (sb := 0) (st := []) hc [.int (i3 x0), .int (i3 0), .ref a2] cs_L_41 sp_L_part (by decide) dL_higher_3 rfl rfl rfl rfl (Nat.le_of_ble_eq_true rfl) (⟨_, _, _, _, _, _, _, rfl, ⟨e1.1, e1.2⟩, hS2, r0.1, r0.2, rfl, ?_⟩)
  show Ok X 0 0 (3 + 3) [(0, .int (i3 x0)), (1, .int (i3 x1)), (2, .ref a2)] [.long (i6 (lowT (numer qs2 m2 γ2 (x0 : Int).toNat) (solD qs2 m2) 0))] n h
  refine ok_iload_n (pc := 6) hc dL_higher_6 rfl 1 rfl ?_
  refine ok_iconst (pc := 7) hc (v := i3 1) dL_higher_7 (by decide) ?_
  refine ok_aload_n (pc := 8) hc dL_higher_8 rfl 2 rfl ?_
  obtain ⟨r0, P⟩ := P
  refine ok_callS (pc := 9) (cb := 0) (sb := 0) (st := [.long (i6 (lowT (numer qs2 m2 γ2 (x0 : Int).toNat) (solD qs2 m2) 0))]) hc [.int (i3 x1), .int (i3 1), .ref a2] cs_L_41 sp_L_part (by decide) dL_higher_9 rfl rfl rfl rfl (Nat.le_of_ble_eq_true rfl) (⟨_, _, _, _, _, _, _, rfl, ⟨e1.1, e1.2⟩, hS2, r0.1, r0.2, rfl, ?_⟩)
  show Ok X 0 0 (9 + 3) [(0, .int (i3 x0)), (1, .int (i3 x1)), (2, .ref a2)] [.long (i6 (lowT (numer qs2 m2 γ2 (x1 : Int).toNat) (solD qs2 m2) 1)), .long (i6 (lowT (numer qs2 m2 γ2 (x0 : Int).toNat) (solD qs2 m2) 0))] n h
  refine zk_lmul (pc := 12) hc dL_higher_12 ?_
  refine ok_iload_n (pc := 13) hc dL_higher_13 rfl 1 rfl ?_
  refine ok_iconst (pc := 14) hc (v := i3 0) dL_higher_14 (by decide) ?_
  refine ok_aload_n (pc := 15) hc dL_higher_15 rfl 2 rfl ?_
  obtain ⟨r0, P⟩ := P
  refine ok_callS (pc := 16) (cb := 0) (sb := 0) (st := [.long (i6 ((lowT (numer qs2 m2 γ2 (x0 : Int).toNat) (solD qs2 m2) 0) * (lowT (numer qs2 m2 γ2 (x1 : Int).toNat) (solD qs2 m2) 1)))]) hc [.int (i3 x1), .int (i3 0), .ref a2] cs_L_41 sp_L_part (by decide) dL_higher_16 rfl rfl rfl rfl (Nat.le_of_ble_eq_true rfl) (⟨_, _, _, _, _, _, _, rfl, ⟨e1.1, e1.2⟩, hS2, r0.1, r0.2, rfl, ?_⟩)
  show Ok X 0 0 (16 + 3) [(0, .int (i3 x0)), (1, .int (i3 x1)), (2, .ref a2)] [.long (i6 (lowT (numer qs2 m2 γ2 (x1 : Int).toNat) (solD qs2 m2) 0)), .long (i6 ((lowT (numer qs2 m2 γ2 (x0 : Int).toNat) (solD qs2 m2) 0) * (lowT (numer qs2 m2 γ2 (x1 : Int).toNat) (solD qs2 m2) 1)))] n h
  refine ok_iload_n (pc := 19) hc dL_higher_19 rfl 0 rfl ?_
  refine ok_iconst (pc := 20) hc (v := i3 1) dL_higher_20 (by decide) ?_
  refine ok_aload_n (pc := 21) hc dL_higher_21 rfl 2 rfl ?_
  obtain ⟨r0, P⟩ := P
  refine ok_callS (pc := 22) (cb := 0) (sb := 0) (st := [.long (i6 (lowT (numer qs2 m2 γ2 (x1 : Int).toNat) (solD qs2 m2) 0)), .long (i6 ((lowT (numer qs2 m2 γ2 (x0 : Int).toNat) (solD qs2 m2) 0) * (lowT (numer qs2 m2 γ2 (x1 : Int).toNat) (solD qs2 m2) 1)))]) hc [.int (i3 x0), .int (i3 1), .ref a2] cs_L_41 sp_L_part (by decide) dL_higher_22 rfl rfl rfl rfl (Nat.le_of_ble_eq_true rfl) (⟨_, _, _, _, _, _, _, rfl, ⟨e1.1, e1.2⟩, hS2, r0.1, r0.2, rfl, ?_⟩)
  show Ok X 0 0 (22 + 3) [(0, .int (i3 x0)), (1, .int (i3 x1)), (2, .ref a2)] [.long (i6 (lowT (numer qs2 m2 γ2 (x0 : Int).toNat) (solD qs2 m2) 1)), .long (i6 (lowT (numer qs2 m2 γ2 (x1 : Int).toNat) (solD qs2 m2) 0)), .long (i6 ((lowT (numer qs2 m2 γ2 (x0 : Int).toNat) (solD qs2 m2) 0) * (lowT (numer qs2 m2 γ2 (x1 : Int).toNat) (solD qs2 m2) 1)))] n h
  refine zk_lmul (pc := 25) hc dL_higher_25 ?_
  refine zk_lsub (pc := 26) hc dL_higher_26 ?_
  refine ok_lstore_n (pc := 27) hc (lv' := [(3, .long (i6 (((lowT (numer qs2 m2 γ2 (x0 : Int).toNat) (solD qs2 m2) 0) * (lowT (numer qs2 m2 γ2 (x1 : Int).toNat) (solD qs2 m2) 1)) - ((lowT (numer qs2 m2 γ2 (x1 : Int).toNat) (solD qs2 m2) 0) * (lowT (numer qs2 m2 γ2 (x0 : Int).toNat) (solD qs2 m2) 1))))), (0, .int (i3 x0)), (1, .int (i3 x1)), (2, .ref a2)]) dL_higher_27 rfl (by decide) rfl ?_
  refine ok_lload_n (pc := 28) hc dL_higher_28 rfl 0 rfl ?_
  refine ok_lconst (pc := 29) hc (v := i6 0) dL_higher_29 (by decide) ?_
  obtain ⟨r, P⟩ := P
  refine zk_lcmp (pc := 30) hc dL_higher_30 r ?_
  refine zk_if_le (pc := 31) (tgt := 38) hc dL_higher_31 (by decide) R3_cmp (fun c => ?_) (fun c => ?_)
  · have P := P.1 (cmp_le.mp c)
    refine ok_lload_n (pc := 38) hc dL_higher_38 rfl 0 rfl ?_
    refine ok_lconst (pc := 39) hc (v := i6 0) dL_higher_39 (by decide) ?_
    obtain ⟨r, P⟩ := P
    refine zk_lcmp (pc := 40) hc dL_higher_40 r ?_
    refine zk_if_ge (pc := 41) (tgt := 48) hc dL_higher_41 (by decide) R3_cmp (fun c => ?_) (fun c => ?_)
    · have P := P.1 (cmp_ge.mp c)
      refine ok_iconst (pc := 48) hc (v := i3 0) dL_higher_48 (by decide) ?_
      exact ok_iret (st := []) (pc := 49) hc hr dL_higher_49 P
    · have P := P.2 (fun z => c (cmp_ge.mpr z))
      refine ok_iconst (pc := 44) hc (v := i3 (-1)) dL_higher_44 (by decide) ?_
      refine ok_goto (pc := 45) (tgt := 49) hc dL_higher_45 (by decide) ?_
      exact ok_iret (st := []) (pc := 49) hc hr dL_higher_49 P
  · have P := P.2 (fun z => c (cmp_le.mpr z))
    refine ok_iconst (pc := 34) hc (v := i3 1) dL_higher_34 (by decide) ?_
    refine ok_goto (pc := 35) (tgt := 49) hc dL_higher_35 (by decide) ?_
    exact ok_iret (st := []) (pc := 49) hc hr dL_higher_49 P

def spec_L_higher (args : List Value) (n : Nat) (h : HP) (K : KT) : Prop := ∃ (e : Nat) (E : Nat → Int) (ps : List Part) (m : Nat) (γ : Nat → Int) (a b : Int), args = [.int (i3 a), .int (i3 b), .ref e] ∧ At h n e (al 56 E) ∧ Svd ps m γ E ∧ ((0 ≤ a ∧ a < 7) ∧ 0 ≤ b ∧ b < 7) ∧ K (.inl (some (.int (i3 (cmpZ (numer ps m γ a.toNat) (numer ps m γ b.toNat)))))) n h
theorem sp_L_higher : Sp yL_higher cL_higher 5 (some .int) 2 57 0 0 spec_L_higher := by
  refine sp_intro (by decide) (by rintro args n h K ⟨e, E, ps, m, γ, a, b, rfl, -⟩; exact Nat.le_of_ble_eq_true rfl) ?_
  rintro X args n h K hc hr ⟨e, E, ps, m, γ, a, b, rfl, ee, hS, ⟨ha, hb⟩, kk⟩
  have hf := low_far hS (a := a.toNat) (b := b.toNat) (by omega) (by omega)
  have hs := low_sign hS (a := a.toNat) (b := b.toNat) (by omega) (by omega)
  have r : R6 (lowT (numer ps m γ a.toNat) (solD ps m) 0 * lowT (numer ps m γ b.toNat) (solD ps m) 1 - lowT (numer ps m γ b.toNat) (solD ps m) 0 * lowT (numer ps m γ a.toNat) (solD ps m) 1) := ⟨by omega, by omega⟩
  unfold cmpZ at kk
  refine sL_higher_0 hc hr ee hS ⟨⟨ha, Or.inl rfl⟩, ⟨hb, Or.inr rfl⟩, ⟨hb, Or.inl rfl⟩, ⟨ha, Or.inr rfl⟩, ⟨r, R6_0⟩, ?_⟩
  refine ⟨fun c => ⟨⟨r, R6_0⟩, fun d => ?_, fun d => ?_⟩, fun c => ?_⟩
  · rw [if_neg (by omega), if_pos (by omega)] at kk
    exact kk
  · rw [if_pos (by omega)] at kk
    exact kk
  · rw [if_neg (by omega), if_neg (by omega)] at kk
    exact kk
