/-! part 89: the reference: common, reduced, voltageNow, present, voltage, inCase -/
theorem low_eq {x y d e w : Int} (hd : 0 < d) (he : 0 < e) (h : d * x = e * y) : lowT x e w = lowT y d w := by
  have hg : 0 < Nat.gcd x.natAbs e.natAbs := Nat.gcd_pos_of_pos_right _ (by omega)
  have hg' : 0 < Nat.gcd y.natAbs d.natAbs := Nat.gcd_pos_of_pos_right _ (by omega)
  have key : d.natAbs * Nat.gcd x.natAbs e.natAbs = e.natAbs * Nat.gcd y.natAbs d.natAbs := by
    rw [← Nat.gcd_mul_left, ← Nat.gcd_mul_left, ← Int.natAbs_mul, ← Int.natAbs_mul, h, Int.natAbs_mul e y, Int.natAbs_mul d e, Nat.mul_comm d.natAbs e.natAbs]
  obtain ⟨x1, hx⟩ : ((Nat.gcd x.natAbs e.natAbs : Nat) : Int) ∣ x := Int.ofNat_dvd_left.mpr (Nat.gcd_dvd_left _ _)
  obtain ⟨e1, hE⟩ : ((Nat.gcd x.natAbs e.natAbs : Nat) : Int) ∣ e := Int.ofNat_dvd_left.mpr (Nat.gcd_dvd_right _ _)
  obtain ⟨y1, hy⟩ : ((Nat.gcd y.natAbs d.natAbs : Nat) : Int) ∣ y := Int.ofNat_dvd_left.mpr (Nat.gcd_dvd_left _ _)
  obtain ⟨d1, hD⟩ : ((Nat.gcd y.natAbs d.natAbs : Nat) : Int) ∣ d := Int.ofNat_dvd_left.mpr (Nat.gcd_dvd_right _ _)
  have key2 : d * ((Nat.gcd x.natAbs e.natAbs : Nat) : Int) = e * ((Nat.gcd y.natAbs d.natAbs : Nat) : Int) := by
    have := congrArg (fun z : Nat => (z : Int)) key
    simp only [Int.natCast_mul] at this
    rw [show (d.natAbs : Int) = d by omega, show (e.natAbs : Int) = e by omega] at this
    exact this
  unfold lowT
  rw [if_neg (Nat.ne_of_gt hg), if_neg (Nat.ne_of_gt hg')]
  generalize Nat.gcd x.natAbs e.natAbs = g at *
  generalize Nat.gcd y.natAbs d.natAbs = g' at *
  have gz : (g : Int) ≠ 0 := by omega
  have gz' : (g' : Int) ≠ 0 := by omega
  have ede : d1 = e1 := by
    have : ((g : Int) * g') * d1 = ((g : Int) * g') * e1 := by
      rw [hD, hE] at key2
      grind
    exact Int.eq_of_mul_eq_mul_left (Int.mul_ne_zero gz gz') this
  have d1z : d1 ≠ 0 := fun z => by rw [z, Int.mul_zero] at hD; omega
  have exy : x1 = y1 := by
    have : ((g : Int) * g' * d1) * x1 = ((g : Int) * g' * d1) * y1 := by
      rw [hx, hy, hD, hE, ← ede] at h
      grind
    exact Int.eq_of_mul_eq_mul_left (Int.mul_ne_zero (Int.mul_ne_zero gz gz') d1z) this
  have t1 : x.tdiv g = x1 := by rw [hx, Int.mul_tdiv_cancel_left _ gz]
  have t2 : y.tdiv g' = y1 := by rw [hy, Int.mul_tdiv_cancel_left _ gz']
  have t3 : e.tdiv g = e1 := by rw [hE, Int.mul_tdiv_cancel_left _ gz]
  have t4 : d.tdiv g' = d1 := by rw [hD, Int.mul_tdiv_cancel_left _ gz']
  rw [t1, t2, t3, t4, exy, ede]
set_option maxHeartbeats 4000000 in
set_option maxRecDepth 100000 in
theorem sX7_common_0 {X : Xt} {n : Nat} {h : HP} {l0 : Int} {l2 : Int} (hc : Cx X cX7_common RX7 10 0 0) {K : KT} (hr : CxR X (some .long) K) 
    (P : (R6 l0 ∧ R6 0) ∧ (0 ≤ l0 → Ok X 0 0 17 [(0, .long (i6 l0)), (2, .long (i6 l2)), (4, .long (i6 l0)), (6, .long (i6 l2))] [] n h) ∧ (¬ 0 ≤ l0 → Ok X 0 0 17 [(0, .long (i6 l0)), (2, .long (i6 l2)), (4, .long (i6 (-l0))), (6, .long (i6 l2))] [] n h)) :
    Ok X 0 0 0 [(0, .long (i6 l0)), (2, .long (i6 l2))] [] n h := by
  refine ok_lload_n (pc := 0) hc dX7_common_0 rfl 0 rfl ?_
  refine ok_lconst (pc := 1) hc (v := i6 0) dX7_common_1 (by decide) ?_
  obtain ⟨r, P⟩ := P
  refine zk_lcmp (pc := 2) hc dX7_common_2 r ?_
  refine zk_if_ge (pc := 3) (tgt := 11) hc dX7_common_3 (by decide) R3_cmp (fun c => ?_) (fun c => ?_)
  · have P := P.1 (cmp_ge.mp c)
    refine ok_lload_n (pc := 11) hc dX7_common_11 rfl 0 rfl ?_
    refine ok_lstore (pc := 12) hc (lv' := [(4, .long (i6 l0)), (0, .long (i6 l0)), (2, .long (i6 l2))]) dX7_common_12 (by decide) rfl ?_
    refine ok_lload_n (pc := 14) hc dX7_common_14 rfl 2 rfl ?_
    refine ok_lstore (pc := 15) hc (lv' := [(6, .long (i6 l2)), (4, .long (i6 l0)), (0, .long (i6 l0)), (2, .long (i6 l2))]) dX7_common_15 (by decide) rfl ?_
    refine ok_lv [2, 3, 1, 0] rfl ?_
    exact P
  · have P := P.2 (fun z => c (cmp_ge.mpr z))
    refine ok_lload_n (pc := 6) hc dX7_common_6 rfl 0 rfl ?_
    refine zk_lneg (pc := 7) hc dX7_common_7 ?_
    refine ok_goto (pc := 8) (tgt := 12) hc dX7_common_8 (by decide) ?_
    refine ok_lstore (pc := 12) hc (lv' := [(4, .long (i6 (-l0))), (0, .long (i6 l0)), (2, .long (i6 l2))]) dX7_common_12 (by decide) rfl ?_
    refine ok_lload_n (pc := 14) hc dX7_common_14 rfl 2 rfl ?_
    refine ok_lstore (pc := 15) hc (lv' := [(6, .long (i6 l2)), (4, .long (i6 (-l0))), (0, .long (i6 l0)), (2, .long (i6 l2))]) dX7_common_15 (by decide) rfl ?_
    refine ok_lv [2, 3, 1, 0] rfl ?_
    exact P

set_option maxHeartbeats 4000000 in
set_option maxRecDepth 100000 in
theorem sX7_common_17 {X : Xt} {n : Nat} {h : HP} {l0 : Int} {l2 : Int} {l4 : Int} {l6 : Int} (hc : Cx X cX7_common RX7 10 0 0) {K : KT} (hr : CxR X (some .long) K) 
    (P : (R6 l6 ∧ R6 0) ∧ (l6 ≤ 0 → K (.inl (some (.long (i6 l4)))) n h) ∧ (¬ l6 ≤ 0 → (((0 : Int) ≤ l4 ∧ l4 ≤ 9223372036854775807) ∧ (0 : Int) < l6 ∧ (l6 : Int) ≤ 9223372036854775807) ∧ Ok X 0 0 17 [(0, .long (i6 l0)), (2, .long (i6 l2)), (4, .long (i6 l6)), (6, .long (i6 (l4 % l6)))] [] n h)) :
    Ok X 0 0 17 [(0, .long (i6 l0)), (2, .long (i6 l2)), (4, .long (i6 l4)), (6, .long (i6 l6))] [] n h := by
  refine ok_lload (pc := 17) hc dX7_common_17 3 rfl ?_
  refine ok_lconst (pc := 19) hc (v := i6 0) dX7_common_19 (by decide) ?_
  obtain ⟨r, P⟩ := P
  refine zk_lcmp (pc := 20) hc dX7_common_20 r ?_
  refine zk_if_le (pc := 21) (tgt := 42) hc dX7_common_21 (by decide) R3_cmp (fun c => ?_) (fun c => ?_)
  · have P := P.1 (cmp_le.mp c)
    refine ok_lload (pc := 42) hc dX7_common_42 2 rfl ?_
    exact ok_lret (st := []) (pc := 44) hc hr dX7_common_44 P
  · have P := P.2 (fun z => c (cmp_le.mpr z))
    refine ok_lload (pc := 24) hc dX7_common_24 2 rfl ?_
    refine ok_lload (pc := 26) hc dX7_common_26 3 rfl ?_
    obtain ⟨r, P⟩ := P
    refine zk_lrem (pc := 28) hc dX7_common_28 r ?_
    refine ok_lstore (pc := 29) hc (lv' := [(8, .long (i6 (l4 % l6))), (0, .long (i6 l0)), (2, .long (i6 l2)), (4, .long (i6 l4)), (6, .long (i6 l6))]) dX7_common_29 (by decide) rfl ?_
    refine ok_lload (pc := 31) hc dX7_common_31 4 rfl ?_
    refine ok_lstore (pc := 33) hc (lv' := [(4, .long (i6 l6)), (8, .long (i6 (l4 % l6))), (0, .long (i6 l0)), (2, .long (i6 l2)), (6, .long (i6 l6))]) dX7_common_33 (by decide) rfl ?_
    refine ok_lload (pc := 35) hc dX7_common_35 1 rfl ?_
    refine ok_lstore (pc := 37) hc (lv' := [(6, .long (i6 (l4 % l6))), (4, .long (i6 l6)), (8, .long (i6 (l4 % l6))), (0, .long (i6 l0)), (2, .long (i6 l2))]) dX7_common_37 (by decide) rfl ?_
    refine ok_goto (pc := 39) (tgt := 17) hc dX7_common_39 (by decide) ?_
    refine ok_lv [3, 4, 1, 0] rfl ?_
    exact P

def spec_X7_common (args : List Value) (n : Nat) (h : HP) (K : KT) : Prop := ∃ x d : Int, args = [.long (i6 x), .long (i6 d)] ∧ (-4611686018427387904 < x ∧ x < 4611686018427387904) ∧ (0 ≤ d ∧ d < 4611686018427387904) ∧ K (.inl (some (.long (i6 (Nat.gcd x.natAbs d.natAbs : Nat))))) n h
theorem sp_X7_common : Sp yX7_common cX7_common 10 (some .long) 0 0 0 0 spec_X7_common := by
  refine sp_intro (by decide) (by rintro args n h K ⟨x, d, rfl, -⟩; exact Nat.le_of_ble_eq_true rfl) ?_
  rintro X args n h K hc hr ⟨x, d, rfl, hx, hd, kk⟩
  have L : ∀ (j b a : Nat), b ≤ j → a < 4611686018427387904 → b < 4611686018427387904 → Nat.gcd a b = Nat.gcd x.natAbs d.natAbs → Ok X 0 0 17 [(0, .long (i6 x)), (2, .long (i6 d)), (4, .long (i6 a)), (6, .long (i6 b))] [] n h := by
    intro j
    induction j with
    | zero =>
      intro b a hb ha hb' e
      have : b = 0 := by omega
      subst this
      rw [Nat.gcd_zero_right] at e
      exact sX7_common_17 hc hr ⟨⟨R6_0, R6_0⟩, fun _ => by rw [e]; exact kk, fun c => absurd (by omega) c⟩
    | succ j ih =>
      intro b a hb ha hb' e
      refine sX7_common_17 hc hr ⟨⟨⟨by omega, by omega⟩, R6_0⟩, fun z => ?_, fun z => ⟨⟨⟨by omega, by omega⟩, by omega, by omega⟩, ?_⟩⟩
      · have : b = 0 := by omega
        subst this
        rw [Nat.gcd_zero_right] at e
        rw [e]
        exact kk
      · have hlt := Nat.mod_lt a (show 0 < b by omega)
        rw [show ((a : Int) % (b : Int)) = ((a % b : Nat) : Int) by omega]
        exact ih (a % b) b (by omega) (by omega) (by omega) (by rw [← e, Nat.gcd_comm a b, Nat.gcd_rec b a, Nat.gcd_comm])
  have := L d.natAbs d.natAbs x.natAbs (Nat.le_refl _) (by omega) (by omega) rfl
  rw [show ((d.natAbs : Nat) : Int) = d by omega] at this
  refine sX7_common_0 hc hr ⟨⟨⟨by omega, by omega⟩, R6_0⟩, fun z => ?_, fun z => ?_⟩
  · rw [show ((x.natAbs : Nat) : Int) = x by omega] at this
    exact this
  · rw [show ((x.natAbs : Nat) : Int) = -x by omega] at this
    exact this
set_option maxHeartbeats 4000000 in
set_option maxRecDepth 100000 in
theorem sX7_reduced_0 {X : Xt} {n : Nat} {h : HP} {a0 : Nat} {l1 : Int} {x3 : Int} {fs2 : List Value} {jv3 : Int} (hc : Cx X cX7_reduced RX7 4 1 29) {K : KT} (hr : CxR X (some .long) K) (e2 : At h n a0 (.inl (7, fs2))) (z2 : fs2.length = 24) (v2_15 : fs2[15]? = some (.long (i6 jv3)))
    (P : (R3 x3) ∧ (¬ x3 = 0 → spec_X7_common [.long (i6 l1), .long (i6 jv3)] n h (kc X 0 0 17 [(0, .ref a0), (1, .long (i6 l1)), (3, .int (i3 x3))] [.long (i6 jv3)] n)) ∧ (x3 = 0 → spec_X7_common [.long (i6 l1), .long (i6 jv3)] n h (kc X 0 0 17 [(0, .ref a0), (1, .long (i6 l1)), (3, .int (i3 x3))] [.long (i6 l1)] n))) :
    Ok X 0 0 0 [(0, .ref a0), (1, .long (i6 l1)), (3, .int (i3 x3))] [] n h := by
  refine ok_iload_n (pc := 0) hc dX7_reduced_0 rfl 2 rfl ?_
  obtain ⟨r1, P⟩ := P
  refine zk_if_ne (pc := 1) (tgt := 8) hc dX7_reduced_1 (by decide) r1 (fun c => ?_) (fun c => ?_)
  · have P := P.1 c
    refine ok_aload_n (pc := 8) hc dX7_reduced_8 rfl 0 rfl ?_
    refine ok_get (pc := 9) hc fl_X7_122 dX7_reduced_9 e2.1 e2.2 v2_15 ?_
    refine ok_lload_n (pc := 12) hc dX7_reduced_12 rfl 1 rfl ?_
    refine ok_aload_n (pc := 13) hc dX7_reduced_13 rfl 0 rfl ?_
    refine ok_get (pc := 14) hc fl_X7_122 dX7_reduced_14 e2.1 e2.2 v2_15 ?_
    exact ok_callS (pc := 17) (cb := 0) (sb := 0) (st := [.long (i6 jv3)]) hc [.long (i6 l1), .long (i6 jv3)] cs_X7_216 sp_X7_common (by decide) dX7_reduced_17 rfl rfl rfl rfl (Nat.le_of_ble_eq_true rfl) P
  · have P := P.2 c
    refine ok_lload_n (pc := 4) hc dX7_reduced_4 rfl 1 rfl ?_
    refine ok_goto (pc := 5) (tgt := 12) hc dX7_reduced_5 (by decide) ?_
    refine ok_lload_n (pc := 12) hc dX7_reduced_12 rfl 1 rfl ?_
    refine ok_aload_n (pc := 13) hc dX7_reduced_13 rfl 0 rfl ?_
    refine ok_get (pc := 14) hc fl_X7_122 dX7_reduced_14 e2.1 e2.2 v2_15 ?_
    exact ok_callS (pc := 17) (cb := 0) (sb := 0) (st := [.long (i6 l1)]) hc [.long (i6 l1), .long (i6 jv3)] cs_X7_216 sp_X7_common (by decide) dX7_reduced_17 rfl rfl rfl rfl (Nat.le_of_ble_eq_true rfl) P

set_option maxHeartbeats 4000000 in
set_option maxRecDepth 100000 in
theorem sX7_reduced_20 {X : Xt} {n : Nat} {h : HP} {a0 : Nat} {l1 : Int} {x3 : Int} {tl0 : Int} {tl1 : Int} (hc : Cx X cX7_reduced RX7 4 1 29) {K : KT} (hr : CxR X (some .long) K) 
    (P : (R6 tl1 ∧ R6 tl0 ∧ R6 ((tl1 : Int).tdiv tl0) ∧ tl0 ≠ 0) ∧ K (.inl (some (.long (i6 ((tl1 : Int).tdiv tl0))))) n h) :
    Ok X 0 0 20 [(0, .ref a0), (1, .long (i6 l1)), (3, .int (i3 x3))] [.long (i6 tl0), .long (i6 tl1)] n h := by
  obtain ⟨r, P⟩ := P
  refine zk_ldiv (pc := 20) hc dX7_reduced_20 r ?_
  exact ok_lret (st := []) (pc := 21) hc hr dX7_reduced_21 P

def spec_X7_reduced (args : List Value) (n : Nat) (h : HP) (K : KT) : Prop := ∃ (I : Nat → Int) (F : Nat → Nat → Int) (x w : Int), args = [.ref 128, .long (i6 x), .int (i3 w)] ∧ MAt h n I F ∧ (-4611686018427387904 < x ∧ x < 4611686018427387904) ∧ (0 < I 15 ∧ I 15 ≤ 2147483647) ∧ R3 w ∧ K (.inl (some (.long (i6 (lowT x (I 15) w))))) n h
theorem sp_X7_reduced : Sp yX7_reduced cX7_reduced 4 (some .long) 1 29 0 0 spec_X7_reduced := by
  refine sp_intro (by decide) (by rintro args n h K ⟨I, F, x, w, rfl, -⟩; exact Nat.le_of_ble_eq_true rfl) ?_
  rintro X args n h K hc hr ⟨I, F, x, w, rfl, hM, hx, hd, hw, kk⟩
  have hg := Nat.gcd_le_right x.natAbs (show 0 < (I 15).natAbs by omega)
  have hg0 : 0 < Nat.gcd x.natAbs (I 15).natAbs := Nat.gcd_pos_of_pos_right _ (by omega)
  have t1 := tdiv_bd (a := x) (p := (Nat.gcd x.natAbs (I 15).natAbs : Nat))
  have t2 := tdiv_bd (a := I 15) (p := (Nat.gcd x.natAbs (I 15).natAbs : Nat))
  unfold lowT at kk
  rw [if_neg (by omega)] at kk
  refine sX7_reduced_0 hc hr hM.o rfl rfl ⟨hw, fun z => ⟨x, I 15, rfl, hx, ⟨by omega, by omega⟩, ⟨rfl, sX7_reduced_20 hc hr ⟨⟨⟨by omega, by omega⟩, ⟨by omega, by omega⟩, ⟨by omega, by omega⟩, by omega⟩, ?_⟩⟩⟩, fun z => ⟨x, I 15, rfl, hx, ⟨by omega, by omega⟩, ⟨rfl, sX7_reduced_20 hc hr ⟨⟨⟨by omega, by omega⟩, ⟨by omega, by omega⟩, ⟨by omega, by omega⟩, by omega⟩, ?_⟩⟩⟩⟩
  · rw [if_neg z] at kk
    exact kk
  · rw [if_pos z] at kk
    exact kk
set_option maxHeartbeats 4000000 in
set_option maxRecDepth 100000 in
theorem sX7_isNode_0 {X : Xt} {n : Nat} {h : HP} {x0 : Int} (hc : Cx X cX7_isNode RX7 1 1 22) {K : KT} (hr : CxR X (some .boolean) K) 
    (P : (R3 x0 ∧ R3 0 ∧ R3 6) ∧ ((inZ x0 0 6) = 0 ∨ (inZ x0 0 6) = 1) ∧ K (.inl (some (.int (i3 (inZ x0 0 6))))) n h) :
    Ok X 0 0 0 [(0, .int (i3 x0))] [] n h := by
  refine ok_iload_n (pc := 0) hc dX7_isNode_0 rfl 0 rfl ?_
  refine ok_iconst (pc := 1) hc (v := i3 0) dX7_isNode_1 (by decide) ?_
  refine ok_bipush (pc := 2) hc (v := i3 6) dX7_isNode_2 (by decide) ?_
  obtain ⟨r0, P⟩ := P
  refine ok_callS (pc := 4) (cb := 0) (sb := 0) (st := []) hc [.int (i3 x0), .int (i3 0), .int (i3 6)] cs_X7_45 sp_X7_within (by decide) dX7_isNode_4 rfl rfl rfl rfl (Nat.le_of_ble_eq_true rfl) (⟨_, _, _, rfl, r0, rfl, ?_⟩)
  show Ok X 0 0 (4 + 3) [(0, .int (i3 x0))] [.int (i3 (inZ x0 0 6))] n h
  obtain ⟨r, P⟩ := P
  exact ok_zret (st := []) (pc := 7) hc (nar_z r) hr dX7_isNode_7 P

def spec_X7_isNode (args : List Value) (n : Nat) (h : HP) (K : KT) : Prop := ∃ (x : Int), args = [.int (i3 x)] ∧ R3 x ∧ K (.inl (some (.int (i3 (inZ x 0 6))))) n h
theorem sp_X7_isNode : Sp yX7_isNode cX7_isNode 1 (some .boolean) 1 22 0 0 spec_X7_isNode := by
  refine sp_intro (by decide) (by rintro args n h K ⟨x, rfl, -⟩; exact Nat.le_of_ble_eq_true rfl) ?_
  rintro X args n h K hc hr ⟨x, rfl, hx, kk⟩
  exact sX7_isNode_0 hc hr ⟨⟨hx, R3_0, ⟨by decide, by decide⟩⟩, inZ01 _ _ _, kk⟩
set_option maxHeartbeats 4000000 in
set_option maxRecDepth 100000 in
theorem sX7_isCase_0 {X : Xt} {n : Nat} {h : HP} {a0 : Nat} {x1 : Int} {fs1 : List Value} {q2 : Nat} {f3 : Nat → Int} {ps4 : List Part} (hc : Cx X cX7_isCase RX7 2 4 88) {K : KT} (hr : CxR X (some .boolean) K) (e1 : At h n a0 (.inl (7, fs1))) (z1 : fs1.length = 24) (v1_1 : fs1[1]? = some (.ref q2)) (e3 : At h n q2 (ai 52 f3)) (hP4 : ZPs f3 ps4)
    (P : (R3 x1 ∧ R3 0 ∧ R3 (((3 : Int) ^ nA ps4) - 1)) ∧ ((inZ x1 0 (((3 : Int) ^ nA ps4) - 1)) = 0 ∨ (inZ x1 0 (((3 : Int) ^ nA ps4) - 1)) = 1) ∧ K (.inl (some (.int (i3 (inZ x1 0 (((3 : Int) ^ nA ps4) - 1)))))) n h) :
    Ok X 0 0 0 [(0, .ref a0), (1, .int (i3 x1))] [] n h := by
  refine ok_iload_n (pc := 0) hc dX7_isCase_0 rfl 1 rfl ?_
  refine ok_iconst (pc := 1) hc (v := i3 0) dX7_isCase_1 (by decide) ?_
  refine ok_aload_n (pc := 2) hc dX7_isCase_2 rfl 0 rfl ?_
  refine ok_callV (pc := 3) (a := a0) (cb := 0) (sb := 0) (st := [.int (i3 0), .int (i3 x1)]) hc [] cv_X7_138 sp_X7_cases (by decide) dX7_isCase_3 rfl e1.1 e1.2 rfl rfl rfl (Nat.le_of_ble_eq_true rfl) (⟨_, _, _, rfl, ⟨_, _, ⟨e1.1, e1.2⟩, z1, v1_1, ⟨e3.1, e3.2⟩⟩, hP4, rfl, ?_⟩)
  show Ok X 0 0 (3 + 3) [(0, .ref a0), (1, .int (i3 x1))] [.int (i3 ((3 : Int) ^ nA ps4)), .int (i3 0), .int (i3 x1)] n h
  refine ok_iconst (pc := 6) hc (v := i3 1) dX7_isCase_6 (by decide) ?_
  refine zk_isub (pc := 7) hc dX7_isCase_7 ?_
  obtain ⟨r0, P⟩ := P
  refine ok_callS (pc := 8) (cb := 0) (sb := 0) (st := []) hc [.int (i3 x1), .int (i3 0), .int (i3 (((3 : Int) ^ nA ps4) - 1))] cs_X7_45 sp_X7_within (by decide) dX7_isCase_8 rfl rfl rfl rfl (Nat.le_of_ble_eq_true rfl) (⟨_, _, _, rfl, r0, rfl, ?_⟩)
  show Ok X 0 0 (8 + 3) [(0, .ref a0), (1, .int (i3 x1))] [.int (i3 (inZ x1 0 (((3 : Int) ^ nA ps4) - 1)))] n h
  obtain ⟨r, P⟩ := P
  exact ok_zret (st := []) (pc := 11) hc (nar_z r) hr dX7_isCase_11 P

def spec_X7_isCase (args : List Value) (n : Nat) (h : HP) (K : KT) : Prop := ∃ (m : Nat) (Z : Nat → Int) (ps : List Part) (x : Int), args = [.ref m, .int (i3 x)] ∧ ZAt h n m Z ∧ ZPs Z ps ∧ (R3 x ∧ R3 ((3 : Int) ^ nA ps)) ∧ K (.inl (some (.int (i3 (inZ x 0 ((3 : Int) ^ nA ps - 1)))))) n h
theorem sp_X7_isCase : Sp yX7_isCase cX7_isCase 2 (some .boolean) 4 88 0 0 spec_X7_isCase := by
  refine sp_intro (by decide) (by rintro args n h K ⟨m, Z, ps, x, rfl, -⟩; exact Nat.le_of_ble_eq_true rfl) ?_
  rintro X args n h K hc hr ⟨m, Z, ps, x, rfl, ⟨fs, z, h1, h2, h3, h4⟩, hP, ⟨hx, h3p⟩, kk⟩
  have p0 : 0 < (3 : Int) ^ nA ps := Int.pow_pos (by decide)
  have := h3p.2
  exact sX7_isCase_0 hc hr h1 h2 h3 h4 hP ⟨⟨hx, R3_0, ⟨by omega, by omega⟩⟩, inZ01 _ _ _, kk⟩
theorem jud_sol {S : Stt} {c : Int} (h : (jud S c).1 = 0) : solD S.1 (satN c (nA S.1)) ≠ 0 := by
  intro z
  unfold jud at h
  rw [if_pos z] at h
  exact absurd h (by decide)
theorem sv_low {S : Stt} {m : Nat} {γ : Nat → Int} {den : Int} {V : Nat → Int} (hs : 0 < solD S.1 m) (h : SvQ S.1 m γ den V) {k : Nat} (hk : k < 7) (w : Int) : lowT (V k) den w = lowT (numer S.1 m γ k) (solD S.1 m) w := low_eq hs h.1.1 (h.2.2 k hk)
set_option maxHeartbeats 4000000 in
set_option maxRecDepth 100000 in
theorem sX7_voltageNow_0 {X : Xt} {n : Nat} {h : HP} {a0 : Nat} {x1 : Int} {x2 : Int} {x3 : Int} {fs2 : List Value} {q3 : Nat} {f4 : Nat → Int} {ps5 : List Part} (hc : Cx X cX7_voltageNow RX7 5 8 182) {K : KT} (hr : CxR X (some .long) K) (e2 : At h n a0 (.inl (7, fs2))) (z2 : fs2.length = 24) (v2_1 : fs2[1]? = some (.ref q3)) (e4 : At h n q3 (ai 52 f4)) (hP5 : ZPs f4 ps5)
    (P : (R3 x2) ∧ (x2 = 0 → spec_X7_solve [.ref a0, .int (i3 x1), .int (i3 (-1))] n h (kc X 0 0 15 [(0, .ref a0), (1, .int (i3 x1)), (2, .int (i3 x2)), (3, .int (i3 x3))] [] n)) ∧ (¬ x2 = 0 → (R3 x2) ∧ ((ps5.any (fun p => atB p x2)) = false → K (.inl (some (.long (i6 0)))) n h) ∧ ((ps5.any (fun p => atB p x2)) = true → spec_X7_solve [.ref a0, .int (i3 x1), .int (i3 (-1))] n h (kc X 0 0 15 [(0, .ref a0), (1, .int (i3 x1)), (2, .int (i3 x2)), (3, .int (i3 x3))] [] n)))) :
    Ok X 0 0 0 [(0, .ref a0), (1, .int (i3 x1)), (2, .int (i3 x2)), (3, .int (i3 x3))] [] n h := by
  refine ok_iload_n (pc := 0) hc dX7_voltageNow_0 rfl 2 rfl ?_
  obtain ⟨r1, P⟩ := P
  refine zk_if_eq (pc := 1) (tgt := 12) hc dX7_voltageNow_1 (by decide) r1 (fun c => ?_) (fun c => ?_)
  · have P := P.1 c
    refine ok_aload_n (pc := 12) hc dX7_voltageNow_12 rfl 0 rfl ?_
    refine ok_iload_n (pc := 13) hc dX7_voltageNow_13 rfl 1 rfl ?_
    refine ok_iconst (pc := 14) hc (v := i3 (-1)) dX7_voltageNow_14 (by decide) ?_
    exact ok_callV (pc := 15) (a := a0) (cb := 0) (sb := 0) (st := []) hc [.int (i3 x1), .int (i3 (-1))] cv_X7_126 sp_X7_solve (by decide) dX7_voltageNow_15 rfl e2.1 e2.2 rfl rfl rfl (Nat.le_of_ble_eq_true rfl) P
  · have P := P.2 c
    refine ok_aload_n (pc := 4) hc dX7_voltageNow_4 rfl 0 rfl ?_
    refine ok_iload_n (pc := 5) hc dX7_voltageNow_5 rfl 2 rfl ?_
    obtain ⟨r0, P⟩ := P
    refine ok_callV (pc := 6) (a := a0) (cb := 0) (sb := 0) (st := []) hc [.int (i3 x2)] cv_X7_71 sp_X7_isUsed (by decide) dX7_voltageNow_6 rfl e2.1 e2.2 rfl rfl rfl (Nat.le_of_ble_eq_true rfl) (⟨_, _, _, _, rfl, ⟨_, _, ⟨e2.1, e2.2⟩, z2, v2_1, ⟨e4.1, e4.2⟩⟩, hP5, r0, rfl, ?_⟩)
    show Ok X 0 0 (6 + 3) [(0, .ref a0), (1, .int (i3 x1)), (2, .int (i3 x2)), (3, .int (i3 x3))] [.int (i3 (bz (ps5.any (fun p => atB p x2))))] n h
    refine zk_if_eq (pc := 9) (tgt := 25) hc dX7_voltageNow_9 (by decide) R3_bz (fun c => ?_) (fun c => ?_)
    · have P := P.1 (bz_0.mp c)
      refine ok_iconst (pc := 25) hc (v := i3 0) dX7_voltageNow_25 (by decide) ?_
      refine ok_istore (pc := 26) hc (lv' := [(4, .int (i3 0)), (0, .ref a0), (1, .int (i3 x1)), (2, .int (i3 x2)), (3, .int (i3 x3))]) dX7_voltageNow_26 (by decide) rfl ?_
      refine ok_iload (pc := 28) hc dX7_voltageNow_28 0 rfl ?_
      refine zk_if_eq (pc := 30) (tgt := 47) hc dX7_voltageNow_30 (by decide) ⟨by decide, by decide⟩ (fun _ => ?_) (fun c => absurd c (by decide))
      refine ok_lconst (pc := 47) hc (v := i6 0) dX7_voltageNow_47 (by decide) ?_
      exact ok_lret (st := []) (pc := 48) hc hr dX7_voltageNow_48 P
    · have P := P.2 (bz_1.mp c)
      refine ok_aload_n (pc := 12) hc dX7_voltageNow_12 rfl 0 rfl ?_
      refine ok_iload_n (pc := 13) hc dX7_voltageNow_13 rfl 1 rfl ?_
      refine ok_iconst (pc := 14) hc (v := i3 (-1)) dX7_voltageNow_14 (by decide) ?_
      exact ok_callV (pc := 15) (a := a0) (cb := 0) (sb := 0) (st := []) hc [.int (i3 x1), .int (i3 (-1))] cv_X7_126 sp_X7_solve (by decide) dX7_voltageNow_15 rfl e2.1 e2.2 rfl rfl rfl (Nat.le_of_ble_eq_true rfl) P

set_option maxHeartbeats 4000000 in
set_option maxRecDepth 100000 in
theorem sX7_voltageNow_18 {X : Xt} {n : Nat} {h : HP} {a0 : Nat} {x1 : Int} {x2 : Int} {x3 : Int} {t0 : Int} {fs2 : List Value} {q3 : Nat} {len4 : Nat} {f4 : Nat → Int} (hc : Cx X cX7_voltageNow RX7 5 8 182) {K : KT} (hr : CxR X (some .long) K) (e2 : At h n a0 (.inl (7, fs2))) (z2 : fs2.length = 24) (v2_14 : fs2[14]? = some (.ref q3)) (e4 : At h n q3 (al len4 f4))
    (P : (R3 t0) ∧ (t0 = 0 → K (.inl (some (.long (i6 0)))) n h) ∧ (¬ t0 = 0 → (Ix x2 len4) ∧ spec_X7_reduced [.ref a0, .long (i6 (f4 (x2 : Int).toNat)), .int (i3 x3)] n h (kc X 0 0 41 [(0, .ref a0), (1, .int (i3 x1)), (2, .int (i3 x2)), (3, .int (i3 x3)), (4, .int (i3 1))] [] n))) :
    Ok X 0 0 18 [(0, .ref a0), (1, .int (i3 x1)), (2, .int (i3 x2)), (3, .int (i3 x3))] [.int (i3 t0)] n h := by
  obtain ⟨r1, P⟩ := P
  refine zk_if_eq (pc := 18) (tgt := 25) hc dX7_voltageNow_18 (by decide) r1 (fun c => ?_) (fun c => ?_)
  · have P := P.1 c
    refine ok_iconst (pc := 25) hc (v := i3 0) dX7_voltageNow_25 (by decide) ?_
    refine ok_istore (pc := 26) hc (lv' := [(4, .int (i3 0)), (0, .ref a0), (1, .int (i3 x1)), (2, .int (i3 x2)), (3, .int (i3 x3))]) dX7_voltageNow_26 (by decide) rfl ?_
    refine ok_iload (pc := 28) hc dX7_voltageNow_28 0 rfl ?_
    refine zk_if_eq (pc := 30) (tgt := 47) hc dX7_voltageNow_30 (by decide) ⟨by decide, by decide⟩ (fun _ => ?_) (fun c => absurd c (by decide))
    refine ok_lconst (pc := 47) hc (v := i6 0) dX7_voltageNow_47 (by decide) ?_
    exact ok_lret (st := []) (pc := 48) hc hr dX7_voltageNow_48 P
  · have P := P.2 c
    refine ok_iconst (pc := 21) hc (v := i3 1) dX7_voltageNow_21 (by decide) ?_
    refine ok_goto (pc := 22) (tgt := 26) hc dX7_voltageNow_22 (by decide) ?_
    refine ok_istore (pc := 26) hc (lv' := [(4, .int (i3 1)), (0, .ref a0), (1, .int (i3 x1)), (2, .int (i3 x2)), (3, .int (i3 x3))]) dX7_voltageNow_26 (by decide) rfl ?_
    refine ok_iload (pc := 28) hc dX7_voltageNow_28 0 rfl ?_
    refine zk_if_eq (pc := 30) (tgt := 47) hc dX7_voltageNow_30 (by decide) ⟨by decide, by decide⟩ (fun c => absurd c (by decide)) (fun _ => ?_)
    refine ok_aload_n (pc := 33) hc dX7_voltageNow_33 rfl 1 rfl ?_
    refine ok_aload_n (pc := 34) hc dX7_voltageNow_34 rfl 1 rfl ?_
    refine ok_get (pc := 35) hc fl_X7_35 dX7_voltageNow_35 e2.1 e2.2 v2_14 ?_
    refine ok_iload_n (pc := 38) hc dX7_voltageNow_38 rfl 3 rfl ?_
    obtain ⟨r, P⟩ := P
    refine zk_lald (pc := 39) hc dX7_voltageNow_39 e4.1 e4.2 r ?_
    refine ok_iload_n (pc := 40) hc dX7_voltageNow_40 rfl 4 rfl ?_
    refine ok_lv [1, 2, 3, 4, 0] rfl ?_
    exact ok_callV (pc := 41) (a := a0) (cb := 0) (sb := 0) (st := []) hc [.long (i6 (f4 (x2 : Int).toNat)), .int (i3 x3)] cv_X7_220 sp_X7_reduced (by decide) dX7_voltageNow_41 rfl e2.1 e2.2 rfl rfl rfl (Nat.le_of_ble_eq_true rfl) P

set_option maxHeartbeats 4000000 in
set_option maxRecDepth 100000 in
theorem sX7_voltageNow_44 {X : Xt} {n : Nat} {h : HP} {a0 : Nat} {x1 : Int} {x2 : Int} {x3 : Int} {x4 : Int} {tl0 : Int} (hc : Cx X cX7_voltageNow RX7 5 8 182) {K : KT} (hr : CxR X (some .long) K) 
    (P : K (.inl (some (.long (i6 tl0)))) n h) :
    Ok X 0 0 44 [(0, .ref a0), (1, .int (i3 x1)), (2, .int (i3 x2)), (3, .int (i3 x3)), (4, .int (i3 x4))] [.long (i6 tl0)] n h := by
  refine ok_goto (pc := 44) (tgt := 48) hc dX7_voltageNow_44 (by decide) ?_
  exact ok_lret (st := []) (pc := 48) hc hr dX7_voltageNow_48 P

def spec_X7_voltageNow (args : List Value) (n : Nat) (h : HP) (K : KT) : Prop := ∃ (I : Nat → Int) (F : Nat → Nat → Int) (S : Stt) (c k w : Int), args = [.ref 128, .int (i3 c), .int (i3 k), .int (i3 w)] ∧ MAt h n I F ∧ ZSt (F 1) S ∧ GdS S ∧ (0 ≤ c ∧ c ≤ 26) ∧ (0 ≤ k ∧ k ≤ 6) ∧ R3 w ∧ ∀ (h' : HP) (I' : Nat → Int) (F' : Nat → Nat → Int), MAt h' n I' F' → KpI I I' → KpF F F' → Fr h h' 128 138 → K (.inl (some (.long (i6 (nodeV S c k w))))) n h'
theorem sp_X7_voltageNow : Sp yX7_voltageNow cX7_voltageNow 5 (some .long) 8 182 0 0 spec_X7_voltageNow := by
  refine sp_intro (by decide) (by rintro args n h K ⟨I, F, S, c, k, w, rfl, -⟩; exact Nat.le_of_ble_eq_true rfl) ?_
  rintro X args n h K hc hr ⟨I, F, S, c, k, w, rfl, hM, hZ, hG, hcr, hk, hw, kk⟩
  have hP := hZ.1
  have h3 := hG.1.2.1
  have hrail := hG.2.1
  have hu := used_con (ps := S.1) (fun p hp => (hG.1.2.2.1 p hp).1) hk
  have hm := satN_lt c (nA S.1)
  have go : ¬ (k ≠ 0 ∧ bcon (usedM S.1) k = 0) → spec_X7_solve [.ref 128, .int (i3 c), .int (i3 (-1))] n h (kc X 0 0 15 [(0, .ref 128), (1, .int (i3 c)), (2, .int (i3 k)), (3, .int (i3 w))] [] n) := by
    intro hno
    unfold nodeV at kk
    rw [if_neg hno] at kk
    refine ⟨I, F, S.1, c, -1, satN c (nA S.1), givC S c, rfl, hM, hP, hG.1, ⟨hcr, by omega, by omega, by rw [hZ.2.1]; omega, by rw [hZ.2.1]; omega⟩, by rw [hZ.2.1]; exact mat_case hG.1 c, fun h1 I1 F1 hM1 hI1 hF1 hV1 f1 => ⟨rfl, ?_⟩⟩
    by_cases hs : solD S.1 (satN c (nA S.1)) = 0
    · rw [if_pos hs] at kk ⊢
      exact sX7_voltageNow_18 hc hr hM1.o rfl rfl hM1.v ⟨R3_0, fun _ => kk h1 I1 F1 hM1 hI1 hF1 f1, fun z => absurd rfl z⟩
    · rw [if_neg hs] at kk ⊢
      have hV := hV1 hs
      have hsp := (cls_1 hG.1 hs).1
      have hb := hV.2.1 k.toNat (by omega)
      unfold lb_b at hb
      refine sX7_voltageNow_18 hc hr hM1.o rfl rfl hM1.v ⟨⟨by decide, by decide⟩, fun z => absurd z (by decide), fun _ => ⟨⟨by omega, by omega, by omega⟩, I1, F1, F1 9 k.toNat, w, rfl, hM1, by omega, hV.1, hw, ⟨rfl, sX7_voltageNow_44 hc hr ?_⟩⟩⟩
      rw [sv_low hsp hV (by omega)]
      exact kk h1 I1 F1 hM1 hI1 hF1 f1
  refine sX7_voltageNow_0 hc hr hM.o rfl rfl hM.z hP ⟨R3_s (by omega), fun z => go (fun y => y.1 z), fun z => ⟨R3_s (by omega), fun y => ?_, fun y => go (fun x => ?_)⟩⟩
  · unfold nodeV at kk
    rw [if_pos ⟨z, by rw [hu, if_neg (fun x => by rw [y] at x; exact absurd x.2 (by decide))]⟩] at kk
    exact kk h I F hM KpI.rf KpF.rf Fr.rf
  · rw [hu, if_pos ⟨z, y⟩] at x
    exact absurd x.2 (by decide)
set_option maxHeartbeats 4000000 in
set_option maxRecDepth 100000 in
theorem sX7_present_0 {X : Xt} {n : Nat} {h : HP} {a0 : Nat} {x1 : Int} {x2 : Int} {fs1 : List Value} {q2 : Nat} {len3 : Nat} {f3 : Nat → Int} (hc : Cx X cX7_present RX7 3 9 206) {K : KT} (hr : CxR X (some .long) K) (e1 : At h n a0 (.inl (7, fs1))) (z1 : fs1.length = 24) (v1_1 : fs1[1]? = some (.ref q2)) (e3 : At h n q2 (ai len3 f3))
    (P : (Ix 51 len3) ∧ (R3 (f3 (51 : Int).toNat)) ∧ (¬ (f3 (51 : Int).toNat) = 1 → K (.inl (some (.long (i6 0)))) n h) ∧ ((f3 (51 : Int).toNat) = 1 → (Ix 50 len3) ∧ spec_X7_voltageNow [.ref a0, .int (i3 (f3 (50 : Int).toNat)), .int (i3 x1), .int (i3 x2)] n h (kc X 0 0 21 [(0, .ref a0), (1, .int (i3 x1)), (2, .int (i3 x2))] [] n))) :
    Ok X 0 0 0 [(0, .ref a0), (1, .int (i3 x1)), (2, .int (i3 x2))] [] n h := by
  refine ok_aload_n (pc := 0) hc dX7_present_0 rfl 0 rfl ?_
  refine ok_get (pc := 1) hc fl_X7_7 dX7_present_1 e1.1 e1.2 v1_1 ?_
  refine ok_bipush (pc := 4) hc (v := i3 51) dX7_present_4 (by decide) ?_
  obtain ⟨r, P⟩ := P
  refine zk_iald (pc := 6) hc dX7_present_6 e3.1 e3.2 r ?_
  refine ok_iconst (pc := 7) hc (v := i3 1) dX7_present_7 (by decide) ?_
  obtain ⟨r4, P⟩ := P
  refine zk_icmp_ne (pc := 8) (tgt := 27) hc dX7_present_8 (by decide) r4 ⟨by decide, by decide⟩ (fun c => ?_) (fun c => ?_)
  · have P := P.1 c
    refine ok_lconst (pc := 27) hc (v := i6 0) dX7_present_27 (by decide) ?_
    exact ok_lret (st := []) (pc := 28) hc hr dX7_present_28 P
  · have P := P.2 c
    refine ok_aload_n (pc := 11) hc dX7_present_11 rfl 0 rfl ?_
    refine ok_aload_n (pc := 12) hc dX7_present_12 rfl 0 rfl ?_
    refine ok_get (pc := 13) hc fl_X7_7 dX7_present_13 e1.1 e1.2 v1_1 ?_
    refine ok_bipush (pc := 16) hc (v := i3 50) dX7_present_16 (by decide) ?_
    obtain ⟨r, P⟩ := P
    refine zk_iald (pc := 18) hc dX7_present_18 e3.1 e3.2 r ?_
    refine ok_iload_n (pc := 19) hc dX7_present_19 rfl 1 rfl ?_
    refine ok_iload_n (pc := 20) hc dX7_present_20 rfl 2 rfl ?_
    exact ok_callV (pc := 21) (a := a0) (cb := 0) (sb := 0) (st := []) hc [.int (i3 (f3 (50 : Int).toNat)), .int (i3 x1), .int (i3 x2)] cv_X7_224 sp_X7_voltageNow (by decide) dX7_present_21 rfl e1.1 e1.2 rfl rfl rfl (Nat.le_of_ble_eq_true rfl) P

set_option maxHeartbeats 4000000 in
set_option maxRecDepth 100000 in
theorem sX7_present_24 {X : Xt} {n : Nat} {h : HP} {a0 : Nat} {x1 : Int} {x2 : Int} {tl0 : Int} (hc : Cx X cX7_present RX7 3 9 206) {K : KT} (hr : CxR X (some .long) K) 
    (P : K (.inl (some (.long (i6 tl0)))) n h) :
    Ok X 0 0 24 [(0, .ref a0), (1, .int (i3 x1)), (2, .int (i3 x2))] [.long (i6 tl0)] n h := by
  refine ok_goto (pc := 24) (tgt := 28) hc dX7_present_24 (by decide) ?_
  exact ok_lret (st := []) (pc := 28) hc hr dX7_present_28 P

/-- a side of the present voltage of a node -/
def nowV (S : Stt) (k w : Int) : Int := if S.2.2.2 = 0 then 0 else nodeV S S.2.2.1 k w
def spec_X7_present (args : List Value) (n : Nat) (h : HP) (K : KT) : Prop := ∃ (I : Nat → Int) (F : Nat → Nat → Int) (S : Stt) (k w : Int), args = [.ref 128, .int (i3 k), .int (i3 w)] ∧ MAt h n I F ∧ ZSt (F 1) S ∧ GdS S ∧ (0 ≤ k ∧ k ≤ 6) ∧ R3 w ∧ ∀ (h' : HP) (I' : Nat → Int) (F' : Nat → Nat → Int), MAt h' n I' F' → KpI I I' → KpF F F' → Fr h h' 128 138 → K (.inl (some (.long (i6 (nowV S k w))))) n h'
theorem sp_X7_present : Sp yX7_present cX7_present 3 (some .long) 9 206 0 0 spec_X7_present := by
  refine sp_intro (by decide) (by rintro args n h K ⟨I, F, S, k, w, rfl, -⟩; exact Nat.le_of_ble_eq_true rfl) ?_
  rintro X args n h K hc hr ⟨I, F, S, k, w, rfl, hM, hZ, hG, hk, hw, kk⟩
  have e50 : F 1 (50 : Int).toNat = S.2.2.1 := hZ.2.2.1
  have e51 : F 1 (51 : Int).toNat = S.2.2.2 := hZ.2.2.2
  have h27 := ref_27 hG
  have hp := hG.2.2.1
  have hs := hG.2.2.2
  unfold nowV at kk
  refine sX7_present_0 hc hr hM.o rfl rfl hM.z ?_
  rw [e50, e51]
  refine ⟨⟨by decide, by decide, by decide⟩, R3_s (by omega), fun z => ?_, fun z => ⟨⟨by decide, by decide, by decide⟩, I, F, S, S.2.2.1, k, w, rfl, hM, hZ, hG, by omega, hk, hw, fun h1 I1 F1 hM1 hI1 hF1 f1 => ⟨rfl, sX7_present_24 hc hr ?_⟩⟩⟩
  · rw [if_pos (by omega)] at kk
    exact kk h I F hM KpI.rf KpF.rf Fr.rf
  · rw [if_neg (by omega)] at kk
    exact kk h1 I1 F1 hM1 hI1 hF1 f1
theorem KpI.R {I I' : Nat → Int} (h : KpI I I') : KpR I I' := fun k a b c _ => h k a b c
theorem MdF.rd {I I' : Nat → Int} {F F' : Nat → Nat → Int} {q : Dsk} (h : MdF I F q) (hI : KpR I I') (hF : KpF F F') : MdF I' F' q := h.kt (fun k hk => hI k (by omega) (by omega) (by omega) (by omega)) (fun j hj => hF j (by omega))
theorem MdA.rd {h' : HP} {n : Nat} {I I' : Nat → Int} {F F' : Nat → Nat → Int} {q : Dsk} {t : Int} (hM : MAt h' n I' F') (h : MdF I F q) (hI : KpR (va_up I 0 t) I') (hF : KpF F F') (g : GdD q) (o : OkD q) : MdA h' n q t := ⟨I', F', hM, (h.thr t).rd hI hF, (hI 0 (by decide) (by decide) (by decide) (by decide)).trans up_self, g, o⟩
theorem cdL_inl (l : List String) (z : Int) : cdL l (.inl z) = 0 := rfl
set_option maxHeartbeats 4000000 in
set_option maxRecDepth 100000 in
theorem sX7_voltage_0 {X : Xt} {n : Nat} {h : HP} {a0 : Nat} {x1 : Int} {x2 : Int} {fs1 : List Value} (hc : Cx X cX7_voltage RX7 3 10 228) {K : KT} (hr : CxR X (some .long) K) (e1 : At h n a0 (.inl (7, fs1))) (z1 : fs1.length = 24)
    (P : (R3 x1) ∧ ((0 ≤ x1 ∧ x1 ≤ 6) → (R3 x2 ∧ R3 0 ∧ R3 1) ∧ (¬ (0 ≤ x2 ∧ x2 ≤ 1) → K (.inl (some (.long (i6 0)))) n (va_up h a0 (.inl (7, (fs1.set 0 (.int (i3 2))))))) ∧ ((0 ≤ x2 ∧ x2 ≤ 1) → spec_X7_present [.ref a0, .int (i3 x1), .int (i3 x2)] n (va_up h a0 (.inl (7, (fs1.set 0 (.int (i3 0)))))) (kc X 0 0 43 [(0, .ref a0), (1, .int (i3 x1)), (2, .int (i3 x2))] [] n))) ∧ (¬ (0 ≤ x1 ∧ x1 ≤ 6) → K (.inl (some (.long (i6 0)))) n (va_up h a0 (.inl (7, (fs1.set 0 (.int (i3 1)))))))) :
    Ok X 0 0 0 [(0, .ref a0), (1, .int (i3 x1)), (2, .int (i3 x2))] [] n h := by
  refine ok_aload_n (pc := 0) hc dX7_voltage_0 rfl 0 rfl ?_
  refine ok_iload_n (pc := 1) hc dX7_voltage_1 rfl 1 rfl ?_
  obtain ⟨r0, P⟩ := P
  refine ok_callS (pc := 2) (cb := 0) (sb := 0) (st := [.ref a0]) hc [.int (i3 x1)] cs_X7_228 sp_X7_isNode (by decide) dX7_voltage_2 rfl rfl rfl rfl (Nat.le_of_ble_eq_true rfl) (⟨_, rfl, r0, rfl, ?_⟩)
  show Ok X 0 0 (2 + 3) [(0, .ref a0), (1, .int (i3 x1)), (2, .int (i3 x2))] [.int (i3 (inZ x1 0 6)), .ref a0] n h
  refine zk_if_ne (pc := 5) (tgt := 12) hc dX7_voltage_5 (by decide) R3_inZ (fun c => ?_) (fun c => ?_)
  · have P := P.1 (inZ_1.mp c)
    refine ok_iload_n (pc := 12) hc dX7_voltage_12 rfl 2 rfl ?_
    refine ok_iconst (pc := 13) hc (v := i3 0) dX7_voltage_13 (by decide) ?_
    refine ok_iconst (pc := 14) hc (v := i3 1) dX7_voltage_14 (by decide) ?_
    obtain ⟨r0, P⟩ := P
    refine ok_callS (pc := 15) (cb := 0) (sb := 0) (st := [.ref a0]) hc [.int (i3 x2), .int (i3 0), .int (i3 1)] cs_X7_45 sp_X7_within (by decide) dX7_voltage_15 rfl rfl rfl rfl (Nat.le_of_ble_eq_true rfl) (⟨_, _, _, rfl, r0, rfl, ?_⟩)
    show Ok X 0 0 (15 + 3) [(0, .ref a0), (1, .int (i3 x1)), (2, .int (i3 x2))] [.int (i3 (inZ x2 0 1)), .ref a0] n h
    refine zk_if_eq (pc := 18) (tgt := 25) hc dX7_voltage_18 (by decide) R3_inZ (fun c => ?_) (fun c => ?_)
    · have P := P.1 (inZ_0.mp c)
      refine ok_iconst (pc := 25) hc (v := i3 2) dX7_voltage_25 (by decide) ?_
      refine ok_put (pc := 26) hc fl_X7_41 dX7_voltage_26 e1.1 e1.2 (by simp [List.length_set, z1]) (fun _ => rfl) (fun _ => rfl) ?_
      refine ok_aload_n (pc := 29) hc dX7_voltage_29 rfl 0 rfl ?_
      refine ok_get (pc := 30) hc fl_X7_41 dX7_voltage_30 e1.1 up_self (set_self (by simp [List.length_set, z1])) ?_
      refine zk_if_le (pc := 33) (tgt := 40) hc dX7_voltage_33 (by decide) ⟨by decide, by decide⟩ (fun c => absurd c (by decide)) (fun _ => ?_)
      refine ok_lconst (pc := 36) hc (v := i6 0) dX7_voltage_36 (by decide) ?_
      refine ok_goto (pc := 37) (tgt := 46) hc dX7_voltage_37 (by decide) ?_
      exact ok_lret (st := []) (pc := 46) hc hr dX7_voltage_46 P
    · have P := P.2 (inZ_1.mp c)
      refine ok_iconst (pc := 21) hc (v := i3 0) dX7_voltage_21 (by decide) ?_
      refine ok_goto (pc := 22) (tgt := 26) hc dX7_voltage_22 (by decide) ?_
      refine ok_put (pc := 26) hc fl_X7_41 dX7_voltage_26 e1.1 e1.2 (by simp [List.length_set, z1]) (fun _ => rfl) (fun _ => rfl) ?_
      refine ok_aload_n (pc := 29) hc dX7_voltage_29 rfl 0 rfl ?_
      refine ok_get (pc := 30) hc fl_X7_41 dX7_voltage_30 e1.1 up_self (set_self (by simp [List.length_set, z1])) ?_
      refine zk_if_le (pc := 33) (tgt := 40) hc dX7_voltage_33 (by decide) ⟨by decide, by decide⟩ (fun _ => ?_) (fun c => absurd c (by decide))
      refine ok_aload_n (pc := 40) hc dX7_voltage_40 rfl 0 rfl ?_
      refine ok_iload_n (pc := 41) hc dX7_voltage_41 rfl 1 rfl ?_
      refine ok_iload_n (pc := 42) hc dX7_voltage_42 rfl 2 rfl ?_
      exact ok_callV (pc := 43) (a := a0) (cb := 0) (sb := 0) (st := []) hc [.int (i3 x1), .int (i3 x2)] cv_X7_231 sp_X7_present (by decide) dX7_voltage_43 rfl e1.1 up_self rfl rfl rfl (Nat.le_of_ble_eq_true rfl) P
  · have P := P.2 (inZ_0.mp c)
    refine ok_iconst (pc := 8) hc (v := i3 1) dX7_voltage_8 (by decide) ?_
    refine ok_goto (pc := 9) (tgt := 26) hc dX7_voltage_9 (by decide) ?_
    refine ok_put (pc := 26) hc fl_X7_41 dX7_voltage_26 e1.1 e1.2 (by simp [List.length_set, z1]) (fun _ => rfl) (fun _ => rfl) ?_
    refine ok_aload_n (pc := 29) hc dX7_voltage_29 rfl 0 rfl ?_
    refine ok_get (pc := 30) hc fl_X7_41 dX7_voltage_30 e1.1 up_self (set_self (by simp [List.length_set, z1])) ?_
    refine zk_if_le (pc := 33) (tgt := 40) hc dX7_voltage_33 (by decide) ⟨by decide, by decide⟩ (fun c => absurd c (by decide)) (fun _ => ?_)
    refine ok_lconst (pc := 36) hc (v := i6 0) dX7_voltage_36 (by decide) ?_
    refine ok_goto (pc := 37) (tgt := 46) hc dX7_voltage_37 (by decide) ?_
    exact ok_lret (st := []) (pc := 46) hc hr dX7_voltage_46 P

set_option maxHeartbeats 4000000 in
set_option maxRecDepth 100000 in
theorem sX7_voltage_46 {X : Xt} {n : Nat} {h : HP} {a0 : Nat} {x1 : Int} {x2 : Int} {tl0 : Int} (hc : Cx X cX7_voltage RX7 3 10 228) {K : KT} (hr : CxR X (some .long) K) 
    (P : K (.inl (some (.long (i6 tl0)))) n h) :
    Ok X 0 0 46 [(0, .ref a0), (1, .int (i3 x1)), (2, .int (i3 x2))] [.long (i6 tl0)] n h := by
  exact ok_lret (st := []) (pc := 46) hc hr dX7_voltage_46 P

def spec_X7_voltage (args : List Value) (n : Nat) (h : HP) (K : KT) : Prop := ∃ (q : Dsk) (t k w : Int), args = [.ref 128, .int (i3 k), .int (i3 w)] ∧ R3 k ∧ R3 w ∧ MdA h n q t ∧ ∀ h', MdA h' n q (cdL [eIO, eIA] (opVolt q k w)) → Fr h h' 128 138 → K (.inl (some (.long (i6 (rvI (opVolt q k w)))))) n h'
theorem sp_X7_voltage : Sp yX7_voltage cX7_voltage 3 (some .long) 10 228 0 0 spec_X7_voltage := by
  refine sp_intro (by decide) (by rintro args n h K ⟨q, t, k, w, rfl, -⟩; exact Nat.le_of_ble_eq_true rfl) ?_
  rintro X args n h K hc hr ⟨q, t, k, w, rfl, hk, hw, ⟨I, F, hM, hF, -, hGq, hOq⟩, kk⟩
  have e : opVolt q k w = if ¬ (0 ≤ k ∧ k < 7) then .inr eIO else if ¬ (w = 0 ∨ w = 1) then .inr eIA else .inl (nowV q.1 k w) := by
    unfold opVolt nowV
    split
    · rfl
    · split
      · rfl
      · split <;> rfl
  rw [e] at kk
  have out := fun v => MdA.rd (t := v) (hM.uo (va_up I 0 v)) hF (fun _ _ _ _ _ => rfl) KpF.rf hGq hOq
  refine sX7_voltage_0 hc hr hM.o rfl ⟨hk, fun c => ⟨⟨hw, R3_0, ⟨by decide, by decide⟩⟩, fun z => ?_, fun z => ?_⟩, fun c => ?_⟩
  · rw [if_neg (show ¬ ¬ (0 ≤ k ∧ k < 7) by omega), if_pos (show ¬ (w = 0 ∨ w = 1) by omega), cd_2 _ ne_OA] at kk
    exact kk _ (out 2) (Fr.rf.up (by omega))
  · rw [if_neg (show ¬ ¬ (0 ≤ k ∧ k < 7) by omega), if_neg (show ¬ ¬ (w = 0 ∨ w = 1) by omega)] at kk
    refine ⟨va_up I 0 0, F, q.1, k, w, rfl, hM.uo (va_up I 0 0), hF.1, hGq.1, by omega, hw, fun h1 I1 F1 hM1 hI1 hF1 f1 => ⟨rfl, sX7_voltage_46 hc hr ?_⟩⟩
    exact kk h1 (MdA.rd hM1 hF hI1.R hF1 hGq hOq) ((Fr.rf.up (by omega)).tr f1)
  · rw [if_pos (show ¬ (0 ≤ k ∧ k < 7) by omega), cd_1] at kk
    exact kk _ (out 1) (Fr.rf.up (by omega))
set_option maxHeartbeats 4000000 in
set_option maxRecDepth 100000 in
theorem sX7_inCase_0 {X : Xt} {n : Nat} {h : HP} {a0 : Nat} {x1 : Int} {x2 : Int} {x3 : Int} {fs1 : List Value} {q2 : Nat} {f3 : Nat → Int} {ps4 : List Part} (hc : Cx X cX7_inCase RX7 4 9 206) {K : KT} (hr : CxR X (some .long) K) (e1 : At h n a0 (.inl (7, fs1))) (z1 : fs1.length = 24) (v1_1 : fs1[1]? = some (.ref q2)) (e3 : At h n q2 (ai 52 f3)) (hP4 : ZPs f3 ps4)
    (P : (R3 x1 ∧ R3 ((3 : Int) ^ nA ps4)) ∧ (¬ (0 ≤ x1 ∧ x1 ≤ ((3 : Int) ^ nA ps4 - 1)) → K (.inl (some (.long (i6 0)))) n (va_up h a0 (.inl (7, (fs1.set 0 (.int (i3 1))))))) ∧ ((0 ≤ x1 ∧ x1 ≤ ((3 : Int) ^ nA ps4 - 1)) → (R3 x2) ∧ ((0 ≤ x2 ∧ x2 ≤ 6) → (R3 x3 ∧ R3 0 ∧ R3 1) ∧ (¬ (0 ≤ x3 ∧ x3 ≤ 1) → K (.inl (some (.long (i6 0)))) n (va_up h a0 (.inl (7, (fs1.set 0 (.int (i3 2))))))) ∧ ((0 ≤ x3 ∧ x3 ≤ 1) → spec_X7_voltageNow [.ref a0, .int (i3 x1), .int (i3 x2), .int (i3 x3)] n (va_up h a0 (.inl (7, (fs1.set 0 (.int (i3 0)))))) (kc X 0 0 52 [(0, .ref a0), (1, .int (i3 x1)), (2, .int (i3 x2)), (3, .int (i3 x3))] [] n))) ∧ (¬ (0 ≤ x2 ∧ x2 ≤ 6) → K (.inl (some (.long (i6 0)))) n (va_up h a0 (.inl (7, (fs1.set 0 (.int (i3 1))))))))) :
    Ok X 0 0 0 [(0, .ref a0), (1, .int (i3 x1)), (2, .int (i3 x2)), (3, .int (i3 x3))] [] n h := by
  refine ok_aload_n (pc := 0) hc dX7_inCase_0 rfl 0 rfl ?_
  refine ok_aload_n (pc := 1) hc dX7_inCase_1 rfl 0 rfl ?_
  refine ok_iload_n (pc := 2) hc dX7_inCase_2 rfl 1 rfl ?_
  obtain ⟨r0, P⟩ := P
  refine ok_callV (pc := 3) (a := a0) (cb := 0) (sb := 0) (st := [.ref a0]) hc [.int (i3 x1)] cv_X7_241 sp_X7_isCase (by decide) dX7_inCase_3 rfl e1.1 e1.2 rfl rfl rfl (Nat.le_of_ble_eq_true rfl) (⟨_, _, _, _, rfl, ⟨_, _, ⟨e1.1, e1.2⟩, z1, v1_1, ⟨e3.1, e3.2⟩⟩, hP4, r0, rfl, ?_⟩)
  show Ok X 0 0 (3 + 3) [(0, .ref a0), (1, .int (i3 x1)), (2, .int (i3 x2)), (3, .int (i3 x3))] [.int (i3 (inZ x1 0 ((3 : Int) ^ nA ps4 - 1))), .ref a0] n h
  refine zk_if_eq (pc := 6) (tgt := 16) hc dX7_inCase_6 (by decide) R3_inZ (fun c => ?_) (fun c => ?_)
  · have P := P.1 (inZ_0.mp c)
    refine ok_iconst (pc := 16) hc (v := i3 1) dX7_inCase_16 (by decide) ?_
    refine ok_goto (pc := 17) (tgt := 34) hc dX7_inCase_17 (by decide) ?_
    refine ok_put (pc := 34) hc fl_X7_41 dX7_inCase_34 e1.1 e1.2 (by simp [List.length_set, z1]) (fun _ => rfl) (fun _ => rfl) ?_
    refine ok_aload_n (pc := 37) hc dX7_inCase_37 rfl 0 rfl ?_
    refine ok_get (pc := 38) hc fl_X7_41 dX7_inCase_38 e1.1 up_self (set_self (by simp [List.length_set, z1])) ?_
    refine zk_if_le (pc := 41) (tgt := 48) hc dX7_inCase_41 (by decide) ⟨by decide, by decide⟩ (fun c => absurd c (by decide)) (fun _ => ?_)
    refine ok_lconst (pc := 44) hc (v := i6 0) dX7_inCase_44 (by decide) ?_
    refine ok_goto (pc := 45) (tgt := 55) hc dX7_inCase_45 (by decide) ?_
    exact ok_lret (st := []) (pc := 55) hc hr dX7_inCase_55 P
  · have P := P.2 (inZ_1.mp c)
    refine ok_iload_n (pc := 9) hc dX7_inCase_9 rfl 2 rfl ?_
    obtain ⟨r0, P⟩ := P
    refine ok_callS (pc := 10) (cb := 0) (sb := 0) (st := [.ref a0]) hc [.int (i3 x2)] cs_X7_228 sp_X7_isNode (by decide) dX7_inCase_10 rfl rfl rfl rfl (Nat.le_of_ble_eq_true rfl) (⟨_, rfl, r0, rfl, ?_⟩)
    show Ok X 0 0 (10 + 3) [(0, .ref a0), (1, .int (i3 x1)), (2, .int (i3 x2)), (3, .int (i3 x3))] [.int (i3 (inZ x2 0 6)), .ref a0] n h
    refine zk_if_ne (pc := 13) (tgt := 20) hc dX7_inCase_13 (by decide) R3_inZ (fun c => ?_) (fun c => ?_)
    · have P := P.1 (inZ_1.mp c)
      refine ok_iload_n (pc := 20) hc dX7_inCase_20 rfl 3 rfl ?_
      refine ok_iconst (pc := 21) hc (v := i3 0) dX7_inCase_21 (by decide) ?_
      refine ok_iconst (pc := 22) hc (v := i3 1) dX7_inCase_22 (by decide) ?_
      obtain ⟨r0, P⟩ := P
      refine ok_callS (pc := 23) (cb := 0) (sb := 0) (st := [.ref a0]) hc [.int (i3 x3), .int (i3 0), .int (i3 1)] cs_X7_45 sp_X7_within (by decide) dX7_inCase_23 rfl rfl rfl rfl (Nat.le_of_ble_eq_true rfl) (⟨_, _, _, rfl, r0, rfl, ?_⟩)
      show Ok X 0 0 (23 + 3) [(0, .ref a0), (1, .int (i3 x1)), (2, .int (i3 x2)), (3, .int (i3 x3))] [.int (i3 (inZ x3 0 1)), .ref a0] n h
      refine zk_if_eq (pc := 26) (tgt := 33) hc dX7_inCase_26 (by decide) R3_inZ (fun c => ?_) (fun c => ?_)
      · have P := P.1 (inZ_0.mp c)
        refine ok_iconst (pc := 33) hc (v := i3 2) dX7_inCase_33 (by decide) ?_
        refine ok_put (pc := 34) hc fl_X7_41 dX7_inCase_34 e1.1 e1.2 (by simp [List.length_set, z1]) (fun _ => rfl) (fun _ => rfl) ?_
        refine ok_aload_n (pc := 37) hc dX7_inCase_37 rfl 0 rfl ?_
        refine ok_get (pc := 38) hc fl_X7_41 dX7_inCase_38 e1.1 up_self (set_self (by simp [List.length_set, z1])) ?_
        refine zk_if_le (pc := 41) (tgt := 48) hc dX7_inCase_41 (by decide) ⟨by decide, by decide⟩ (fun c => absurd c (by decide)) (fun _ => ?_)
        refine ok_lconst (pc := 44) hc (v := i6 0) dX7_inCase_44 (by decide) ?_
        refine ok_goto (pc := 45) (tgt := 55) hc dX7_inCase_45 (by decide) ?_
        exact ok_lret (st := []) (pc := 55) hc hr dX7_inCase_55 P
      · have P := P.2 (inZ_1.mp c)
        refine ok_iconst (pc := 29) hc (v := i3 0) dX7_inCase_29 (by decide) ?_
        refine ok_goto (pc := 30) (tgt := 34) hc dX7_inCase_30 (by decide) ?_
        refine ok_put (pc := 34) hc fl_X7_41 dX7_inCase_34 e1.1 e1.2 (by simp [List.length_set, z1]) (fun _ => rfl) (fun _ => rfl) ?_
        refine ok_aload_n (pc := 37) hc dX7_inCase_37 rfl 0 rfl ?_
        refine ok_get (pc := 38) hc fl_X7_41 dX7_inCase_38 e1.1 up_self (set_self (by simp [List.length_set, z1])) ?_
        refine zk_if_le (pc := 41) (tgt := 48) hc dX7_inCase_41 (by decide) ⟨by decide, by decide⟩ (fun _ => ?_) (fun c => absurd c (by decide))
        refine ok_aload_n (pc := 48) hc dX7_inCase_48 rfl 0 rfl ?_
        refine ok_iload_n (pc := 49) hc dX7_inCase_49 rfl 1 rfl ?_
        refine ok_iload_n (pc := 50) hc dX7_inCase_50 rfl 2 rfl ?_
        refine ok_iload_n (pc := 51) hc dX7_inCase_51 rfl 3 rfl ?_
        exact ok_callV (pc := 52) (a := a0) (cb := 0) (sb := 0) (st := []) hc [.int (i3 x1), .int (i3 x2), .int (i3 x3)] cv_X7_224 sp_X7_voltageNow (by decide) dX7_inCase_52 rfl e1.1 up_self rfl rfl rfl (Nat.le_of_ble_eq_true rfl) P
    · have P := P.2 (inZ_0.mp c)
      refine ok_iconst (pc := 16) hc (v := i3 1) dX7_inCase_16 (by decide) ?_
      refine ok_goto (pc := 17) (tgt := 34) hc dX7_inCase_17 (by decide) ?_
      refine ok_put (pc := 34) hc fl_X7_41 dX7_inCase_34 e1.1 e1.2 (by simp [List.length_set, z1]) (fun _ => rfl) (fun _ => rfl) ?_
      refine ok_aload_n (pc := 37) hc dX7_inCase_37 rfl 0 rfl ?_
      refine ok_get (pc := 38) hc fl_X7_41 dX7_inCase_38 e1.1 up_self (set_self (by simp [List.length_set, z1])) ?_
      refine zk_if_le (pc := 41) (tgt := 48) hc dX7_inCase_41 (by decide) ⟨by decide, by decide⟩ (fun c => absurd c (by decide)) (fun _ => ?_)
      refine ok_lconst (pc := 44) hc (v := i6 0) dX7_inCase_44 (by decide) ?_
      refine ok_goto (pc := 45) (tgt := 55) hc dX7_inCase_45 (by decide) ?_
      exact ok_lret (st := []) (pc := 55) hc hr dX7_inCase_55 P

set_option maxHeartbeats 4000000 in
set_option maxRecDepth 100000 in
theorem sX7_inCase_55 {X : Xt} {n : Nat} {h : HP} {a0 : Nat} {x1 : Int} {x2 : Int} {x3 : Int} {tl0 : Int} (hc : Cx X cX7_inCase RX7 4 9 206) {K : KT} (hr : CxR X (some .long) K) 
    (P : K (.inl (some (.long (i6 tl0)))) n h) :
    Ok X 0 0 55 [(0, .ref a0), (1, .int (i3 x1)), (2, .int (i3 x2)), (3, .int (i3 x3))] [.long (i6 tl0)] n h := by
  exact ok_lret (st := []) (pc := 55) hc hr dX7_inCase_55 P

def spec_X7_inCase (args : List Value) (n : Nat) (h : HP) (K : KT) : Prop := ∃ (q : Dsk) (t c k w : Int), args = [.ref 128, .int (i3 c), .int (i3 k), .int (i3 w)] ∧ R3 c ∧ R3 k ∧ R3 w ∧ MdA h n q t ∧ ∀ h', MdA h' n q (cdL [eIO, eIA] (opCase q c k w)) → Fr h h' 128 138 → K (.inl (some (.long (i6 (rvI (opCase q c k w)))))) n h'
theorem sp_X7_inCase : Sp yX7_inCase cX7_inCase 4 (some .long) 9 206 0 0 spec_X7_inCase := by
  refine sp_intro (by decide) (by rintro args n h K ⟨q, t, c, k, w, rfl, -⟩; exact Nat.le_of_ble_eq_true rfl) ?_
  rintro X args n h K hc hr ⟨q, t, c, k, w, rfl, hcr, hk, hw, ⟨I, F, hM, hF, -, hGq, hOq⟩, kk⟩
  have out := fun v => MdA.rd (t := v) (hM.uo (va_up I 0 v)) hF (fun _ _ _ _ _ => rfl) KpF.rf hGq hOq
  have h27 := ref_27 hGq.1
  unfold opCase at kk
  refine sX7_inCase_0 hc hr hM.o rfl rfl hM.z hF.1.1 ⟨⟨hcr, R3_s (by omega)⟩, fun c1 => ?_, fun c1 => ⟨hk, fun c2 => ⟨⟨hw, R3_0, ⟨by decide, by decide⟩⟩, fun c3 => ?_, fun c3 => ?_⟩, fun c2 => ?_⟩⟩
  · rw [if_pos (show ¬ (0 ≤ c ∧ c < 3 ^ nA q.1.1) by omega), cd_1] at kk
    exact kk _ (out 1) (Fr.rf.up (by omega))
  · rw [if_neg (show ¬ ¬ (0 ≤ c ∧ c < 3 ^ nA q.1.1) by omega), if_neg (show ¬ ¬ (0 ≤ k ∧ k < 7) by omega), if_pos (show ¬ (w = 0 ∨ w = 1) by omega), cd_2 _ ne_OA] at kk
    exact kk _ (out 2) (Fr.rf.up (by omega))
  · rw [if_neg (show ¬ ¬ (0 ≤ c ∧ c < 3 ^ nA q.1.1) by omega), if_neg (show ¬ ¬ (0 ≤ k ∧ k < 7) by omega), if_neg (show ¬ ¬ (w = 0 ∨ w = 1) by omega)] at kk
    refine ⟨va_up I 0 0, F, q.1, c, k, w, rfl, hM.uo (va_up I 0 0), hF.1, hGq.1, by omega, by omega, hw, fun h1 I1 F1 hM1 hI1 hF1 f1 => ⟨rfl, sX7_inCase_55 hc hr ?_⟩⟩
    exact kk h1 (MdA.rd hM1 hF hI1.R hF1 hGq hOq) ((Fr.rf.up (by omega)).tr f1)
  · rw [if_neg (show ¬ ¬ (0 ≤ c ∧ c < 3 ^ nA q.1.1) by omega), if_pos (show ¬ (0 ≤ k ∧ k < 7) by omega), cd_1] at kk
    exact kk _ (out 1) (Fr.rf.up (by omega))
