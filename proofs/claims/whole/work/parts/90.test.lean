set_option maxHeartbeats 4000000 in
set_option maxRecDepth 100000 in
theorem sX6_stateIn_0 {X : Xt} {n : Nat} {h : HP} {x0 : Int} {x1 : Int} (hc : Cx X cX6_stateIn RX6 2 3 100) {K : KT} (hr : CxR X (some .int) K) 
    (P : (0 ≤ x1 ∧ x1 < 4) ∧ (((0 : Int) ≤ x0 ∧ x0 ≤ 2147483647) ∧ (0 : Int) < ((3 : Int) ^ (x1).toNat) ∧ (((3 : Int) ^ (x1).toNat) : Int) ≤ 2147483647) ∧ (((0 : Int) ≤ (x0 / ((3 : Int) ^ (x1).toNat)) ∧ (x0 / ((3 : Int) ^ (x1).toNat)) ≤ 2147483647) ∧ (0 : Int) < 3 ∧ (3 : Int) ≤ 2147483647) ∧ K (.inl (some (.int (i3 ((x0 / ((3 : Int) ^ (x1).toNat)) % 3))))) n h) :
    Ok X 0 0 0 [(0, .int (i3 x0)), (1, .int (i3 x1))] [] n h := by
  refine ok_iload_n (pc := 0) hc dX6_stateIn_0 rfl 0 rfl ?_
  refine ok_gets (pc := 1) hc fs_X6_328 dX6_stateIn_1 ?_
  refine ok_iload_n (pc := 4) hc dX6_stateIn_4 rfl 1 rfl ?_
  obtain ⟨r, P⟩ := P
  refine zk_ti (pc := 5) hc dX6_stateIn_5 r ?_
  obtain ⟨r, P⟩ := P
  refine zk_idiv (pc := 6) hc dX6_stateIn_6 r ?_
  refine ok_iconst (pc := 7) hc (v := i3 3) dX6_stateIn_7 (by decide) ?_
  obtain ⟨r, P⟩ := P
  refine zk_irem (pc := 8) hc dX6_stateIn_8 r ?_
  exact ok_iret (st := []) (pc := 9) hc hr dX6_stateIn_9 P

set_option maxHeartbeats 4000000 in
set_option maxRecDepth 100000 in
theorem sX6_contains_0 {X : Xt} {n : Nat} {h : HP} {x0 : Int} {x1 : Int} (hc : Cx X cX6_contains RX6 2 3 100) {K : KT} (hr : CxR X (some .boolean) K) 
    (P : (R3 (band (bshr x0 x1) 1)) ∧ ((band (bshr x0 x1) 1) = 0 → K (.inl (some (.int (i3 0)))) n h) ∧ (¬ (band (bshr x0 x1) 1) = 0 → K (.inl (some (.int (i3 1)))) n h)) :
    Ok X 0 0 0 [(0, .int (i3 x0)), (1, .int (i3 x1))] [] n h := by
  refine ok_iload_n (pc := 0) hc dX6_contains_0 rfl 0 rfl ?_
  refine ok_iload_n (pc := 1) hc dX6_contains_1 rfl 1 rfl ?_
  refine zk_ishr (pc := 2) hc dX6_contains_2 ?_
  refine ok_iconst (pc := 3) hc (v := i3 1) dX6_contains_3 (by decide) ?_
  refine zk_iand (pc := 4) hc dX6_contains_4 ?_
  obtain ⟨r1, P⟩ := P
  refine zk_if_eq (pc := 5) (tgt := 12) hc dX6_contains_5 (by decide) r1 (fun c => ?_) (fun c => ?_)
  · have P := P.1 c
    refine ok_iconst (pc := 12) hc (v := i3 0) dX6_contains_12 (by decide) ?_
    exact ok_zret (st := []) (pc := 13) hc (nar_z (by decide)) hr dX6_contains_13 P
  · have P := P.2 c
    refine ok_iconst (pc := 8) hc (v := i3 1) dX6_contains_8 (by decide) ?_
    refine ok_goto (pc := 9) (tgt := 13) hc dX6_contains_9 (by decide) ?_
    exact ok_zret (st := []) (pc := 13) hc (nar_z (by decide)) hr dX6_contains_13 P

set_option maxHeartbeats 4000000 in
set_option maxRecDepth 100000 in
theorem sX7_within_0 {X : Xt} {n : Nat} {h : HP} {x0 : Int} {x1 : Int} {x2 : Int} (hc : Cx X cX7_within RX7 3 3 100) {K : KT} (hr : CxR X (some .boolean) K) 
    (P : (R3 x0) ∧ (R3 x1) ∧ (x0 < x1 → K (.inl (some (.int (i3 0)))) n h) ∧ (¬ x0 < x1 → (R3 x0) ∧ (R3 x2) ∧ (x2 < x0 → K (.inl (some (.int (i3 0)))) n h) ∧ (¬ x2 < x0 → K (.inl (some (.int (i3 1)))) n h))) :
    Ok X 0 0 0 [(0, .int (i3 x0)), (1, .int (i3 x1)), (2, .int (i3 x2))] [] n h := by
  refine ok_iload_n (pc := 0) hc dX7_within_0 rfl 0 rfl ?_
  refine ok_iload_n (pc := 1) hc dX7_within_1 rfl 1 rfl ?_
  obtain ⟨r1, P⟩ := P
  obtain ⟨r2, P⟩ := P
  refine zk_icmp_lt (pc := 2) (tgt := 14) hc dX7_within_2 (by decide) r1 r2 (fun c => ?_) (fun c => ?_)
  · have P := P.1 c
    refine ok_iconst (pc := 14) hc (v := i3 0) dX7_within_14 (by decide) ?_
    exact ok_zret (st := []) (pc := 15) hc (nar_z (by decide)) hr dX7_within_15 P
  · have P := P.2 c
    refine ok_iload_n (pc := 5) hc dX7_within_5 rfl 0 rfl ?_
    refine ok_iload_n (pc := 6) hc dX7_within_6 rfl 2 rfl ?_
    obtain ⟨r3, P⟩ := P
    obtain ⟨r4, P⟩ := P
    refine zk_icmp_gt (pc := 7) (tgt := 14) hc dX7_within_7 (by decide) r3 r4 (fun c => ?_) (fun c => ?_)
    · have P := P.1 c
      refine ok_iconst (pc := 14) hc (v := i3 0) dX7_within_14 (by decide) ?_
      exact ok_zret (st := []) (pc := 15) hc (nar_z (by decide)) hr dX7_within_15 P
    · have P := P.2 c
      refine ok_iconst (pc := 10) hc (v := i3 1) dX7_within_10 (by decide) ?_
      refine ok_goto (pc := 11) (tgt := 15) hc dX7_within_11 (by decide) ?_
      exact ok_zret (st := []) (pc := 15) hc (nar_z (by decide)) hr dX7_within_15 P

set_option maxHeartbeats 4000000 in
set_option maxRecDepth 100000 in
theorem sX0_numerator_0 {X : Xt} {n : Nat} {h : HP} {a0 : Nat} {x1 : Int} {fs1 : List Value} {q2 : Nat} {fs3 : List Value} {q4 : Nat} {i5 : Int} {len6 : Nat} {f6 : Nat → Option Nat} {q7 : Nat} (hc : Cx X cX0_numerator RX0 6 3 100) {K : KT} (hr : CxR X (some .long) K) (e1 : At h n a0 (.inl (0, fs1))) (z1 : fs1.length = 8) (v1_3 : fs1[3]? = some (.ref q2)) (e3 : At h n q2 (.inl (3, fs3))) (z3 : fs3.length = 3) (v3_1 : fs3[1]? = some (.ref q4)) (v1_5 : fs1[5]? = some (.int (i3 i5))) (e6 : At h n q4 (.inr (4, len6, .inr (.inr f6)))) (g8 : (f6 (i5).toNat) = some q7)
    (P : (Ix i5 len6) ∧ Ok X 0 0 18 [(0, .ref a0), (1, .int (i3 x1)), (2, .ref q7), (3, .long (i6 0)), (5, .int (i3 0))] [] n h) :
    Ok X 0 0 0 [(0, .ref a0), (1, .int (i3 x1))] [] n h := by
  refine ok_aload_n (pc := 0) hc dX0_numerator_0 rfl 0 rfl ?_
  refine ok_get (pc := 1) hc fl_X0_25 dX0_numerator_1 e1.1 e1.2 v1_3 ?_
  refine ok_get (pc := 4) hc fl_X0_109 dX0_numerator_4 e3.1 e3.2 v3_1 ?_
  refine ok_aload_n (pc := 7) hc dX0_numerator_7 rfl 0 rfl ?_
  refine ok_get (pc := 8) hc fl_X0_91 dX0_numerator_8 e1.1 e1.2 v1_5 ?_
  obtain ⟨r, P⟩ := P
  refine zk_aald (pc := 11) hc dX0_numerator_11 e6.1 e6.2 rfl r g8 ?_
  refine ok_astore_n (pc := 12) hc (lv' := [(2, .ref q7), (0, .ref a0), (1, .int (i3 x1))]) dX0_numerator_12 rfl (by decide) rfl ?_
  refine ok_lconst (pc := 13) hc (v := i6 0) dX0_numerator_13 (by decide) ?_
  refine ok_lstore_n (pc := 14) hc (lv' := [(3, .long (i6 0)), (2, .ref q7), (0, .ref a0), (1, .int (i3 x1))]) dX0_numerator_14 rfl (by decide) rfl ?_
  refine ok_iconst (pc := 15) hc (v := i3 0) dX0_numerator_15 (by decide) ?_
  refine ok_istore (pc := 16) hc (lv' := [(5, .int (i3 0)), (3, .long (i6 0)), (2, .ref q7), (0, .ref a0), (1, .int (i3 x1))]) dX0_numerator_16 (by decide) rfl ?_
  refine ok_lv [3, 4, 2, 1, 0] rfl ?_
  exact P

set_option maxHeartbeats 4000000 in
set_option maxRecDepth 100000 in
theorem sX0_numerator_18 {X : Xt} {n : Nat} {h : HP} {a0 : Nat} {x1 : Int} {a2 : Nat} {l3 : Int} {x5 : Int} {len2 : Nat} {f2 : Nat → Int} {fs3 : List Value} {q4 : Nat} {len5 : Nat} {f5 : Nat → Int} (hc : Cx X cX0_numerator RX0 6 3 100) {K : KT} (hr : CxR X (some .long) K) (e2 : At h n a2 (al len2 f2)) (e3 : At h n a0 (.inl (0, fs3))) (z3 : fs3.length = 8) (v3_4 : fs3[4]? = some (.ref q4)) (e5 : At h n q4 (al len5 f5))
    (P : (R3 x5) ∧ (7 ≤ x5 → K (.inl (some (.long (i6 l3)))) n h) ∧ (¬ 7 ≤ x5 → (Ix ((7 * x1) + x5) len2) ∧ (Ix x5 len5) ∧ Ok X 0 0 18 [(0, .ref a0), (1, .int (i3 x1)), (2, .ref a2), (3, .long (i6 (l3 + ((f2 (((7 * x1) + x5)).toNat) * (f5 (x5).toNat))))), (5, .int (i3 (x5 + 1)))] [] n h)) :
    Ok X 0 0 18 [(0, .ref a0), (1, .int (i3 x1)), (2, .ref a2), (3, .long (i6 l3)), (5, .int (i3 x5))] [] n h := by
  refine ok_iload (pc := 18) hc dX0_numerator_18 4 rfl ?_
  refine ok_bipush (pc := 20) hc (v := i3 7) dX0_numerator_20 (by decide) ?_
  obtain ⟨r1, P⟩ := P
  refine zk_icmp_ge (pc := 22) (tgt := 51) hc dX0_numerator_22 (by decide) r1 ⟨by decide, by decide⟩ (fun c => ?_) (fun c => ?_)
  · have P := P.1 c
    refine ok_lload_n (pc := 51) hc dX0_numerator_51 rfl 3 rfl ?_
    exact ok_lret (st := []) (pc := 52) hc hr dX0_numerator_52 P
  · have P := P.2 c
    refine ok_lload_n (pc := 25) hc dX0_numerator_25 rfl 3 rfl ?_
    refine ok_aload_n (pc := 26) hc dX0_numerator_26 rfl 2 rfl ?_
    refine ok_bipush (pc := 27) hc (v := i3 7) dX0_numerator_27 (by decide) ?_
    refine ok_iload_n (pc := 29) hc dX0_numerator_29 rfl 1 rfl ?_
    refine zk_imul (pc := 30) hc dX0_numerator_30 ?_
    refine ok_iload (pc := 31) hc dX0_numerator_31 4 rfl ?_
    refine zk_iadd (pc := 33) hc dX0_numerator_33 ?_
    obtain ⟨r, P⟩ := P
    refine zk_lald (pc := 34) hc dX0_numerator_34 e2.1 e2.2 r ?_
    refine ok_aload_n (pc := 35) hc dX0_numerator_35 rfl 0 rfl ?_
    refine ok_get (pc := 36) hc fl_X0_29 dX0_numerator_36 e3.1 e3.2 v3_4 ?_
    refine ok_iload (pc := 39) hc dX0_numerator_39 4 rfl ?_
    obtain ⟨r, P⟩ := P
    refine zk_lald (pc := 41) hc dX0_numerator_41 e5.1 e5.2 r ?_
    refine zk_lmul (pc := 42) hc dX0_numerator_42 ?_
    refine zk_ladd (pc := 43) hc dX0_numerator_43 ?_
    refine ok_lstore_n (pc := 44) hc (lv' := [(3, .long (i6 (l3 + ((f2 (((7 * x1) + x5)).toNat) * (f5 (x5).toNat))))), (0, .ref a0), (1, .int (i3 x1)), (2, .ref a2), (5, .int (i3 x5))]) dX0_numerator_44 rfl (by decide) rfl ?_
    refine zk_iinc (pc := 45) hc (q := 4) (x := x5) (lv' := [(5, .int (i3 (x5 + 1))), (3, .long (i6 (l3 + ((f2 (((7 * x1) + x5)).toNat) * (f5 (x5).toNat))))), (0, .ref a0), (1, .int (i3 x1)), (2, .ref a2)]) dX0_numerator_45 rfl (by decide) rfl ?_
    refine ok_goto (pc := 48) (tgt := 18) hc dX0_numerator_48 (by decide) ?_
    refine ok_lv [2, 3, 4, 1, 0] rfl ?_
    exact P

set_option maxHeartbeats 4000000 in
set_option maxRecDepth 100000 in
theorem sX5_startPart_0 {X : Xt} {n : Nat} {h : HP} {a0 : Nat} {x1 : Int} {fs1 : List Value} (hc : Cx X cX5_startPart RX5 2 3 100) {K : KT} (hr : CxR X none K) (e1 : At h n a0 (.inl (5, fs1))) (z1 : fs1.length = 9)
    (P : K (.inl none) n (va_up (va_up (va_up (va_up (va_up h a0 (.inl (5, (fs1.set 3 (.int (i3 x1)))))) a0 (.inl (5, ((fs1.set 3 (.int (i3 x1))).set 5 (.int (i3 0)))))) a0 (.inl (5, (((fs1.set 3 (.int (i3 x1))).set 5 (.int (i3 0))).set 6 (.int (i3 (-1))))))) a0 (.inl (5, ((((fs1.set 3 (.int (i3 x1))).set 5 (.int (i3 0))).set 6 (.int (i3 (-1)))).set 7 (.int (i3 0)))))) a0 (.inl (5, (((((fs1.set 3 (.int (i3 x1))).set 5 (.int (i3 0))).set 6 (.int (i3 (-1)))).set 7 (.int (i3 0))).set 8 (.int (i3 0))))))) :
    Ok X 0 0 0 [(0, .ref a0), (1, .int (i3 x1))] [] n h := by
  refine ok_aload_n (pc := 0) hc dX5_startPart_0 rfl 0 rfl ?_
  refine ok_iload_n (pc := 1) hc dX5_startPart_1 rfl 1 rfl ?_
  refine ok_put (pc := 2) hc fl_X5_50 dX5_startPart_2 e1.1 e1.2 (by simp [List.length_set, z1]) (fun _ => rfl) (fun _ => rfl) ?_
  refine ok_aload_n (pc := 5) hc dX5_startPart_5 rfl 0 rfl ?_
  refine ok_iconst (pc := 6) hc (v := i3 0) dX5_startPart_6 (by decide) ?_
  refine ok_put (pc := 7) hc fl_X5_53 dX5_startPart_7 e1.1 up_self (by simp [List.length_set, z1]) (fun _ => rfl) (fun _ => rfl) ?_
  refine ok_aload_n (pc := 10) hc dX5_startPart_10 rfl 0 rfl ?_
  refine ok_iconst (pc := 11) hc (v := i3 (-1)) dX5_startPart_11 (by decide) ?_
  refine ok_put (pc := 12) hc fl_X5_56 dX5_startPart_12 e1.1 up_self (by simp [List.length_set, z1]) (fun _ => rfl) (fun _ => rfl) ?_
  refine ok_aload_n (pc := 15) hc dX5_startPart_15 rfl 0 rfl ?_
  refine ok_iconst (pc := 16) hc (v := i3 0) dX5_startPart_16 (by decide) ?_
  refine ok_put (pc := 17) hc fl_X5_59 dX5_startPart_17 e1.1 up_self (by simp [List.length_set, z1]) (fun _ => nar_z (by decide)) (fun _ => fit_zz (by decide)) ?_
  refine ok_aload_n (pc := 20) hc dX5_startPart_20 rfl 0 rfl ?_
  refine ok_iconst (pc := 21) hc (v := i3 0) dX5_startPart_21 (by decide) ?_
  refine ok_put (pc := 22) hc fl_X5_63 dX5_startPart_22 e1.1 up_self (by simp [List.length_set, z1]) (fun _ => rfl) (fun _ => rfl) ?_
  exact ok_vret (st := []) (pc := 25) hc hr dX5_startPart_25 P
