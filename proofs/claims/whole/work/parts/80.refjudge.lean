/-! part 80: the reference: input, fault, reason -/
set_option maxHeartbeats 4000000 in
set_option maxRecDepth 100000 in
theorem sX7_input_0 {X : Xt} {n : Nat} {h : HP} {a0 : Nat} {x1 : Int} {fs1 : List Value} {q2 : Nat} {f3 : Nat → Int} {ps4 : List Part} {q5 : Nat} {len6 : Nat} {f6 : Nat → Int} (hc : Cx X cX7_input RX7 3 3 67) {K : KT} (hr : CxR X (some .long) K) (e1 : At h n a0 (.inl (7, fs1))) (z1 : fs1.length = 24) (v1_1 : fs1[1]? = some (.ref q2)) (e3 : At h n q2 (ai 52 f3)) (hP4 : ZPs f3 ps4) (v1_14 : fs1[14]? = some (.ref q5)) (e6 : At h n q5 (al len6 f6))
    (P : (0 ≤ x1 ∧ x1 < nA ps4) ∧ (0 ≤ (4 : Int) * (pOf ps4 x1) + 1 ∧ (4 : Int) * (pOf ps4 x1) + 1 < 52) ∧ (Ix (f3 (4 * (pOf ps4 x1) + 1 : Int).toNat) len6) ∧ (0 ≤ (4 : Int) * (pOf ps4 x1) + 2 ∧ (4 : Int) * (pOf ps4 x1) + 2 < 52) ∧ (Ix (f3 (4 * (pOf ps4 x1) + 2 : Int).toNat) len6) ∧ K (.inl (some (.long (i6 ((f6 ((f3 (4 * (pOf ps4 x1) + 1 : Int).toNat) : Int).toNat) - (f6 ((f3 (4 * (pOf ps4 x1) + 2 : Int).toNat) : Int).toNat)))))) n h) :
    Ok X 0 0 0 [(0, .ref a0), (1, .int (i3 x1))] [] n h := by
  refine ok_aload_n (pc := 0) hc dX7_input_0 rfl 0 rfl ?_
  refine ok_iload_n (pc := 1) hc dX7_input_1 rfl 1 rfl ?_
  obtain ⟨r0, P⟩ := P
  refine ok_callV (pc := 2) (a := a0) (cb := 0) (sb := 0) (st := []) hc [.int (i3 x1)] cv_X7_92 sp_X7_partOf (by decide) dX7_input_2 rfl e1.1 e1.2 rfl rfl rfl (Nat.le_of_ble_eq_true rfl) (⟨_, _, _, _, rfl, ⟨_, _, ⟨e1.1, e1.2⟩, z1, v1_1, ⟨e3.1, e3.2⟩⟩, hP4, r0, rfl, ?_⟩)
  show Ok X 0 0 (2 + 3) [(0, .ref a0), (1, .int (i3 x1))] [.int (i3 (pOf ps4 x1))] n h
  refine ok_istore_n (pc := 5) hc (lv' := [(2, .int (i3 (pOf ps4 x1))), (0, .ref a0), (1, .int (i3 x1))]) dX7_input_5 rfl (by decide) rfl ?_
  refine ok_aload_n (pc := 6) hc dX7_input_6 rfl 1 rfl ?_
  refine ok_get (pc := 7) hc fl_X7_35 dX7_input_7 e1.1 e1.2 v1_14 ?_
  refine ok_aload_n (pc := 10) hc dX7_input_10 rfl 1 rfl ?_
  refine ok_iload_n (pc := 11) hc dX7_input_11 rfl 0 rfl ?_
  refine ok_iconst (pc := 12) hc (v := i3 1) dX7_input_12 (by decide) ?_
  obtain ⟨r0, P⟩ := P
  refine ok_callV (pc := 13) (a := a0) (cb := 0) (sb := 0) (st := [.ref q5]) hc [.int (i3 (pOf ps4 x1)), .int (i3 1)] cv_X7_49 sp_X7_of (by decide) dX7_input_13 rfl e1.1 e1.2 rfl rfl rfl (Nat.le_of_ble_eq_true rfl) (⟨_, _, _, _, rfl, ⟨_, _, ⟨e1.1, e1.2⟩, z1, v1_1, ⟨e3.1, e3.2⟩⟩, r0, rfl, ?_⟩)
  show Ok X 0 0 (13 + 3) [(2, .int (i3 (pOf ps4 x1))), (0, .ref a0), (1, .int (i3 x1))] [.int (i3 (f3 (4 * (pOf ps4 x1) + 1 : Int).toNat)), .ref q5] n h
  obtain ⟨r, P⟩ := P
  refine zk_lald (pc := 16) hc dX7_input_16 e6.1 e6.2 r ?_
  refine ok_aload_n (pc := 17) hc dX7_input_17 rfl 1 rfl ?_
  refine ok_get (pc := 18) hc fl_X7_35 dX7_input_18 e1.1 e1.2 v1_14 ?_
  refine ok_aload_n (pc := 21) hc dX7_input_21 rfl 1 rfl ?_
  refine ok_iload_n (pc := 22) hc dX7_input_22 rfl 0 rfl ?_
  refine ok_iconst (pc := 23) hc (v := i3 2) dX7_input_23 (by decide) ?_
  obtain ⟨r0, P⟩ := P
  refine ok_callV (pc := 24) (a := a0) (cb := 0) (sb := 0) (st := [.ref q5, .long (i6 (f6 ((f3 (4 * (pOf ps4 x1) + 1 : Int).toNat) : Int).toNat))]) hc [.int (i3 (pOf ps4 x1)), .int (i3 2)] cv_X7_49 sp_X7_of (by decide) dX7_input_24 rfl e1.1 e1.2 rfl rfl rfl (Nat.le_of_ble_eq_true rfl) (⟨_, _, _, _, rfl, ⟨_, _, ⟨e1.1, e1.2⟩, z1, v1_1, ⟨e3.1, e3.2⟩⟩, r0, rfl, ?_⟩)
  show Ok X 0 0 (24 + 3) [(2, .int (i3 (pOf ps4 x1))), (0, .ref a0), (1, .int (i3 x1))] [.int (i3 (f3 (4 * (pOf ps4 x1) + 2 : Int).toNat)), .ref q5, .long (i6 (f6 ((f3 (4 * (pOf ps4 x1) + 1 : Int).toNat) : Int).toNat))] n h
  obtain ⟨r, P⟩ := P
  refine zk_lald (pc := 27) hc dX7_input_27 e6.1 e6.2 r ?_
  refine zk_lsub (pc := 28) hc dX7_input_28 ?_
  exact ok_lret (st := []) (pc := 29) hc hr dX7_input_29 P

def spec_X7_input (args : List Value) (n : Nat) (h : HP) (K : KT) : Prop := ∃ (I : Nat → Int) (F : Nat → Nat → Int) (ps : List Part) (a j : Nat) (p : Part), args = [.ref 128, .int (i3 a)] ∧ MAt h n I F ∧ ZPs (F 1) ps ∧ AmpAt ps a j p ∧ K (.inl (some (.long (i6 (F 9 p.2.1.toNat - F 9 p.2.2.1.toNat))))) n h
theorem sp_X7_input : Sp yX7_input cX7_input 3 (some .long) 3 67 0 0 spec_X7_input := by
  refine sp_intro (by decide) (by rintro args n h K ⟨I, F, ps, a, j, p, rfl, -⟩; exact Nat.le_of_ble_eq_true rfl) ?_
  rintro X args n h K hc hr ⟨I, F, ps, a, j, p, rfl, hM, hP, hA, kk⟩
  have hl := hP.2.1
  have hal := hA.lt
  have hz := hP.of hA.1
  have hpw := hP.2.2.2 p (List.mem_of_getElem? hA.1)
  have h2 := hA.2.1
  have hpn : (0 ≤ p.2.1 ∧ p.2.1 ≤ 6) ∧ 0 ≤ p.2.2.1 ∧ p.2.2.1 ≤ 6 := by
    unfold PW at hpw
    omega
  refine sX7_input_0 hc hr hM.o rfl rfl hM.z hP rfl hM.v ⟨by omega, ?_⟩
  rw [pOf_at hA, show (4 * (j : Int) + 1).toNat = 4 * j + 1 by omega, show (4 * (j : Int) + 2).toNat = 4 * j + 2 by omega, hz.2.1, hz.2.2.1]
  exact ⟨by omega, ⟨by omega, by omega, by omega⟩, by omega, ⟨by omega, by omega, by omega⟩, kk⟩
set_option maxHeartbeats 4000000 in
set_option maxRecDepth 100000 in
theorem sX7_fault_0 {X : Xt} {n : Nat} {h : HP} {a0 : Nat} {x1 : Int} {x2 : Int} {fs1 : List Value} (hc : Cx X cX7_fault RX7 8 8 182) {K : KT} (hr : CxR X (some .int) K) (e1 : At h n a0 (.inl (7, fs1))) (z1 : fs1.length = 24)
    (P : ((0 ≤ x2 ∧ x2 ≤ 2147483647) ∧ 0 ≤ x1 ∧ x1 < 1000) ∧ spec_X7_solve [.ref a0, .int (i3 x2), .int (i3 (-1))] n h (kc X 0 0 9 [(0, .ref a0), (1, .int (i3 x1)), (2, .int (i3 x2)), (3, .int (i3 (x2 / 3 ^ (x1 : Int).toNat % 3)))] [] n)) :
    Ok X 0 0 0 [(0, .ref a0), (1, .int (i3 x1)), (2, .int (i3 x2))] [] n h := by
  refine ok_iload_n (pc := 0) hc dX7_fault_0 rfl 2 rfl ?_
  refine ok_iload_n (pc := 1) hc dX7_fault_1 rfl 1 rfl ?_
  obtain ⟨r0, P⟩ := P
  refine ok_callS (pc := 2) (cb := 0) (sb := 0) (st := []) hc [.int (i3 x2), .int (i3 x1)] cs_X7_95 sp_X7_stateIn (by decide) dX7_fault_2 rfl rfl rfl rfl (Nat.le_of_ble_eq_true rfl) (⟨x2, (x1 : Int).toNat, (by rw [Int.toNat_of_nonneg r0.2.1]), ⟨r0.1, by omega⟩, rfl, ?_⟩)
  show Ok X 0 0 (2 + 3) [(0, .ref a0), (1, .int (i3 x1)), (2, .int (i3 x2))] [.int (i3 (x2 / 3 ^ (x1 : Int).toNat % 3))] n h
  refine ok_istore_n (pc := 5) hc (lv' := [(3, .int (i3 (x2 / 3 ^ (x1 : Int).toNat % 3))), (0, .ref a0), (1, .int (i3 x1)), (2, .int (i3 x2))]) dX7_fault_5 rfl (by decide) rfl ?_
  refine ok_aload_n (pc := 6) hc dX7_fault_6 rfl 1 rfl ?_
  refine ok_iload_n (pc := 7) hc dX7_fault_7 rfl 3 rfl ?_
  refine ok_iconst (pc := 8) hc (v := i3 (-1)) dX7_fault_8 (by decide) ?_
  refine ok_lv [1, 2, 3, 0] rfl ?_
  exact ok_callV (pc := 9) (a := a0) (cb := 0) (sb := 0) (st := []) hc [.int (i3 x2), .int (i3 (-1))] cv_X7_126 sp_X7_solve (by decide) dX7_fault_9 rfl e1.1 e1.2 rfl rfl rfl (Nat.le_of_ble_eq_true rfl) P

set_option maxHeartbeats 4000000 in
set_option maxRecDepth 100000 in
theorem sX7_fault_12 {X : Xt} {n : Nat} {h : HP} {a0 : Nat} {x1 : Int} {x2 : Int} {x3 : Int} {t0 : Int} {fs2 : List Value} {q3 : Nat} {q4 : Nat} {f5 : Nat → Int} {ps6 : List Part} {len7 : Nat} {f7 : Nat → Int} {jv9 : Int} (hc : Cx X cX7_fault RX7 8 8 182) {K : KT} (hr : CxR X (some .int) K) (e2 : At h n a0 (.inl (7, fs2))) (z2 : fs2.length = 24) (v2_14 : fs2[14]? = some (.ref q3)) (v2_1 : fs2[1]? = some (.ref q4)) (e5 : At h n q4 (ai 52 f5)) (hP6 : ZPs f5 ps6) (e7 : At h n q3 (al len7 f7)) (v2_15 : fs2[15]? = some (.long (i6 jv9)))
    (P : (R3 x3) ∧ (¬ x3 = 0 → Ok X 0 0 95 [(0, .ref a0), (1, .int (i3 x1)), (2, .int (i3 x2)), (3, .int (i3 x3))] [] n h) ∧ (x3 = 0 → (0 ≤ x1 ∧ x1 < nA ps6) ∧ (0 ≤ (4 : Int) * (pOf ps6 x1) + 3 ∧ (4 : Int) * (pOf ps6 x1) + 3 < 52) ∧ (Ix (f5 (4 * (pOf ps6 x1) + 3 : Int).toNat) len7) ∧ (Ix 49 52) ∧ (R3 (f5 (49 : Int).toNat)) ∧ (R6 (f7 ((f5 (4 * (pOf ps6 x1) + 3 : Int).toNat) : Int).toNat) ∧ R6 ((f5 (49 : Int).toNat) * jv9)) ∧ (((f5 (49 : Int).toNat) * jv9) < (f7 ((f5 (4 * (pOf ps6 x1) + 3 : Int).toNat) : Int).toNat) → K (.inl (some (.int (i3 2)))) n h) ∧ (¬ ((f5 (49 : Int).toNat) * jv9) < (f7 ((f5 (4 * (pOf ps6 x1) + 3 : Int).toNat) : Int).toNat) → (R6 (f7 ((f5 (4 * (pOf ps6 x1) + 3 : Int).toNat) : Int).toNat) ∧ R6 (-((f5 (49 : Int).toNat) * jv9))) ∧ ((-((f5 (49 : Int).toNat) * jv9)) ≤ (f7 ((f5 (4 * (pOf ps6 x1) + 3 : Int).toNat) : Int).toNat) → Ok X 0 0 70 [(0, .ref a0), (1, .int (i3 x1)), (2, .int (i3 x2)), (3, .int (i3 x3)), (4, .long (i6 (f7 ((f5 (4 * (pOf ps6 x1) + 3 : Int).toNat) : Int).toNat))), (6, .long (i6 ((f5 (49 : Int).toNat) * jv9)))] [] n h) ∧ (¬ (-((f5 (49 : Int).toNat) * jv9)) ≤ (f7 ((f5 (4 * (pOf ps6 x1) + 3 : Int).toNat) : Int).toNat) → K (.inl (some (.int (i3 2)))) n h)))) :
    Ok X 0 0 12 [(0, .ref a0), (1, .int (i3 x1)), (2, .int (i3 x2)), (3, .int (i3 x3))] [.int (i3 t0)] n h := by
  refine ok_pop (pc := 12) hc dX7_fault_12 rfl ?_
  refine ok_iload_n (pc := 13) hc dX7_fault_13 rfl 3 rfl ?_
  obtain ⟨r1, P⟩ := P
  refine zk_if_ne (pc := 14) (tgt := 95) hc dX7_fault_14 (by decide) r1 (fun c => ?_) (fun c => ?_)
  · have P := P.1 c
    exact P
  · have P := P.2 c
    refine ok_aload_n (pc := 17) hc dX7_fault_17 rfl 0 rfl ?_
    refine ok_get (pc := 18) hc fl_X7_35 dX7_fault_18 e2.1 e2.2 v2_14 ?_
    refine ok_aload_n (pc := 21) hc dX7_fault_21 rfl 0 rfl ?_
    refine ok_aload_n (pc := 22) hc dX7_fault_22 rfl 0 rfl ?_
    refine ok_iload_n (pc := 23) hc dX7_fault_23 rfl 1 rfl ?_
    obtain ⟨r0, P⟩ := P
    refine ok_callV (pc := 24) (a := a0) (cb := 0) (sb := 0) (st := [.ref a0, .ref q3]) hc [.int (i3 x1)] cv_X7_92 sp_X7_partOf (by decide) dX7_fault_24 rfl e2.1 e2.2 rfl rfl rfl (Nat.le_of_ble_eq_true rfl) (⟨_, _, _, _, rfl, ⟨_, _, ⟨e2.1, e2.2⟩, z2, v2_1, ⟨e5.1, e5.2⟩⟩, hP6, r0, rfl, ?_⟩)
    show Ok X 0 0 (24 + 3) [(0, .ref a0), (1, .int (i3 x1)), (2, .int (i3 x2)), (3, .int (i3 x3))] [.int (i3 (pOf ps6 x1)), .ref a0, .ref q3] n h
    refine ok_iconst (pc := 27) hc (v := i3 3) dX7_fault_27 (by decide) ?_
    obtain ⟨r0, P⟩ := P
    refine ok_callV (pc := 28) (a := a0) (cb := 0) (sb := 0) (st := [.ref q3]) hc [.int (i3 (pOf ps6 x1)), .int (i3 3)] cv_X7_49 sp_X7_of (by decide) dX7_fault_28 rfl e2.1 e2.2 rfl rfl rfl (Nat.le_of_ble_eq_true rfl) (⟨_, _, _, _, rfl, ⟨_, _, ⟨e2.1, e2.2⟩, z2, v2_1, ⟨e5.1, e5.2⟩⟩, r0, rfl, ?_⟩)
    show Ok X 0 0 (28 + 3) [(0, .ref a0), (1, .int (i3 x1)), (2, .int (i3 x2)), (3, .int (i3 x3))] [.int (i3 (f5 (4 * (pOf ps6 x1) + 3 : Int).toNat)), .ref q3] n h
    obtain ⟨r, P⟩ := P
    refine zk_lald (pc := 31) hc dX7_fault_31 e7.1 e7.2 r ?_
    refine ok_lstore (pc := 32) hc (lv' := [(4, .long (i6 (f7 ((f5 (4 * (pOf ps6 x1) + 3 : Int).toNat) : Int).toNat))), (0, .ref a0), (1, .int (i3 x1)), (2, .int (i3 x2)), (3, .int (i3 x3))]) dX7_fault_32 (by decide) rfl ?_
    refine ok_aload_n (pc := 34) hc dX7_fault_34 rfl 1 rfl ?_
    refine ok_get (pc := 35) hc fl_X7_7 dX7_fault_35 e2.1 e2.2 v2_1 ?_
    refine ok_bipush (pc := 38) hc (v := i3 49) dX7_fault_38 (by decide) ?_
    obtain ⟨r, P⟩ := P
    refine zk_iald (pc := 40) hc dX7_fault_40 e5.1 e5.2 r ?_
    obtain ⟨r8, P⟩ := P
    refine zk_i2l (pc := 41) hc dX7_fault_41 r8 ?_
    refine ok_aload_n (pc := 42) hc dX7_fault_42 rfl 1 rfl ?_
    refine ok_get (pc := 43) hc fl_X7_122 dX7_fault_43 e2.1 e2.2 v2_15 ?_
    refine zk_lmul (pc := 46) hc dX7_fault_46 ?_
    refine ok_lstore (pc := 47) hc (lv' := [(6, .long (i6 ((f5 (49 : Int).toNat) * jv9))), (4, .long (i6 (f7 ((f5 (4 * (pOf ps6 x1) + 3 : Int).toNat) : Int).toNat))), (0, .ref a0), (1, .int (i3 x1)), (2, .int (i3 x2)), (3, .int (i3 x3))]) dX7_fault_47 (by decide) rfl ?_
    refine ok_lload (pc := 49) hc dX7_fault_49 1 rfl ?_
    refine ok_lload (pc := 51) hc dX7_fault_51 0 rfl ?_
    obtain ⟨r, P⟩ := P
    refine zk_lcmp (pc := 53) hc dX7_fault_53 r ?_
    refine zk_if_gt (pc := 54) (tgt := 66) hc dX7_fault_54 (by decide) R3_cmp (fun c => ?_) (fun c => ?_)
    · have P := P.1 (cmp_gt.mp c)
      refine ok_iconst (pc := 66) hc (v := i3 2) dX7_fault_66 (by decide) ?_
      refine ok_goto (pc := 67) (tgt := 94) hc dX7_fault_67 (by decide) ?_
      exact ok_iret (st := []) (pc := 94) hc hr dX7_fault_94 P
    · have P := P.2 (fun z => c (cmp_gt.mpr z))
      refine ok_lload (pc := 57) hc dX7_fault_57 1 rfl ?_
      refine ok_lload (pc := 59) hc dX7_fault_59 0 rfl ?_
      refine zk_lneg (pc := 61) hc dX7_fault_61 ?_
      obtain ⟨r, P⟩ := P
      refine zk_lcmp (pc := 62) hc dX7_fault_62 r ?_
      refine zk_if_ge (pc := 63) (tgt := 70) hc dX7_fault_63 (by decide) R3_cmp (fun c => ?_) (fun c => ?_)
      · have P := P.1 (cmp_ge.mp c)
        refine ok_lv [2, 3, 4, 5, 1, 0] rfl ?_
        exact P
      · have P := P.2 (fun z => c (cmp_ge.mpr z))
        refine ok_iconst (pc := 66) hc (v := i3 2) dX7_fault_66 (by decide) ?_
        refine ok_goto (pc := 67) (tgt := 94) hc dX7_fault_67 (by decide) ?_
        exact ok_iret (st := []) (pc := 94) hc hr dX7_fault_94 P

set_option maxHeartbeats 4000000 in
set_option maxRecDepth 100000 in
theorem sX7_fault_70 {X : Xt} {n : Nat} {h : HP} {a0 : Nat} {x1 : Int} {x2 : Int} {x3 : Int} {l4 : Int} {l6 : Int} {fs1 : List Value} (hc : Cx X cX7_fault RX7 8 8 182) {K : KT} (hr : CxR X (some .int) K) (e1 : At h n a0 (.inl (7, fs1))) (z1 : fs1.length = 24)
    (P : spec_X7_solve [.ref a0, .int (i3 x2), .int (i3 x1)] n h (kc X 0 0 73 [(0, .ref a0), (1, .int (i3 x1)), (2, .int (i3 x2)), (3, .int (i3 x3)), (4, .long (i6 l4)), (6, .long (i6 l6))] [] n)) :
    Ok X 0 0 70 [(0, .ref a0), (1, .int (i3 x1)), (2, .int (i3 x2)), (3, .int (i3 x3)), (4, .long (i6 l4)), (6, .long (i6 l6))] [] n h := by
  refine ok_aload_n (pc := 70) hc dX7_fault_70 rfl 0 rfl ?_
  refine ok_iload_n (pc := 71) hc dX7_fault_71 rfl 2 rfl ?_
  refine ok_iload_n (pc := 72) hc dX7_fault_72 rfl 1 rfl ?_
  exact ok_callV (pc := 73) (a := a0) (cb := 0) (sb := 0) (st := []) hc [.int (i3 x2), .int (i3 x1)] cv_X7_126 sp_X7_solve (by decide) dX7_fault_73 rfl e1.1 e1.2 rfl rfl rfl (Nat.le_of_ble_eq_true rfl) P

set_option maxHeartbeats 4000000 in
set_option maxRecDepth 100000 in
theorem sX7_fault_76 {X : Xt} {n : Nat} {h : HP} {a0 : Nat} {x1 : Int} {x2 : Int} {x3 : Int} {l4 : Int} {l6 : Int} {t0 : Int} (hc : Cx X cX7_fault RX7 8 8 182) {K : KT} (hr : CxR X (some .int) K) 
    (P : (R3 t0) ∧ (t0 = 0 → K (.inl (some (.int (i3 5)))) n h) ∧ (¬ t0 = 0 → Ok X 0 0 79 [(0, .ref a0), (1, .int (i3 x1)), (2, .int (i3 x2)), (3, .int (i3 x3)), (4, .long (i6 l4)), (6, .long (i6 l6))] [] n h)) :
    Ok X 0 0 76 [(0, .ref a0), (1, .int (i3 x1)), (2, .int (i3 x2)), (3, .int (i3 x3)), (4, .long (i6 l4)), (6, .long (i6 l6))] [.int (i3 t0)] n h := by
  obtain ⟨r1, P⟩ := P
  refine zk_if_eq (pc := 76) (tgt := 93) hc dX7_fault_76 (by decide) r1 (fun c => ?_) (fun c => ?_)
  · have P := P.1 c
    refine ok_iconst (pc := 93) hc (v := i3 5) dX7_fault_93 (by decide) ?_
    exact ok_iret (st := []) (pc := 94) hc hr dX7_fault_94 P
  · have P := P.2 c
    exact P

set_option maxHeartbeats 4000000 in
set_option maxRecDepth 100000 in
theorem sX7_fault_79 {X : Xt} {n : Nat} {h : HP} {a0 : Nat} {x1 : Int} {x2 : Int} {x3 : Int} {l4 : Int} {l6 : Int} {fs1 : List Value} (hc : Cx X cX7_fault RX7 8 8 182) {K : KT} (hr : CxR X (some .int) K) (e1 : At h n a0 (.inl (7, fs1))) (z1 : fs1.length = 24)
    (P : spec_X7_input [.ref a0, .int (i3 x1)] n h (kc X 0 0 81 [(0, .ref a0), (1, .int (i3 x1)), (2, .int (i3 x2)), (3, .int (i3 x3)), (4, .long (i6 l4)), (6, .long (i6 l6))] [] n)) :
    Ok X 0 0 79 [(0, .ref a0), (1, .int (i3 x1)), (2, .int (i3 x2)), (3, .int (i3 x3)), (4, .long (i6 l4)), (6, .long (i6 l6))] [] n h := by
  refine ok_aload_n (pc := 79) hc dX7_fault_79 rfl 0 rfl ?_
  refine ok_iload_n (pc := 80) hc dX7_fault_80 rfl 1 rfl ?_
  exact ok_callV (pc := 81) (a := a0) (cb := 0) (sb := 0) (st := []) hc [.int (i3 x1)] cv_X7_129 sp_X7_input (by decide) dX7_fault_81 rfl e1.1 e1.2 rfl rfl rfl (Nat.le_of_ble_eq_true rfl) P

set_option maxHeartbeats 4000000 in
set_option maxRecDepth 100000 in
theorem sX7_fault_84 {X : Xt} {n : Nat} {h : HP} {a0 : Nat} {x1 : Int} {x2 : Int} {x3 : Int} {l4 : Int} {l6 : Int} {tl0 : Int} (hc : Cx X cX7_fault RX7 8 8 182) {K : KT} (hr : CxR X (some .int) K) 
    (P : (R6 tl0 ∧ R6 0) ∧ (0 ≤ tl0 → K (.inl (some (.int (i3 5)))) n h) ∧ (¬ 0 ≤ tl0 → K (.inl (some (.int (i3 0)))) n h)) :
    Ok X 0 0 84 [(0, .ref a0), (1, .int (i3 x1)), (2, .int (i3 x2)), (3, .int (i3 x3)), (4, .long (i6 l4)), (6, .long (i6 l6))] [.long (i6 tl0)] n h := by
  refine ok_lconst (pc := 84) hc (v := i6 0) dX7_fault_84 (by decide) ?_
  obtain ⟨r, P⟩ := P
  refine zk_lcmp (pc := 85) hc dX7_fault_85 r ?_
  refine zk_if_ge (pc := 86) (tgt := 93) hc dX7_fault_86 (by decide) R3_cmp (fun c => ?_) (fun c => ?_)
  · have P := P.1 (cmp_ge.mp c)
    refine ok_iconst (pc := 93) hc (v := i3 5) dX7_fault_93 (by decide) ?_
    exact ok_iret (st := []) (pc := 94) hc hr dX7_fault_94 P
  · have P := P.2 (fun z => c (cmp_ge.mpr z))
    refine ok_iconst (pc := 89) hc (v := i3 0) dX7_fault_89 (by decide) ?_
    refine ok_goto (pc := 90) (tgt := 94) hc dX7_fault_90 (by decide) ?_
    exact ok_iret (st := []) (pc := 94) hc hr dX7_fault_94 P

set_option maxHeartbeats 4000000 in
set_option maxRecDepth 100000 in
theorem sX7_fault_95 {X : Xt} {n : Nat} {h : HP} {a0 : Nat} {x1 : Int} {x2 : Int} {x3 : Int} {fs2 : List Value} (hc : Cx X cX7_fault RX7 8 8 182) {K : KT} (hr : CxR X (some .int) K) (e2 : At h n a0 (.inl (7, fs2))) (z2 : fs2.length = 24)
    (P : (R3 x3) ∧ (¬ x3 = 1 → spec_X7_input [.ref a0, .int (i3 x1)] n h (kc X 0 0 120 [(0, .ref a0), (1, .int (i3 x1)), (2, .int (i3 x2)), (3, .int (i3 x3))] [] n)) ∧ (x3 = 1 → spec_X7_input [.ref a0, .int (i3 x1)] n h (kc X 0 0 102 [(0, .ref a0), (1, .int (i3 x1)), (2, .int (i3 x2)), (3, .int (i3 x3))] [] n))) :
    Ok X 0 0 95 [(0, .ref a0), (1, .int (i3 x1)), (2, .int (i3 x2)), (3, .int (i3 x3))] [] n h := by
  refine ok_iload_n (pc := 95) hc dX7_fault_95 rfl 3 rfl ?_
  refine ok_iconst (pc := 96) hc (v := i3 1) dX7_fault_96 (by decide) ?_
  obtain ⟨r1, P⟩ := P
  refine zk_icmp_ne (pc := 97) (tgt := 118) hc dX7_fault_97 (by decide) r1 ⟨by decide, by decide⟩ (fun c => ?_) (fun c => ?_)
  · have P := P.1 c
    refine ok_aload_n (pc := 118) hc dX7_fault_118 rfl 0 rfl ?_
    refine ok_iload_n (pc := 119) hc dX7_fault_119 rfl 1 rfl ?_
    exact ok_callV (pc := 120) (a := a0) (cb := 0) (sb := 0) (st := []) hc [.int (i3 x1)] cv_X7_129 sp_X7_input (by decide) dX7_fault_120 rfl e2.1 e2.2 rfl rfl rfl (Nat.le_of_ble_eq_true rfl) P
  · have P := P.2 c
    refine ok_aload_n (pc := 100) hc dX7_fault_100 rfl 0 rfl ?_
    refine ok_iload_n (pc := 101) hc dX7_fault_101 rfl 1 rfl ?_
    exact ok_callV (pc := 102) (a := a0) (cb := 0) (sb := 0) (st := []) hc [.int (i3 x1)] cv_X7_129 sp_X7_input (by decide) dX7_fault_102 rfl e2.1 e2.2 rfl rfl rfl (Nat.le_of_ble_eq_true rfl) P

set_option maxHeartbeats 4000000 in
set_option maxRecDepth 100000 in
theorem sX7_fault_105 {X : Xt} {n : Nat} {h : HP} {a0 : Nat} {x1 : Int} {x2 : Int} {x3 : Int} {tl0 : Int} (hc : Cx X cX7_fault RX7 8 8 182) {K : KT} (hr : CxR X (some .int) K) 
    (P : (R6 tl0 ∧ R6 0) ∧ (tl0 ≤ 0 → K (.inl (some (.int (i3 3)))) n h) ∧ (¬ tl0 ≤ 0 → K (.inl (some (.int (i3 0)))) n h)) :
    Ok X 0 0 105 [(0, .ref a0), (1, .int (i3 x1)), (2, .int (i3 x2)), (3, .int (i3 x3))] [.long (i6 tl0)] n h := by
  refine ok_lconst (pc := 105) hc (v := i6 0) dX7_fault_105 (by decide) ?_
  obtain ⟨r, P⟩ := P
  refine zk_lcmp (pc := 106) hc dX7_fault_106 r ?_
  refine zk_if_le (pc := 107) (tgt := 114) hc dX7_fault_107 (by decide) R3_cmp (fun c => ?_) (fun c => ?_)
  · have P := P.1 (cmp_le.mp c)
    refine ok_iconst (pc := 114) hc (v := i3 3) dX7_fault_114 (by decide) ?_
    refine ok_goto (pc := 115) (tgt := 133) hc dX7_fault_115 (by decide) ?_
    exact ok_iret (st := []) (pc := 133) hc hr dX7_fault_133 P
  · have P := P.2 (fun z => c (cmp_le.mpr z))
    refine ok_iconst (pc := 110) hc (v := i3 0) dX7_fault_110 (by decide) ?_
    refine ok_goto (pc := 111) (tgt := 133) hc dX7_fault_111 (by decide) ?_
    exact ok_iret (st := []) (pc := 133) hc hr dX7_fault_133 P

set_option maxHeartbeats 4000000 in
set_option maxRecDepth 100000 in
theorem sX7_fault_123 {X : Xt} {n : Nat} {h : HP} {a0 : Nat} {x1 : Int} {x2 : Int} {x3 : Int} {tl0 : Int} (hc : Cx X cX7_fault RX7 8 8 182) {K : KT} (hr : CxR X (some .int) K) 
    (P : (R6 tl0 ∧ R6 0) ∧ (0 ≤ tl0 → K (.inl (some (.int (i3 4)))) n h) ∧ (¬ 0 ≤ tl0 → K (.inl (some (.int (i3 0)))) n h)) :
    Ok X 0 0 123 [(0, .ref a0), (1, .int (i3 x1)), (2, .int (i3 x2)), (3, .int (i3 x3))] [.long (i6 tl0)] n h := by
  refine ok_lconst (pc := 123) hc (v := i6 0) dX7_fault_123 (by decide) ?_
  obtain ⟨r, P⟩ := P
  refine zk_lcmp (pc := 124) hc dX7_fault_124 r ?_
  refine zk_if_ge (pc := 125) (tgt := 132) hc dX7_fault_125 (by decide) R3_cmp (fun c => ?_) (fun c => ?_)
  · have P := P.1 (cmp_ge.mp c)
    refine ok_iconst (pc := 132) hc (v := i3 4) dX7_fault_132 (by decide) ?_
    exact ok_iret (st := []) (pc := 133) hc hr dX7_fault_133 P
  · have P := P.2 (fun z => c (cmp_ge.mpr z))
    refine ok_iconst (pc := 128) hc (v := i3 0) dX7_fault_128 (by decide) ?_
    refine ok_goto (pc := 129) (tgt := 133) hc dX7_fault_129 (by decide) ?_
    exact ok_iret (st := []) (pc := 133) hc hr dX7_fault_133 P

def KpI (I I' : Nat → Int) : Prop := ∀ k, k ≠ 9 → k ≠ 12 → k ≠ 15 → I' k = I k
def KpF (F F' : Nat → Nat → Int) : Prop := ∀ j, j ≤ 5 ∨ j = 10 → F' j = F j
theorem KpI.tr {I I' I'' : Nat → Int} (a : KpI I I') (b : KpI I' I'') : KpI I I'' := fun k h1 h2 h3 => (b k h1 h2 h3).trans (a k h1 h2 h3)
theorem KpF.tr {F F' F'' : Nat → Nat → Int} (a : KpF F F') (b : KpF F' F'') : KpF F F'' := fun j h => (b j h).trans (a j h)
theorem KpF.rf {F : Nat → Nat → Int} : KpF F F := fun _ _ => rfl
theorem KpI.rf {I : Nat → Int} : KpI I I := fun _ _ _ _ => rfl
theorem sv_diff {ps : List Part} {m : Nat} {γ : Nat → Int} {den : Int} {V : Nat → Int} (hs : 0 < solD ps m) (h : SvQ ps m γ den V) {p q : Nat} (hp : p < 7) (hq : q < 7) : (0 < V p - V q ↔ numer ps m γ q < numer ps m γ p) ∧ (V p - V q < 0 ↔ numer ps m γ p < numer ps m γ q) ∧ R6 (V p - V q) := by
  have e : solD ps m * (V p - V q) = den * (numer ps m γ p - numer ps m γ q) := by
    rw [Int.mul_sub, Int.mul_sub, h.2.2 p hp, h.2.2 q hq]
  have := sgn_eq hs h.1.1 e
  have b1 := h.2.1 p hp
  have b2 := h.2.1 q hq
  refine ⟨by rw [this.1]; omega, by rw [this.2]; omega, ?_⟩
  exact ⟨by have := b1.1; have := b2.2; omega, by have := b1.2; have := b2.1; omega⟩
def spec_X7_fault (args : List Value) (n : Nat) (h : HP) (K : KT) : Prop := ∃ (I : Nat → Int) (F : Nat → Nat → Int) (S : Stt) (a j : Nat) (p : Part) (c : Int), args = [.ref 128, .int (i3 a), .int (i3 c)] ∧ MAt h n I F ∧ ZSt (F 1) S ∧ GdS S ∧ (0 ≤ c ∧ c ≤ 26) ∧ AmpAt S.1 a j p ∧ solD S.1 (satN c (nA S.1)) ≠ 0 ∧ ∀ (h' : HP) (I' : Nat → Int) (F' : Nat → Nat → Int), MAt h' n I' F' → KpI I I' → KpF F F' → Fr h h' 128 138 → K (.inl (some (.int (i3 (faultF S (satN c (nA S.1)) (givC S c) a p (c / 3 ^ a % 3)))))) n h'
theorem sp_X7_fault : Sp yX7_fault cX7_fault 8 (some .int) 8 182 0 0 spec_X7_fault := by
  refine sp_intro (by decide) (by rintro args n h K ⟨I, F, S, a, j, p, c, rfl, -⟩; exact Nat.le_of_ble_eq_true rfl) ?_
  rintro X args n h K hc hr ⟨I, F, S, a, j, p, c, rfl, hM0, hZ, hG, hcr, hA, hs0, kk⟩
  have hP := hZ.1
  have hl := hP.2.1
  have hal := hA.lt
  have h3 := hG.1.2.1
  have h2 := hA.2.1
  have hrail := hG.2.1
  have hpt := told_amp (hG.1.2.2.1 p (List.mem_of_getElem? hA.1)) h2
  have hst := st3 c a
  have eat : (a : Int).toNat = a := by omega
  have hs := (cls_1 hG.1 hs0).1
  have hz := hP.of hA.1
  generalize hm : satN c (nA S.1) = m at *
  generalize hst' : c / 3 ^ a % 3 = st at *
  refine sX7_fault_0 hc hr hM0.o rfl ⟨⟨by omega, by omega, by omega⟩, I, F, S.1, c, -1, m, givC S c, rfl, hM0, hP, hG.1, ⟨hcr, by omega, by omega, by rw [hZ.2.1]; omega, by rw [hZ.2.1]; omega⟩, by rw [hZ.2.1, ← hm]; exact mat_case hG.1 c, fun h1 I1 F1 hM1 hI1 hF1 hV1 f1 => ⟨rfl, ?_⟩⟩
  have hV := hV1 hs0
  have h11 : F1 1 = F 1 := hF1 1 (by omega)
  have hP1 : ZPs (F1 1) S.1 := by rw [h11]; exact hP
  have h149 : F1 1 49 = S.2.1 := by rw [h11]; exact hZ.2.1
  rw [eat, hst']
  have e3 : F1 1 (4 * (pOf S.1 a) + 3 : Int).toNat = p.2.2.2 := by rw [h11, pOf_at hA, show (4 * (j : Int) + 3).toNat = 4 * j + 3 by omega, hz.2.2.2]
  have d1 := sv_diff hs hV (p := p.2.1.toNat) (q := p.2.2.1.toNat) (by omega) (by omega)
  refine sX7_fault_12 hc hr hM1.o rfl rfl rfl hM1.z hP1 hM1.v rfl ⟨R3_s (by omega), fun z => ?_, fun z => ⟨by omega, by rw [pOf_at hA]; omega, ?_⟩⟩
  · -- high or low
    refine sX7_fault_95 hc hr hM1.o rfl ⟨R3_s (by omega), fun w => ⟨I1, F1, S.1, a, j, p, rfl, hM1, hP1, hA, ⟨rfl, ?_⟩⟩, fun w => ⟨I1, F1, S.1, a, j, p, rfl, hM1, hP1, hA, ⟨rfl, ?_⟩⟩⟩
    · have w2 : st = 2 := by omega
      have k := kk h1 I1 F1 hM1 hI1 hF1 f1
      unfold faultF signP at k
      rw [if_neg w, if_pos w2] at k
      refine sX7_fault_123 hc hr ⟨⟨d1.2.2, ⟨by decide, by decide⟩⟩, fun y => ?_, fun y => ?_⟩
      · rw [if_neg (fun x => by have := d1.2.1.mpr (cmp_lt.mp x); omega)] at k
        exact k
      · rw [if_pos (cmp_lt.mpr (d1.2.1.mp (by omega)))] at k
        exact k
    · have k := kk h1 I1 F1 hM1 hI1 hF1 f1
      unfold faultF signP at k
      rw [if_pos w] at k
      refine sX7_fault_105 hc hr ⟨⟨d1.2.2, ⟨by decide, by decide⟩⟩, fun y => ?_, fun y => ?_⟩
      · rw [if_neg (fun x => by have := d1.1.mpr (cmp_gt.mp x); omega)] at k
        exact k
      · rw [if_pos (cmp_gt.mpr (d1.1.mp (by omega)))] at k
        exact k
  · -- linear
    rw [e3]
    have e49 : F1 1 (49 : Int).toNat = S.2.1 := h149
    rw [e49]
    have ho : p.2.2.2.toNat < 7 := by omega
    have bo := hV.2.1 p.2.2.2.toNat ho
    have bf := mul_bd (a := S.2.1) (b := I1 15) (B := 200) (C := 2147483647) (by omega) (by have := hV.1; omega)
    have hfar : ∀ s : Int, solD S.1 m * (F1 9 p.2.2.2.toNat - s * (S.2.1 * I1 15)) = I1 15 * (numer S.1 m (givC S c) p.2.2.2.toNat - s * (S.2.1 * solD S.1 m)) := by
      intro s
      rw [Int.mul_sub, Int.mul_sub, hV.2.2 _ ho]
      grind
    have g1 := sgn_eq hs hV.1.1 (hfar 1)
    have g2 := sgn_eq hs hV.1.1 (hfar (-1))
    have r6 : R6 (F1 9 p.2.2.2.toNat) := ⟨by have := bo.1; omega, by have := bo.2; omega⟩
    have k := fun (h' : HP) (I' : Nat → Int) (F' : Nat → Nat → Int) q1 q2 q3 q4 => kk h' I' F' q1 q2 q3 q4
    unfold faultF at k
    rw [if_neg (show ¬ st = 1 by omega), if_neg (show ¬ st = 2 by omega)] at k
    refine ⟨⟨by omega, by omega, by omega⟩, ⟨by decide, by decide, by decide⟩, R3_s (by omega), ⟨r6, ⟨by omega, by omega⟩⟩, fun y => ?_, fun y => ⟨⟨r6, ⟨by omega, by omega⟩⟩, fun x => ?_, fun x => ?_⟩⟩
    · have := k h1 I1 F1 hM1 hI1 hF1 f1
      have := g1.1.mp (by omega)
      rw [if_neg (by unfold absZ; split <;> omega)] at *
      assumption
    · -- within the rails
      have hle : absZ (numer S.1 m (givC S c) p.2.2.2.toNat) ≤ S.2.1 * solD S.1 m := by
        have n1 : ¬ 0 < numer S.1 m (givC S c) p.2.2.2.toNat - 1 * (S.2.1 * solD S.1 m) := fun q => by
          have := g1.1.mpr q
          omega
        have n2 : ¬ numer S.1 m (givC S c) p.2.2.2.toNat - -1 * (S.2.1 * solD S.1 m) < 0 := fun q => by
          have := g2.2.mpr q
          omega
        unfold absZ
        split <;> omega
      rw [if_pos hle] at k
      refine sX7_fault_70 hc hr hM1.o rfl ⟨I1, F1, S.1, c, a, orN m a, fun g => if g = p.2.2.2.toNat then 1 else 0, rfl, hM1, hP1, hG.1, ⟨hcr, by omega, by omega, by rw [h149]; omega, by rw [h149]; omega⟩, by rw [h149, ← hm]; exact mat_test hG.1 c hA, fun h2 I2 F2 hM2 hI2 hF2 hV2 f2 => ⟨rfl, ?_⟩⟩
      have kf := k h2 I2 F2 hM2 (KpI.tr hI1 hI2) (KpF.tr hF1 hF2) (f1.tr f2)
      have hP2 : ZPs (F2 1) S.1 := by
        rw [hF2 1 (by omega)]
        exact hP1
      have hnum : ∀ q, numer S.1 (orN m a) (fun g => if g = p.2.2.2.toNat then 1 else 0) q = solN S.1 (orN m a) (7 * q + p.2.2.2.toNat) := by
        intro q
        unfold numer
        rw [sumN_la, la_s1 ho (fun j hj w => by
          show _ * (if _ then _ else _) = (0 : Int)
          rw [if_neg w, Int.mul_zero])]
        show _ * (if _ then _ else _) = _
        rw [if_pos rfl, Int.mul_one]
      unfold fbk at kf
      by_cases hd : solD S.1 (orN m a) = 0
      · refine sX7_fault_76 hc hr ⟨by rw [if_pos hd]; exact R3_0, fun _ => ?_, fun w => absurd (by rw [if_pos hd]) w⟩
        rw [decide_eq_false (show ¬ solD S.1 (orN m a) ≠ 0 from fun w => w hd), Bool.false_and, if_neg (by decide)] at kf
        exact kf
      · have hs2 := (cls_1 hG.1 hd).1
        have d2 := sv_diff hs2 (hV2 hd) (p := p.2.1.toNat) (q := p.2.2.1.toNat) (by omega) (by omega)
        rw [hnum, hnum] at d2
        rw [decide_eq_true (show solD S.1 (orN m a) ≠ 0 from hd), Bool.true_and] at kf
        refine sX7_fault_76 hc hr ⟨by rw [if_neg hd]; exact ⟨by decide, by decide⟩, fun w => absurd w (by rw [if_neg hd]; decide), fun _ => ?_⟩
        refine sX7_fault_79 hc hr hM2.o rfl ⟨I2, F2, S.1, a, j, p, rfl, hM2, hP2, hA, ⟨rfl, ?_⟩⟩
        refine sX7_fault_84 hc hr ⟨⟨d2.2.2, ⟨by decide, by decide⟩⟩, fun w => ?_, fun w => ?_⟩
        · rw [decide_eq_false (fun v => by have := d2.2.1.mpr v; omega), if_neg (by decide)] at kf
          exact kf
        · rw [decide_eq_true (d2.2.1.mp (by omega)), if_pos rfl] at kf
          exact kf
    · have kf := k h1 I1 F1 hM1 hI1 hF1 f1
      have := g2.2.mp (by omega)
      rw [if_neg (by unfold absZ; split <;> omega)] at kf
      exact kf
set_option maxHeartbeats 4000000 in
set_option maxRecDepth 100000 in
theorem sX7_reason_0 {X : Xt} {n : Nat} {h : HP} {a0 : Nat} {x1 : Int} {fs1 : List Value} (hc : Cx X cX7_reason RX7 4 9 209) {K : KT} (hr : CxR X (some .int) K) (e1 : At h n a0 (.inl (7, fs1))) (z1 : fs1.length = 24)
    (P : spec_X7_solve [.ref a0, .int (i3 x1), .int (i3 (-1))] n (va_up h a0 (.inl (7, (fs1.set 16 (.int (i3 (-1))))))) (kc X 0 0 8 [(0, .ref a0), (1, .int (i3 x1))] [] n)) :
    Ok X 0 0 0 [(0, .ref a0), (1, .int (i3 x1))] [] n h := by
  refine ok_aload_n (pc := 0) hc dX7_reason_0 rfl 0 rfl ?_
  refine ok_iconst (pc := 1) hc (v := i3 (-1)) dX7_reason_1 (by decide) ?_
  refine ok_put (pc := 2) hc fl_X7_132 dX7_reason_2 e1.1 e1.2 (by simp [List.length_set, z1]) (fun _ => rfl) (fun _ => rfl) ?_
  refine ok_aload_n (pc := 5) hc dX7_reason_5 rfl 0 rfl ?_
  refine ok_iload_n (pc := 6) hc dX7_reason_6 rfl 1 rfl ?_
  refine ok_iconst (pc := 7) hc (v := i3 (-1)) dX7_reason_7 (by decide) ?_
  exact ok_callV (pc := 8) (a := a0) (cb := 0) (sb := 0) (st := []) hc [.int (i3 x1), .int (i3 (-1))] cv_X7_126 sp_X7_solve (by decide) dX7_reason_8 rfl e1.1 up_self rfl rfl rfl (Nat.le_of_ble_eq_true rfl) P

set_option maxHeartbeats 4000000 in
set_option maxRecDepth 100000 in
theorem sX7_reason_11 {X : Xt} {n : Nat} {h : HP} {a0 : Nat} {x1 : Int} {t0 : Int} (hc : Cx X cX7_reason RX7 4 9 209) {K : KT} (hr : CxR X (some .int) K) 
    (P : (R3 t0) ∧ (¬ t0 = 0 → Ok X 0 0 20 [(0, .ref a0), (1, .int (i3 x1)), (2, .int (i3 0)), (3, .int (i3 0))] [] n h) ∧ (t0 = 0 → K (.inl (some (.int (i3 1)))) n h)) :
    Ok X 0 0 11 [(0, .ref a0), (1, .int (i3 x1))] [.int (i3 t0)] n h := by
  obtain ⟨r1, P⟩ := P
  refine zk_if_ne (pc := 11) (tgt := 16) hc dX7_reason_11 (by decide) r1 (fun c => ?_) (fun c => ?_)
  · have P := P.1 c
    refine ok_iconst (pc := 16) hc (v := i3 0) dX7_reason_16 (by decide) ?_
    refine ok_istore_n (pc := 17) hc (lv' := [(2, .int (i3 0)), (0, .ref a0), (1, .int (i3 x1))]) dX7_reason_17 rfl (by decide) rfl ?_
    refine ok_iconst (pc := 18) hc (v := i3 0) dX7_reason_18 (by decide) ?_
    refine ok_istore_n (pc := 19) hc (lv' := [(3, .int (i3 0)), (2, .int (i3 0)), (0, .ref a0), (1, .int (i3 x1))]) dX7_reason_19 rfl (by decide) rfl ?_
    refine ok_lv [2, 3, 1, 0] rfl ?_
    exact P
  · have P := P.2 c
    refine ok_iconst (pc := 14) hc (v := i3 1) dX7_reason_14 (by decide) ?_
    exact ok_iret (st := []) (pc := 15) hc hr dX7_reason_15 P

set_option maxHeartbeats 4000000 in
set_option maxRecDepth 100000 in
theorem sX7_reason_20 {X : Xt} {n : Nat} {h : HP} {a0 : Nat} {x1 : Int} {x2 : Int} {x3 : Int} {fs1 : List Value} {q2 : Nat} {f3 : Nat → Int} {ps4 : List Part} (hc : Cx X cX7_reason RX7 4 9 209) {K : KT} (hr : CxR X (some .int) K) (e1 : At h n a0 (.inl (7, fs1))) (z1 : fs1.length = 24) (v1_1 : fs1[1]? = some (.ref q2)) (e3 : At h n q2 (ai 52 f3)) (hP4 : ZPs f3 ps4)
    (P : (R3 x3) ∧ (R3 (nA ps4 : Int)) ∧ ((nA ps4 : Int) ≤ x3 → Ok X 0 0 58 [(0, .ref a0), (1, .int (i3 x1)), (2, .int (i3 x2)), (3, .int (i3 x3))] [] n h) ∧ (¬ (nA ps4 : Int) ≤ x3 → (R3 x2) ∧ (¬ x2 = 0 → Ok X 0 0 58 [(0, .ref a0), (1, .int (i3 x1)), (2, .int (i3 x2)), (3, .int (i3 x3))] [] n h) ∧ (x2 = 0 → Ok X 0 0 32 [(0, .ref a0), (1, .int (i3 x1)), (2, .int (i3 x2)), (3, .int (i3 x3))] [] n h))) :
    Ok X 0 0 20 [(0, .ref a0), (1, .int (i3 x1)), (2, .int (i3 x2)), (3, .int (i3 x3))] [] n h := by
  refine ok_iload_n (pc := 20) hc dX7_reason_20 rfl 3 rfl ?_
  refine ok_aload_n (pc := 21) hc dX7_reason_21 rfl 0 rfl ?_
  refine ok_callV (pc := 22) (a := a0) (cb := 0) (sb := 0) (st := [.int (i3 x3)]) hc [] cv_X7_64 sp_X7_amplifiers (by decide) dX7_reason_22 rfl e1.1 e1.2 rfl rfl rfl (Nat.le_of_ble_eq_true rfl) (⟨_, _, _, rfl, ⟨_, _, ⟨e1.1, e1.2⟩, z1, v1_1, ⟨e3.1, e3.2⟩⟩, hP4, rfl, ?_⟩)
  show Ok X 0 0 (22 + 3) [(0, .ref a0), (1, .int (i3 x1)), (2, .int (i3 x2)), (3, .int (i3 x3))] [.int (i3 (nA ps4 : Int)), .int (i3 x3)] n h
  obtain ⟨r5, P⟩ := P
  obtain ⟨r6, P⟩ := P
  refine zk_icmp_ge (pc := 25) (tgt := 58) hc dX7_reason_25 (by decide) r5 r6 (fun c => ?_) (fun c => ?_)
  · have P := P.1 c
    exact P
  · have P := P.2 c
    refine ok_iload_n (pc := 28) hc dX7_reason_28 rfl 2 rfl ?_
    obtain ⟨r7, P⟩ := P
    refine zk_if_ne (pc := 29) (tgt := 58) hc dX7_reason_29 (by decide) r7 (fun c => ?_) (fun c => ?_)
    · have P := P.1 c
      exact P
    · have P := P.2 c
      exact P

set_option maxHeartbeats 4000000 in
set_option maxRecDepth 100000 in
theorem sX7_reason_32 {X : Xt} {n : Nat} {h : HP} {a0 : Nat} {x1 : Int} {x2 : Int} {x3 : Int} {fs1 : List Value} (hc : Cx X cX7_reason RX7 4 9 209) {K : KT} (hr : CxR X (some .int) K) (e1 : At h n a0 (.inl (7, fs1))) (z1 : fs1.length = 24)
    (P : spec_X7_fault [.ref a0, .int (i3 x3), .int (i3 x1)] n h (kc X 0 0 35 [(0, .ref a0), (1, .int (i3 x1)), (2, .int (i3 x2)), (3, .int (i3 x3))] [] n)) :
    Ok X 0 0 32 [(0, .ref a0), (1, .int (i3 x1)), (2, .int (i3 x2)), (3, .int (i3 x3))] [] n h := by
  refine ok_aload_n (pc := 32) hc dX7_reason_32 rfl 0 rfl ?_
  refine ok_iload_n (pc := 33) hc dX7_reason_33 rfl 3 rfl ?_
  refine ok_iload_n (pc := 34) hc dX7_reason_34 rfl 1 rfl ?_
  exact ok_callV (pc := 35) (a := a0) (cb := 0) (sb := 0) (st := []) hc [.int (i3 x3), .int (i3 x1)] cv_X7_135 sp_X7_fault (by decide) dX7_reason_35 rfl e1.1 e1.2 rfl rfl rfl (Nat.le_of_ble_eq_true rfl) P

set_option maxHeartbeats 4000000 in
set_option maxRecDepth 100000 in
theorem sX7_reason_38 {X : Xt} {n : Nat} {h : HP} {a0 : Nat} {x1 : Int} {x2 : Int} {x3 : Int} {t0 : Int} {fs2 : List Value} (hc : Cx X cX7_reason RX7 4 9 209) {K : KT} (hr : CxR X (some .int) K) (e2 : At h n a0 (.inl (7, fs2))) (z2 : fs2.length = 24)
    (P : (R3 t0) ∧ (t0 ≤ 0 → Ok X 0 0 20 [(0, .ref a0), (1, .int (i3 x1)), (2, .int (i3 t0)), (3, .int (i3 (x3 + 1)))] [] n (va_up h a0 (.inl (7, (fs2.set 16 (.int (i3 (-1)))))))) ∧ (¬ t0 ≤ 0 → Ok X 0 0 20 [(0, .ref a0), (1, .int (i3 x1)), (2, .int (i3 t0)), (3, .int (i3 (x3 + 1)))] [] n (va_up h a0 (.inl (7, (fs2.set 16 (.int (i3 x3)))))))) :
    Ok X 0 0 38 [(0, .ref a0), (1, .int (i3 x1)), (2, .int (i3 x2)), (3, .int (i3 x3))] [.int (i3 t0)] n h := by
  refine ok_istore_n (pc := 38) hc (lv' := [(2, .int (i3 t0)), (0, .ref a0), (1, .int (i3 x1)), (3, .int (i3 x3))]) dX7_reason_38 rfl (by decide) rfl ?_
  refine ok_aload_n (pc := 39) hc dX7_reason_39 rfl 1 rfl ?_
  refine ok_iload_n (pc := 40) hc dX7_reason_40 rfl 0 rfl ?_
  obtain ⟨r1, P⟩ := P
  refine zk_if_le (pc := 41) (tgt := 48) hc dX7_reason_41 (by decide) r1 (fun c => ?_) (fun c => ?_)
  · have P := P.1 c
    refine ok_iconst (pc := 48) hc (v := i3 (-1)) dX7_reason_48 (by decide) ?_
    refine ok_put (pc := 49) hc fl_X7_132 dX7_reason_49 e2.1 e2.2 (by simp [List.length_set, z2]) (fun _ => rfl) (fun _ => rfl) ?_
    refine zk_iinc (pc := 52) hc (q := 3) (x := x3) (lv' := [(3, .int (i3 (x3 + 1))), (2, .int (i3 t0)), (0, .ref a0), (1, .int (i3 x1))]) dX7_reason_52 rfl (by decide) rfl ?_
    refine ok_goto (pc := 55) (tgt := 20) hc dX7_reason_55 (by decide) ?_
    refine ok_lv [2, 3, 1, 0] rfl ?_
    exact P
  · have P := P.2 c
    refine ok_iload_n (pc := 44) hc dX7_reason_44 rfl 3 rfl ?_
    refine ok_goto (pc := 45) (tgt := 49) hc dX7_reason_45 (by decide) ?_
    refine ok_put (pc := 49) hc fl_X7_132 dX7_reason_49 e2.1 e2.2 (by simp [List.length_set, z2]) (fun _ => rfl) (fun _ => rfl) ?_
    refine zk_iinc (pc := 52) hc (q := 3) (x := x3) (lv' := [(3, .int (i3 (x3 + 1))), (2, .int (i3 t0)), (0, .ref a0), (1, .int (i3 x1))]) dX7_reason_52 rfl (by decide) rfl ?_
    refine ok_goto (pc := 55) (tgt := 20) hc dX7_reason_55 (by decide) ?_
    refine ok_lv [2, 3, 1, 0] rfl ?_
    exact P

set_option maxHeartbeats 4000000 in
set_option maxRecDepth 100000 in
theorem sX7_reason_58 {X : Xt} {n : Nat} {h : HP} {a0 : Nat} {x1 : Int} {x2 : Int} {x3 : Int} (hc : Cx X cX7_reason RX7 4 9 209) {K : KT} (hr : CxR X (some .int) K) 
    (P : K (.inl (some (.int (i3 x2)))) n h) :
    Ok X 0 0 58 [(0, .ref a0), (1, .int (i3 x1)), (2, .int (i3 x2)), (3, .int (i3 x3))] [] n h := by
  refine ok_iload_n (pc := 58) hc dX7_reason_58 rfl 2 rfl ?_
  exact ok_iret (st := []) (pc := 59) hc hr dX7_reason_59 P

def KpR (I I' : Nat → Int) : Prop := ∀ k, k ≠ 9 → k ≠ 12 → k ≠ 15 → k ≠ 16 → I' k = I k
def spec_X7_reason (args : List Value) (n : Nat) (h : HP) (K : KT) : Prop := ∃ (I : Nat → Int) (F : Nat → Nat → Int) (S : Stt) (c : Int), args = [.ref 128, .int (i3 c)] ∧ MAt h n I F ∧ ZSt (F 1) S ∧ GdS S ∧ (0 ≤ c ∧ c ≤ 26) ∧ ∀ (h' : HP) (I' : Nat → Int) (F' : Nat → Nat → Int), MAt h' n I' F' → KpR I I' → I' 16 = (jud S c).2 → KpF F F' → Fr h h' 128 138 → K (.inl (some (.int (i3 (jud S c).1)))) n h'
theorem sp_X7_reason : Sp yX7_reason cX7_reason 4 (some .int) 9 209 0 0 spec_X7_reason := by
  refine sp_intro (by decide) (by rintro args n h K ⟨I, F, S, c, rfl, -⟩; exact Nat.le_of_ble_eq_true rfl) ?_
  rintro X args n h K hc hr ⟨I, F, S, c, rfl, hM0, hZ, hG, hcr, kk⟩
  have hP := hZ.1
  have hl := hP.2.1
  have h3 := hG.1.2.1
  have hrail := hG.2.1
  have hM1 := hM0.uo (va_up I 16 (-1))
  have f0 : Fr h (va_up h 128 (.inl (7, mf (va_up I 16 (-1))))) 128 138 := Fr.rf.up (by omega)
  unfold jud at kk
  generalize hm : satN c (nA S.1) = m at *
  refine sX7_reason_0 hc hr hM0.o rfl ⟨va_up I 16 (-1), F, S.1, c, -1, m, givC S c, rfl, hM1, hP, hG.1, ⟨hcr, by omega, by omega, by rw [hZ.2.1]; omega, by rw [hZ.2.1]; omega⟩, by rw [hZ.2.1, ← hm]; exact mat_case hG.1 c, fun h1 I1 F1 hM1 hI1 hF1 hV1 f1 => ⟨rfl, ?_⟩⟩
  have i16 : I1 16 = -1 := (hI1 16 (by decide) (by decide) (by decide)).trans up_self
  have kp1 : KpR I I1 := fun k k1 k2 k3 k4 => (hI1 k k1 k2 k3).trans (up_ne k4)
  by_cases hs0 : solD S.1 m = 0
  · rw [if_pos hs0] at kk
    refine sX7_reason_11 hc hr ⟨by rw [if_pos hs0]; exact R3_0, fun w => absurd (by rw [if_pos hs0]) w, fun _ => ?_⟩
    exact kk h1 I1 F1 hM1 kp1 i16 hF1 (f0.tr f1)
  · rw [if_neg hs0] at kk
    have L : ∀ (d a : Nat) (hh : HP) (I2 : Nat → Int) (F2 : Nat → Nat → Int), a + d = nA S.1 → judL S m (givC S c) c (amps S.1) 0 = judL S m (givC S c) c ((amps S.1).drop a) a → MAt hh n I2 F2 → KpR I I2 → I2 16 = -1 → KpF F F2 → Fr h hh 128 138 → Ok X 0 0 20 [(0, .ref 128), (1, .int (i3 c)), (2, .int (i3 0)), (3, .int (i3 a))] [] n hh := by
      intro d
      induction d with
      | zero =>
        intro a hh I2 F2 ha hj hM2 k2 i2 hF2 hf
        have : a = nA S.1 := by omega
        subst this
        have hP2 : ZPs (F2 1) S.1 := by rw [hF2 1 (by omega)]; exact hP
        rw [List.drop_of_length_le (by rw [amps_len]; exact Nat.le_refl _)] at hj
        have k := kk hh I2 F2 hM2 k2 (by rw [hj]; exact i2) hF2 hf
        rw [hj] at k
        exact sX7_reason_20 hc hr hM2.o rfl rfl hM2.z hP2 ⟨R3_s (by omega), R3_s (by omega), fun _ => sX7_reason_58 hc hr k, fun z => absurd (Int.le_refl _) z⟩
      | succ d ih =>
        intro a hh I2 F2 ha hj hM2 k2 i2 hF2 hf
        have hP2 : ZPs (F2 1) S.1 := by rw [hF2 1 (by omega)]; exact hP
        have hZ2 : ZSt (F2 1) S := by rw [hF2 1 (by omega)]; exact hZ
        obtain ⟨j, p, hA⟩ := AmpAt.ex (ps := S.1) (a := a) (by omega)
        rw [drop_s hA.amps] at hj
        have hr5 := faultF_r (S := S) (m := m) (G := givC S c) (a := a) (p := p) (st := c / 3 ^ a % 3)
        refine sX7_reason_20 hc hr hM2.o rfl rfl hM2.z hP2 ⟨R3_s (by omega), R3_s (by omega), fun z => absurd z (by omega), fun _ => ⟨R3_0, fun z => absurd rfl z, fun _ => ?_⟩⟩
        refine sX7_reason_32 hc hr hM2.o rfl ⟨I2, F2, S, a, j, p, c, rfl, hM2, hZ2, hG, hcr, hA, by rw [hm]; exact hs0, fun h5 I5 F5 hM5 k5 hF5 f5 => ⟨rfl, ?_⟩⟩
        rw [hm]
        have hP5 : ZPs (F5 1) S.1 := by rw [hF5 1 (by omega)]; exact hP2
        refine sX7_reason_38 hc hr hM5.o rfl ⟨R3_s (by omega), fun z => ?_, fun z => ?_⟩
        · have z0 : faultF S m (givC S c) a p (c / 3 ^ a % 3) = 0 := by omega
          rw [z0]
          refine ih (a + 1) _ (va_up I5 16 (-1)) F5 (by omega) ?_ (hM5.uo (va_up I5 16 (-1))) (fun k q1 q2 q3 q4 => ?_) up_self (hF2.tr hF5) ((hf.tr f5).up (by omega))
          · rw [hj]
            show (if _ then _ else _) = _
            rw [if_pos z0]
          · rw [up_ne q4, k5 k q1 q2 q3, k2 k q1 q2 q3 q4]
        · have z0 : ¬ faultF S m (givC S c) a p (c / 3 ^ a % 3) = 0 := by omega
          have hM6 := hM5.uo (va_up I5 16 (a : Int))
          have hje : judL S m (givC S c) c (p :: (amps S.1).drop (a + 1)) a = (faultF S m (givC S c) a p (c / 3 ^ a % 3), (a : Int)) := by
            show (if _ then _ else _) = _
            rw [if_neg z0]
          have k := kk _ (va_up I5 16 (a : Int)) F5 hM6 (fun k q1 q2 q3 q4 => by rw [up_ne q4, k5 k q1 q2 q3, k2 k q1 q2 q3 q4]) (by rw [hj, hje]; exact up_self) (hF2.tr hF5) ((hf.tr f5).up (by omega))
          rw [hj, hje] at k
          refine sX7_reason_20 hc hr hM6.o rfl rfl hM6.z hP5 ⟨R3_s (by omega), R3_s (by omega), fun _ => sX7_reason_58 hc hr k, fun _ => ⟨R3_s (by omega), fun _ => sX7_reason_58 hc hr k, fun w => absurd w z0⟩⟩
    refine sX7_reason_11 hc hr ⟨by rw [if_neg hs0]; exact ⟨by decide, by decide⟩, fun _ => L (nA S.1) 0 h1 I1 F1 (by omega) rfl hM1 kp1 i16 hF1 (f0.tr f1), fun w => absurd w (by rw [if_neg hs0]; decide)⟩
