/-! part a27: the law's told: currents, amplifiers, counts, mean; told -/
set_option maxHeartbeats 4000000 in
set_option maxRecDepth 100000 in
theorem sL_told_12 {X : Xt} {n : Nat} {h : HP} {a0 : Nat} {x1 : Int} {a2 : Nat} {a3 : Nat} {a4 : Nat} {a5 : Nat} {bb : Nat} {sb9 : Nat} {f1 : Nat → Int} {f2 : Nat → Int} {ps3 : List Part} (hc : Cx X cL_told RL 18 10 182) {K : KT} (hr : CxR X (some .boolean) K) (e1 : At h n a2 (ai 4 f1)) (e2 : At h n a3 (ai 48 f2)) (hP3 : PaF f2 ps3)
    (P : (Ix 0 4) ∧ (0 ≤ (f1 (0 : Int).toNat) ∧ (f1 (0 : Int).toNat) ≤ ps3.length) ∧ (0 ≤ (nA (ps3.take ((f1 (0 : Int).toNat) : Int).toNat) : Int) ∧ (nA (ps3.take ((f1 (0 : Int).toNat) : Int).toNat) : Int) < 4) ∧ Ok X bb sb9 43 [(0, .ref a0), (1, .int (i3 x1)), (2, .ref a2), (3, .ref a3), (4, .ref a4), (5, .ref a5), (6, .int (i3 (nA (ps3.take ((f1 (0 : Int).toNat) : Int).toNat) : Int))), (7, .int (i3 ((3 : Int) ^ ((nA (ps3.take ((f1 (0 : Int).toNat) : Int).toNat) : Int) : Int).toNat))), (8, .int (i3 0)), (9, .int (i3 0)), (10, .int (i3 0)), (11, .int (i3 0)), (12, .int (i3 0))] [] n h) :
    Ok X bb sb9 12 [(0, .ref a0), (1, .int (i3 x1)), (2, .ref a2), (3, .ref a3), (4, .ref a4), (5, .ref a5)] [] n h := by
  refine ok_aload_n (pc := 12) hc dL_told_12 rfl 2 rfl ?_
  refine ok_iconst (pc := 13) hc (v := i3 0) dL_told_13 (by decide) ?_
  obtain ⟨r, P⟩ := P
  refine zk_iald (pc := 14) hc dL_told_14 e1.1 e1.2 r ?_
  refine ok_aload_n (pc := 15) hc dL_told_15 rfl 3 rfl ?_
  obtain ⟨r0, P⟩ := P
  refine ok_callS (pc := 16) (cb := bb) (sb := sb9) (st := []) hc [.int (i3 (f1 (0 : Int).toNat)), .ref a3] cs_L_18 sp_L_amplifiers (by decide) dL_told_16 rfl rfl rfl rfl (Nat.le_of_ble_eq_true rfl) (⟨((f1 (0 : Int).toNat) : Int).toNat, _, _, _, (by rw [Int.toNat_of_nonneg r0.1]), ⟨e2.1, e2.2⟩, hP3, (by omega), rfl, ?_⟩)
  show Ok X bb sb9 (16 + 3) [(0, .ref a0), (1, .int (i3 x1)), (2, .ref a2), (3, .ref a3), (4, .ref a4), (5, .ref a5)] [.int (i3 (nA (ps3.take ((f1 (0 : Int).toNat) : Int).toNat) : Int))] n h
  refine ok_istore (pc := 19) hc (lv' := [(6, .int (i3 (nA (ps3.take ((f1 (0 : Int).toNat) : Int).toNat) : Int))), (0, .ref a0), (1, .int (i3 x1)), (2, .ref a2), (3, .ref a3), (4, .ref a4), (5, .ref a5)]) dL_told_19 (by decide) rfl ?_
  refine ok_iload (pc := 21) hc dL_told_21 0 rfl ?_
  obtain ⟨r0, P⟩ := P
  refine ok_callS (pc := 23) (cb := bb) (sb := sb9) (st := []) hc [.int (i3 (nA (ps3.take ((f1 (0 : Int).toNat) : Int).toNat) : Int))] cs_L_21 sp_L_power (by decide) dL_told_23 rfl rfl rfl rfl (Nat.le_of_ble_eq_true rfl) (⟨_, rfl, r0, rfl, ?_⟩)
  show Ok X bb sb9 (23 + 3) [(6, .int (i3 (nA (ps3.take ((f1 (0 : Int).toNat) : Int).toNat) : Int))), (0, .ref a0), (1, .int (i3 x1)), (2, .ref a2), (3, .ref a3), (4, .ref a4), (5, .ref a5)] [.int (i3 ((3 : Int) ^ ((nA (ps3.take ((f1 (0 : Int).toNat) : Int).toNat) : Int) : Int).toNat))] n h
  refine ok_istore (pc := 26) hc (lv' := [(7, .int (i3 ((3 : Int) ^ ((nA (ps3.take ((f1 (0 : Int).toNat) : Int).toNat) : Int) : Int).toNat))), (6, .int (i3 (nA (ps3.take ((f1 (0 : Int).toNat) : Int).toNat) : Int))), (0, .ref a0), (1, .int (i3 x1)), (2, .ref a2), (3, .ref a3), (4, .ref a4), (5, .ref a5)]) dL_told_26 (by decide) rfl ?_
  refine ok_iconst (pc := 28) hc (v := i3 0) dL_told_28 (by decide) ?_
  refine ok_istore (pc := 29) hc (lv' := [(8, .int (i3 0)), (7, .int (i3 ((3 : Int) ^ ((nA (ps3.take ((f1 (0 : Int).toNat) : Int).toNat) : Int) : Int).toNat))), (6, .int (i3 (nA (ps3.take ((f1 (0 : Int).toNat) : Int).toNat) : Int))), (0, .ref a0), (1, .int (i3 x1)), (2, .ref a2), (3, .ref a3), (4, .ref a4), (5, .ref a5)]) dL_told_29 (by decide) rfl ?_
  refine ok_iconst (pc := 31) hc (v := i3 0) dL_told_31 (by decide) ?_
  refine ok_istore (pc := 32) hc (lv' := [(9, .int (i3 0)), (8, .int (i3 0)), (7, .int (i3 ((3 : Int) ^ ((nA (ps3.take ((f1 (0 : Int).toNat) : Int).toNat) : Int) : Int).toNat))), (6, .int (i3 (nA (ps3.take ((f1 (0 : Int).toNat) : Int).toNat) : Int))), (0, .ref a0), (1, .int (i3 x1)), (2, .ref a2), (3, .ref a3), (4, .ref a4), (5, .ref a5)]) dL_told_32 (by decide) rfl ?_
  refine ok_iconst (pc := 34) hc (v := i3 0) dL_told_34 (by decide) ?_
  refine ok_istore (pc := 35) hc (lv' := [(10, .int (i3 0)), (9, .int (i3 0)), (8, .int (i3 0)), (7, .int (i3 ((3 : Int) ^ ((nA (ps3.take ((f1 (0 : Int).toNat) : Int).toNat) : Int) : Int).toNat))), (6, .int (i3 (nA (ps3.take ((f1 (0 : Int).toNat) : Int).toNat) : Int))), (0, .ref a0), (1, .int (i3 x1)), (2, .ref a2), (3, .ref a3), (4, .ref a4), (5, .ref a5)]) dL_told_35 (by decide) rfl ?_
  refine ok_iconst (pc := 37) hc (v := i3 0) dL_told_37 (by decide) ?_
  refine ok_istore (pc := 38) hc (lv' := [(11, .int (i3 0)), (10, .int (i3 0)), (9, .int (i3 0)), (8, .int (i3 0)), (7, .int (i3 ((3 : Int) ^ ((nA (ps3.take ((f1 (0 : Int).toNat) : Int).toNat) : Int) : Int).toNat))), (6, .int (i3 (nA (ps3.take ((f1 (0 : Int).toNat) : Int).toNat) : Int))), (0, .ref a0), (1, .int (i3 x1)), (2, .ref a2), (3, .ref a3), (4, .ref a4), (5, .ref a5)]) dL_told_38 (by decide) rfl ?_
  refine ok_iconst (pc := 40) hc (v := i3 0) dL_told_40 (by decide) ?_
  refine ok_istore (pc := 41) hc (lv' := [(12, .int (i3 0)), (11, .int (i3 0)), (10, .int (i3 0)), (9, .int (i3 0)), (8, .int (i3 0)), (7, .int (i3 ((3 : Int) ^ ((nA (ps3.take ((f1 (0 : Int).toNat) : Int).toNat) : Int) : Int).toNat))), (6, .int (i3 (nA (ps3.take ((f1 (0 : Int).toNat) : Int).toNat) : Int))), (0, .ref a0), (1, .int (i3 x1)), (2, .ref a2), (3, .ref a3), (4, .ref a4), (5, .ref a5)]) dL_told_41 (by decide) rfl ?_
  refine ok_lv [7, 8, 9, 10, 11, 12, 6, 5, 4, 3, 2, 1, 0] rfl ?_
  exact P

set_option maxHeartbeats 4000000 in
set_option maxRecDepth 100000 in
theorem sL_told_513 {X : Xt} {n : Nat} {h : HP} {a0 : Nat} {x1 : Int} {a2 : Nat} {a3 : Nat} {a4 : Nat} {a5 : Nat} {x6 : Int} {x7 : Int} {x8 : Int} {x9 : Int} {x10 : Int} {x11 : Int} {x12 : Int} {x13 : Int} {bb : Nat} {sb9 : Nat} (hc : Cx X cL_told RL 18 10 182) {K : KT} (hr : CxR X (some .boolean) K) 
    (P : spec_L_currents [.ref a0, .int (i3 x12), .ref a2, .ref a3, .ref a4] n h (kc X bb sb9 520 [(0, .ref a0), (1, .int (i3 x1)), (2, .ref a2), (3, .ref a3), (4, .ref a4), (5, .ref a5), (6, .int (i3 x6)), (7, .int (i3 x7)), (8, .int (i3 x8)), (9, .int (i3 x9)), (10, .int (i3 x10)), (11, .int (i3 x11)), (12, .int (i3 x12)), (13, .int (i3 x13))] [] n)) :
    Ok X (bb + 72) (sb9 + 432) 513 [(0, .ref a0), (1, .int (i3 x1)), (2, .ref a2), (3, .ref a3), (4, .ref a4), (5, .ref a5), (6, .int (i3 x6)), (7, .int (i3 x7)), (8, .int (i3 x8)), (9, .int (i3 x9)), (10, .int (i3 x10)), (11, .int (i3 x11)), (12, .int (i3 x12)), (13, .int (i3 x13))] [] n h := by
  refine ok_aload_n (pc := 513) hc dL_told_513 rfl 0 rfl ?_
  refine ok_iload (pc := 514) hc dL_told_514 12 rfl ?_
  refine ok_aload_n (pc := 516) hc dL_told_516 rfl 2 rfl ?_
  refine ok_aload_n (pc := 517) hc dL_told_517 rfl 3 rfl ?_
  refine ok_aload (pc := 518) hc dL_told_518 4 rfl ?_
  exact ok_callS (pc := 520) (cb := bb) (sb := sb9) (st := []) hc [.ref a0, .int (i3 x12), .ref a2, .ref a3, .ref a4] cs_L_84 sp_L_currents (by decide) dL_told_520 rfl rfl rfl rfl (Nat.le_of_ble_eq_true rfl) P

set_option maxHeartbeats 4000000 in
set_option maxRecDepth 100000 in
theorem sL_told_523 {X : Xt} {n : Nat} {h : HP} {a0 : Nat} {x1 : Int} {a2 : Nat} {a3 : Nat} {a4 : Nat} {a5 : Nat} {x6 : Int} {x7 : Int} {x8 : Int} {x9 : Int} {x10 : Int} {x11 : Int} {x12 : Int} {x13 : Int} {t0 : Int} {bb : Nat} {sb9 : Nat} (hc : Cx X cL_told RL 18 10 182) {K : KT} (hr : CxR X (some .boolean) K) 
    (P : (R3 t0) ∧ (¬ t0 = 0 → Ok X bb sb9 528 [(0, .ref a0), (1, .int (i3 x1)), (2, .ref a2), (3, .ref a3), (4, .ref a4), (5, .ref a5), (6, .int (i3 x6)), (7, .int (i3 x7)), (8, .int (i3 x8)), (9, .int (i3 x9)), (10, .int (i3 x10)), (11, .int (i3 x11)), (12, .int (i3 x12)), (13, .int (i3 x13))] [] n h) ∧ (t0 = 0 → K (.inl (some (.int (i3 0)))) n h)) :
    Ok X bb sb9 523 [(0, .ref a0), (1, .int (i3 x1)), (2, .ref a2), (3, .ref a3), (4, .ref a4), (5, .ref a5), (6, .int (i3 x6)), (7, .int (i3 x7)), (8, .int (i3 x8)), (9, .int (i3 x9)), (10, .int (i3 x10)), (11, .int (i3 x11)), (12, .int (i3 x12)), (13, .int (i3 x13))] [.int (i3 t0)] n h := by
  obtain ⟨r1, P⟩ := P
  refine zk_if_ne (pc := 523) (tgt := 528) hc dL_told_523 (by decide) r1 (fun c => ?_) (fun c => ?_)
  · have P := P.1 c
    exact P
  · have P := P.2 c
    refine ok_iconst (pc := 526) hc (v := i3 0) dL_told_526 (by decide) ?_
    exact ok_zret (st := []) (pc := 527) hc (nar_z (by decide)) hr dL_told_527 P

set_option maxHeartbeats 4000000 in
set_option maxRecDepth 100000 in
theorem sL_told_528 {X : Xt} {n : Nat} {h : HP} {a0 : Nat} {x1 : Int} {a2 : Nat} {a3 : Nat} {a4 : Nat} {a5 : Nat} {x6 : Int} {x7 : Int} {x8 : Int} {x9 : Int} {x10 : Int} {x11 : Int} {x12 : Int} {x13 : Int} {bb : Nat} {sb9 : Nat} (hc : Cx X cL_told RL 18 10 182) {K : KT} (hr : CxR X (some .boolean) K) 
    (P : Ok X bb sb9 531 [(0, .ref a0), (1, .int (i3 x1)), (2, .ref a2), (3, .ref a3), (4, .ref a4), (5, .ref a5), (6, .int (i3 x6)), (7, .int (i3 x7)), (8, .int (i3 x8)), (9, .int (i3 x9)), (10, .int (i3 x10)), (11, .int (i3 x11)), (12, .int (i3 x12)), (13, .int (i3 0))] [] n h) :
    Ok X bb sb9 528 [(0, .ref a0), (1, .int (i3 x1)), (2, .ref a2), (3, .ref a3), (4, .ref a4), (5, .ref a5), (6, .int (i3 x6)), (7, .int (i3 x7)), (8, .int (i3 x8)), (9, .int (i3 x9)), (10, .int (i3 x10)), (11, .int (i3 x11)), (12, .int (i3 x12)), (13, .int (i3 x13))] [] n h := by
  refine ok_iconst (pc := 528) hc (v := i3 0) dL_told_528 (by decide) ?_
  refine ok_istore (pc := 529) hc (lv' := [(13, .int (i3 0)), (0, .ref a0), (1, .int (i3 x1)), (2, .ref a2), (3, .ref a3), (4, .ref a4), (5, .ref a5), (6, .int (i3 x6)), (7, .int (i3 x7)), (8, .int (i3 x8)), (9, .int (i3 x9)), (10, .int (i3 x10)), (11, .int (i3 x11)), (12, .int (i3 x12))]) dL_told_529 (by decide) rfl ?_
  refine ok_lv [1, 2, 3, 4, 5, 6, 7, 8, 9, 10, 11, 12, 13, 0] rfl ?_
  exact P

set_option maxHeartbeats 4000000 in
set_option maxRecDepth 100000 in
theorem sL_told_531 {X : Xt} {n : Nat} {h : HP} {a0 : Nat} {x1 : Int} {a2 : Nat} {a3 : Nat} {a4 : Nat} {a5 : Nat} {x6 : Int} {x7 : Int} {x8 : Int} {x9 : Int} {x10 : Int} {x11 : Int} {x12 : Int} {x13 : Int} {bb : Nat} {sb9 : Nat} (hc : Cx X cL_told RL 18 10 182) {K : KT} (hr : CxR X (some .boolean) K) 
    (P : (R3 x13) ∧ (R3 x6) ∧ (x6 ≤ x13 → Ok X bb sb9 625 [(0, .ref a0), (1, .int (i3 x1)), (2, .ref a2), (3, .ref a3), (4, .ref a4), (5, .ref a5), (6, .int (i3 x6)), (7, .int (i3 x7)), (8, .int (i3 x8)), (9, .int (i3 x9)), (10, .int (i3 x10)), (11, .int (i3 x11)), (12, .int (i3 x12)), (13, .int (i3 x13))] [] n h) ∧ (¬ x6 ≤ x13 → Ok X bb sb9 538 [(0, .ref a0), (1, .int (i3 x1)), (2, .ref a2), (3, .ref a3), (4, .ref a4), (5, .ref a5), (6, .int (i3 x6)), (7, .int (i3 x7)), (8, .int (i3 x8)), (9, .int (i3 x9)), (10, .int (i3 x10)), (11, .int (i3 x11)), (12, .int (i3 x12)), (13, .int (i3 x13))] [] n h)) :
    Ok X bb sb9 531 [(0, .ref a0), (1, .int (i3 x1)), (2, .ref a2), (3, .ref a3), (4, .ref a4), (5, .ref a5), (6, .int (i3 x6)), (7, .int (i3 x7)), (8, .int (i3 x8)), (9, .int (i3 x9)), (10, .int (i3 x10)), (11, .int (i3 x11)), (12, .int (i3 x12)), (13, .int (i3 x13))] [] n h := by
  refine ok_iload (pc := 531) hc dL_told_531 13 rfl ?_
  refine ok_iload (pc := 533) hc dL_told_533 6 rfl ?_
  obtain ⟨r1, P⟩ := P
  obtain ⟨r2, P⟩ := P
  refine zk_icmp_ge (pc := 535) (tgt := 625) hc dL_told_535 (by decide) r1 r2 (fun c => ?_) (fun c => ?_)
  · have P := P.1 c
    exact P
  · have P := P.2 c
    exact P

set_option maxHeartbeats 4000000 in
set_option maxRecDepth 100000 in
theorem sL_told_538 {X : Xt} {n : Nat} {h : HP} {a0 : Nat} {x1 : Int} {a2 : Nat} {a3 : Nat} {a4 : Nat} {a5 : Nat} {x6 : Int} {x7 : Int} {x8 : Int} {x9 : Int} {x10 : Int} {x11 : Int} {x12 : Int} {x13 : Int} {bb : Nat} {sb9 : Nat} {f1 : Nat → Int} {ps2 : List Part} {f3 : Nat → Int} {fs5 : List Value} (hc : Cx X cL_told RL 18 10 182) {K : KT} (hr : CxR X (some .boolean) K) (e1 : At h n a3 (ai 48 f1)) (hP2 : PaF f1 ps2) (e3 : At h n a2 (ai 4 f3)) (hD4 : f3 0 = ps2.length) (e5 : At h n a0 (.inl (6, fs5))) (z5 : fs5.length = 6)
    (P : (0 ≤ x13 ∧ x13 < nA ps2) ∧ spec_X6_amplifier [.ref a0, .int (i3 x13), .int (i3 0)] n h (kc X bb sb9 551 [(0, .ref a0), (1, .int (i3 x1)), (2, .ref a2), (3, .ref a3), (4, .ref a4), (5, .ref a5), (6, .int (i3 x6)), (7, .int (i3 x7)), (8, .int (i3 x8)), (9, .int (i3 x9)), (10, .int (i3 x10)), (11, .int (i3 x11)), (12, .int (i3 x12)), (13, .int (i3 x13)), (14, .int (i3 (pOf ps2 x13)))] [] n)) :
    Ok X (bb + 1) (sb9 + 6) 538 [(0, .ref a0), (1, .int (i3 x1)), (2, .ref a2), (3, .ref a3), (4, .ref a4), (5, .ref a5), (6, .int (i3 x6)), (7, .int (i3 x7)), (8, .int (i3 x8)), (9, .int (i3 x9)), (10, .int (i3 x10)), (11, .int (i3 x11)), (12, .int (i3 x12)), (13, .int (i3 x13))] [] n h := by
  refine ok_iload (pc := 538) hc dL_told_538 13 rfl ?_
  refine ok_aload_n (pc := 540) hc dL_told_540 rfl 2 rfl ?_
  refine ok_aload_n (pc := 541) hc dL_told_541 rfl 3 rfl ?_
  obtain ⟨r0, P⟩ := P
  refine ok_callS (pc := 542) (cb := (bb + 1)) (sb := (sb9 + 6)) (st := []) hc [.int (i3 x13), .ref a2, .ref a3] cs_L_53 sp_L_place (by decide) dL_told_542 rfl rfl rfl rfl (Nat.le_of_ble_eq_true rfl) (⟨_, _, _, _, _, _, rfl, ⟨e3.1, e3.2⟩, ⟨e1.1, e1.2⟩, hD4, hP2, r0, rfl, ?_⟩)
  show Ok X (bb + 1) (sb9 + 6) (542 + 3) [(0, .ref a0), (1, .int (i3 x1)), (2, .ref a2), (3, .ref a3), (4, .ref a4), (5, .ref a5), (6, .int (i3 x6)), (7, .int (i3 x7)), (8, .int (i3 x8)), (9, .int (i3 x9)), (10, .int (i3 x10)), (11, .int (i3 x11)), (12, .int (i3 x12)), (13, .int (i3 x13))] [.int (i3 (pOf ps2 x13))] n h
  refine ok_istore (pc := 545) hc (lv' := [(14, .int (i3 (pOf ps2 x13))), (0, .ref a0), (1, .int (i3 x1)), (2, .ref a2), (3, .ref a3), (4, .ref a4), (5, .ref a5), (6, .int (i3 x6)), (7, .int (i3 x7)), (8, .int (i3 x8)), (9, .int (i3 x9)), (10, .int (i3 x10)), (11, .int (i3 x11)), (12, .int (i3 x12)), (13, .int (i3 x13))]) dL_told_545 (by decide) rfl ?_
  refine ok_aload_n (pc := 547) hc dL_told_547 rfl 1 rfl ?_
  refine ok_iload (pc := 548) hc dL_told_548 14 rfl ?_
  refine ok_iconst (pc := 550) hc (v := i3 0) dL_told_550 (by decide) ?_
  refine ok_lv [1, 2, 3, 4, 5, 6, 7, 8, 9, 10, 11, 12, 13, 14, 0] rfl ?_
  exact ok_callV (pc := 551) (a := a0) (cb := bb) (sb := sb9) (st := []) hc [.int (i3 x13), .int (i3 0)] cv_L_88 sp_X6_amplifier (by decide) dL_told_551 rfl e5.1 e5.2 rfl rfl rfl (Nat.le_of_ble_eq_true rfl) P

set_option maxHeartbeats 4000000 in
set_option maxRecDepth 100000 in
theorem sL_told_554 {X : Xt} {n : Nat} {h : HP} {a0 : Nat} {x1 : Int} {a2 : Nat} {a3 : Nat} {a4 : Nat} {a5 : Nat} {x6 : Int} {x7 : Int} {x8 : Int} {x9 : Int} {x10 : Int} {x11 : Int} {x12 : Int} {x13 : Int} {x14 : Int} {t0 : Int} {bb : Nat} {sb9 : Nat} (hc : Cx X cL_told RL 18 10 182) {K : KT} (hr : CxR X (some .boolean) K) 
    (P : (R3 t0) ∧ (R3 x14) ∧ (¬ t0 = x14 → K (.inl (some (.int (i3 0)))) n h) ∧ (t0 = x14 → Ok X bb sb9 559 [(0, .ref a0), (1, .int (i3 x1)), (2, .ref a2), (3, .ref a3), (4, .ref a4), (5, .ref a5), (6, .int (i3 x6)), (7, .int (i3 x7)), (8, .int (i3 x8)), (9, .int (i3 x9)), (10, .int (i3 x10)), (11, .int (i3 x11)), (12, .int (i3 x12)), (13, .int (i3 x13)), (14, .int (i3 x14))] [] n h)) :
    Ok X bb sb9 554 [(0, .ref a0), (1, .int (i3 x1)), (2, .ref a2), (3, .ref a3), (4, .ref a4), (5, .ref a5), (6, .int (i3 x6)), (7, .int (i3 x7)), (8, .int (i3 x8)), (9, .int (i3 x9)), (10, .int (i3 x10)), (11, .int (i3 x11)), (12, .int (i3 x12)), (13, .int (i3 x13)), (14, .int (i3 x14))] [.int (i3 t0)] n h := by
  refine ok_iload (pc := 554) hc dL_told_554 14 rfl ?_
  obtain ⟨r1, P⟩ := P
  obtain ⟨r2, P⟩ := P
  refine zk_icmp_ne (pc := 556) (tgt := 617) hc dL_told_556 (by decide) r1 r2 (fun c => ?_) (fun c => ?_)
  · have P := P.1 c
    refine ok_iconst (pc := 617) hc (v := i3 0) dL_told_617 (by decide) ?_
    exact ok_zret (st := []) (pc := 618) hc (nar_z (by decide)) hr dL_told_618 P
  · have P := P.2 c
    exact P

set_option maxHeartbeats 4000000 in
set_option maxRecDepth 100000 in
theorem sL_told_559 {X : Xt} {n : Nat} {h : HP} {a0 : Nat} {x1 : Int} {a2 : Nat} {a3 : Nat} {a4 : Nat} {a5 : Nat} {x6 : Int} {x7 : Int} {x8 : Int} {x9 : Int} {x10 : Int} {x11 : Int} {x12 : Int} {x13 : Int} {x14 : Int} {bb : Nat} {sb9 : Nat} {fs1 : List Value} (hc : Cx X cL_told RL 18 10 182) {K : KT} (hr : CxR X (some .boolean) K) (e1 : At h n a0 (.inl (6, fs1))) (z1 : fs1.length = 6)
    (P : spec_X6_amplifier [.ref a0, .int (i3 x13), .int (i3 1)] n h (kc X bb sb9 563 [(0, .ref a0), (1, .int (i3 x1)), (2, .ref a2), (3, .ref a3), (4, .ref a4), (5, .ref a5), (6, .int (i3 x6)), (7, .int (i3 x7)), (8, .int (i3 x8)), (9, .int (i3 x9)), (10, .int (i3 x10)), (11, .int (i3 x11)), (12, .int (i3 x12)), (13, .int (i3 x13)), (14, .int (i3 x14))] [] n)) :
    Ok X (bb + 1) (sb9 + 6) 559 [(0, .ref a0), (1, .int (i3 x1)), (2, .ref a2), (3, .ref a3), (4, .ref a4), (5, .ref a5), (6, .int (i3 x6)), (7, .int (i3 x7)), (8, .int (i3 x8)), (9, .int (i3 x9)), (10, .int (i3 x10)), (11, .int (i3 x11)), (12, .int (i3 x12)), (13, .int (i3 x13)), (14, .int (i3 x14))] [] n h := by
  refine ok_aload_n (pc := 559) hc dL_told_559 rfl 0 rfl ?_
  refine ok_iload (pc := 560) hc dL_told_560 13 rfl ?_
  refine ok_iconst (pc := 562) hc (v := i3 1) dL_told_562 (by decide) ?_
  exact ok_callV (pc := 563) (a := a0) (cb := bb) (sb := sb9) (st := []) hc [.int (i3 x13), .int (i3 1)] cv_L_88 sp_X6_amplifier (by decide) dL_told_563 rfl e1.1 e1.2 rfl rfl rfl (Nat.le_of_ble_eq_true rfl) P

set_option maxHeartbeats 4000000 in
set_option maxRecDepth 100000 in
theorem sL_told_566 {X : Xt} {n : Nat} {h : HP} {a0 : Nat} {x1 : Int} {a2 : Nat} {a3 : Nat} {a4 : Nat} {a5 : Nat} {x6 : Int} {x7 : Int} {x8 : Int} {x9 : Int} {x10 : Int} {x11 : Int} {x12 : Int} {x13 : Int} {x14 : Int} {t0 : Int} {bb : Nat} {sb9 : Nat} {f1 : Nat → Int} (hc : Cx X cL_told RL 18 10 182) {K : KT} (hr : CxR X (some .boolean) K) (e1 : At h n a2 (ai 4 f1))
    (P : (Ix 2 4) ∧ ((0 ≤ (f1 (2 : Int).toNat) ∧ (f1 (2 : Int).toNat) ≤ 2147483647) ∧ 0 ≤ x13 ∧ x13 < 4) ∧ (R3 t0) ∧ (R3 ((f1 (2 : Int).toNat) / 3 ^ (x13 : Int).toNat % 3)) ∧ (¬ t0 = ((f1 (2 : Int).toNat) / 3 ^ (x13 : Int).toNat % 3) → K (.inl (some (.int (i3 0)))) n h) ∧ (t0 = ((f1 (2 : Int).toNat) / 3 ^ (x13 : Int).toNat % 3) → Ok X bb sb9 577 [(0, .ref a0), (1, .int (i3 x1)), (2, .ref a2), (3, .ref a3), (4, .ref a4), (5, .ref a5), (6, .int (i3 x6)), (7, .int (i3 x7)), (8, .int (i3 x8)), (9, .int (i3 x9)), (10, .int (i3 x10)), (11, .int (i3 x11)), (12, .int (i3 x12)), (13, .int (i3 x13)), (14, .int (i3 x14))] [] n h)) :
    Ok X bb sb9 566 [(0, .ref a0), (1, .int (i3 x1)), (2, .ref a2), (3, .ref a3), (4, .ref a4), (5, .ref a5), (6, .int (i3 x6)), (7, .int (i3 x7)), (8, .int (i3 x8)), (9, .int (i3 x9)), (10, .int (i3 x10)), (11, .int (i3 x11)), (12, .int (i3 x12)), (13, .int (i3 x13)), (14, .int (i3 x14))] [.int (i3 t0)] n h := by
  refine ok_aload_n (pc := 566) hc dL_told_566 rfl 2 rfl ?_
  refine ok_iconst (pc := 567) hc (v := i3 2) dL_told_567 (by decide) ?_
  obtain ⟨r, P⟩ := P
  refine zk_iald (pc := 568) hc dL_told_568 e1.1 e1.2 r ?_
  refine ok_iload (pc := 569) hc dL_told_569 13 rfl ?_
  obtain ⟨r0, P⟩ := P
  refine ok_callS (pc := 571) (cb := bb) (sb := sb9) (st := [.int (i3 t0)]) hc [.int (i3 (f1 (2 : Int).toNat)), .int (i3 x13)] cs_L_33 sp_L_state (by decide) dL_told_571 rfl rfl rfl rfl (Nat.le_of_ble_eq_true rfl) (⟨_, _, rfl, r0, rfl, ?_⟩)
  show Ok X bb sb9 (571 + 3) [(0, .ref a0), (1, .int (i3 x1)), (2, .ref a2), (3, .ref a3), (4, .ref a4), (5, .ref a5), (6, .int (i3 x6)), (7, .int (i3 x7)), (8, .int (i3 x8)), (9, .int (i3 x9)), (10, .int (i3 x10)), (11, .int (i3 x11)), (12, .int (i3 x12)), (13, .int (i3 x13)), (14, .int (i3 x14))] [.int (i3 ((f1 (2 : Int).toNat) / 3 ^ (x13 : Int).toNat % 3)), .int (i3 t0)] n h
  obtain ⟨r2, P⟩ := P
  obtain ⟨r3, P⟩ := P
  refine zk_icmp_ne (pc := 574) (tgt := 617) hc dL_told_574 (by decide) r2 r3 (fun c => ?_) (fun c => ?_)
  · have P := P.1 c
    refine ok_iconst (pc := 617) hc (v := i3 0) dL_told_617 (by decide) ?_
    exact ok_zret (st := []) (pc := 618) hc (nar_z (by decide)) hr dL_told_618 P
  · have P := P.2 c
    exact P

set_option maxHeartbeats 4000000 in
set_option maxRecDepth 100000 in
theorem sL_told_577 {X : Xt} {n : Nat} {h : HP} {a0 : Nat} {x1 : Int} {a2 : Nat} {a3 : Nat} {a4 : Nat} {a5 : Nat} {x6 : Int} {x7 : Int} {x8 : Int} {x9 : Int} {x10 : Int} {x11 : Int} {x12 : Int} {x13 : Int} {x14 : Int} {bb : Nat} {sb9 : Nat} {fs1 : List Value} (hc : Cx X cL_told RL 18 10 182) {K : KT} (hr : CxR X (some .boolean) K) (e1 : At h n a0 (.inl (6, fs1))) (z1 : fs1.length = 6)
    (P : spec_X6_amplifier [.ref a0, .int (i3 x13), .int (i3 2)] n h (kc X bb sb9 581 [(0, .ref a0), (1, .int (i3 x1)), (2, .ref a2), (3, .ref a3), (4, .ref a4), (5, .ref a5), (6, .int (i3 x6)), (7, .int (i3 x7)), (8, .int (i3 x8)), (9, .int (i3 x9)), (10, .int (i3 x10)), (11, .int (i3 x11)), (12, .int (i3 x12)), (13, .int (i3 x13)), (14, .int (i3 x14))] [] n)) :
    Ok X (bb + 1) (sb9 + 6) 577 [(0, .ref a0), (1, .int (i3 x1)), (2, .ref a2), (3, .ref a3), (4, .ref a4), (5, .ref a5), (6, .int (i3 x6)), (7, .int (i3 x7)), (8, .int (i3 x8)), (9, .int (i3 x9)), (10, .int (i3 x10)), (11, .int (i3 x11)), (12, .int (i3 x12)), (13, .int (i3 x13)), (14, .int (i3 x14))] [] n h := by
  refine ok_aload_n (pc := 577) hc dL_told_577 rfl 0 rfl ?_
  refine ok_iload (pc := 578) hc dL_told_578 13 rfl ?_
  refine ok_iconst (pc := 580) hc (v := i3 2) dL_told_580 (by decide) ?_
  exact ok_callV (pc := 581) (a := a0) (cb := bb) (sb := sb9) (st := []) hc [.int (i3 x13), .int (i3 2)] cv_L_88 sp_X6_amplifier (by decide) dL_told_581 rfl e1.1 e1.2 rfl rfl rfl (Nat.le_of_ble_eq_true rfl) P

set_option maxHeartbeats 4000000 in
set_option maxRecDepth 100000 in
theorem sL_told_584 {X : Xt} {n : Nat} {h : HP} {a0 : Nat} {x1 : Int} {a2 : Nat} {a3 : Nat} {a4 : Nat} {a5 : Nat} {x6 : Int} {x7 : Int} {x8 : Int} {x9 : Int} {x10 : Int} {x11 : Int} {x12 : Int} {x13 : Int} {x14 : Int} {t0 : Int} {bb : Nat} {sb9 : Nat} (hc : Cx X cL_told RL 18 10 182) {K : KT} (hr : CxR X (some .boolean) K) 
    (P : (R3 x12) ∧ (x12 = 0 → Ok X bb sb9 613 [(0, .ref a0), (1, .int (i3 x1)), (2, .ref a2), (3, .ref a3), (4, .ref a4), (5, .ref a5), (6, .int (i3 x6)), (7, .int (i3 x7)), (8, .int (i3 x8)), (9, .int (i3 x9)), (10, .int (i3 x10)), (11, .int (i3 x11)), (12, .int (i3 x12)), (13, .int (i3 x13)), (14, .int (i3 x14))] [.int (i3 t0)] n h) ∧ (¬ x12 = 0 → Ok X bb sb9 589 [(0, .ref a0), (1, .int (i3 x1)), (2, .ref a2), (3, .ref a3), (4, .ref a4), (5, .ref a5), (6, .int (i3 x6)), (7, .int (i3 x7)), (8, .int (i3 x8)), (9, .int (i3 x9)), (10, .int (i3 x10)), (11, .int (i3 x11)), (12, .int (i3 x12)), (13, .int (i3 x13)), (14, .int (i3 x14))] [.int (i3 t0)] n h)) :
    Ok X bb sb9 584 [(0, .ref a0), (1, .int (i3 x1)), (2, .ref a2), (3, .ref a3), (4, .ref a4), (5, .ref a5), (6, .int (i3 x6)), (7, .int (i3 x7)), (8, .int (i3 x8)), (9, .int (i3 x9)), (10, .int (i3 x10)), (11, .int (i3 x11)), (12, .int (i3 x12)), (13, .int (i3 x13)), (14, .int (i3 x14))] [.int (i3 t0)] n h := by
  refine ok_iload (pc := 584) hc dL_told_584 12 rfl ?_
  obtain ⟨r1, P⟩ := P
  refine zk_if_eq (pc := 586) (tgt := 613) hc dL_told_586 (by decide) r1 (fun c => ?_) (fun c => ?_)
  · have P := P.1 c
    exact P
  · have P := P.2 c
    exact P

set_option maxHeartbeats 4000000 in
set_option maxRecDepth 100000 in
theorem sL_told_589 {X : Xt} {n : Nat} {h : HP} {a0 : Nat} {x1 : Int} {a2 : Nat} {a3 : Nat} {a4 : Nat} {a5 : Nat} {x6 : Int} {x7 : Int} {x8 : Int} {x9 : Int} {x10 : Int} {x11 : Int} {x12 : Int} {x13 : Int} {x14 : Int} {t0 : Int} {bb : Nat} {sb9 : Nat} {f1 : Nat → Int} {f2 : Nat → Int} {qs3 : List Part} {m3 : Nat} {γ3 : Nat → Int} (hc : Cx X cL_told RL 18 10 182) {K : KT} (hr : CxR X (some .boolean) K) (e1 : At h n a3 (ai 48 f1)) (e2 : At h n a4 (al 56 f2)) (hS3 : Svd qs3 m3 γ3 f2)
    (P : (Ix ((4 * x14) + 1) 48) ∧ (Ix ((4 * x14) + 2) 48) ∧ ((0 ≤ (f1 (((4 * x14) + 1) : Int).toNat) ∧ (f1 (((4 * x14) + 1) : Int).toNat) < 7) ∧ 0 ≤ (f1 (((4 * x14) + 2) : Int).toNat) ∧ (f1 (((4 * x14) + 2) : Int).toNat) < 7) ∧ (R3 t0) ∧ (R3 (cmpZ (numer qs3 m3 γ3 ((f1 (((4 * x14) + 1) : Int).toNat) : Int).toNat) (numer qs3 m3 γ3 ((f1 (((4 * x14) + 2) : Int).toNat) : Int).toNat))) ∧ (t0 = (cmpZ (numer qs3 m3 γ3 ((f1 (((4 * x14) + 1) : Int).toNat) : Int).toNat) (numer qs3 m3 γ3 ((f1 (((4 * x14) + 2) : Int).toNat) : Int).toNat)) → Ok X bb sb9 531 [(0, .ref a0), (1, .int (i3 x1)), (2, .ref a2), (3, .ref a3), (4, .ref a4), (5, .ref a5), (6, .int (i3 x6)), (7, .int (i3 x7)), (8, .int (i3 x8)), (9, .int (i3 x9)), (10, .int (i3 x10)), (11, .int (i3 x11)), (12, .int (i3 x12)), (13, .int (i3 (x13 + 1)))] [] n h) ∧ (¬ t0 = (cmpZ (numer qs3 m3 γ3 ((f1 (((4 * x14) + 1) : Int).toNat) : Int).toNat) (numer qs3 m3 γ3 ((f1 (((4 * x14) + 2) : Int).toNat) : Int).toNat)) → K (.inl (some (.int (i3 0)))) n h)) :
    Ok X bb sb9 589 [(0, .ref a0), (1, .int (i3 x1)), (2, .ref a2), (3, .ref a3), (4, .ref a4), (5, .ref a5), (6, .int (i3 x6)), (7, .int (i3 x7)), (8, .int (i3 x8)), (9, .int (i3 x9)), (10, .int (i3 x10)), (11, .int (i3 x11)), (12, .int (i3 x12)), (13, .int (i3 x13)), (14, .int (i3 x14))] [.int (i3 t0)] n h := by
  refine ok_aload_n (pc := 589) hc dL_told_589 rfl 3 rfl ?_
  refine ok_iconst (pc := 590) hc (v := i3 4) dL_told_590 (by decide) ?_
  refine ok_iload (pc := 591) hc dL_told_591 14 rfl ?_
  refine zk_imul (pc := 593) hc dL_told_593 ?_
  refine ok_iconst (pc := 594) hc (v := i3 1) dL_told_594 (by decide) ?_
  refine zk_iadd (pc := 595) hc dL_told_595 ?_
  obtain ⟨r, P⟩ := P
  refine zk_iald (pc := 596) hc dL_told_596 e1.1 e1.2 r ?_
  refine ok_aload_n (pc := 597) hc dL_told_597 rfl 3 rfl ?_
  refine ok_iconst (pc := 598) hc (v := i3 4) dL_told_598 (by decide) ?_
  refine ok_iload (pc := 599) hc dL_told_599 14 rfl ?_
  refine zk_imul (pc := 601) hc dL_told_601 ?_
  refine ok_iconst (pc := 602) hc (v := i3 2) dL_told_602 (by decide) ?_
  refine zk_iadd (pc := 603) hc dL_told_603 ?_
  obtain ⟨r, P⟩ := P
  refine zk_iald (pc := 604) hc dL_told_604 e1.1 e1.2 r ?_
  refine ok_aload (pc := 605) hc dL_told_605 4 rfl ?_
  obtain ⟨r0, P⟩ := P
  refine ok_callS (pc := 607) (cb := bb) (sb := sb9) (st := [.int (i3 t0)]) hc [.int (i3 (f1 (((4 * x14) + 1) : Int).toNat)), .int (i3 (f1 (((4 * x14) + 2) : Int).toNat)), .ref a4] cs_L_56 sp_L_higher (by decide) dL_told_607 rfl rfl rfl rfl (Nat.le_of_ble_eq_true rfl) (⟨_, _, _, _, _, _, _, rfl, ⟨e2.1, e2.2⟩, hS3, r0, rfl, ?_⟩)
  show Ok X bb sb9 (607 + 3) [(0, .ref a0), (1, .int (i3 x1)), (2, .ref a2), (3, .ref a3), (4, .ref a4), (5, .ref a5), (6, .int (i3 x6)), (7, .int (i3 x7)), (8, .int (i3 x8)), (9, .int (i3 x9)), (10, .int (i3 x10)), (11, .int (i3 x11)), (12, .int (i3 x12)), (13, .int (i3 x13)), (14, .int (i3 x14))] [.int (i3 (cmpZ (numer qs3 m3 γ3 ((f1 (((4 * x14) + 1) : Int).toNat) : Int).toNat) (numer qs3 m3 γ3 ((f1 (((4 * x14) + 2) : Int).toNat) : Int).toNat))), .int (i3 t0)] n h
  refine ok_goto (pc := 610) (tgt := 614) hc dL_told_610 (by decide) ?_
  obtain ⟨r4, P⟩ := P
  obtain ⟨r5, P⟩ := P
  refine zk_icmp_eq (pc := 614) (tgt := 619) hc dL_told_614 (by decide) r4 r5 (fun c => ?_) (fun c => ?_)
  · have P := P.1 c
    refine zk_iinc (pc := 619) hc (q := 13) (x := x13) (lv' := [(13, .int (i3 (x13 + 1))), (0, .ref a0), (1, .int (i3 x1)), (2, .ref a2), (3, .ref a3), (4, .ref a4), (5, .ref a5), (6, .int (i3 x6)), (7, .int (i3 x7)), (8, .int (i3 x8)), (9, .int (i3 x9)), (10, .int (i3 x10)), (11, .int (i3 x11)), (12, .int (i3 x12)), (14, .int (i3 x14))]) dL_told_619 rfl (by decide) rfl ?_
    refine ok_goto (pc := 622) (tgt := 531) hc dL_told_622 (by decide) ?_
    refine ok_lv [1, 2, 3, 4, 5, 6, 7, 8, 9, 10, 11, 12, 13, 0] rfl ?_
    exact P
  · have P := P.2 c
    refine ok_iconst (pc := 617) hc (v := i3 0) dL_told_617 (by decide) ?_
    exact ok_zret (st := []) (pc := 618) hc (nar_z (by decide)) hr dL_told_618 P

set_option maxHeartbeats 4000000 in
set_option maxRecDepth 100000 in
theorem sL_told_613 {X : Xt} {n : Nat} {h : HP} {a0 : Nat} {x1 : Int} {a2 : Nat} {a3 : Nat} {a4 : Nat} {a5 : Nat} {x6 : Int} {x7 : Int} {x8 : Int} {x9 : Int} {x10 : Int} {x11 : Int} {x12 : Int} {x13 : Int} {x14 : Int} {t0 : Int} {bb : Nat} {sb9 : Nat} (hc : Cx X cL_told RL 18 10 182) {K : KT} (hr : CxR X (some .boolean) K) 
    (P : (R3 t0) ∧ (t0 = 0 → Ok X bb sb9 531 [(0, .ref a0), (1, .int (i3 x1)), (2, .ref a2), (3, .ref a3), (4, .ref a4), (5, .ref a5), (6, .int (i3 x6)), (7, .int (i3 x7)), (8, .int (i3 x8)), (9, .int (i3 x9)), (10, .int (i3 x10)), (11, .int (i3 x11)), (12, .int (i3 x12)), (13, .int (i3 (x13 + 1)))] [] n h) ∧ (¬ t0 = 0 → K (.inl (some (.int (i3 0)))) n h)) :
    Ok X bb sb9 613 [(0, .ref a0), (1, .int (i3 x1)), (2, .ref a2), (3, .ref a3), (4, .ref a4), (5, .ref a5), (6, .int (i3 x6)), (7, .int (i3 x7)), (8, .int (i3 x8)), (9, .int (i3 x9)), (10, .int (i3 x10)), (11, .int (i3 x11)), (12, .int (i3 x12)), (13, .int (i3 x13)), (14, .int (i3 x14))] [.int (i3 t0)] n h := by
  refine ok_iconst (pc := 613) hc (v := i3 0) dL_told_613 (by decide) ?_
  obtain ⟨r1, P⟩ := P
  refine zk_icmp_eq (pc := 614) (tgt := 619) hc dL_told_614 (by decide) r1 ⟨by decide, by decide⟩ (fun c => ?_) (fun c => ?_)
  · have P := P.1 c
    refine zk_iinc (pc := 619) hc (q := 13) (x := x13) (lv' := [(13, .int (i3 (x13 + 1))), (0, .ref a0), (1, .int (i3 x1)), (2, .ref a2), (3, .ref a3), (4, .ref a4), (5, .ref a5), (6, .int (i3 x6)), (7, .int (i3 x7)), (8, .int (i3 x8)), (9, .int (i3 x9)), (10, .int (i3 x10)), (11, .int (i3 x11)), (12, .int (i3 x12)), (14, .int (i3 x14))]) dL_told_619 rfl (by decide) rfl ?_
    refine ok_goto (pc := 622) (tgt := 531) hc dL_told_622 (by decide) ?_
    refine ok_lv [1, 2, 3, 4, 5, 6, 7, 8, 9, 10, 11, 12, 13, 0] rfl ?_
    exact P
  · have P := P.2 c
    refine ok_iconst (pc := 617) hc (v := i3 0) dL_told_617 (by decide) ?_
    exact ok_zret (st := []) (pc := 618) hc (nar_z (by decide)) hr dL_told_618 P

set_option maxHeartbeats 4000000 in
set_option maxRecDepth 100000 in
theorem sL_told_625 {X : Xt} {n : Nat} {h : HP} {a0 : Nat} {x1 : Int} {a2 : Nat} {a3 : Nat} {a4 : Nat} {a5 : Nat} {x6 : Int} {x7 : Int} {x8 : Int} {x9 : Int} {x10 : Int} {x11 : Int} {x12 : Int} {x13 : Int} {bb : Nat} {sb9 : Nat} {fs1 : List Value} (hc : Cx X cL_told RL 18 10 182) {K : KT} (hr : CxR X (some .boolean) K) (e1 : At h n a0 (.inl (6, fs1))) (z1 : fs1.length = 6)
    (P : spec_X6_count [.ref a0, .int (i3 0)] n h (kc X bb sb9 627 [(0, .ref a0), (1, .int (i3 x1)), (2, .ref a2), (3, .ref a3), (4, .ref a4), (5, .ref a5), (6, .int (i3 x6)), (7, .int (i3 x7)), (8, .int (i3 x8)), (9, .int (i3 x9)), (10, .int (i3 x10)), (11, .int (i3 x11)), (12, .int (i3 x12)), (13, .int (i3 x13))] [] n)) :
    Ok X (bb + 1) (sb9 + 6) 625 [(0, .ref a0), (1, .int (i3 x1)), (2, .ref a2), (3, .ref a3), (4, .ref a4), (5, .ref a5), (6, .int (i3 x6)), (7, .int (i3 x7)), (8, .int (i3 x8)), (9, .int (i3 x9)), (10, .int (i3 x10)), (11, .int (i3 x11)), (12, .int (i3 x12)), (13, .int (i3 x13))] [] n h := by
  refine ok_aload_n (pc := 625) hc dL_told_625 rfl 0 rfl ?_
  refine ok_iconst (pc := 626) hc (v := i3 0) dL_told_626 (by decide) ?_
  exact ok_callV (pc := 627) (a := a0) (cb := bb) (sb := sb9) (st := []) hc [.int (i3 0)] cv_L_91 sp_X6_count (by decide) dL_told_627 rfl e1.1 e1.2 rfl rfl rfl (Nat.le_of_ble_eq_true rfl) P

set_option maxHeartbeats 4000000 in
set_option maxRecDepth 100000 in
theorem sL_told_630 {X : Xt} {n : Nat} {h : HP} {a0 : Nat} {x1 : Int} {a2 : Nat} {a3 : Nat} {a4 : Nat} {a5 : Nat} {x6 : Int} {x7 : Int} {x8 : Int} {x9 : Int} {x10 : Int} {x11 : Int} {x12 : Int} {x13 : Int} {t0 : Int} {bb : Nat} {sb9 : Nat} {f1 : Nat → Int} (hc : Cx X cL_told RL 18 10 182) {K : KT} (hr : CxR X (some .boolean) K) (e1 : At h n a2 (ai 4 f1))
    (P : (Ix 0 4) ∧ (R3 t0) ∧ (R3 (f1 (0 : Int).toNat)) ∧ (¬ t0 = (f1 (0 : Int).toNat) → K (.inl (some (.int (i3 0)))) n h) ∧ (t0 = (f1 (0 : Int).toNat) → Ok X bb sb9 636 [(0, .ref a0), (1, .int (i3 x1)), (2, .ref a2), (3, .ref a3), (4, .ref a4), (5, .ref a5), (6, .int (i3 x6)), (7, .int (i3 x7)), (8, .int (i3 x8)), (9, .int (i3 x9)), (10, .int (i3 x10)), (11, .int (i3 x11)), (12, .int (i3 x12)), (13, .int (i3 x13))] [] n h)) :
    Ok X bb sb9 630 [(0, .ref a0), (1, .int (i3 x1)), (2, .ref a2), (3, .ref a3), (4, .ref a4), (5, .ref a5), (6, .int (i3 x6)), (7, .int (i3 x7)), (8, .int (i3 x8)), (9, .int (i3 x9)), (10, .int (i3 x10)), (11, .int (i3 x11)), (12, .int (i3 x12)), (13, .int (i3 x13))] [.int (i3 t0)] n h := by
  refine ok_aload_n (pc := 630) hc dL_told_630 rfl 2 rfl ?_
  refine ok_iconst (pc := 631) hc (v := i3 0) dL_told_631 (by decide) ?_
  obtain ⟨r, P⟩ := P
  refine zk_iald (pc := 632) hc dL_told_632 e1.1 e1.2 r ?_
  obtain ⟨r2, P⟩ := P
  obtain ⟨r3, P⟩ := P
  refine zk_icmp_ne (pc := 633) (tgt := 711) hc dL_told_633 (by decide) r2 r3 (fun c => ?_) (fun c => ?_)
  · have P := P.1 c
    refine ok_iconst (pc := 711) hc (v := i3 0) dL_told_711 (by decide) ?_
    exact ok_zret (st := []) (pc := 712) hc (nar_z (by decide)) hr dL_told_712 P
  · have P := P.2 c
    exact P

set_option maxHeartbeats 4000000 in
set_option maxRecDepth 100000 in
theorem sL_told_636 {X : Xt} {n : Nat} {h : HP} {a0 : Nat} {x1 : Int} {a2 : Nat} {a3 : Nat} {a4 : Nat} {a5 : Nat} {x6 : Int} {x7 : Int} {x8 : Int} {x9 : Int} {x10 : Int} {x11 : Int} {x12 : Int} {x13 : Int} {bb : Nat} {sb9 : Nat} {fs1 : List Value} (hc : Cx X cL_told RL 18 10 182) {K : KT} (hr : CxR X (some .boolean) K) (e1 : At h n a0 (.inl (6, fs1))) (z1 : fs1.length = 6)
    (P : spec_X6_count [.ref a0, .int (i3 1)] n h (kc X bb sb9 638 [(0, .ref a0), (1, .int (i3 x1)), (2, .ref a2), (3, .ref a3), (4, .ref a4), (5, .ref a5), (6, .int (i3 x6)), (7, .int (i3 x7)), (8, .int (i3 x8)), (9, .int (i3 x9)), (10, .int (i3 x10)), (11, .int (i3 x11)), (12, .int (i3 x12)), (13, .int (i3 x13))] [] n)) :
    Ok X (bb + 1) (sb9 + 6) 636 [(0, .ref a0), (1, .int (i3 x1)), (2, .ref a2), (3, .ref a3), (4, .ref a4), (5, .ref a5), (6, .int (i3 x6)), (7, .int (i3 x7)), (8, .int (i3 x8)), (9, .int (i3 x9)), (10, .int (i3 x10)), (11, .int (i3 x11)), (12, .int (i3 x12)), (13, .int (i3 x13))] [] n h := by
  refine ok_aload_n (pc := 636) hc dL_told_636 rfl 0 rfl ?_
  refine ok_iconst (pc := 637) hc (v := i3 1) dL_told_637 (by decide) ?_
  exact ok_callV (pc := 638) (a := a0) (cb := bb) (sb := sb9) (st := []) hc [.int (i3 1)] cv_L_91 sp_X6_count (by decide) dL_told_638 rfl e1.1 e1.2 rfl rfl rfl (Nat.le_of_ble_eq_true rfl) P

set_option maxHeartbeats 4000000 in
set_option maxRecDepth 100000 in
theorem sL_told_641 {X : Xt} {n : Nat} {h : HP} {a0 : Nat} {x1 : Int} {a2 : Nat} {a3 : Nat} {a4 : Nat} {a5 : Nat} {x6 : Int} {x7 : Int} {x8 : Int} {x9 : Int} {x10 : Int} {x11 : Int} {x12 : Int} {x13 : Int} {t0 : Int} {bb : Nat} {sb9 : Nat} (hc : Cx X cL_told RL 18 10 182) {K : KT} (hr : CxR X (some .boolean) K) 
    (P : (R3 t0) ∧ (R3 x6) ∧ (¬ t0 = x6 → K (.inl (some (.int (i3 0)))) n h) ∧ (t0 = x6 → Ok X bb sb9 646 [(0, .ref a0), (1, .int (i3 x1)), (2, .ref a2), (3, .ref a3), (4, .ref a4), (5, .ref a5), (6, .int (i3 x6)), (7, .int (i3 x7)), (8, .int (i3 x8)), (9, .int (i3 x9)), (10, .int (i3 x10)), (11, .int (i3 x11)), (12, .int (i3 x12)), (13, .int (i3 x13))] [] n h)) :
    Ok X bb sb9 641 [(0, .ref a0), (1, .int (i3 x1)), (2, .ref a2), (3, .ref a3), (4, .ref a4), (5, .ref a5), (6, .int (i3 x6)), (7, .int (i3 x7)), (8, .int (i3 x8)), (9, .int (i3 x9)), (10, .int (i3 x10)), (11, .int (i3 x11)), (12, .int (i3 x12)), (13, .int (i3 x13))] [.int (i3 t0)] n h := by
  refine ok_iload (pc := 641) hc dL_told_641 6 rfl ?_
  obtain ⟨r1, P⟩ := P
  obtain ⟨r2, P⟩ := P
  refine zk_icmp_ne (pc := 643) (tgt := 711) hc dL_told_643 (by decide) r1 r2 (fun c => ?_) (fun c => ?_)
  · have P := P.1 c
    refine ok_iconst (pc := 711) hc (v := i3 0) dL_told_711 (by decide) ?_
    exact ok_zret (st := []) (pc := 712) hc (nar_z (by decide)) hr dL_told_712 P
  · have P := P.2 c
    exact P

set_option maxHeartbeats 4000000 in
set_option maxRecDepth 100000 in
theorem sL_told_646 {X : Xt} {n : Nat} {h : HP} {a0 : Nat} {x1 : Int} {a2 : Nat} {a3 : Nat} {a4 : Nat} {a5 : Nat} {x6 : Int} {x7 : Int} {x8 : Int} {x9 : Int} {x10 : Int} {x11 : Int} {x12 : Int} {x13 : Int} {bb : Nat} {sb9 : Nat} {fs1 : List Value} (hc : Cx X cL_told RL 18 10 182) {K : KT} (hr : CxR X (some .boolean) K) (e1 : At h n a0 (.inl (6, fs1))) (z1 : fs1.length = 6)
    (P : spec_X6_count [.ref a0, .int (i3 2)] n h (kc X bb sb9 648 [(0, .ref a0), (1, .int (i3 x1)), (2, .ref a2), (3, .ref a3), (4, .ref a4), (5, .ref a5), (6, .int (i3 x6)), (7, .int (i3 x7)), (8, .int (i3 x8)), (9, .int (i3 x9)), (10, .int (i3 x10)), (11, .int (i3 x11)), (12, .int (i3 x12)), (13, .int (i3 x13))] [] n)) :
    Ok X (bb + 1) (sb9 + 6) 646 [(0, .ref a0), (1, .int (i3 x1)), (2, .ref a2), (3, .ref a3), (4, .ref a4), (5, .ref a5), (6, .int (i3 x6)), (7, .int (i3 x7)), (8, .int (i3 x8)), (9, .int (i3 x9)), (10, .int (i3 x10)), (11, .int (i3 x11)), (12, .int (i3 x12)), (13, .int (i3 x13))] [] n h := by
  refine ok_aload_n (pc := 646) hc dL_told_646 rfl 0 rfl ?_
  refine ok_iconst (pc := 647) hc (v := i3 2) dL_told_647 (by decide) ?_
  exact ok_callV (pc := 648) (a := a0) (cb := bb) (sb := sb9) (st := []) hc [.int (i3 2)] cv_L_91 sp_X6_count (by decide) dL_told_648 rfl e1.1 e1.2 rfl rfl rfl (Nat.le_of_ble_eq_true rfl) P

set_option maxHeartbeats 4000000 in
set_option maxRecDepth 100000 in
theorem sL_told_651 {X : Xt} {n : Nat} {h : HP} {a0 : Nat} {x1 : Int} {a2 : Nat} {a3 : Nat} {a4 : Nat} {a5 : Nat} {x6 : Int} {x7 : Int} {x8 : Int} {x9 : Int} {x10 : Int} {x11 : Int} {x12 : Int} {x13 : Int} {t0 : Int} {bb : Nat} {sb9 : Nat} {f1 : Nat → Int} (hc : Cx X cL_told RL 18 10 182) {K : KT} (hr : CxR X (some .boolean) K) (e1 : At h n a2 (ai 4 f1))
    (P : (Ix 1 4) ∧ (R3 t0) ∧ (R3 (f1 (1 : Int).toNat)) ∧ (¬ t0 = (f1 (1 : Int).toNat) → K (.inl (some (.int (i3 0)))) n h) ∧ (t0 = (f1 (1 : Int).toNat) → Ok X bb sb9 657 [(0, .ref a0), (1, .int (i3 x1)), (2, .ref a2), (3, .ref a3), (4, .ref a4), (5, .ref a5), (6, .int (i3 x6)), (7, .int (i3 x7)), (8, .int (i3 x8)), (9, .int (i3 x9)), (10, .int (i3 x10)), (11, .int (i3 x11)), (12, .int (i3 x12)), (13, .int (i3 x13))] [] n h)) :
    Ok X bb sb9 651 [(0, .ref a0), (1, .int (i3 x1)), (2, .ref a2), (3, .ref a3), (4, .ref a4), (5, .ref a5), (6, .int (i3 x6)), (7, .int (i3 x7)), (8, .int (i3 x8)), (9, .int (i3 x9)), (10, .int (i3 x10)), (11, .int (i3 x11)), (12, .int (i3 x12)), (13, .int (i3 x13))] [.int (i3 t0)] n h := by
  refine ok_aload_n (pc := 651) hc dL_told_651 rfl 2 rfl ?_
  refine ok_iconst (pc := 652) hc (v := i3 1) dL_told_652 (by decide) ?_
  obtain ⟨r, P⟩ := P
  refine zk_iald (pc := 653) hc dL_told_653 e1.1 e1.2 r ?_
  obtain ⟨r2, P⟩ := P
  obtain ⟨r3, P⟩ := P
  refine zk_icmp_ne (pc := 654) (tgt := 711) hc dL_told_654 (by decide) r2 r3 (fun c => ?_) (fun c => ?_)
  · have P := P.1 c
    refine ok_iconst (pc := 711) hc (v := i3 0) dL_told_711 (by decide) ?_
    exact ok_zret (st := []) (pc := 712) hc (nar_z (by decide)) hr dL_told_712 P
  · have P := P.2 c
    exact P

set_option maxHeartbeats 4000000 in
set_option maxRecDepth 100000 in
theorem sL_told_657 {X : Xt} {n : Nat} {h : HP} {a0 : Nat} {x1 : Int} {a2 : Nat} {a3 : Nat} {a4 : Nat} {a5 : Nat} {x6 : Int} {x7 : Int} {x8 : Int} {x9 : Int} {x10 : Int} {x11 : Int} {x12 : Int} {x13 : Int} {bb : Nat} {sb9 : Nat} {fs1 : List Value} (hc : Cx X cL_told RL 18 10 182) {K : KT} (hr : CxR X (some .boolean) K) (e1 : At h n a0 (.inl (6, fs1))) (z1 : fs1.length = 6)
    (P : spec_X6_count [.ref a0, .int (i3 3)] n h (kc X bb sb9 659 [(0, .ref a0), (1, .int (i3 x1)), (2, .ref a2), (3, .ref a3), (4, .ref a4), (5, .ref a5), (6, .int (i3 x6)), (7, .int (i3 x7)), (8, .int (i3 x8)), (9, .int (i3 x9)), (10, .int (i3 x10)), (11, .int (i3 x11)), (12, .int (i3 x12)), (13, .int (i3 x13))] [] n)) :
    Ok X (bb + 1) (sb9 + 6) 657 [(0, .ref a0), (1, .int (i3 x1)), (2, .ref a2), (3, .ref a3), (4, .ref a4), (5, .ref a5), (6, .int (i3 x6)), (7, .int (i3 x7)), (8, .int (i3 x8)), (9, .int (i3 x9)), (10, .int (i3 x10)), (11, .int (i3 x11)), (12, .int (i3 x12)), (13, .int (i3 x13))] [] n h := by
  refine ok_aload_n (pc := 657) hc dL_told_657 rfl 0 rfl ?_
  refine ok_iconst (pc := 658) hc (v := i3 3) dL_told_658 (by decide) ?_
  exact ok_callV (pc := 659) (a := a0) (cb := bb) (sb := sb9) (st := []) hc [.int (i3 3)] cv_L_91 sp_X6_count (by decide) dL_told_659 rfl e1.1 e1.2 rfl rfl rfl (Nat.le_of_ble_eq_true rfl) P

set_option maxHeartbeats 4000000 in
set_option maxRecDepth 100000 in
theorem sL_told_662 {X : Xt} {n : Nat} {h : HP} {a0 : Nat} {x1 : Int} {a2 : Nat} {a3 : Nat} {a4 : Nat} {a5 : Nat} {x6 : Int} {x7 : Int} {x8 : Int} {x9 : Int} {x10 : Int} {x11 : Int} {x12 : Int} {x13 : Int} {t0 : Int} {bb : Nat} {sb9 : Nat} {f1 : Nat → Int} (hc : Cx X cL_told RL 18 10 182) {K : KT} (hr : CxR X (some .boolean) K) (e1 : At h n a2 (ai 4 f1))
    (P : (Ix 2 4) ∧ (R3 t0) ∧ (R3 (f1 (2 : Int).toNat)) ∧ (¬ t0 = (f1 (2 : Int).toNat) → K (.inl (some (.int (i3 0)))) n h) ∧ (t0 = (f1 (2 : Int).toNat) → Ok X bb sb9 668 [(0, .ref a0), (1, .int (i3 x1)), (2, .ref a2), (3, .ref a3), (4, .ref a4), (5, .ref a5), (6, .int (i3 x6)), (7, .int (i3 x7)), (8, .int (i3 x8)), (9, .int (i3 x9)), (10, .int (i3 x10)), (11, .int (i3 x11)), (12, .int (i3 x12)), (13, .int (i3 x13))] [] n h)) :
    Ok X bb sb9 662 [(0, .ref a0), (1, .int (i3 x1)), (2, .ref a2), (3, .ref a3), (4, .ref a4), (5, .ref a5), (6, .int (i3 x6)), (7, .int (i3 x7)), (8, .int (i3 x8)), (9, .int (i3 x9)), (10, .int (i3 x10)), (11, .int (i3 x11)), (12, .int (i3 x12)), (13, .int (i3 x13))] [.int (i3 t0)] n h := by
  refine ok_aload_n (pc := 662) hc dL_told_662 rfl 2 rfl ?_
  refine ok_iconst (pc := 663) hc (v := i3 2) dL_told_663 (by decide) ?_
  obtain ⟨r, P⟩ := P
  refine zk_iald (pc := 664) hc dL_told_664 e1.1 e1.2 r ?_
  obtain ⟨r2, P⟩ := P
  obtain ⟨r3, P⟩ := P
  refine zk_icmp_ne (pc := 665) (tgt := 711) hc dL_told_665 (by decide) r2 r3 (fun c => ?_) (fun c => ?_)
  · have P := P.1 c
    refine ok_iconst (pc := 711) hc (v := i3 0) dL_told_711 (by decide) ?_
    exact ok_zret (st := []) (pc := 712) hc (nar_z (by decide)) hr dL_told_712 P
  · have P := P.2 c
    exact P

set_option maxHeartbeats 4000000 in
set_option maxRecDepth 100000 in
theorem sL_told_668 {X : Xt} {n : Nat} {h : HP} {a0 : Nat} {x1 : Int} {a2 : Nat} {a3 : Nat} {a4 : Nat} {a5 : Nat} {x6 : Int} {x7 : Int} {x8 : Int} {x9 : Int} {x10 : Int} {x11 : Int} {x12 : Int} {x13 : Int} {bb : Nat} {sb9 : Nat} {fs1 : List Value} (hc : Cx X cL_told RL 18 10 182) {K : KT} (hr : CxR X (some .boolean) K) (e1 : At h n a0 (.inl (6, fs1))) (z1 : fs1.length = 6)
    (P : spec_X6_count [.ref a0, .int (i3 4)] n h (kc X bb sb9 670 [(0, .ref a0), (1, .int (i3 x1)), (2, .ref a2), (3, .ref a3), (4, .ref a4), (5, .ref a5), (6, .int (i3 x6)), (7, .int (i3 x7)), (8, .int (i3 x8)), (9, .int (i3 x9)), (10, .int (i3 x10)), (11, .int (i3 x11)), (12, .int (i3 x12)), (13, .int (i3 x13))] [] n)) :
    Ok X (bb + 1) (sb9 + 6) 668 [(0, .ref a0), (1, .int (i3 x1)), (2, .ref a2), (3, .ref a3), (4, .ref a4), (5, .ref a5), (6, .int (i3 x6)), (7, .int (i3 x7)), (8, .int (i3 x8)), (9, .int (i3 x9)), (10, .int (i3 x10)), (11, .int (i3 x11)), (12, .int (i3 x12)), (13, .int (i3 x13))] [] n h := by
  refine ok_aload_n (pc := 668) hc dL_told_668 rfl 0 rfl ?_
  refine ok_iconst (pc := 669) hc (v := i3 4) dL_told_669 (by decide) ?_
  exact ok_callV (pc := 670) (a := a0) (cb := bb) (sb := sb9) (st := []) hc [.int (i3 4)] cv_L_91 sp_X6_count (by decide) dL_told_670 rfl e1.1 e1.2 rfl rfl rfl (Nat.le_of_ble_eq_true rfl) P

set_option maxHeartbeats 4000000 in
set_option maxRecDepth 100000 in
theorem sL_told_673 {X : Xt} {n : Nat} {h : HP} {a0 : Nat} {x1 : Int} {a2 : Nat} {a3 : Nat} {a4 : Nat} {a5 : Nat} {x6 : Int} {x7 : Int} {x8 : Int} {x9 : Int} {x10 : Int} {x11 : Int} {x12 : Int} {x13 : Int} {t0 : Int} {bb : Nat} {sb9 : Nat} {f1 : Nat → Int} (hc : Cx X cL_told RL 18 10 182) {K : KT} (hr : CxR X (some .boolean) K) (e1 : At h n a2 (ai 4 f1))
    (P : (Ix 3 4) ∧ (R3 t0) ∧ (R3 (f1 (3 : Int).toNat)) ∧ (¬ t0 = (f1 (3 : Int).toNat) → K (.inl (some (.int (i3 0)))) n h) ∧ (t0 = (f1 (3 : Int).toNat) → Ok X bb sb9 679 [(0, .ref a0), (1, .int (i3 x1)), (2, .ref a2), (3, .ref a3), (4, .ref a4), (5, .ref a5), (6, .int (i3 x6)), (7, .int (i3 x7)), (8, .int (i3 x8)), (9, .int (i3 x9)), (10, .int (i3 x10)), (11, .int (i3 x11)), (12, .int (i3 x12)), (13, .int (i3 x13))] [] n h)) :
    Ok X bb sb9 673 [(0, .ref a0), (1, .int (i3 x1)), (2, .ref a2), (3, .ref a3), (4, .ref a4), (5, .ref a5), (6, .int (i3 x6)), (7, .int (i3 x7)), (8, .int (i3 x8)), (9, .int (i3 x9)), (10, .int (i3 x10)), (11, .int (i3 x11)), (12, .int (i3 x12)), (13, .int (i3 x13))] [.int (i3 t0)] n h := by
  refine ok_aload_n (pc := 673) hc dL_told_673 rfl 2 rfl ?_
  refine ok_iconst (pc := 674) hc (v := i3 3) dL_told_674 (by decide) ?_
  obtain ⟨r, P⟩ := P
  refine zk_iald (pc := 675) hc dL_told_675 e1.1 e1.2 r ?_
  obtain ⟨r2, P⟩ := P
  obtain ⟨r3, P⟩ := P
  refine zk_icmp_ne (pc := 676) (tgt := 711) hc dL_told_676 (by decide) r2 r3 (fun c => ?_) (fun c => ?_)
  · have P := P.1 c
    refine ok_iconst (pc := 711) hc (v := i3 0) dL_told_711 (by decide) ?_
    exact ok_zret (st := []) (pc := 712) hc (nar_z (by decide)) hr dL_told_712 P
  · have P := P.2 c
    exact P

set_option maxHeartbeats 4000000 in
set_option maxRecDepth 100000 in
theorem sL_told_679 {X : Xt} {n : Nat} {h : HP} {a0 : Nat} {x1 : Int} {a2 : Nat} {a3 : Nat} {a4 : Nat} {a5 : Nat} {x6 : Int} {x7 : Int} {x8 : Int} {x9 : Int} {x10 : Int} {x11 : Int} {x12 : Int} {x13 : Int} {bb : Nat} {sb9 : Nat} {fs1 : List Value} (hc : Cx X cL_told RL 18 10 182) {K : KT} (hr : CxR X (some .boolean) K) (e1 : At h n a0 (.inl (6, fs1))) (z1 : fs1.length = 6)
    (P : spec_X6_count [.ref a0, .int (i3 5)] n h (kc X bb sb9 681 [(0, .ref a0), (1, .int (i3 x1)), (2, .ref a2), (3, .ref a3), (4, .ref a4), (5, .ref a5), (6, .int (i3 x6)), (7, .int (i3 x7)), (8, .int (i3 x8)), (9, .int (i3 x9)), (10, .int (i3 x10)), (11, .int (i3 x11)), (12, .int (i3 x12)), (13, .int (i3 x13))] [] n)) :
    Ok X (bb + 1) (sb9 + 6) 679 [(0, .ref a0), (1, .int (i3 x1)), (2, .ref a2), (3, .ref a3), (4, .ref a4), (5, .ref a5), (6, .int (i3 x6)), (7, .int (i3 x7)), (8, .int (i3 x8)), (9, .int (i3 x9)), (10, .int (i3 x10)), (11, .int (i3 x11)), (12, .int (i3 x12)), (13, .int (i3 x13))] [] n h := by
  refine ok_aload_n (pc := 679) hc dL_told_679 rfl 0 rfl ?_
  refine ok_iconst (pc := 680) hc (v := i3 5) dL_told_680 (by decide) ?_
  exact ok_callV (pc := 681) (a := a0) (cb := bb) (sb := sb9) (st := []) hc [.int (i3 5)] cv_L_91 sp_X6_count (by decide) dL_told_681 rfl e1.1 e1.2 rfl rfl rfl (Nat.le_of_ble_eq_true rfl) P

set_option maxHeartbeats 4000000 in
set_option maxRecDepth 100000 in
theorem sL_told_684 {X : Xt} {n : Nat} {h : HP} {a0 : Nat} {x1 : Int} {a2 : Nat} {a3 : Nat} {a4 : Nat} {a5 : Nat} {x6 : Int} {x7 : Int} {x8 : Int} {x9 : Int} {x10 : Int} {x11 : Int} {x12 : Int} {x13 : Int} {t0 : Int} {bb : Nat} {sb9 : Nat} (hc : Cx X cL_told RL 18 10 182) {K : KT} (hr : CxR X (some .boolean) K) 
    (P : (R3 t0) ∧ (R3 x8) ∧ (¬ t0 = x8 → K (.inl (some (.int (i3 0)))) n h) ∧ (t0 = x8 → Ok X bb sb9 689 [(0, .ref a0), (1, .int (i3 x1)), (2, .ref a2), (3, .ref a3), (4, .ref a4), (5, .ref a5), (6, .int (i3 x6)), (7, .int (i3 x7)), (8, .int (i3 x8)), (9, .int (i3 x9)), (10, .int (i3 x10)), (11, .int (i3 x11)), (12, .int (i3 x12)), (13, .int (i3 x13))] [] n h)) :
    Ok X bb sb9 684 [(0, .ref a0), (1, .int (i3 x1)), (2, .ref a2), (3, .ref a3), (4, .ref a4), (5, .ref a5), (6, .int (i3 x6)), (7, .int (i3 x7)), (8, .int (i3 x8)), (9, .int (i3 x9)), (10, .int (i3 x10)), (11, .int (i3 x11)), (12, .int (i3 x12)), (13, .int (i3 x13))] [.int (i3 t0)] n h := by
  refine ok_iload (pc := 684) hc dL_told_684 8 rfl ?_
  obtain ⟨r1, P⟩ := P
  obtain ⟨r2, P⟩ := P
  refine zk_icmp_ne (pc := 686) (tgt := 711) hc dL_told_686 (by decide) r1 r2 (fun c => ?_) (fun c => ?_)
  · have P := P.1 c
    refine ok_iconst (pc := 711) hc (v := i3 0) dL_told_711 (by decide) ?_
    exact ok_zret (st := []) (pc := 712) hc (nar_z (by decide)) hr dL_told_712 P
  · have P := P.2 c
    exact P

set_option maxHeartbeats 4000000 in
set_option maxRecDepth 100000 in
theorem sL_told_689 {X : Xt} {n : Nat} {h : HP} {a0 : Nat} {x1 : Int} {a2 : Nat} {a3 : Nat} {a4 : Nat} {a5 : Nat} {x6 : Int} {x7 : Int} {x8 : Int} {x9 : Int} {x10 : Int} {x11 : Int} {x12 : Int} {x13 : Int} {bb : Nat} {sb9 : Nat} {fs1 : List Value} (hc : Cx X cL_told RL 18 10 182) {K : KT} (hr : CxR X (some .boolean) K) (e1 : At h n a0 (.inl (6, fs1))) (z1 : fs1.length = 6)
    (P : spec_X6_count [.ref a0, .int (i3 6)] n h (kc X bb sb9 692 [(0, .ref a0), (1, .int (i3 x1)), (2, .ref a2), (3, .ref a3), (4, .ref a4), (5, .ref a5), (6, .int (i3 x6)), (7, .int (i3 x7)), (8, .int (i3 x8)), (9, .int (i3 x9)), (10, .int (i3 x10)), (11, .int (i3 x11)), (12, .int (i3 x12)), (13, .int (i3 x13))] [] n)) :
    Ok X (bb + 1) (sb9 + 6) 689 [(0, .ref a0), (1, .int (i3 x1)), (2, .ref a2), (3, .ref a3), (4, .ref a4), (5, .ref a5), (6, .int (i3 x6)), (7, .int (i3 x7)), (8, .int (i3 x8)), (9, .int (i3 x9)), (10, .int (i3 x10)), (11, .int (i3 x11)), (12, .int (i3 x12)), (13, .int (i3 x13))] [] n h := by
  refine ok_aload_n (pc := 689) hc dL_told_689 rfl 0 rfl ?_
  refine ok_bipush (pc := 690) hc (v := i3 6) dL_told_690 (by decide) ?_
  exact ok_callV (pc := 692) (a := a0) (cb := bb) (sb := sb9) (st := []) hc [.int (i3 6)] cv_L_91 sp_X6_count (by decide) dL_told_692 rfl e1.1 e1.2 rfl rfl rfl (Nat.le_of_ble_eq_true rfl) P

set_option maxHeartbeats 4000000 in
set_option maxRecDepth 100000 in
theorem sL_told_695 {X : Xt} {n : Nat} {h : HP} {a0 : Nat} {x1 : Int} {a2 : Nat} {a3 : Nat} {a4 : Nat} {a5 : Nat} {x6 : Int} {x7 : Int} {x8 : Int} {x9 : Int} {x10 : Int} {x11 : Int} {x12 : Int} {x13 : Int} {t0 : Int} {bb : Nat} {sb9 : Nat} (hc : Cx X cL_told RL 18 10 182) {K : KT} (hr : CxR X (some .boolean) K) 
    (P : (R3 t0) ∧ (R3 x9) ∧ (¬ t0 = x9 → K (.inl (some (.int (i3 0)))) n h) ∧ (t0 = x9 → Ok X bb sb9 700 [(0, .ref a0), (1, .int (i3 x1)), (2, .ref a2), (3, .ref a3), (4, .ref a4), (5, .ref a5), (6, .int (i3 x6)), (7, .int (i3 x7)), (8, .int (i3 x8)), (9, .int (i3 x9)), (10, .int (i3 x10)), (11, .int (i3 x11)), (12, .int (i3 x12)), (13, .int (i3 x13))] [] n h)) :
    Ok X bb sb9 695 [(0, .ref a0), (1, .int (i3 x1)), (2, .ref a2), (3, .ref a3), (4, .ref a4), (5, .ref a5), (6, .int (i3 x6)), (7, .int (i3 x7)), (8, .int (i3 x8)), (9, .int (i3 x9)), (10, .int (i3 x10)), (11, .int (i3 x11)), (12, .int (i3 x12)), (13, .int (i3 x13))] [.int (i3 t0)] n h := by
  refine ok_iload (pc := 695) hc dL_told_695 9 rfl ?_
  obtain ⟨r1, P⟩ := P
  obtain ⟨r2, P⟩ := P
  refine zk_icmp_ne (pc := 697) (tgt := 711) hc dL_told_697 (by decide) r1 r2 (fun c => ?_) (fun c => ?_)
  · have P := P.1 c
    refine ok_iconst (pc := 711) hc (v := i3 0) dL_told_711 (by decide) ?_
    exact ok_zret (st := []) (pc := 712) hc (nar_z (by decide)) hr dL_told_712 P
  · have P := P.2 c
    exact P

set_option maxHeartbeats 4000000 in
set_option maxRecDepth 100000 in
theorem sL_told_700 {X : Xt} {n : Nat} {h : HP} {a0 : Nat} {x1 : Int} {a2 : Nat} {a3 : Nat} {a4 : Nat} {a5 : Nat} {x6 : Int} {x7 : Int} {x8 : Int} {x9 : Int} {x10 : Int} {x11 : Int} {x12 : Int} {x13 : Int} {bb : Nat} {sb9 : Nat} {fs1 : List Value} (hc : Cx X cL_told RL 18 10 182) {K : KT} (hr : CxR X (some .boolean) K) (e1 : At h n a0 (.inl (6, fs1))) (z1 : fs1.length = 6)
    (P : spec_X6_count [.ref a0, .int (i3 7)] n h (kc X bb sb9 703 [(0, .ref a0), (1, .int (i3 x1)), (2, .ref a2), (3, .ref a3), (4, .ref a4), (5, .ref a5), (6, .int (i3 x6)), (7, .int (i3 x7)), (8, .int (i3 x8)), (9, .int (i3 x9)), (10, .int (i3 x10)), (11, .int (i3 x11)), (12, .int (i3 x12)), (13, .int (i3 x13))] [] n)) :
    Ok X (bb + 1) (sb9 + 6) 700 [(0, .ref a0), (1, .int (i3 x1)), (2, .ref a2), (3, .ref a3), (4, .ref a4), (5, .ref a5), (6, .int (i3 x6)), (7, .int (i3 x7)), (8, .int (i3 x8)), (9, .int (i3 x9)), (10, .int (i3 x10)), (11, .int (i3 x11)), (12, .int (i3 x12)), (13, .int (i3 x13))] [] n h := by
  refine ok_aload_n (pc := 700) hc dL_told_700 rfl 0 rfl ?_
  refine ok_bipush (pc := 701) hc (v := i3 7) dL_told_701 (by decide) ?_
  exact ok_callV (pc := 703) (a := a0) (cb := bb) (sb := sb9) (st := []) hc [.int (i3 7)] cv_L_91 sp_X6_count (by decide) dL_told_703 rfl e1.1 e1.2 rfl rfl rfl (Nat.le_of_ble_eq_true rfl) P

set_option maxHeartbeats 4000000 in
set_option maxRecDepth 100000 in
theorem sL_told_706 {X : Xt} {n : Nat} {h : HP} {a0 : Nat} {x1 : Int} {a2 : Nat} {a3 : Nat} {a4 : Nat} {a5 : Nat} {x6 : Int} {x7 : Int} {x8 : Int} {x9 : Int} {x10 : Int} {x11 : Int} {x12 : Int} {x13 : Int} {t0 : Int} {bb : Nat} {sb9 : Nat} (hc : Cx X cL_told RL 18 10 182) {K : KT} (hr : CxR X (some .boolean) K) 
    (P : (R3 t0) ∧ (R3 x10) ∧ (t0 = x10 → Ok X bb sb9 713 [(0, .ref a0), (1, .int (i3 x1)), (2, .ref a2), (3, .ref a3), (4, .ref a4), (5, .ref a5), (6, .int (i3 x6)), (7, .int (i3 x7)), (8, .int (i3 x8)), (9, .int (i3 x9)), (10, .int (i3 x10)), (11, .int (i3 x11)), (12, .int (i3 x12)), (13, .int (i3 x13))] [] n h) ∧ (¬ t0 = x10 → K (.inl (some (.int (i3 0)))) n h)) :
    Ok X bb sb9 706 [(0, .ref a0), (1, .int (i3 x1)), (2, .ref a2), (3, .ref a3), (4, .ref a4), (5, .ref a5), (6, .int (i3 x6)), (7, .int (i3 x7)), (8, .int (i3 x8)), (9, .int (i3 x9)), (10, .int (i3 x10)), (11, .int (i3 x11)), (12, .int (i3 x12)), (13, .int (i3 x13))] [.int (i3 t0)] n h := by
  refine ok_iload (pc := 706) hc dL_told_706 10 rfl ?_
  obtain ⟨r1, P⟩ := P
  obtain ⟨r2, P⟩ := P
  refine zk_icmp_eq (pc := 708) (tgt := 713) hc dL_told_708 (by decide) r1 r2 (fun c => ?_) (fun c => ?_)
  · have P := P.1 c
    exact P
  · have P := P.2 c
    refine ok_iconst (pc := 711) hc (v := i3 0) dL_told_711 (by decide) ?_
    exact ok_zret (st := []) (pc := 712) hc (nar_z (by decide)) hr dL_told_712 P

set_option maxHeartbeats 4000000 in
set_option maxRecDepth 100000 in
theorem sL_told_713 {X : Xt} {n : Nat} {h : HP} {a0 : Nat} {x1 : Int} {a2 : Nat} {a3 : Nat} {a4 : Nat} {a5 : Nat} {x6 : Int} {x7 : Int} {x8 : Int} {x9 : Int} {x10 : Int} {x11 : Int} {x12 : Int} {x13 : Int} {bb : Nat} {sb9 : Nat} (hc : Cx X cL_told RL 18 10 182) {K : KT} (hr : CxR X (some .boolean) K) 
    (P : spec_L_mean [.ref a0, .int (i3 x12), .int (i3 x11), .ref a2, .ref a3, .ref a4] n h (kc X bb sb9 722 [(0, .ref a0), (1, .int (i3 x1)), (2, .ref a2), (3, .ref a3), (4, .ref a4), (5, .ref a5), (6, .int (i3 x6)), (7, .int (i3 x7)), (8, .int (i3 x8)), (9, .int (i3 x9)), (10, .int (i3 x10)), (11, .int (i3 x11)), (12, .int (i3 x12)), (13, .int (i3 x13))] [] n)) :
    Ok X (bb + 24) (sb9 + 144) 713 [(0, .ref a0), (1, .int (i3 x1)), (2, .ref a2), (3, .ref a3), (4, .ref a4), (5, .ref a5), (6, .int (i3 x6)), (7, .int (i3 x7)), (8, .int (i3 x8)), (9, .int (i3 x9)), (10, .int (i3 x10)), (11, .int (i3 x11)), (12, .int (i3 x12)), (13, .int (i3 x13))] [] n h := by
  refine ok_aload_n (pc := 713) hc dL_told_713 rfl 0 rfl ?_
  refine ok_iload (pc := 714) hc dL_told_714 12 rfl ?_
  refine ok_iload (pc := 716) hc dL_told_716 11 rfl ?_
  refine ok_aload_n (pc := 718) hc dL_told_718 rfl 2 rfl ?_
  refine ok_aload_n (pc := 719) hc dL_told_719 rfl 3 rfl ?_
  refine ok_aload (pc := 720) hc dL_told_720 4 rfl ?_
  exact ok_callS (pc := 722) (cb := bb) (sb := sb9) (st := []) hc [.ref a0, .int (i3 x12), .int (i3 x11), .ref a2, .ref a3, .ref a4] cs_L_94 sp_L_mean (by decide) dL_told_722 rfl rfl rfl rfl (Nat.le_of_ble_eq_true rfl) P

set_option maxHeartbeats 4000000 in
set_option maxRecDepth 100000 in
theorem sL_told_725 {X : Xt} {n : Nat} {h : HP} {a0 : Nat} {x1 : Int} {a2 : Nat} {a3 : Nat} {a4 : Nat} {a5 : Nat} {x6 : Int} {x7 : Int} {x8 : Int} {x9 : Int} {x10 : Int} {x11 : Int} {x12 : Int} {x13 : Int} {t0 : Int} {bb : Nat} {sb9 : Nat} (hc : Cx X cL_told RL 18 10 182) {K : KT} (hr : CxR X (some .boolean) K) 
    (P : (t0 = 0 ∨ t0 = 1) ∧ K (.inl (some (.int (i3 t0)))) n h) :
    Ok X bb sb9 725 [(0, .ref a0), (1, .int (i3 x1)), (2, .ref a2), (3, .ref a3), (4, .ref a4), (5, .ref a5), (6, .int (i3 x6)), (7, .int (i3 x7)), (8, .int (i3 x8)), (9, .int (i3 x9)), (10, .int (i3 x10)), (11, .int (i3 x11)), (12, .int (i3 x12)), (13, .int (i3 x13))] [.int (i3 t0)] n h := by
  obtain ⟨r, P⟩ := P
  exact ok_zret (st := []) (pc := 725) hc (nar_z r) hr dL_told_725 P

set_option maxHeartbeats 8000000 in
theorem told_4 {X : Xt} {n : Nat} {h : HP} {d a e f : Nat} {Fd F : Nat → Int} {q : Dsk} {x1 x7 x8 x9 x10 x11 : Int} {bb sb9 : Nat} {E : Nat → Int} (hc : Cx X cL_told RL 18 10 182) {K : KT} (hr : CxR X (some .boolean) K) (hT : TC h n d a e f Fd F q) (hS : q.1.2.2.2 = 1 → Svd q.1.1 (satN q.1.2.2.1 (nA q.1.1)) (givC q.1 q.1.2.2.1) E) (k : ∀ hh, TW h n e f q hh → At hh n e (al 56 E) → Ok X bb sb9 625 [(0, .ref 0), (1, .int (i3 x1)), (2, .ref d), (3, .ref a), (4, .ref e), (5, .ref f), (6, .int (i3 (nA q.1.1 : Int))), (7, .int (i3 x7)), (8, .int (i3 x8)), (9, .int (i3 x9)), (10, .int (i3 x10)), (11, .int (i3 x11)), (12, .int (i3 q.1.2.2.2)), (13, .int (i3 (nA q.1.1 : Int)))] [] n hh) : ∀ (j i : Nat), i + j = nA q.1.1 → ∀ hh, TW h n e f q hh → At hh n e (al 56 E) → Ok X (bb + 3 * j) (sb9 + 18 * j) 531 [(0, .ref 0), (1, .int (i3 x1)), (2, .ref d), (3, .ref a), (4, .ref e), (5, .ref f), (6, .int (i3 (nA q.1.1 : Int))), (7, .int (i3 x7)), (8, .int (i3 x8)), (9, .int (i3 x9)), (10, .int (i3 x10)), (11, .int (i3 x11)), (12, .int (i3 q.1.2.2.2)), (13, .int (i3 (i : Int)))] [] n hh := by
  obtain ⟨⟨⟨l1, l2, l3, l4⟩, n1, n2, n3, n4, n5⟩, ed, ea, hD, hP, hO⟩ := id hT
  intro j
  induction j with
  | zero =>
    intro i hi hh hq he
    have h3 := hq.1.gd.1.1.2.1
    obtain rfl : i = nA q.1.1 := by omega
    exact sL_told_531 hc hr ⟨R3_s (by omega), R3_s (by omega), fun _ => k hh hq he, fun z => absurd (by omega) z⟩
  | succ j ih =>
    intro i hi hh hq he
    have hG := hq.1.gd.1
    have h3 := hG.1.2.1
    have hst := hG.2.2.2
    have h27 := c27 h3
    have hci : 0 ≤ q.1.2.2.1 ∧ q.1.2.2.1 ≤ 26 := by have := hG.2.2.1; omega
    have hd2 : Fd (2 : Int).toNat = q.1.2.2.1 := hD.2.2.1
    have rst : R3 q.1.2.2.2 := R3_s (by omega)
    have ri : R3 (i : Int) := R3_s (by omega)
    have eti : (i : Int).toNat = i := by omega
    obtain ⟨ix, p, hA⟩ := AmpAt.ex (ps := q.1.1) (a := i) (by omega)
    have hpo := pOf_at hA
    have hix := hA.ix
    have hap := hA.amps
    obtain ⟨g0, g1, g2, g3, hi', hl', hw⟩ := hP.g hA.1
    have g2' := g2 (by rw [hA.2.1]; decide)
    have hta := told_amp (hG.1.2.2.1 p (List.mem_of_getElem? hA.1)) hA.2.1
    have hia : 0 ≤ (i : Int) ∧ (i : Int) < nA q.1.1 := by omega
    have o0 : opAmp q i 0 = .inl (ix : Int) := by
      unfold opAmp
      rw [if_neg (fun z => z hia), if_pos rfl, eti, ← hix]
    have o1 : opAmp q i 1 = .inl (q.1.2.2.1 / 3 ^ (i : Int).toNat % 3) := by
      unfold opAmp
      rw [if_neg (fun z => z hia), if_neg (by decide), if_pos rfl]
    have o2 : opAmp q i 2 = if q.1.2.2.2 = 0 then .inl 0 else .inl (cmpZ (numer q.1.1 (satN q.1.2.2.1 (nA q.1.1)) (givC q.1 q.1.2.2.1) p.2.1.toNat) (numer q.1.1 (satN q.1.2.2.1 (nA q.1.1)) (givC q.1 q.1.2.2.1) p.2.2.1.toNat)) := by
      unfold opAmp
      rw [if_neg (fun z => z hia), if_neg (by decide), if_neg (by decide), if_pos rfl, eti, hap]
      rfl
    have rs : R3 (q.1.2.2.1 / 3 ^ (i : Int).toNat % 3) := by
      have z1 := Int.emod_nonneg (q.1.2.2.1 / 3 ^ (i : Int).toNat) (by decide : (3 : Int) ≠ 0)
      have z2 := Int.emod_lt_of_pos (q.1.2.2.1 / 3 ^ (i : Int).toNat) (by decide : (0 : Int) < 3)
      exact R3_s (by omega)
    refine sL_told_531 hc hr ⟨ri, R3_s (by omega), fun z => absurd z (by omega), fun _ => ?_⟩
    refine sL_told_538 (bb := bb + 3 * j + 2) (sb9 := sb9 + 18 * j + 12) hc hr (hq.at ea l2 n3 n4) hP (hq.at ed l1 n1 n2) hD.1 hq.1.1 rfl ⟨by omega, q, i, 0, rfl, ri, R3_0, hq.1, fun h1 hq1 f1 => ?_⟩
    have hw1 := hq.fr l3 l4 hq1 f1
    have he1 : At h1 n e (al 56 E) := he.fr f1 (by omega)
    rw [o0, hpo]
    refine ⟨rfl, sL_told_554 (t0 := (ix : Int)) hc hr ⟨R3_s (by omega), R3_s (by omega), fun z => absurd rfl z, fun _ => ?_⟩⟩
    refine sL_told_559 (bb := bb + 3 * j + 1) (sb9 := sb9 + 18 * j + 6) hc hr hw1.1.1 rfl ⟨q, i, 1, rfl, ri, ⟨by decide, by decide⟩, hw1.1, fun h2 hq2 f2 => ?_⟩
    have hw2 := hw1.fr l3 l4 hq2 f2
    have he2 : At h2 n e (al 56 E) := he1.fr f2 (by omega)
    rw [o1]
    refine ⟨rfl, sL_told_566 (t0 := q.1.2.2.1 / 3 ^ (i : Int).toNat % 3) hc hr (hw2.at ed l1 n1 n2) ?_⟩
    rw [hd2]
    refine ⟨⟨by decide, by decide, by decide⟩, ⟨⟨by omega, by omega⟩, by omega, by omega⟩, rs, rs, fun z => absurd rfl z, fun _ => ?_⟩
    refine sL_told_577 (bb := bb + 3 * j) (sb9 := sb9 + 18 * j) hc hr hw2.1.1 rfl ⟨q, i, 2, rfl, ri, ⟨by decide, by decide⟩, hw2.1, fun h3 hq3 f3 => ?_⟩
    have hw3 := hw2.fr l3 l4 hq3 f3
    have he3 : At h3 n e (al 56 E) := he2.fr f3 (by omega)
    have nx := ih (i + 1) (by omega) h3 hw3 he3
    have ec : ((i + 1 : Nat) : Int) = (i : Int) + 1 := by omega
    rw [ec] at nx
    rw [o2]
    by_cases s0 : q.1.2.2.2 = 0
    · rw [if_pos s0]
      exact ⟨rfl, sL_told_584 (t0 := 0) hc hr ⟨rst, fun _ => sL_told_613 hc hr ⟨R3_0, fun _ => nx, fun z => absurd rfl z⟩, fun z => absurd s0 z⟩⟩
    · have s1 : q.1.2.2.2 = 1 := by omega
      rw [if_neg s0]
      refine ⟨rfl, sL_told_584 hc hr ⟨rst, fun z => absurd z s0, fun _ => sL_told_589 hc hr (hw3.at ea l2 n3 n4) he3 (hS s1) ?_⟩⟩
      rw [g1, g2']
      exact ⟨⟨by omega, by omega, by omega⟩, ⟨by omega, by omega, by omega⟩, ⟨⟨by omega, by omega⟩, by omega, by omega⟩, R3_cmp, R3_cmp, fun _ => nx, fun z => absurd rfl z⟩
set_option maxHeartbeats 8000000 in
theorem told_5 {X : Xt} {n : Nat} {h : HP} {d a e f : Nat} {Fd F : Nat → Int} {q : Dsk} {x1 x7 x13 : Int} {E : Nat → Int} (hc : Cx X cL_told RL 18 10 182) {K : KT} (hr : CxR X (some .boolean) K) (hT : TC h n d a e f Fd F q) (hS : q.1.2.2.2 = 1 → Svd q.1.1 (satN q.1.2.2.1 (nA q.1.1)) (givC q.1 q.1.2.2.1) E) (k : ∀ hh, TW h n e f q hh → K (.inl (some (.int (i3 1)))) n hh) (hh : HP) (hq : TW h n e f q hh) (he : At hh n e (al 56 E)) : Ok X 32 192 625 [(0, .ref 0), (1, .int (i3 x1)), (2, .ref d), (3, .ref a), (4, .ref e), (5, .ref f), (6, .int (i3 (nA q.1.1 : Int))), (7, .int (i3 x7)), (8, .int (i3 (holdN q.1 (3 ^ nA q.1.1)))), (9, .int (i3 (detN q.1 (3 ^ nA q.1.1)))), (10, .int (i3 (usedM q.1.1))), (11, .int (i3 (nodesN (usedM q.1.1)))), (12, .int (i3 q.1.2.2.2)), (13, .int (i3 x13))] [] n hh := by
  obtain ⟨⟨⟨l1, l2, l3, l4⟩, n1, n2, n3, n4, n5⟩, ed, ea, hD, hP, hO⟩ := id hT
  have hG := hq.1.gd.1
  have hG1 := hG.1
  have h3 := hG1.2.1
  have h12 := hG1.1
  have hst := hG.2.2.2
  have h27 := c27 h3
  rw [p3c] at h27
  have hpw : ∀ p ∈ q.1.1, PW p := fun p hp => (hG1.2.2.1 p hp).1
  have mk := Mk.gnd (Mk.uf hpw 0 Mk0)
  have mk : Mk (usedM q.1.1) := mk
  have hrl := hG.2.1
  have hci : 0 ≤ q.1.2.2.1 ∧ q.1.2.2.1 ≤ 26 := by have := hG.2.2.1; have := c27 h3; omega
  have hnr := holdN_r q.1 (3 ^ nA q.1.1)
  have dnr := detN_r q.1 (3 ^ nA q.1.1)
  have d0 : Fd (0 : Int).toNat = q.1.1.length := hD.1
  have d1 : Fd (1 : Int).toNat = q.1.2.1 := hD.2.1
  have d2 : Fd (2 : Int).toNat = q.1.2.2.1 := hD.2.2.1
  have d3 : Fd (3 : Int).toNat = q.1.2.2.2 := hD.2.2.2
  have i4 : ∀ z : Int, 0 ≤ z → z < 4 → Ix z 4 := fun z a b => ⟨a, by omega, by omega⟩
  have r0 : R3 (q.1.1.length : Int) := R3_s (by omega)
  have r1 : R3 (nA q.1.1 : Int) := R3_s (by omega)
  have r2 : R3 q.1.2.1 := R3_s (by omega)
  have r3 : R3 q.1.2.2.1 := R3_s (by omega)
  have r4 : R3 q.1.2.2.2 := R3_s (by omega)
  have r5 : R3 (holdN q.1 (3 ^ nA q.1.1)) := R3_s (by omega)
  have r6 : R3 (detN q.1 (3 ^ nA q.1.1)) := R3_s (by omega)
  have r7 : R3 (usedM q.1.1) := R3_s (by have := mk.1; have := mk.2; omega)
  refine sL_told_625 (bb := 31) (sb9 := 186) hc hr hq.1.1 rfl ⟨q, 0, rfl, R3_0, hq.1, fun h1 hq1 f1 => ?_⟩
  have w1 := hq.fr l3 l4 hq1 f1
  have e1 : At h1 n e (al 56 E) := he.fr f1 (by omega)
  refine ⟨rfl, sL_told_630 (t0 := (q.1.1.length : Int)) hc hr (w1.at ed l1 n1 n2) ?_⟩
  rw [d0]
  refine ⟨i4 _ (by decide) (by decide), r0, r0, fun z => absurd rfl z, fun _ => ?_⟩
  refine sL_told_636 (bb := 30) (sb9 := 180) hc hr w1.1.1 rfl ⟨q, 1, rfl, ⟨by decide, by decide⟩, w1.1, fun h2 hq2 f2 => ?_⟩
  have w2 := w1.fr l3 l4 hq2 f2
  have e2 : At h2 n e (al 56 E) := e1.fr f2 (by omega)
  refine ⟨rfl, sL_told_641 (t0 := (nA q.1.1 : Int)) hc hr ⟨r1, r1, fun z => absurd rfl z, fun _ => ?_⟩⟩
  refine sL_told_646 (bb := 29) (sb9 := 174) hc hr w2.1.1 rfl ⟨q, 2, rfl, ⟨by decide, by decide⟩, w2.1, fun h3 hq3 f3 => ?_⟩
  have w3 := w2.fr l3 l4 hq3 f3
  have e3 : At h3 n e (al 56 E) := e2.fr f3 (by omega)
  refine ⟨rfl, sL_told_651 (t0 := q.1.2.1) hc hr (w3.at ed l1 n1 n2) ?_⟩
  rw [d1]
  refine ⟨i4 _ (by decide) (by decide), r2, r2, fun z => absurd rfl z, fun _ => ?_⟩
  refine sL_told_657 (bb := 28) (sb9 := 168) hc hr w3.1.1 rfl ⟨q, 3, rfl, ⟨by decide, by decide⟩, w3.1, fun h4 hq4 f4 => ?_⟩
  have w4 := w3.fr l3 l4 hq4 f4
  have e4 : At h4 n e (al 56 E) := e3.fr f4 (by omega)
  refine ⟨rfl, sL_told_662 (t0 := q.1.2.2.1) hc hr (w4.at ed l1 n1 n2) ?_⟩
  rw [d2]
  refine ⟨i4 _ (by decide) (by decide), r3, r3, fun z => absurd rfl z, fun _ => ?_⟩
  refine sL_told_668 (bb := 27) (sb9 := 162) hc hr w4.1.1 rfl ⟨q, 4, rfl, ⟨by decide, by decide⟩, w4.1, fun h5 hq5 f5 => ?_⟩
  have w5 := w4.fr l3 l4 hq5 f5
  have e5 : At h5 n e (al 56 E) := e4.fr f5 (by omega)
  refine ⟨rfl, sL_told_673 (t0 := q.1.2.2.2) hc hr (w5.at ed l1 n1 n2) ?_⟩
  rw [d3]
  refine ⟨i4 _ (by decide) (by decide), r4, r4, fun z => absurd rfl z, fun _ => ?_⟩
  refine sL_told_679 (bb := 26) (sb9 := 156) hc hr w5.1.1 rfl ⟨q, 5, rfl, ⟨by decide, by decide⟩, w5.1, fun h6 hq6 f6 => ?_⟩
  have w6 := w5.fr l3 l4 hq6 f6
  have e6 : At h6 n e (al 56 E) := e5.fr f6 (by omega)
  refine ⟨rfl, sL_told_684 (t0 := holdN q.1 (3 ^ nA q.1.1)) hc hr ⟨r5, r5, fun z => absurd rfl z, fun _ => ?_⟩⟩
  refine sL_told_689 (bb := 25) (sb9 := 150) hc hr w6.1.1 rfl ⟨q, 6, rfl, ⟨by decide, by decide⟩, w6.1, fun h7 hq7 f7 => ?_⟩
  have w7 := w6.fr l3 l4 hq7 f7
  have e7 : At h7 n e (al 56 E) := e6.fr f7 (by omega)
  refine ⟨rfl, sL_told_695 (t0 := detN q.1 (3 ^ nA q.1.1)) hc hr ⟨r6, r6, fun z => absurd rfl z, fun _ => ?_⟩⟩
  refine sL_told_700 (bb := 24) (sb9 := 144) hc hr w7.1.1 rfl ⟨q, 7, rfl, ⟨by decide, by decide⟩, w7.1, fun h8 hq8 f8 => ?_⟩
  have w8 := w7.fr l3 l4 hq8 f8
  have e8 : At h8 n e (al 56 E) := e7.fr f8 (by omega)
  refine ⟨rfl, sL_told_706 (t0 := usedM q.1.1) hc hr ⟨r7, r7, fun _ => ?_, fun z => absurd rfl z⟩⟩
  refine sL_told_713 (bb := 0) (sb9 := 0) hc hr ⟨q, d, a, e, E, rfl, w8.1, hO, l3, e8, hS, fun h9 hq9 f9 => ⟨rfl, sL_told_725 (t0 := 1) hc hr ⟨Or.inr rfl, k h9 (w8.fr l3 l4 hq9 f9)⟩⟩⟩
theorem nz_same {h : HP} {n x : Nat} (p : Nb h n) (h1 : 127 < x) (h2 : x < n) : nz h x = h x := by
  have := p x h1 h2
  show nzE (h x) = h x
  generalize h x = e at this
  rcases e with o | ⟨t, len, f | f | f⟩
  · exact False.elim this
  · rfl
  · rfl
  · exact False.elim this
def spec_L_told (args : List Value) (n : Nat) (h : HP) (K : KT) : Prop := ∃ (q : Dsk) (x : Int) (d a : Nat) (Fd F : Nat → Int), args = [.ref 0, .int (i3 x), .ref d, .ref a] ∧ DkA h n q ∧ (127 < d ∧ 127 < a) ∧ At h n d (ai 4 Fd) ∧ At h n a (ai 48 F) ∧ DFS Fd q.1 ∧ PaF F q.1.1 ∧ StOk q.1 ∧ Nb h n ∧ (128 ≤ n ∧ n + 2 < SA) ∧ ∀ h', DkA h' (n + 2) q → (∀ x, 127 < x → x < n → h' x = h x) → Nb h' (n + 2) → K (.inl (some (.int (i3 1)))) (n + 2) h'
set_option maxHeartbeats 8000000 in
theorem sp_L_told : Sp yL_told cL_told 18 (some .boolean) 10 182 455 2830 spec_L_told := by
  refine sp_intro (by decide) (by rintro args n h K ⟨q, x, d, a, Fd, F, rfl, -⟩; exact Nat.le_of_ble_eq_true rfl) ?_
  rintro X args n h K hc hr ⟨q, x, d, a, Fd, F, rfl, hq, ⟨l1, l2⟩, ed, ea, hD, hP, hO, hB, ⟨hn1, hn2⟩, kk⟩
  have hG := hq.gd.1
  have h3 := hG.1.2.1
  have h12 := hG.1.1
  have h27 := c27 h3
  have h3c := p3c (nA q.1.1)
  have c0 := cl_of hn1 hq hB
  refine ok_nz ?_
  have hq0 := hq.nz
  have ed0 : At (nz h) n d (ai 4 Fd) := ed.nz rfl
  have ea0 : At (nz h) n a (ai 48 F) := ea.nz rfl
  have b0 : Nb (nz h) n := hB.nz
  have eq0 : ∀ x, 127 < x → x < n → nz h x = h x := fun x a b => nz_same hB a b
  generalize nz h = h0 at c0 hq0 ed0 ea0 b0 eq0
  have hdn := ed.1
  have han := ea.1
  refine ok_bipush (pc := 0) (v := i3 56) hc dL_told_0 (by decide) ?_
  refine ok_newJ (pc := 2) (cb := 454) (sb := 2774) (len := 56) hc dL_told_2 ac_long (by omega) c0 (ClV.r (by omega) (ClV.i (fun j z => by cases z) (ClV.r (by omega) (ClV.r (by omega) ClV.z)))) ClV.z (by omega) ?_
  have c1 := c0.new (e := al 56 (fun _ => 0)) (fun _ z => False.elim z)
  refine ok_astore (pc := 4) hc (lv' := [(4, .ref n), (0, .ref 0), (1, .int (i3 x)), (2, .ref d), (3, .ref a)]) dL_told_4 (by decide) rfl ?_
  refine ok_bipush (pc := 6) (v := i3 56) hc dL_told_6 (by decide) ?_
  refine ok_newJ (pc := 8) (cb := 453) (sb := 2718) (len := 56) hc dL_told_8 ac_long (by omega) c1 (ClV.r (by omega) (ClV.r (by omega) (ClV.i (fun j z => by cases z) (ClV.r (by omega) (ClV.r (by omega) ClV.z))))) ClV.z (by omega) ?_
  refine ok_astore (pc := 10) hc (lv' := [(5, .ref (n + 1)), (4, .ref n), (0, .ref 0), (1, .int (i3 x)), (2, .ref d), (3, .ref a)]) dL_told_10 (by decide) rfl ?_
  refine ok_lv [2, 3, 4, 5, 1, 0] rfl ?_
  have hq1 : DkA (va_up (va_up h0 n (al 56 fun _ => 0)) (n + 1) (al 56 fun _ => 0)) (n + 2) q := (hq0.out (lo := n) (hi := n + 1) ((Fr.rf.up (by omega)).up (by omega)) (by omega)).mo (by omega)
  have ed1 : At (va_up (va_up h0 n (al 56 fun _ => 0)) (n + 1) (al 56 fun _ => 0)) (n + 2) d (ai 4 Fd) := ((ed0.up (by omega)).up (by omega)).mo (by omega)
  have ea1 : At (va_up (va_up h0 n (al 56 fun _ => 0)) (n + 1) (al 56 fun _ => 0)) (n + 2) a (ai 48 F) := ((ea0.up (by omega)).up (by omega)).mo (by omega)
  have ee1 : At (va_up (va_up h0 n (al 56 fun _ => 0)) (n + 1) (al 56 fun _ => 0)) (n + 2) n (al 56 fun _ => 0) := ⟨by omega, (up_ne (by omega)).trans up_self⟩
  have ef1 : At (va_up (va_up h0 n (al 56 fun _ => 0)) (n + 1) (al 56 fun _ => 0)) (n + 2) (n + 1) (al 56 fun _ => 0) := ⟨by omega, up_self⟩
  have eo1 : ∀ x, 127 < x → x < n → (va_up (va_up h0 n (al 56 fun _ => 0)) (n + 1) (al 56 fun _ => 0)) x = h x := fun x a b => by rw [up_ne (by omega), up_ne (by omega)]; exact eq0 x a b
  generalize va_up (va_up h0 n (al 56 fun _ => 0)) (n + 1) (al 56 fun _ => 0) = h1 at hq1 ed1 ea1 ee1 ef1 eo1
  have hT : TC h1 (n + 2) d a n (n + 1) Fd F q := ⟨⟨⟨l1, l2, by omega, by omega⟩, by omega, by omega, by omega, by omega, by omega⟩, ed1, ea1, hD, hP, hO⟩
  have hw1 : TW h1 (n + 2) n (n + 1) q h1 := ⟨hq1, fun _ _ _ _ => rfl, ⟨_, ee1⟩, ⟨_, ef1⟩⟩
  have d0 : Fd (0 : Int).toNat = q.1.1.length := hD.1
  refine sL_told_12 (bb := 453) (sb9 := 2718) hc hr ed1 ea1 hP ?_
  rw [d0, show ((q.1.1.length : Nat) : Int).toNat = q.1.1.length from Int.toNat_natCast _, List.take_length]
  refine ⟨⟨by decide, by decide, by decide⟩, ⟨by omega, Int.le_refl _⟩, ⟨by omega, by omega⟩, ?_⟩
  rw [show ((nA q.1.1 : Nat) : Int).toNat = nA q.1.1 from Int.toNat_natCast _]
  have fin : ∀ hh, TW h1 (n + 2) n (n + 1) q hh → K (.inl (some (.int (i3 1)))) (n + 2) hh := fun hh hw => by
    refine kk hh hw.1 (fun x a b => (hw.2.1 x a (by omega) (by omega)).trans (eo1 x a b)) (fun i a b => ?_)
    by_cases z : i < n
    · rw [hw.2.1 i (by omega) (by omega) (by omega), eo1 i (by omega) z]
      exact hB i a z
    · obtain ⟨E, z1⟩ := hw.2.2.1
      obtain ⟨G, z2⟩ := hw.2.2.2
      rcases (show i = n ∨ i = n + 1 by omega) with y | y <;> subst y
      · rw [z1.2]
        trivial
      · rw [z2.2]
        trivial
  have P5 := fun (E : Nat → Int) hS => told_5 (x1 := x) (x7 := (3 : Int) ^ nA q.1.1) (x13 := (nA q.1.1 : Int)) (E := E) hc hr hT hS fin
  have P4 := fun (E : Nat → Int) hS => told_4 (E := E) hc hr hT hS (P5 E hS) (nA q.1.1) 0 (by omega)
  have P3 := fun (E : Nat → Int) hS => told_3 (bb := 113) (sb9 := 678) (E := E) hc hr hT hS (fun hh hw he => by
    refine sL_told_513 (bb := 41) (sb9 := 246) hc hr ⟨q, d, a, n, Fd, F, E, rfl, hw.1, ⟨l1, l2, by omega⟩, hw.at ed1 l1 (by omega) (by omega), hw.at ea1 l2 (by omega) (by omega), he, hD, hP, hS, fun h2 hq2 f2 => ⟨rfl, sL_told_523 (t0 := 1) hc hr ⟨R3_s (by decide), fun _ => sL_told_528 hc hr ?_, fun z => absurd z (by decide)⟩⟩⟩
    exact (P4 E hS h2 (hw.fr (by omega) (by omega) hq2 f2) (he.fr f2 (by omega))).up (by omega) (by omega)) 7 0 rfl
  have P2 := told_2 (x7 := (3 : Int) ^ nA q.1.1) (x6 := (nA q.1.1 : Int)) (x8 := holdN q.1 (3 ^ nA q.1.1)) (x9 := detN q.1 (3 ^ nA q.1.1)) (x10 := 0) (x11 := 0) (x1 := x) (bb := 141) (sb9 := 846) hc hr hT (fun hh x12 hw => told_is hc hr hT (fun h2 E hw2 he2 hS2 => by
    refine sL_told_370 hc hr ?_
    exact P3 E hS2 h2 hw2 he2) hh hw) q.1.1.length 0 (by omega)
  have P1 := told_1 (x6 := (nA q.1.1 : Int)) (x10 := 0) (x11 := 0) (x1 := x) (bb := 237) (sb9 := 1422) hc hr hT (fun hh hw => by
    refine sL_told_249 hc hr ?_
    exact (P2 hh hw).up (by omega) (by omega)) (3 ^ nA q.1.1) 0 (by omega) h1 hw1
  exact P1.up (by omega) (by omega)
