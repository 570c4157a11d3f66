/-! part a25: the law's told: the cases -/
set_option maxHeartbeats 4000000 in
set_option maxRecDepth 100000 in
theorem sL_told_43 {X : Xt} {n : Nat} {h : HP} {a0 : Nat} {x1 : Int} {a2 : Nat} {a3 : Nat} {a4 : Nat} {a5 : Nat} {x6 : Int} {x7 : Int} {x8 : Int} {x9 : Int} {x10 : Int} {x11 : Int} {x12 : Int} {bb : Nat} {sb9 : Nat} (hc : Cx X cL_told RL 18 10 182) {K : KT} (hr : CxR X (some .boolean) K) 
    (P : (R3 x12) ∧ (R3 x7) ∧ (x7 ≤ x12 → Ok X bb sb9 249 [(0, .ref a0), (1, .int (i3 x1)), (2, .ref a2), (3, .ref a3), (4, .ref a4), (5, .ref a5), (6, .int (i3 x6)), (7, .int (i3 x7)), (8, .int (i3 x8)), (9, .int (i3 x9)), (10, .int (i3 x10)), (11, .int (i3 x11)), (12, .int (i3 x12))] [] n h) ∧ (¬ x7 ≤ x12 → Ok X bb sb9 50 [(0, .ref a0), (1, .int (i3 x1)), (2, .ref a2), (3, .ref a3), (4, .ref a4), (5, .ref a5), (6, .int (i3 x6)), (7, .int (i3 x7)), (8, .int (i3 x8)), (9, .int (i3 x9)), (10, .int (i3 x10)), (11, .int (i3 x11)), (12, .int (i3 x12))] [] n h)) :
    Ok X bb sb9 43 [(0, .ref a0), (1, .int (i3 x1)), (2, .ref a2), (3, .ref a3), (4, .ref a4), (5, .ref a5), (6, .int (i3 x6)), (7, .int (i3 x7)), (8, .int (i3 x8)), (9, .int (i3 x9)), (10, .int (i3 x10)), (11, .int (i3 x11)), (12, .int (i3 x12))] [] n h := by
  refine ok_iload (pc := 43) hc dL_told_43 12 rfl ?_
  refine ok_iload (pc := 45) hc dL_told_45 7 rfl ?_
  obtain ⟨r1, P⟩ := P
  obtain ⟨r2, P⟩ := P
  refine zk_icmp_ge (pc := 47) (tgt := 249) hc dL_told_47 (by decide) r1 r2 (fun c => ?_) (fun c => ?_)
  · have P := P.1 c
    exact P
  · have P := P.2 c
    exact P

set_option maxHeartbeats 4000000 in
set_option maxRecDepth 100000 in
theorem sL_told_50 {X : Xt} {n : Nat} {h : HP} {a0 : Nat} {x1 : Int} {a2 : Nat} {a3 : Nat} {a4 : Nat} {a5 : Nat} {x6 : Int} {x7 : Int} {x8 : Int} {x9 : Int} {x10 : Int} {x11 : Int} {x12 : Int} {bb : Nat} {sb9 : Nat} (hc : Cx X cL_told RL 18 10 182) {K : KT} (hr : CxR X (some .boolean) K) 
    (P : spec_L_why [.int (i3 x12), .ref a2, .ref a3, .ref a4, .ref a5] n h (kc X bb sb9 58 [(0, .ref a0), (1, .int (i3 x1)), (2, .ref a2), (3, .ref a3), (4, .ref a4), (5, .ref a5), (6, .int (i3 x6)), (7, .int (i3 x7)), (8, .int (i3 x8)), (9, .int (i3 x9)), (10, .int (i3 x10)), (11, .int (i3 x11)), (12, .int (i3 x12))] [] n)) :
    Ok X bb sb9 50 [(0, .ref a0), (1, .int (i3 x1)), (2, .ref a2), (3, .ref a3), (4, .ref a4), (5, .ref a5), (6, .int (i3 x6)), (7, .int (i3 x7)), (8, .int (i3 x8)), (9, .int (i3 x9)), (10, .int (i3 x10)), (11, .int (i3 x11)), (12, .int (i3 x12))] [] n h := by
  refine ok_iload (pc := 50) hc dL_told_50 12 rfl ?_
  refine ok_aload_n (pc := 52) hc dL_told_52 rfl 2 rfl ?_
  refine ok_aload_n (pc := 53) hc dL_told_53 rfl 3 rfl ?_
  refine ok_aload (pc := 54) hc dL_told_54 4 rfl ?_
  refine ok_aload (pc := 56) hc dL_told_56 5 rfl ?_
  exact ok_callS (pc := 58) (cb := bb) (sb := sb9) (st := []) hc [.int (i3 x12), .ref a2, .ref a3, .ref a4, .ref a5] cs_L_60 sp_L_why (by decide) dL_told_58 rfl rfl rfl rfl (Nat.le_of_ble_eq_true rfl) P

set_option maxHeartbeats 4000000 in
set_option maxRecDepth 100000 in
theorem sL_told_61 {X : Xt} {n : Nat} {h : HP} {a0 : Nat} {x1 : Int} {a2 : Nat} {a3 : Nat} {a4 : Nat} {a5 : Nat} {x6 : Int} {x7 : Int} {x8 : Int} {x9 : Int} {x10 : Int} {x11 : Int} {x12 : Int} {t0 : Int} {bb : Nat} {sb9 : Nat} (hc : Cx X cL_told RL 18 10 182) {K : KT} (hr : CxR X (some .boolean) K) 
    (P : (R3 t0) ∧ (¬ t0 = 0 → (R3 t0) ∧ (t0 = 10 → Ok X bb sb9 95 [(0, .ref a0), (1, .int (i3 x1)), (2, .ref a2), (3, .ref a3), (4, .ref a4), (5, .ref a5), (6, .int (i3 x6)), (7, .int (i3 x7)), (8, .int (i3 (x8 + 0))), (9, .int (i3 (x9 + 0))), (10, .int (i3 x10)), (11, .int (i3 x11)), (12, .int (i3 x12)), (13, .int (i3 t0))] [] n h) ∧ (¬ t0 = 10 → Ok X bb sb9 95 [(0, .ref a0), (1, .int (i3 x1)), (2, .ref a2), (3, .ref a3), (4, .ref a4), (5, .ref a5), (6, .int (i3 x6)), (7, .int (i3 x7)), (8, .int (i3 (x8 + 0))), (9, .int (i3 (x9 + 1))), (10, .int (i3 x10)), (11, .int (i3 x11)), (12, .int (i3 x12)), (13, .int (i3 t0))] [] n h)) ∧ (t0 = 0 → (R3 t0) ∧ (t0 = 10 → Ok X bb sb9 95 [(0, .ref a0), (1, .int (i3 x1)), (2, .ref a2), (3, .ref a3), (4, .ref a4), (5, .ref a5), (6, .int (i3 x6)), (7, .int (i3 x7)), (8, .int (i3 (x8 + 1))), (9, .int (i3 (x9 + 0))), (10, .int (i3 x10)), (11, .int (i3 x11)), (12, .int (i3 x12)), (13, .int (i3 t0))] [] n h) ∧ (¬ t0 = 10 → Ok X bb sb9 95 [(0, .ref a0), (1, .int (i3 x1)), (2, .ref a2), (3, .ref a3), (4, .ref a4), (5, .ref a5), (6, .int (i3 x6)), (7, .int (i3 x7)), (8, .int (i3 (x8 + 1))), (9, .int (i3 (x9 + 1))), (10, .int (i3 x10)), (11, .int (i3 x11)), (12, .int (i3 x12)), (13, .int (i3 t0))] [] n h))) :
    Ok X bb sb9 61 [(0, .ref a0), (1, .int (i3 x1)), (2, .ref a2), (3, .ref a3), (4, .ref a4), (5, .ref a5), (6, .int (i3 x6)), (7, .int (i3 x7)), (8, .int (i3 x8)), (9, .int (i3 x9)), (10, .int (i3 x10)), (11, .int (i3 x11)), (12, .int (i3 x12))] [.int (i3 t0)] n h := by
  refine ok_istore (pc := 61) hc (lv' := [(13, .int (i3 t0)), (0, .ref a0), (1, .int (i3 x1)), (2, .ref a2), (3, .ref a3), (4, .ref a4), (5, .ref a5), (6, .int (i3 x6)), (7, .int (i3 x7)), (8, .int (i3 x8)), (9, .int (i3 x9)), (10, .int (i3 x10)), (11, .int (i3 x11)), (12, .int (i3 x12))]) dL_told_61 (by decide) rfl ?_
  refine ok_iload (pc := 63) hc dL_told_63 9 rfl ?_
  refine ok_iload (pc := 65) hc dL_told_65 0 rfl ?_
  obtain ⟨r1, P⟩ := P
  refine zk_if_ne (pc := 67) (tgt := 74) hc dL_told_67 (by decide) r1 (fun c => ?_) (fun c => ?_)
  · have P := P.1 c
    refine ok_iconst (pc := 74) hc (v := i3 0) dL_told_74 (by decide) ?_
    refine zk_iadd (pc := 75) hc dL_told_75 ?_
    refine ok_istore (pc := 76) hc (lv' := [(8, .int (i3 (x8 + 0))), (13, .int (i3 t0)), (0, .ref a0), (1, .int (i3 x1)), (2, .ref a2), (3, .ref a3), (4, .ref a4), (5, .ref a5), (6, .int (i3 x6)), (7, .int (i3 x7)), (9, .int (i3 x9)), (10, .int (i3 x10)), (11, .int (i3 x11)), (12, .int (i3 x12))]) dL_told_76 (by decide) rfl ?_
    refine ok_iload (pc := 78) hc dL_told_78 10 rfl ?_
    refine ok_iload (pc := 80) hc dL_told_80 1 rfl ?_
    refine ok_bipush (pc := 82) hc (v := i3 10) dL_told_82 (by decide) ?_
    obtain ⟨r2, P⟩ := P
    refine zk_icmp_eq (pc := 84) (tgt := 91) hc dL_told_84 (by decide) r2 ⟨by decide, by decide⟩ (fun c => ?_) (fun c => ?_)
    · have P := P.1 c
      refine ok_iconst (pc := 91) hc (v := i3 0) dL_told_91 (by decide) ?_
      refine zk_iadd (pc := 92) hc dL_told_92 ?_
      refine ok_istore (pc := 93) hc (lv' := [(9, .int (i3 (x9 + 0))), (8, .int (i3 (x8 + 0))), (13, .int (i3 t0)), (0, .ref a0), (1, .int (i3 x1)), (2, .ref a2), (3, .ref a3), (4, .ref a4), (5, .ref a5), (6, .int (i3 x6)), (7, .int (i3 x7)), (10, .int (i3 x10)), (11, .int (i3 x11)), (12, .int (i3 x12))]) dL_told_93 (by decide) rfl ?_
      refine ok_lv [3, 4, 5, 6, 7, 8, 9, 10, 1, 0, 11, 12, 13, 2] rfl ?_
      exact P
    · have P := P.2 c
      refine ok_iconst (pc := 87) hc (v := i3 1) dL_told_87 (by decide) ?_
      refine ok_goto (pc := 88) (tgt := 92) hc dL_told_88 (by decide) ?_
      refine zk_iadd (pc := 92) hc dL_told_92 ?_
      refine ok_istore (pc := 93) hc (lv' := [(9, .int (i3 (x9 + 1))), (8, .int (i3 (x8 + 0))), (13, .int (i3 t0)), (0, .ref a0), (1, .int (i3 x1)), (2, .ref a2), (3, .ref a3), (4, .ref a4), (5, .ref a5), (6, .int (i3 x6)), (7, .int (i3 x7)), (10, .int (i3 x10)), (11, .int (i3 x11)), (12, .int (i3 x12))]) dL_told_93 (by decide) rfl ?_
      refine ok_lv [3, 4, 5, 6, 7, 8, 9, 10, 1, 0, 11, 12, 13, 2] rfl ?_
      exact P
  · have P := P.2 c
    refine ok_iconst (pc := 70) hc (v := i3 1) dL_told_70 (by decide) ?_
    refine ok_goto (pc := 71) (tgt := 75) hc dL_told_71 (by decide) ?_
    refine zk_iadd (pc := 75) hc dL_told_75 ?_
    refine ok_istore (pc := 76) hc (lv' := [(8, .int (i3 (x8 + 1))), (13, .int (i3 t0)), (0, .ref a0), (1, .int (i3 x1)), (2, .ref a2), (3, .ref a3), (4, .ref a4), (5, .ref a5), (6, .int (i3 x6)), (7, .int (i3 x7)), (9, .int (i3 x9)), (10, .int (i3 x10)), (11, .int (i3 x11)), (12, .int (i3 x12))]) dL_told_76 (by decide) rfl ?_
    refine ok_iload (pc := 78) hc dL_told_78 10 rfl ?_
    refine ok_iload (pc := 80) hc dL_told_80 1 rfl ?_
    refine ok_bipush (pc := 82) hc (v := i3 10) dL_told_82 (by decide) ?_
    obtain ⟨r3, P⟩ := P
    refine zk_icmp_eq (pc := 84) (tgt := 91) hc dL_told_84 (by decide) r3 ⟨by decide, by decide⟩ (fun c => ?_) (fun c => ?_)
    · have P := P.1 c
      refine ok_iconst (pc := 91) hc (v := i3 0) dL_told_91 (by decide) ?_
      refine zk_iadd (pc := 92) hc dL_told_92 ?_
      refine ok_istore (pc := 93) hc (lv' := [(9, .int (i3 (x9 + 0))), (8, .int (i3 (x8 + 1))), (13, .int (i3 t0)), (0, .ref a0), (1, .int (i3 x1)), (2, .ref a2), (3, .ref a3), (4, .ref a4), (5, .ref a5), (6, .int (i3 x6)), (7, .int (i3 x7)), (10, .int (i3 x10)), (11, .int (i3 x11)), (12, .int (i3 x12))]) dL_told_93 (by decide) rfl ?_
      refine ok_lv [3, 4, 5, 6, 7, 8, 9, 10, 1, 0, 11, 12, 13, 2] rfl ?_
      exact P
    · have P := P.2 c
      refine ok_iconst (pc := 87) hc (v := i3 1) dL_told_87 (by decide) ?_
      refine ok_goto (pc := 88) (tgt := 92) hc dL_told_88 (by decide) ?_
      refine zk_iadd (pc := 92) hc dL_told_92 ?_
      refine ok_istore (pc := 93) hc (lv' := [(9, .int (i3 (x9 + 1))), (8, .int (i3 (x8 + 1))), (13, .int (i3 t0)), (0, .ref a0), (1, .int (i3 x1)), (2, .ref a2), (3, .ref a3), (4, .ref a4), (5, .ref a5), (6, .int (i3 x6)), (7, .int (i3 x7)), (10, .int (i3 x10)), (11, .int (i3 x11)), (12, .int (i3 x12))]) dL_told_93 (by decide) rfl ?_
      refine ok_lv [3, 4, 5, 6, 7, 8, 9, 10, 1, 0, 11, 12, 13, 2] rfl ?_
      exact P

set_option maxHeartbeats 4000000 in
set_option maxRecDepth 100000 in
theorem sL_told_95 {X : Xt} {n : Nat} {h : HP} {a0 : Nat} {x1 : Int} {a2 : Nat} {a3 : Nat} {a4 : Nat} {a5 : Nat} {x6 : Int} {x7 : Int} {x8 : Int} {x9 : Int} {x10 : Int} {x11 : Int} {x12 : Int} {x13 : Int} {bb : Nat} {sb9 : Nat} {fs1 : List Value} (hc : Cx X cL_told RL 18 10 182) {K : KT} (hr : CxR X (some .boolean) K) (e1 : At h n a0 (.inl (6, fs1))) (z1 : fs1.length = 6)
    (P : spec_X6_why [.ref a0, .int (i3 x12)] n h (kc X bb sb9 98 [(0, .ref a0), (1, .int (i3 x1)), (2, .ref a2), (3, .ref a3), (4, .ref a4), (5, .ref a5), (6, .int (i3 x6)), (7, .int (i3 x7)), (8, .int (i3 x8)), (9, .int (i3 x9)), (10, .int (i3 x10)), (11, .int (i3 x11)), (12, .int (i3 x12)), (13, .int (i3 x13))] [] n)) :
    Ok X (bb + 1) (sb9 + 6) 95 [(0, .ref a0), (1, .int (i3 x1)), (2, .ref a2), (3, .ref a3), (4, .ref a4), (5, .ref a5), (6, .int (i3 x6)), (7, .int (i3 x7)), (8, .int (i3 x8)), (9, .int (i3 x9)), (10, .int (i3 x10)), (11, .int (i3 x11)), (12, .int (i3 x12)), (13, .int (i3 x13))] [] n h := by
  refine ok_aload_n (pc := 95) hc dL_told_95 rfl 0 rfl ?_
  refine ok_iload (pc := 96) hc dL_told_96 12 rfl ?_
  exact ok_callV (pc := 98) (a := a0) (cb := bb) (sb := sb9) (st := []) hc [.int (i3 x12)] cv_L_64 sp_X6_why (by decide) dL_told_98 rfl e1.1 e1.2 rfl rfl rfl (Nat.le_of_ble_eq_true rfl) P

set_option maxHeartbeats 4000000 in
set_option maxRecDepth 100000 in
theorem sL_told_101 {X : Xt} {n : Nat} {h : HP} {a0 : Nat} {x1 : Int} {a2 : Nat} {a3 : Nat} {a4 : Nat} {a5 : Nat} {x6 : Int} {x7 : Int} {x8 : Int} {x9 : Int} {x10 : Int} {x11 : Int} {x12 : Int} {x13 : Int} {t0 : Int} {bb : Nat} {sb9 : Nat} (hc : Cx X cL_told RL 18 10 182) {K : KT} (hr : CxR X (some .boolean) K) 
    (P : (((0 : Int) ≤ x13 ∧ x13 ≤ 2147483647) ∧ (0 : Int) < 10 ∧ (10 : Int) ≤ 2147483647) ∧ (R3 t0) ∧ (R3 (x13 / 10)) ∧ (¬ t0 = (x13 / 10) → K (.inl (some (.int (i3 0)))) n h) ∧ (t0 = (x13 / 10) → Ok X bb sb9 109 [(0, .ref a0), (1, .int (i3 x1)), (2, .ref a2), (3, .ref a3), (4, .ref a4), (5, .ref a5), (6, .int (i3 x6)), (7, .int (i3 x7)), (8, .int (i3 x8)), (9, .int (i3 x9)), (10, .int (i3 x10)), (11, .int (i3 x11)), (12, .int (i3 x12)), (13, .int (i3 x13))] [] n h)) :
    Ok X bb sb9 101 [(0, .ref a0), (1, .int (i3 x1)), (2, .ref a2), (3, .ref a3), (4, .ref a4), (5, .ref a5), (6, .int (i3 x6)), (7, .int (i3 x7)), (8, .int (i3 x8)), (9, .int (i3 x9)), (10, .int (i3 x10)), (11, .int (i3 x11)), (12, .int (i3 x12)), (13, .int (i3 x13))] [.int (i3 t0)] n h := by
  refine ok_iload (pc := 101) hc dL_told_101 13 rfl ?_
  refine ok_bipush (pc := 103) hc (v := i3 10) dL_told_103 (by decide) ?_
  obtain ⟨r, P⟩ := P
  refine zk_idiv (pc := 105) hc dL_told_105 r ?_
  obtain ⟨r1, P⟩ := P
  obtain ⟨r2, P⟩ := P
  refine zk_icmp_ne (pc := 106) (tgt := 134) hc dL_told_106 (by decide) r1 r2 (fun c => ?_) (fun c => ?_)
  · have P := P.1 c
    refine ok_iconst (pc := 134) hc (v := i3 0) dL_told_134 (by decide) ?_
    exact ok_zret (st := []) (pc := 135) hc (nar_z (by decide)) hr dL_told_135 P
  · have P := P.2 c
    exact P

set_option maxHeartbeats 4000000 in
set_option maxRecDepth 100000 in
theorem sL_told_109 {X : Xt} {n : Nat} {h : HP} {a0 : Nat} {x1 : Int} {a2 : Nat} {a3 : Nat} {a4 : Nat} {a5 : Nat} {x6 : Int} {x7 : Int} {x8 : Int} {x9 : Int} {x10 : Int} {x11 : Int} {x12 : Int} {x13 : Int} {bb : Nat} {sb9 : Nat} {fs1 : List Value} (hc : Cx X cL_told RL 18 10 182) {K : KT} (hr : CxR X (some .boolean) K) (e1 : At h n a0 (.inl (6, fs1))) (z1 : fs1.length = 6)
    (P : spec_X6_concerned [.ref a0, .int (i3 x12)] n h (kc X bb sb9 112 [(0, .ref a0), (1, .int (i3 x1)), (2, .ref a2), (3, .ref a3), (4, .ref a4), (5, .ref a5), (6, .int (i3 x6)), (7, .int (i3 x7)), (8, .int (i3 x8)), (9, .int (i3 x9)), (10, .int (i3 x10)), (11, .int (i3 x11)), (12, .int (i3 x12)), (13, .int (i3 x13))] [] n)) :
    Ok X (bb + 1) (sb9 + 6) 109 [(0, .ref a0), (1, .int (i3 x1)), (2, .ref a2), (3, .ref a3), (4, .ref a4), (5, .ref a5), (6, .int (i3 x6)), (7, .int (i3 x7)), (8, .int (i3 x8)), (9, .int (i3 x9)), (10, .int (i3 x10)), (11, .int (i3 x11)), (12, .int (i3 x12)), (13, .int (i3 x13))] [] n h := by
  refine ok_aload_n (pc := 109) hc dL_told_109 rfl 0 rfl ?_
  refine ok_iload (pc := 110) hc dL_told_110 12 rfl ?_
  exact ok_callV (pc := 112) (a := a0) (cb := bb) (sb := sb9) (st := []) hc [.int (i3 x12)] cv_L_68 sp_X6_concerned (by decide) dL_told_112 rfl e1.1 e1.2 rfl rfl rfl (Nat.le_of_ble_eq_true rfl) P

set_option maxHeartbeats 4000000 in
set_option maxRecDepth 100000 in
theorem sL_told_115 {X : Xt} {n : Nat} {h : HP} {a0 : Nat} {x1 : Int} {a2 : Nat} {a3 : Nat} {a4 : Nat} {a5 : Nat} {x6 : Int} {x7 : Int} {x8 : Int} {x9 : Int} {x10 : Int} {x11 : Int} {x12 : Int} {x13 : Int} {t0 : Int} {bb : Nat} {sb9 : Nat} (hc : Cx X cL_told RL 18 10 182) {K : KT} (hr : CxR X (some .boolean) K) 
    (P : (R3 x13) ∧ (20 ≤ x13 → (((0 : Int) ≤ x13 ∧ x13 ≤ 2147483647) ∧ (0 : Int) < 10 ∧ (10 : Int) ≤ 2147483647) ∧ (R3 t0) ∧ (R3 (x13 % 10)) ∧ (t0 = (x13 % 10) → Ok X bb sb9 136 [(0, .ref a0), (1, .int (i3 x1)), (2, .ref a2), (3, .ref a3), (4, .ref a4), (5, .ref a5), (6, .int (i3 x6)), (7, .int (i3 x7)), (8, .int (i3 x8)), (9, .int (i3 x9)), (10, .int (i3 x10)), (11, .int (i3 x11)), (12, .int (i3 x12)), (13, .int (i3 x13))] [] n h) ∧ (¬ t0 = (x13 % 10) → K (.inl (some (.int (i3 0)))) n h)) ∧ (¬ 20 ≤ x13 → (R3 t0) ∧ (t0 = (-1) → Ok X bb sb9 136 [(0, .ref a0), (1, .int (i3 x1)), (2, .ref a2), (3, .ref a3), (4, .ref a4), (5, .ref a5), (6, .int (i3 x6)), (7, .int (i3 x7)), (8, .int (i3 x8)), (9, .int (i3 x9)), (10, .int (i3 x10)), (11, .int (i3 x11)), (12, .int (i3 x12)), (13, .int (i3 x13))] [] n h) ∧ (¬ t0 = (-1) → K (.inl (some (.int (i3 0)))) n h))) :
    Ok X bb sb9 115 [(0, .ref a0), (1, .int (i3 x1)), (2, .ref a2), (3, .ref a3), (4, .ref a4), (5, .ref a5), (6, .int (i3 x6)), (7, .int (i3 x7)), (8, .int (i3 x8)), (9, .int (i3 x9)), (10, .int (i3 x10)), (11, .int (i3 x11)), (12, .int (i3 x12)), (13, .int (i3 x13))] [.int (i3 t0)] n h := by
  refine ok_iload (pc := 115) hc dL_told_115 13 rfl ?_
  refine ok_bipush (pc := 117) hc (v := i3 20) dL_told_117 (by decide) ?_
  obtain ⟨r1, P⟩ := P
  refine zk_icmp_ge (pc := 119) (tgt := 126) hc dL_told_119 (by decide) r1 ⟨by decide, by decide⟩ (fun c => ?_) (fun c => ?_)
  · have P := P.1 c
    refine ok_iload (pc := 126) hc dL_told_126 13 rfl ?_
    refine ok_bipush (pc := 128) hc (v := i3 10) dL_told_128 (by decide) ?_
    obtain ⟨r, P⟩ := P
    refine zk_irem (pc := 130) hc dL_told_130 r ?_
    obtain ⟨r2, P⟩ := P
    obtain ⟨r3, P⟩ := P
    refine zk_icmp_eq (pc := 131) (tgt := 136) hc dL_told_131 (by decide) r2 r3 (fun c => ?_) (fun c => ?_)
    · have P := P.1 c
      exact P
    · have P := P.2 c
      refine ok_iconst (pc := 134) hc (v := i3 0) dL_told_134 (by decide) ?_
      exact ok_zret (st := []) (pc := 135) hc (nar_z (by decide)) hr dL_told_135 P
  · have P := P.2 c
    refine ok_iconst (pc := 122) hc (v := i3 (-1)) dL_told_122 (by decide) ?_
    refine ok_goto (pc := 123) (tgt := 131) hc dL_told_123 (by decide) ?_
    obtain ⟨r4, P⟩ := P
    refine zk_icmp_eq (pc := 131) (tgt := 136) hc dL_told_131 (by decide) r4 ⟨by decide, by decide⟩ (fun c => ?_) (fun c => ?_)
    · have P := P.1 c
      exact P
    · have P := P.2 c
      refine ok_iconst (pc := 134) hc (v := i3 0) dL_told_134 (by decide) ?_
      exact ok_zret (st := []) (pc := 135) hc (nar_z (by decide)) hr dL_told_135 P

set_option maxHeartbeats 4000000 in
set_option maxRecDepth 100000 in
theorem sL_told_136 {X : Xt} {n : Nat} {h : HP} {a0 : Nat} {x1 : Int} {a2 : Nat} {a3 : Nat} {a4 : Nat} {a5 : Nat} {x6 : Int} {x7 : Int} {x8 : Int} {x9 : Int} {x10 : Int} {x11 : Int} {x12 : Int} {x13 : Int} {bb : Nat} {sb9 : Nat} (hc : Cx X cL_told RL 18 10 182) {K : KT} (hr : CxR X (some .boolean) K) 
    (P : spec_L_equations [.int (i3 x12), .int (i3 (-1)), .ref a2, .ref a3, .ref a4] n h (kc X bb sb9 143 [(0, .ref a0), (1, .int (i3 x1)), (2, .ref a2), (3, .ref a3), (4, .ref a4), (5, .ref a5), (6, .int (i3 x6)), (7, .int (i3 x7)), (8, .int (i3 x8)), (9, .int (i3 x9)), (10, .int (i3 x10)), (11, .int (i3 x11)), (12, .int (i3 x12)), (13, .int (i3 x13))] [] n)) :
    Ok X bb sb9 136 [(0, .ref a0), (1, .int (i3 x1)), (2, .ref a2), (3, .ref a3), (4, .ref a4), (5, .ref a5), (6, .int (i3 x6)), (7, .int (i3 x7)), (8, .int (i3 x8)), (9, .int (i3 x9)), (10, .int (i3 x10)), (11, .int (i3 x11)), (12, .int (i3 x12)), (13, .int (i3 x13))] [] n h := by
  refine ok_iload (pc := 136) hc dL_told_136 12 rfl ?_
  refine ok_iconst (pc := 138) hc (v := i3 (-1)) dL_told_138 (by decide) ?_
  refine ok_aload_n (pc := 139) hc dL_told_139 rfl 2 rfl ?_
  refine ok_aload_n (pc := 140) hc dL_told_140 rfl 3 rfl ?_
  refine ok_aload (pc := 141) hc dL_told_141 4 rfl ?_
  exact ok_callS (pc := 143) (cb := bb) (sb := sb9) (st := []) hc [.int (i3 x12), .int (i3 (-1)), .ref a2, .ref a3, .ref a4] cs_L_45 sp_L_equations (by decide) dL_told_143 rfl rfl rfl rfl (Nat.le_of_ble_eq_true rfl) P

set_option maxHeartbeats 4000000 in
set_option maxRecDepth 100000 in
theorem sL_told_146 {X : Xt} {n : Nat} {h : HP} {a0 : Nat} {x1 : Int} {a2 : Nat} {a3 : Nat} {a4 : Nat} {a5 : Nat} {x6 : Int} {x7 : Int} {x8 : Int} {x9 : Int} {x10 : Int} {x11 : Int} {x12 : Int} {x13 : Int} {bb : Nat} {sb9 : Nat} (hc : Cx X cL_told RL 18 10 182) {K : KT} (hr : CxR X (some .boolean) K) 
    (P : spec_L_solve [.ref a4] n h (kc X bb sb9 148 [(0, .ref a0), (1, .int (i3 x1)), (2, .ref a2), (3, .ref a3), (4, .ref a4), (5, .ref a5), (6, .int (i3 x6)), (7, .int (i3 x7)), (8, .int (i3 x8)), (9, .int (i3 x9)), (10, .int (i3 x10)), (11, .int (i3 x11)), (12, .int (i3 x12)), (13, .int (i3 x13))] [] n)) :
    Ok X bb sb9 146 [(0, .ref a0), (1, .int (i3 x1)), (2, .ref a2), (3, .ref a3), (4, .ref a4), (5, .ref a5), (6, .int (i3 x6)), (7, .int (i3 x7)), (8, .int (i3 x8)), (9, .int (i3 x9)), (10, .int (i3 x10)), (11, .int (i3 x11)), (12, .int (i3 x12)), (13, .int (i3 x13))] [] n h := by
  refine ok_aload (pc := 146) hc dL_told_146 4 rfl ?_
  exact ok_callS (pc := 148) (cb := bb) (sb := sb9) (st := []) hc [.ref a4] cs_L_49 sp_L_solve (by decide) dL_told_148 rfl rfl rfl rfl (Nat.le_of_ble_eq_true rfl) P

set_option maxHeartbeats 4000000 in
set_option maxRecDepth 100000 in
theorem sL_told_151 {X : Xt} {n : Nat} {h : HP} {a0 : Nat} {x1 : Int} {a2 : Nat} {a3 : Nat} {a4 : Nat} {a5 : Nat} {x6 : Int} {x7 : Int} {x8 : Int} {x9 : Int} {x10 : Int} {x11 : Int} {x12 : Int} {x13 : Int} {t0 : Int} {bb : Nat} {sb9 : Nat} (hc : Cx X cL_told RL 18 10 182) {K : KT} (hr : CxR X (some .boolean) K) 
    (P : (((0 : Int) ≤ x12 ∧ x12 ≤ 2147483647) ∧ (0 : Int) < 16 ∧ (16 : Int) ≤ 2147483647) ∧ spec_L_at [.int (i3 (bshr x1 (x12 % 16))), .int (i3 7)] n h (kc X bb sb9 162 [(0, .ref a0), (1, .int (i3 x1)), (2, .ref a2), (3, .ref a3), (4, .ref a4), (5, .ref a5), (6, .int (i3 x6)), (7, .int (i3 x7)), (8, .int (i3 x8)), (9, .int (i3 x9)), (10, .int (i3 x10)), (11, .int (i3 x11)), (12, .int (i3 x12)), (13, .int (i3 x13)), (14, .int (i3 t0))] [] n)) :
    Ok X bb sb9 151 [(0, .ref a0), (1, .int (i3 x1)), (2, .ref a2), (3, .ref a3), (4, .ref a4), (5, .ref a5), (6, .int (i3 x6)), (7, .int (i3 x7)), (8, .int (i3 x8)), (9, .int (i3 x9)), (10, .int (i3 x10)), (11, .int (i3 x11)), (12, .int (i3 x12)), (13, .int (i3 x13))] [.int (i3 t0)] n h := by
  refine ok_istore (pc := 151) hc (lv' := [(14, .int (i3 t0)), (0, .ref a0), (1, .int (i3 x1)), (2, .ref a2), (3, .ref a3), (4, .ref a4), (5, .ref a5), (6, .int (i3 x6)), (7, .int (i3 x7)), (8, .int (i3 x8)), (9, .int (i3 x9)), (10, .int (i3 x10)), (11, .int (i3 x11)), (12, .int (i3 x12)), (13, .int (i3 x13))]) dL_told_151 (by decide) rfl ?_
  refine ok_iload_n (pc := 153) hc dL_told_153 rfl 2 rfl ?_
  refine ok_iload (pc := 154) hc dL_told_154 13 rfl ?_
  refine ok_bipush (pc := 156) hc (v := i3 16) dL_told_156 (by decide) ?_
  obtain ⟨r, P⟩ := P
  refine zk_irem (pc := 158) hc dL_told_158 r ?_
  refine zk_ishr (pc := 159) hc dL_told_159 ?_
  refine ok_bipush (pc := 160) hc (v := i3 7) dL_told_160 (by decide) ?_
  refine ok_lv [1, 2, 3, 4, 5, 6, 7, 8, 9, 10, 11, 12, 13, 14, 0] rfl ?_
  exact ok_callS (pc := 162) (cb := bb) (sb := sb9) (st := []) hc [.int (i3 (bshr x1 (x12 % 16))), .int (i3 7)] cs_L_71 sp_L_at (by decide) dL_told_162 rfl rfl rfl rfl (Nat.le_of_ble_eq_true rfl) P

set_option maxHeartbeats 4000000 in
set_option maxRecDepth 100000 in
theorem sL_told_165 {X : Xt} {n : Nat} {h : HP} {a0 : Nat} {x1 : Int} {a2 : Nat} {a3 : Nat} {a4 : Nat} {a5 : Nat} {x6 : Int} {x7 : Int} {x8 : Int} {x9 : Int} {x10 : Int} {x11 : Int} {x12 : Int} {x13 : Int} {x14 : Int} {t0 : Int} {bb : Nat} {sb9 : Nat} {f3 : Nat → Int} {ps4 : List Part} {f5 : Nat → Int} (hc : Cx X cL_told RL 18 10 182) {K : KT} (hr : CxR X (some .boolean) K) (e3 : At h n a3 (ai 48 f3)) (hP4 : PaF f3 ps4) (e5 : At h n a2 (ai 4 f5)) (hD6 : f5 0 = ps4.length)
    (P : (R3 x14) ∧ (x14 = 0 → Ok X bb sb9 197 [(0, .ref a0), (1, .int (i3 x1)), (2, .ref a2), (3, .ref a3), (4, .ref a4), (5, .ref a5), (6, .int (i3 x6)), (7, .int (i3 x7)), (8, .int (i3 x8)), (9, .int (i3 x9)), (10, .int (i3 x10)), (11, .int (i3 x11)), (12, .int (i3 x12)), (13, .int (i3 x13)), (14, .int (i3 x14)), (15, .int (i3 t0)), (16, .int (i3 0)), (17, .int (i3 0))] [] n h) ∧ (¬ x14 = 0 → (R3 t0) ∧ (t0 = 0 → Ok X bb sb9 197 [(0, .ref a0), (1, .int (i3 x1)), (2, .ref a2), (3, .ref a3), (4, .ref a4), (5, .ref a5), (6, .int (i3 x6)), (7, .int (i3 x7)), (8, .int (i3 x8)), (9, .int (i3 x9)), (10, .int (i3 x10)), (11, .int (i3 x11)), (12, .int (i3 x12)), (13, .int (i3 x13)), (14, .int (i3 x14)), (15, .int (i3 t0)), (16, .int (i3 1)), (17, .int (i3 0))] [] n h) ∧ (¬ t0 = 0 → (R3 t0) ∧ ((ps4.any (fun p => atB p t0)) = false → Ok X bb sb9 197 [(0, .ref a0), (1, .int (i3 x1)), (2, .ref a2), (3, .ref a3), (4, .ref a4), (5, .ref a5), (6, .int (i3 x6)), (7, .int (i3 x7)), (8, .int (i3 x8)), (9, .int (i3 x9)), (10, .int (i3 x10)), (11, .int (i3 x11)), (12, .int (i3 x12)), (13, .int (i3 x13)), (14, .int (i3 x14)), (15, .int (i3 t0)), (16, .int (i3 0)), (17, .int (i3 0))] [] n h) ∧ ((ps4.any (fun p => atB p t0)) = true → Ok X bb sb9 197 [(0, .ref a0), (1, .int (i3 x1)), (2, .ref a2), (3, .ref a3), (4, .ref a4), (5, .ref a5), (6, .int (i3 x6)), (7, .int (i3 x7)), (8, .int (i3 x8)), (9, .int (i3 x9)), (10, .int (i3 x10)), (11, .int (i3 x11)), (12, .int (i3 x12)), (13, .int (i3 x13)), (14, .int (i3 x14)), (15, .int (i3 t0)), (16, .int (i3 1)), (17, .int (i3 0))] [] n h)))) :
    Ok X bb sb9 165 [(0, .ref a0), (1, .int (i3 x1)), (2, .ref a2), (3, .ref a3), (4, .ref a4), (5, .ref a5), (6, .int (i3 x6)), (7, .int (i3 x7)), (8, .int (i3 x8)), (9, .int (i3 x9)), (10, .int (i3 x10)), (11, .int (i3 x11)), (12, .int (i3 x12)), (13, .int (i3 x13)), (14, .int (i3 x14))] [.int (i3 t0)] n h := by
  refine ok_istore (pc := 165) hc (lv' := [(15, .int (i3 t0)), (0, .ref a0), (1, .int (i3 x1)), (2, .ref a2), (3, .ref a3), (4, .ref a4), (5, .ref a5), (6, .int (i3 x6)), (7, .int (i3 x7)), (8, .int (i3 x8)), (9, .int (i3 x9)), (10, .int (i3 x10)), (11, .int (i3 x11)), (12, .int (i3 x12)), (13, .int (i3 x13)), (14, .int (i3 x14))]) dL_told_165 (by decide) rfl ?_
  refine ok_iload (pc := 167) hc dL_told_167 15 rfl ?_
  obtain ⟨r1, P⟩ := P
  refine zk_if_eq (pc := 169) (tgt := 191) hc dL_told_169 (by decide) r1 (fun c => ?_) (fun c => ?_)
  · have P := P.1 c
    refine ok_iconst (pc := 191) hc (v := i3 0) dL_told_191 (by decide) ?_
    refine ok_istore (pc := 192) hc (lv' := [(16, .int (i3 0)), (15, .int (i3 t0)), (0, .ref a0), (1, .int (i3 x1)), (2, .ref a2), (3, .ref a3), (4, .ref a4), (5, .ref a5), (6, .int (i3 x6)), (7, .int (i3 x7)), (8, .int (i3 x8)), (9, .int (i3 x9)), (10, .int (i3 x10)), (11, .int (i3 x11)), (12, .int (i3 x12)), (13, .int (i3 x13)), (14, .int (i3 x14))]) dL_told_192 (by decide) rfl ?_
    refine ok_iconst (pc := 194) hc (v := i3 0) dL_told_194 (by decide) ?_
    refine ok_istore (pc := 195) hc (lv' := [(17, .int (i3 0)), (16, .int (i3 0)), (15, .int (i3 t0)), (0, .ref a0), (1, .int (i3 x1)), (2, .ref a2), (3, .ref a3), (4, .ref a4), (5, .ref a5), (6, .int (i3 x6)), (7, .int (i3 x7)), (8, .int (i3 x8)), (9, .int (i3 x9)), (10, .int (i3 x10)), (11, .int (i3 x11)), (12, .int (i3 x12)), (13, .int (i3 x13)), (14, .int (i3 x14))]) dL_told_195 (by decide) rfl ?_
    refine ok_lv [3, 4, 5, 6, 7, 8, 9, 10, 11, 12, 13, 14, 15, 16, 17, 2, 1, 0] rfl ?_
    exact P
  · have P := P.2 c
    refine ok_iload (pc := 172) hc dL_told_172 0 rfl ?_
    obtain ⟨r2, P⟩ := P
    refine zk_if_eq (pc := 174) (tgt := 187) hc dL_told_174 (by decide) r2 (fun c => ?_) (fun c => ?_)
    · have P := P.1 c
      refine ok_iconst (pc := 187) hc (v := i3 1) dL_told_187 (by decide) ?_
      refine ok_goto (pc := 188) (tgt := 192) hc dL_told_188 (by decide) ?_
      refine ok_istore (pc := 192) hc (lv' := [(16, .int (i3 1)), (15, .int (i3 t0)), (0, .ref a0), (1, .int (i3 x1)), (2, .ref a2), (3, .ref a3), (4, .ref a4), (5, .ref a5), (6, .int (i3 x6)), (7, .int (i3 x7)), (8, .int (i3 x8)), (9, .int (i3 x9)), (10, .int (i3 x10)), (11, .int (i3 x11)), (12, .int (i3 x12)), (13, .int (i3 x13)), (14, .int (i3 x14))]) dL_told_192 (by decide) rfl ?_
      refine ok_iconst (pc := 194) hc (v := i3 0) dL_told_194 (by decide) ?_
      refine ok_istore (pc := 195) hc (lv' := [(17, .int (i3 0)), (16, .int (i3 1)), (15, .int (i3 t0)), (0, .ref a0), (1, .int (i3 x1)), (2, .ref a2), (3, .ref a3), (4, .ref a4), (5, .ref a5), (6, .int (i3 x6)), (7, .int (i3 x7)), (8, .int (i3 x8)), (9, .int (i3 x9)), (10, .int (i3 x10)), (11, .int (i3 x11)), (12, .int (i3 x12)), (13, .int (i3 x13)), (14, .int (i3 x14))]) dL_told_195 (by decide) rfl ?_
      refine ok_lv [3, 4, 5, 6, 7, 8, 9, 10, 11, 12, 13, 14, 15, 16, 17, 2, 1, 0] rfl ?_
      exact P
    · have P := P.2 c
      refine ok_iload (pc := 177) hc dL_told_177 0 rfl ?_
      refine ok_aload_n (pc := 179) hc dL_told_179 rfl 3 rfl ?_
      refine ok_aload_n (pc := 180) hc dL_told_180 rfl 4 rfl ?_
      obtain ⟨r0, P⟩ := P
      refine ok_callS (pc := 181) (cb := bb) (sb := sb9) (st := []) hc [.int (i3 t0), .ref a2, .ref a3] cs_L_29 sp_L_used (by decide) dL_told_181 rfl rfl rfl rfl (Nat.le_of_ble_eq_true rfl) (⟨_, _, _, _, _, _, rfl, ⟨e5.1, e5.2⟩, ⟨e3.1, e3.2⟩, hD6, hP4, r0, rfl, ?_⟩)
      show Ok X bb sb9 (181 + 3) [(15, .int (i3 t0)), (0, .ref a0), (1, .int (i3 x1)), (2, .ref a2), (3, .ref a3), (4, .ref a4), (5, .ref a5), (6, .int (i3 x6)), (7, .int (i3 x7)), (8, .int (i3 x8)), (9, .int (i3 x9)), (10, .int (i3 x10)), (11, .int (i3 x11)), (12, .int (i3 x12)), (13, .int (i3 x13)), (14, .int (i3 x14))] [.int (i3 (bz (ps4.any (fun p => atB p t0))))] n h
      refine zk_if_eq (pc := 184) (tgt := 191) hc dL_told_184 (by decide) R3_bz (fun c => ?_) (fun c => ?_)
      · have P := P.1 (bz_0.mp c)
        refine ok_iconst (pc := 191) hc (v := i3 0) dL_told_191 (by decide) ?_
        refine ok_istore (pc := 192) hc (lv' := [(16, .int (i3 0)), (15, .int (i3 t0)), (0, .ref a0), (1, .int (i3 x1)), (2, .ref a2), (3, .ref a3), (4, .ref a4), (5, .ref a5), (6, .int (i3 x6)), (7, .int (i3 x7)), (8, .int (i3 x8)), (9, .int (i3 x9)), (10, .int (i3 x10)), (11, .int (i3 x11)), (12, .int (i3 x12)), (13, .int (i3 x13)), (14, .int (i3 x14))]) dL_told_192 (by decide) rfl ?_
        refine ok_iconst (pc := 194) hc (v := i3 0) dL_told_194 (by decide) ?_
        refine ok_istore (pc := 195) hc (lv' := [(17, .int (i3 0)), (16, .int (i3 0)), (15, .int (i3 t0)), (0, .ref a0), (1, .int (i3 x1)), (2, .ref a2), (3, .ref a3), (4, .ref a4), (5, .ref a5), (6, .int (i3 x6)), (7, .int (i3 x7)), (8, .int (i3 x8)), (9, .int (i3 x9)), (10, .int (i3 x10)), (11, .int (i3 x11)), (12, .int (i3 x12)), (13, .int (i3 x13)), (14, .int (i3 x14))]) dL_told_195 (by decide) rfl ?_
        refine ok_lv [3, 4, 5, 6, 7, 8, 9, 10, 11, 12, 13, 14, 15, 16, 17, 2, 1, 0] rfl ?_
        exact P
      · have P := P.2 (bz_1.mp c)
        refine ok_iconst (pc := 187) hc (v := i3 1) dL_told_187 (by decide) ?_
        refine ok_goto (pc := 188) (tgt := 192) hc dL_told_188 (by decide) ?_
        refine ok_istore (pc := 192) hc (lv' := [(16, .int (i3 1)), (15, .int (i3 t0)), (0, .ref a0), (1, .int (i3 x1)), (2, .ref a2), (3, .ref a3), (4, .ref a4), (5, .ref a5), (6, .int (i3 x6)), (7, .int (i3 x7)), (8, .int (i3 x8)), (9, .int (i3 x9)), (10, .int (i3 x10)), (11, .int (i3 x11)), (12, .int (i3 x12)), (13, .int (i3 x13)), (14, .int (i3 x14))]) dL_told_192 (by decide) rfl ?_
        refine ok_iconst (pc := 194) hc (v := i3 0) dL_told_194 (by decide) ?_
        refine ok_istore (pc := 195) hc (lv' := [(17, .int (i3 0)), (16, .int (i3 1)), (15, .int (i3 t0)), (0, .ref a0), (1, .int (i3 x1)), (2, .ref a2), (3, .ref a3), (4, .ref a4), (5, .ref a5), (6, .int (i3 x6)), (7, .int (i3 x7)), (8, .int (i3 x8)), (9, .int (i3 x9)), (10, .int (i3 x10)), (11, .int (i3 x11)), (12, .int (i3 x12)), (13, .int (i3 x13)), (14, .int (i3 x14))]) dL_told_195 (by decide) rfl ?_
        refine ok_lv [3, 4, 5, 6, 7, 8, 9, 10, 11, 12, 13, 14, 15, 16, 17, 2, 1, 0] rfl ?_
        exact P

set_option maxHeartbeats 4000000 in
set_option maxRecDepth 100000 in
theorem sL_told_197 {X : Xt} {n : Nat} {h : HP} {a0 : Nat} {x1 : Int} {a2 : Nat} {a3 : Nat} {a4 : Nat} {a5 : Nat} {x6 : Int} {x7 : Int} {x8 : Int} {x9 : Int} {x10 : Int} {x11 : Int} {x12 : Int} {x13 : Int} {x14 : Int} {x15 : Int} {x16 : Int} {x17 : Int} {bb : Nat} {sb9 : Nat} (hc : Cx X cL_told RL 18 10 182) {K : KT} (hr : CxR X (some .boolean) K) 
    (P : (R3 x17) ∧ (2 ≤ x17 → Ok X bb sb9 243 [(0, .ref a0), (1, .int (i3 x1)), (2, .ref a2), (3, .ref a3), (4, .ref a4), (5, .ref a5), (6, .int (i3 x6)), (7, .int (i3 x7)), (8, .int (i3 x8)), (9, .int (i3 x9)), (10, .int (i3 x10)), (11, .int (i3 x11)), (12, .int (i3 x12)), (13, .int (i3 x13)), (14, .int (i3 x14)), (15, .int (i3 x15)), (16, .int (i3 x16)), (17, .int (i3 x17))] [] n h) ∧ (¬ 2 ≤ x17 → Ok X bb sb9 203 [(0, .ref a0), (1, .int (i3 x1)), (2, .ref a2), (3, .ref a3), (4, .ref a4), (5, .ref a5), (6, .int (i3 x6)), (7, .int (i3 x7)), (8, .int (i3 x8)), (9, .int (i3 x9)), (10, .int (i3 x10)), (11, .int (i3 x11)), (12, .int (i3 x12)), (13, .int (i3 x13)), (14, .int (i3 x14)), (15, .int (i3 x15)), (16, .int (i3 x16)), (17, .int (i3 x17))] [] n h)) :
    Ok X bb sb9 197 [(0, .ref a0), (1, .int (i3 x1)), (2, .ref a2), (3, .ref a3), (4, .ref a4), (5, .ref a5), (6, .int (i3 x6)), (7, .int (i3 x7)), (8, .int (i3 x8)), (9, .int (i3 x9)), (10, .int (i3 x10)), (11, .int (i3 x11)), (12, .int (i3 x12)), (13, .int (i3 x13)), (14, .int (i3 x14)), (15, .int (i3 x15)), (16, .int (i3 x16)), (17, .int (i3 x17))] [] n h := by
  refine ok_iload (pc := 197) hc dL_told_197 17 rfl ?_
  refine ok_iconst (pc := 199) hc (v := i3 2) dL_told_199 (by decide) ?_
  obtain ⟨r1, P⟩ := P
  refine zk_icmp_ge (pc := 200) (tgt := 243) hc dL_told_200 (by decide) r1 ⟨by decide, by decide⟩ (fun c => ?_) (fun c => ?_)
  · have P := P.1 c
    exact P
  · have P := P.2 c
    exact P

set_option maxHeartbeats 4000000 in
set_option maxRecDepth 100000 in
theorem sL_told_203 {X : Xt} {n : Nat} {h : HP} {a0 : Nat} {x1 : Int} {a2 : Nat} {a3 : Nat} {a4 : Nat} {a5 : Nat} {x6 : Int} {x7 : Int} {x8 : Int} {x9 : Int} {x10 : Int} {x11 : Int} {x12 : Int} {x13 : Int} {x14 : Int} {x15 : Int} {x16 : Int} {x17 : Int} {bb : Nat} {sb9 : Nat} {fs1 : List Value} (hc : Cx X cL_told RL 18 10 182) {K : KT} (hr : CxR X (some .boolean) K) (e1 : At h n a0 (.inl (6, fs1))) (z1 : fs1.length = 6)
    (P : spec_X6_inCase [.ref a0, .int (i3 x12), .int (i3 x15), .int (i3 x17)] n h (kc X bb sb9 210 [(0, .ref a0), (1, .int (i3 x1)), (2, .ref a2), (3, .ref a3), (4, .ref a4), (5, .ref a5), (6, .int (i3 x6)), (7, .int (i3 x7)), (8, .int (i3 x8)), (9, .int (i3 x9)), (10, .int (i3 x10)), (11, .int (i3 x11)), (12, .int (i3 x12)), (13, .int (i3 x13)), (14, .int (i3 x14)), (15, .int (i3 x15)), (16, .int (i3 x16)), (17, .int (i3 x17))] [] n)) :
    Ok X (bb + 3) (sb9 + 18) 203 [(0, .ref a0), (1, .int (i3 x1)), (2, .ref a2), (3, .ref a3), (4, .ref a4), (5, .ref a5), (6, .int (i3 x6)), (7, .int (i3 x7)), (8, .int (i3 x8)), (9, .int (i3 x9)), (10, .int (i3 x10)), (11, .int (i3 x11)), (12, .int (i3 x12)), (13, .int (i3 x13)), (14, .int (i3 x14)), (15, .int (i3 x15)), (16, .int (i3 x16)), (17, .int (i3 x17))] [] n h := by
  refine ok_aload_n (pc := 203) hc dL_told_203 rfl 0 rfl ?_
  refine ok_iload (pc := 204) hc dL_told_204 12 rfl ?_
  refine ok_iload (pc := 206) hc dL_told_206 15 rfl ?_
  refine ok_iload (pc := 208) hc dL_told_208 17 rfl ?_
  exact ok_callV (pc := 210) (a := a0) (cb := bb) (sb := sb9) (st := []) hc [.int (i3 x12), .int (i3 x15), .int (i3 x17)] cv_L_74 sp_X6_inCase (by decide) dL_told_210 rfl e1.1 e1.2 rfl rfl rfl (Nat.le_of_ble_eq_true rfl) P

set_option maxHeartbeats 4000000 in
set_option maxRecDepth 100000 in
theorem sL_told_213 {X : Xt} {n : Nat} {h : HP} {a0 : Nat} {x1 : Int} {a2 : Nat} {a3 : Nat} {a4 : Nat} {a5 : Nat} {x6 : Int} {x7 : Int} {x8 : Int} {x9 : Int} {x10 : Int} {x11 : Int} {x12 : Int} {x13 : Int} {x14 : Int} {x15 : Int} {x16 : Int} {x17 : Int} {tl0 : Int} {bb : Nat} {sb9 : Nat} (hc : Cx X cL_told RL 18 10 182) {K : KT} (hr : CxR X (some .boolean) K) 
    (P : (R3 x16) ∧ (x16 = 0 → Ok X bb sb9 230 [(0, .ref a0), (1, .int (i3 x1)), (2, .ref a2), (3, .ref a3), (4, .ref a4), (5, .ref a5), (6, .int (i3 x6)), (7, .int (i3 x7)), (8, .int (i3 x8)), (9, .int (i3 x9)), (10, .int (i3 x10)), (11, .int (i3 x11)), (12, .int (i3 x12)), (13, .int (i3 x13)), (14, .int (i3 x14)), (15, .int (i3 x15)), (16, .int (i3 x16)), (17, .int (i3 x17))] [.long (i6 tl0)] n h) ∧ (¬ x16 = 0 → Ok X bb sb9 218 [(0, .ref a0), (1, .int (i3 x1)), (2, .ref a2), (3, .ref a3), (4, .ref a4), (5, .ref a5), (6, .int (i3 x6)), (7, .int (i3 x7)), (8, .int (i3 x8)), (9, .int (i3 x9)), (10, .int (i3 x10)), (11, .int (i3 x11)), (12, .int (i3 x12)), (13, .int (i3 x13)), (14, .int (i3 x14)), (15, .int (i3 x15)), (16, .int (i3 x16)), (17, .int (i3 x17))] [.long (i6 tl0)] n h)) :
    Ok X bb sb9 213 [(0, .ref a0), (1, .int (i3 x1)), (2, .ref a2), (3, .ref a3), (4, .ref a4), (5, .ref a5), (6, .int (i3 x6)), (7, .int (i3 x7)), (8, .int (i3 x8)), (9, .int (i3 x9)), (10, .int (i3 x10)), (11, .int (i3 x11)), (12, .int (i3 x12)), (13, .int (i3 x13)), (14, .int (i3 x14)), (15, .int (i3 x15)), (16, .int (i3 x16)), (17, .int (i3 x17))] [.long (i6 tl0)] n h := by
  refine ok_iload (pc := 213) hc dL_told_213 16 rfl ?_
  obtain ⟨r1, P⟩ := P
  refine zk_if_eq (pc := 215) (tgt := 230) hc dL_told_215 (by decide) r1 (fun c => ?_) (fun c => ?_)
  · have P := P.1 c
    exact P
  · have P := P.2 c
    exact P

set_option maxHeartbeats 4000000 in
set_option maxRecDepth 100000 in
theorem sL_told_218 {X : Xt} {n : Nat} {h : HP} {a0 : Nat} {x1 : Int} {a2 : Nat} {a3 : Nat} {a4 : Nat} {a5 : Nat} {x6 : Int} {x7 : Int} {x8 : Int} {x9 : Int} {x10 : Int} {x11 : Int} {x12 : Int} {x13 : Int} {x14 : Int} {x15 : Int} {x16 : Int} {x17 : Int} {tl0 : Int} {bb : Nat} {sb9 : Nat} {f1 : Nat → Int} {qs2 : List Part} {m2 : Nat} {γ2 : Nat → Int} (hc : Cx X cL_told RL 18 10 182) {K : KT} (hr : CxR X (some .boolean) K) (e1 : At h n a4 (al 56 f1)) (hS2 : Svd qs2 m2 γ2 f1)
    (P : (((0 : Int) ≤ x15 ∧ (x15 : Int) < 7) ∧ (((x17) : Int) = 0 ∨ ((x17) : Int) = 1)) ∧ (R6 tl0 ∧ R6 (lowT (numer qs2 m2 γ2 (x15 : Int).toNat) (solD qs2 m2) x17)) ∧ (tl0 = (lowT (numer qs2 m2 γ2 (x15 : Int).toNat) (solD qs2 m2) x17) → Ok X bb sb9 197 [(0, .ref a0), (1, .int (i3 x1)), (2, .ref a2), (3, .ref a3), (4, .ref a4), (5, .ref a5), (6, .int (i3 x6)), (7, .int (i3 x7)), (8, .int (i3 x8)), (9, .int (i3 x9)), (10, .int (i3 x10)), (11, .int (i3 x11)), (12, .int (i3 x12)), (13, .int (i3 x13)), (14, .int (i3 x14)), (15, .int (i3 x15)), (16, .int (i3 x16)), (17, .int (i3 (x17 + 1)))] [] n h) ∧ (¬ tl0 = (lowT (numer qs2 m2 γ2 (x15 : Int).toNat) (solD qs2 m2) x17) → K (.inl (some (.int (i3 0)))) n h)) :
    Ok X bb sb9 218 [(0, .ref a0), (1, .int (i3 x1)), (2, .ref a2), (3, .ref a3), (4, .ref a4), (5, .ref a5), (6, .int (i3 x6)), (7, .int (i3 x7)), (8, .int (i3 x8)), (9, .int (i3 x9)), (10, .int (i3 x10)), (11, .int (i3 x11)), (12, .int (i3 x12)), (13, .int (i3 x13)), (14, .int (i3 x14)), (15, .int (i3 x15)), (16, .int (i3 x16)), (17, .int (i3 x17))] [.long (i6 tl0)] n h := by
  refine ok_iload (pc := 218) hc dL_told_218 15 rfl ?_
  refine ok_iload (pc := 220) hc dL_told_220 17 rfl ?_
  refine ok_aload (pc := 222) hc dL_told_222 4 rfl ?_
  obtain ⟨r0, P⟩ := P
  refine ok_callS (pc := 224) (cb := bb) (sb := sb9) (st := [.long (i6 tl0)]) hc [.int (i3 x15), .int (i3 x17), .ref a4] cs_L_41 sp_L_part (by decide) dL_told_224 rfl rfl rfl rfl (Nat.le_of_ble_eq_true rfl) (⟨_, _, _, _, _, _, _, rfl, ⟨e1.1, e1.2⟩, hS2, r0.1, r0.2, rfl, ?_⟩)
  show Ok X bb sb9 (224 + 3) [(0, .ref a0), (1, .int (i3 x1)), (2, .ref a2), (3, .ref a3), (4, .ref a4), (5, .ref a5), (6, .int (i3 x6)), (7, .int (i3 x7)), (8, .int (i3 x8)), (9, .int (i3 x9)), (10, .int (i3 x10)), (11, .int (i3 x11)), (12, .int (i3 x12)), (13, .int (i3 x13)), (14, .int (i3 x14)), (15, .int (i3 x15)), (16, .int (i3 x16)), (17, .int (i3 x17))] [.long (i6 (lowT (numer qs2 m2 γ2 (x15 : Int).toNat) (solD qs2 m2) x17)), .long (i6 tl0)] n h
  refine ok_goto (pc := 227) (tgt := 231) hc dL_told_227 (by decide) ?_
  obtain ⟨r, P⟩ := P
  refine zk_lcmp (pc := 231) hc dL_told_231 r ?_
  refine zk_if_eq (pc := 232) (tgt := 237) hc dL_told_232 (by decide) R3_cmp (fun c => ?_) (fun c => ?_)
  · have P := P.1 (cmp_eq.mp c)
    refine zk_iinc (pc := 237) hc (q := 17) (x := x17) (lv' := [(17, .int (i3 (x17 + 1))), (0, .ref a0), (1, .int (i3 x1)), (2, .ref a2), (3, .ref a3), (4, .ref a4), (5, .ref a5), (6, .int (i3 x6)), (7, .int (i3 x7)), (8, .int (i3 x8)), (9, .int (i3 x9)), (10, .int (i3 x10)), (11, .int (i3 x11)), (12, .int (i3 x12)), (13, .int (i3 x13)), (14, .int (i3 x14)), (15, .int (i3 x15)), (16, .int (i3 x16))]) dL_told_237 rfl (by decide) rfl ?_
    refine ok_goto (pc := 240) (tgt := 197) hc dL_told_240 (by decide) ?_
    refine ok_lv [1, 2, 3, 4, 5, 6, 7, 8, 9, 10, 11, 12, 13, 14, 15, 16, 17, 0] rfl ?_
    exact P
  · have P := P.2 (fun z => c (cmp_eq.mpr z))
    refine ok_iconst (pc := 235) hc (v := i3 0) dL_told_235 (by decide) ?_
    exact ok_zret (st := []) (pc := 236) hc (nar_z (by decide)) hr dL_told_236 P

set_option maxHeartbeats 4000000 in
set_option maxRecDepth 100000 in
theorem sL_told_230 {X : Xt} {n : Nat} {h : HP} {a0 : Nat} {x1 : Int} {a2 : Nat} {a3 : Nat} {a4 : Nat} {a5 : Nat} {x6 : Int} {x7 : Int} {x8 : Int} {x9 : Int} {x10 : Int} {x11 : Int} {x12 : Int} {x13 : Int} {x14 : Int} {x15 : Int} {x16 : Int} {x17 : Int} {tl0 : Int} {bb : Nat} {sb9 : Nat} (hc : Cx X cL_told RL 18 10 182) {K : KT} (hr : CxR X (some .boolean) K) 
    (P : (R6 tl0 ∧ R6 0) ∧ (tl0 = 0 → Ok X bb sb9 197 [(0, .ref a0), (1, .int (i3 x1)), (2, .ref a2), (3, .ref a3), (4, .ref a4), (5, .ref a5), (6, .int (i3 x6)), (7, .int (i3 x7)), (8, .int (i3 x8)), (9, .int (i3 x9)), (10, .int (i3 x10)), (11, .int (i3 x11)), (12, .int (i3 x12)), (13, .int (i3 x13)), (14, .int (i3 x14)), (15, .int (i3 x15)), (16, .int (i3 x16)), (17, .int (i3 (x17 + 1)))] [] n h) ∧ (¬ tl0 = 0 → K (.inl (some (.int (i3 0)))) n h)) :
    Ok X bb sb9 230 [(0, .ref a0), (1, .int (i3 x1)), (2, .ref a2), (3, .ref a3), (4, .ref a4), (5, .ref a5), (6, .int (i3 x6)), (7, .int (i3 x7)), (8, .int (i3 x8)), (9, .int (i3 x9)), (10, .int (i3 x10)), (11, .int (i3 x11)), (12, .int (i3 x12)), (13, .int (i3 x13)), (14, .int (i3 x14)), (15, .int (i3 x15)), (16, .int (i3 x16)), (17, .int (i3 x17))] [.long (i6 tl0)] n h := by
  refine ok_lconst (pc := 230) hc (v := i6 0) dL_told_230 (by decide) ?_
  obtain ⟨r, P⟩ := P
  refine zk_lcmp (pc := 231) hc dL_told_231 r ?_
  refine zk_if_eq (pc := 232) (tgt := 237) hc dL_told_232 (by decide) R3_cmp (fun c => ?_) (fun c => ?_)
  · have P := P.1 (cmp_eq.mp c)
    refine zk_iinc (pc := 237) hc (q := 17) (x := x17) (lv' := [(17, .int (i3 (x17 + 1))), (0, .ref a0), (1, .int (i3 x1)), (2, .ref a2), (3, .ref a3), (4, .ref a4), (5, .ref a5), (6, .int (i3 x6)), (7, .int (i3 x7)), (8, .int (i3 x8)), (9, .int (i3 x9)), (10, .int (i3 x10)), (11, .int (i3 x11)), (12, .int (i3 x12)), (13, .int (i3 x13)), (14, .int (i3 x14)), (15, .int (i3 x15)), (16, .int (i3 x16))]) dL_told_237 rfl (by decide) rfl ?_
    refine ok_goto (pc := 240) (tgt := 197) hc dL_told_240 (by decide) ?_
    refine ok_lv [1, 2, 3, 4, 5, 6, 7, 8, 9, 10, 11, 12, 13, 14, 15, 16, 17, 0] rfl ?_
    exact P
  · have P := P.2 (fun z => c (cmp_eq.mpr z))
    refine ok_iconst (pc := 235) hc (v := i3 0) dL_told_235 (by decide) ?_
    exact ok_zret (st := []) (pc := 236) hc (nar_z (by decide)) hr dL_told_236 P

set_option maxHeartbeats 4000000 in
set_option maxRecDepth 100000 in
theorem sL_told_243 {X : Xt} {n : Nat} {h : HP} {a0 : Nat} {x1 : Int} {a2 : Nat} {a3 : Nat} {a4 : Nat} {a5 : Nat} {x6 : Int} {x7 : Int} {x8 : Int} {x9 : Int} {x10 : Int} {x11 : Int} {x12 : Int} {x13 : Int} {x14 : Int} {x15 : Int} {x16 : Int} {x17 : Int} {bb : Nat} {sb9 : Nat} (hc : Cx X cL_told RL 18 10 182) {K : KT} (hr : CxR X (some .boolean) K) 
    (P : Ok X bb sb9 43 [(0, .ref a0), (1, .int (i3 x1)), (2, .ref a2), (3, .ref a3), (4, .ref a4), (5, .ref a5), (6, .int (i3 x6)), (7, .int (i3 x7)), (8, .int (i3 x8)), (9, .int (i3 x9)), (10, .int (i3 x10)), (11, .int (i3 x11)), (12, .int (i3 (x12 + 1)))] [] n h) :
    Ok X bb sb9 243 [(0, .ref a0), (1, .int (i3 x1)), (2, .ref a2), (3, .ref a3), (4, .ref a4), (5, .ref a5), (6, .int (i3 x6)), (7, .int (i3 x7)), (8, .int (i3 x8)), (9, .int (i3 x9)), (10, .int (i3 x10)), (11, .int (i3 x11)), (12, .int (i3 x12)), (13, .int (i3 x13)), (14, .int (i3 x14)), (15, .int (i3 x15)), (16, .int (i3 x16)), (17, .int (i3 x17))] [] n h := by
  refine zk_iinc (pc := 243) hc (q := 12) (x := x12) (lv' := [(12, .int (i3 (x12 + 1))), (0, .ref a0), (1, .int (i3 x1)), (2, .ref a2), (3, .ref a3), (4, .ref a4), (5, .ref a5), (6, .int (i3 x6)), (7, .int (i3 x7)), (8, .int (i3 x8)), (9, .int (i3 x9)), (10, .int (i3 x10)), (11, .int (i3 x11)), (13, .int (i3 x13)), (14, .int (i3 x14)), (15, .int (i3 x15)), (16, .int (i3 x16)), (17, .int (i3 x17))]) dL_told_243 rfl (by decide) rfl ?_
  refine ok_goto (pc := 246) (tgt := 43) hc dL_told_246 (by decide) ?_
  refine ok_lv [1, 2, 3, 4, 5, 6, 7, 8, 9, 10, 11, 12, 0] rfl ?_
  exact P

/-- while it is told: the two arrays of numbers change, and nothing else behind the desk -/
def TW (h : HP) (n e f : Nat) (q : Dsk) (hh : HP) : Prop := DkA hh n q ∧ (∀ x, 127 < x → x ≠ e → x ≠ f → hh x = h x) ∧ (∃ E, At hh n e (al 56 E)) ∧ ∃ E, At hh n f (al 56 E)
theorem TW.at {h hh : HP} {n e f x : Nat} {q : Dsk} {c : AE} (w : TW h n e f q hh) (p : At h n x c) (h1 : 127 < x) (h2 : x ≠ e) (h3 : x ≠ f) : At hh n x c := ⟨p.1, (w.2.1 x h1 h2 h3).trans p.2⟩
theorem TW.fr {h hh h' : HP} {n e f : Nat} {q : Dsk} (w : TW h n e f q hh) (he : 127 < e) (hf : 127 < f) (p : DkA h' n q) (g : Fr hh h' 0 127) : TW h n e f q h' := by
  obtain ⟨w1, w2, ⟨E, w3⟩, ⟨G, w4⟩⟩ := w
  exact ⟨p, fun x a b c => (g x (by omega)).trans (w2 x a b c), ⟨E, w3.fr g (by omega)⟩, ⟨G, w4.fr g (by omega)⟩⟩
theorem TW.e {h hh : HP} {n e f : Nat} {q : Dsk} {E : Nat → Int} (w : TW h n e f q hh) (he : 127 < e) (hef : e ≠ f) : TW h n e f q (va_up hh e (al 56 E)) := by
  obtain ⟨w1, w2, ⟨E0, w3⟩, ⟨G, w4⟩⟩ := w
  exact ⟨w1.out (lo := e) (hi := e) (Fr.rf.up (by omega)) he, fun x a b c => (up_ne b).trans (w2 x a b c), ⟨E, w3.it⟩, ⟨G, w4.up (by omega)⟩⟩
theorem TW.f {h hh : HP} {n e f : Nat} {q : Dsk} {E : Nat → Int} (w : TW h n e f q hh) (he : 127 < f) (hef : e ≠ f) : TW h n e f q (va_up hh f (al 56 E)) := by
  obtain ⟨w1, w2, ⟨E0, w3⟩, ⟨G, w4⟩⟩ := w
  exact ⟨w1.out (lo := f) (hi := f) (Fr.rf.up (by omega)) he, fun x a b c => (up_ne c).trans (w2 x a b c), ⟨E0, w3.up (by omega)⟩, ⟨E, w4.it⟩⟩
def TC (h : HP) (n d a e f : Nat) (Fd F : Nat → Int) (q : Dsk) : Prop := ((127 < d ∧ 127 < a ∧ 127 < e ∧ 127 < f) ∧ d ≠ e ∧ d ≠ f ∧ a ≠ e ∧ a ≠ f ∧ e ≠ f) ∧ At h n d (ai 4 Fd) ∧ At h n a (ai 48 F) ∧ DFS Fd q.1 ∧ PaF F q.1.1 ∧ StOk q.1
/-- what is told of a node: 0, or the fraction -/
def TvOk (V : Int → Int) (ps : List Part) (m : Nat) (γ : Nat → Int) (node told : Int) (E : Nat → Int) : Prop := (told = 0 ∧ ∀ w, V w = 0) ∨ (told = 1 ∧ Svd ps m γ E ∧ ∀ w, V w = lowT (numer ps m γ node.toNat) (solD ps m) w)
theorem low_r6 {ps : List Part} {m : Nat} {γ E : Nat → Int} (h : Svd ps m γ E) {k : Nat} (hk : k < 7) {w : Int} (hw : w = 0 ∨ w = 1) : R6 (lowT (numer ps m γ k) (solD ps m) w) := by
  obtain ⟨B, C, hBC, b1, b2, b3⟩ := h.n hk
  obtain ⟨q1, q2, q3, q4⟩ := hBC
  rcases hw with e | e <;> subst e
  · exact ⟨by have := b1.1; omega, by have := b1.2; omega⟩
  · exact ⟨by omega, by omega⟩
theorem why_10 {S : Stt} (h3 : nA S.1 ≤ 3) (c : Int) : whyI S c = 10 ↔ solD S.1 (satN c (nA S.1)) = 0 := by
  unfold whyI
  by_cases z : solD S.1 (satN c (nA S.1)) = 0
  · have e : jud S c = (1, -1) := by
      unfold jud
      rw [if_pos z]
    rw [e, if_neg (by decide), if_pos rfl]
    exact ⟨fun _ => z, fun _ => rfl⟩
  · have e : (jud S c).1 ≠ 1 := by
      unfold jud
      rw [if_neg z]
      have hl := amps_len S.1
      rcases judL_v (S := S) (m := satN c (nA S.1)) (G := givC S c) (c := c) (amps S.1) 0 with h | h
      · rw [h.1]
        decide
      · have := h.1
        omega
    rcases jud_v h3 c with ⟨h | h, _⟩ | h
    · rw [if_pos h]
      exact ⟨fun y => absurd y (by decide), fun y => absurd y z⟩
    · exact absurd h e
    · rw [if_neg (by omega), if_neg e]
      exact ⟨fun y => by omega, fun y => absurd y z⟩
theorem why_d {S : Stt} (h3 : nA S.1 ≤ 3) (c : Int) : (jud S c).1 = whyI S c / 10 ∧ (jud S c).2 = (if whyI S c < 20 then -1 else whyI S c % 10) := by
  unfold whyI
  rcases jud_v h3 c with ⟨h | h, g⟩ | h
  · rw [if_pos h, h, g]
    exact ⟨rfl, rfl⟩
  · rw [if_neg (by omega), if_pos h, h, g]
    exact ⟨rfl, rfl⟩
  · rw [if_neg (by omega), if_neg (by omega)]
    refine ⟨by omega, ?_⟩
    rw [if_neg (by omega)]
    omega
theorem tv_node {S : Stt} (hG : GdP S.1) {c : Int} {k : Nat} (hk : k < 7) (is : Bool) (E : Nat → Int) (his : is = decide (solD S.1 (satN c (nA S.1)) ≠ 0)) (hE : solD S.1 (satN c (nA S.1)) ≠ 0 → Svd S.1 (satN c (nA S.1)) (givC S c) E) :
    (is = false → TvOk (nodeV S c k) S.1 (satN c (nA S.1)) (givC S c) k 0 E) ∧ (is = true → k = 0 → TvOk (nodeV S c k) S.1 (satN c (nA S.1)) (givC S c) k 1 E) ∧ (is = true → k ≠ 0 → S.1.any (fun p => atB p k) = false → TvOk (nodeV S c k) S.1 (satN c (nA S.1)) (givC S c) k 0 E) ∧ (is = true → k ≠ 0 → S.1.any (fun p => atB p k) = true → TvOk (nodeV S c k) S.1 (satN c (nA S.1)) (givC S c) k 1 E) := by
  have hpw : ∀ p ∈ S.1, PW p := fun p hp => (hG.2.2.1 p hp).1
  have yes : solD S.1 (satN c (nA S.1)) ≠ 0 → ¬ ((k : Int) ≠ 0 ∧ bcon (usedM S.1) k = 0) → TvOk (nodeV S c k) S.1 (satN c (nA S.1)) (givC S c) k 1 E := fun h1 h2 => Or.inr ⟨rfl, hE h1, fun w => by
    unfold nodeV
    rw [if_neg h2, if_neg h1]⟩
  subst his
  refine ⟨fun h => Or.inl ⟨rfl, fun w => ?_⟩, fun h h0 => yes (of_decide_eq_true h) (fun z => z.1 (by omega)), fun h h0 hu => Or.inl ⟨rfl, fun w => ?_⟩, fun h h0 hu => yes (of_decide_eq_true h) (fun z => ?_)⟩
  · have hz : solD S.1 (satN c (nA S.1)) = 0 := Decidable.not_not.mp (of_decide_eq_false h)
    unfold nodeV
    rw [if_pos hz, ite_self]
  · unfold nodeV
    rw [if_pos ⟨by omega, (used_bc hpw hk h0).mpr hu⟩]
  · have := (used_bc hpw hk h0).mp z.2
    rw [this] at hu
    cases hu
set_option maxHeartbeats 4000000 in
theorem told_1k {X : Xt} {n : Nat} {h : HP} {d a e f : Nat} {Fd F : Nat → Int} {q : Dsk} {x1 x6 x7 x8 x9 x10 x11 c x13 x14 told : Int} {node bb sb9 : Nat} {E : Nat → Int} (hc : Cx X cL_told RL 18 10 182) {K : KT} (hr : CxR X (some .boolean) K) (hT : TC h n d a e f Fd F q) (hcs : 0 ≤ c ∧ c < 3 ^ nA q.1.1) (hnd : node < 7) (hv : TvOk (nodeV q.1 c node) q.1.1 (satN c (nA q.1.1)) (givC q.1 c) node told E) (k : ∀ hh, TW h n e f q hh → Ok X bb sb9 43 [(0, .ref 0), (1, .int (i3 x1)), (2, .ref d), (3, .ref a), (4, .ref e), (5, .ref f), (6, .int (i3 x6)), (7, .int (i3 x7)), (8, .int (i3 x8)), (9, .int (i3 x9)), (10, .int (i3 x10)), (11, .int (i3 x11)), (12, .int (i3 (c + 1)))] [] n hh) : ∀ (j w : Nat), w + j = 2 → ∀ hh, TW h n e f q hh → At hh n e (al 56 E) → Ok X (bb + 3 * j) (sb9 + 18 * j) 197 [(0, .ref 0), (1, .int (i3 x1)), (2, .ref d), (3, .ref a), (4, .ref e), (5, .ref f), (6, .int (i3 x6)), (7, .int (i3 x7)), (8, .int (i3 x8)), (9, .int (i3 x9)), (10, .int (i3 x10)), (11, .int (i3 x11)), (12, .int (i3 c)), (13, .int (i3 x13)), (14, .int (i3 x14)), (15, .int (i3 (node : Int))), (16, .int (i3 told)), (17, .int (i3 (w : Int)))] [] n hh := by
  obtain ⟨⟨⟨l1, l2, l3, l4⟩, n1, n2, n3, n4, n5⟩, ed, ea, hD, hP, hO⟩ := hT
  intro j
  induction j with
  | zero =>
    intro w hw hh hq he
    exact sL_told_197 hc hr ⟨R3_s (by omega), fun _ => sL_told_243 hc hr (k hh hq), fun z => absurd (by omega) z⟩
  | succ j ih =>
    intro w hw hh hq he
    have h27 := c27 hq.1.gd.1.1.2.1
    have ew : (w : Int) = 0 ∨ (w : Int) = 1 := by omega
    refine sL_told_197 hc hr ⟨R3_s (by omega), fun z => absurd z (by omega), fun _ => ?_⟩
    refine sL_told_203 (bb := bb + 3 * j) (sb9 := sb9 + 18 * j) hc hr hq.1.1 rfl ⟨q, c, node, w, rfl, R3_s (by omega), R3_s (by omega), R3_s (by omega), hq.1, fun h1 hq1 f1 => ?_⟩
    have hoc : opCase q c node w = .inl (nodeV q.1 c node w) := by
      unfold opCase
      rw [if_neg (fun z => z hcs), if_neg (fun z => z ⟨by omega, by omega⟩), if_neg (fun z => z ew)]
    rw [hoc]
    have hq' := hq.fr l3 l4 hq1 f1
    have he' : At h1 n e (al 56 E) := he.fr f1 (by omega)
    have nx := ih (w + 1) (by omega) h1 hq' he'
    have ec : ((w + 1 : Nat) : Int) = (w : Int) + 1 := by omega
    rw [ec] at nx
    rcases hv with ⟨e0, hz⟩ | ⟨e1, hS, hz⟩
    · rw [hz w]
      refine ⟨rfl, sL_told_213 (tl0 := 0) hc hr ⟨R3_s (by omega), fun _ => sL_told_230 hc hr ⟨⟨R6_0, R6_0⟩, fun _ => nx, fun z => absurd rfl z⟩, fun z => absurd e0 z⟩⟩
    · rw [hz w]
      have r6 := low_r6 hS (k := node) hnd ew
      refine ⟨rfl, sL_told_213 hc hr ⟨R3_s (by omega), fun z => absurd z (by omega), fun _ => sL_told_218 hc hr he' hS ⟨⟨⟨by omega, by omega⟩, ew⟩, ⟨r6, r6⟩, fun _ => nx, fun z => absurd rfl z⟩⟩⟩
set_option maxHeartbeats 8000000 in
theorem told_1 {X : Xt} {n : Nat} {h : HP} {d a e f : Nat} {Fd F : Nat → Int} {q : Dsk} {x1 x6 x10 x11 : Int} {bb sb9 : Nat} (hc : Cx X cL_told RL 18 10 182) {K : KT} (hr : CxR X (some .boolean) K) (hT : TC h n d a e f Fd F q) (k : ∀ hh, TW h n e f q hh → Ok X bb sb9 249 [(0, .ref 0), (1, .int (i3 x1)), (2, .ref d), (3, .ref a), (4, .ref e), (5, .ref f), (6, .int (i3 x6)), (7, .int (i3 ((3 : Int) ^ nA q.1.1))), (8, .int (i3 (holdN q.1 (3 ^ nA q.1.1)))), (9, .int (i3 (detN q.1 (3 ^ nA q.1.1)))), (10, .int (i3 x10)), (11, .int (i3 x11)), (12, .int (i3 ((3 ^ nA q.1.1 : Nat) : Int)))] [] n hh) : ∀ (j i : Nat), i + j = 3 ^ nA q.1.1 → ∀ hh, TW h n e f q hh → Ok X (bb + 8 * j) (sb9 + 48 * j) 43 [(0, .ref 0), (1, .int (i3 x1)), (2, .ref d), (3, .ref a), (4, .ref e), (5, .ref f), (6, .int (i3 x6)), (7, .int (i3 ((3 : Int) ^ nA q.1.1))), (8, .int (i3 (holdN q.1 i))), (9, .int (i3 (detN q.1 i))), (10, .int (i3 x10)), (11, .int (i3 x11)), (12, .int (i3 (i : Int)))] [] n hh := by
  obtain ⟨⟨⟨l1, l2, l3, l4⟩, n1, n2, n3, n4, n5⟩, ed, ea, hD, hP, hO⟩ := id hT
  have h3c := p3c (nA q.1.1)
  intro j
  induction j with
  | zero =>
    intro i hi hh hq
    have h27 := c27 hq.1.gd.1.1.2.1
    obtain rfl : i = 3 ^ nA q.1.1 := by omega
    have r : R3 ((3 : Int) ^ nA q.1.1) := R3_s ⟨by have := pow3_pos (nA q.1.1); omega, by omega⟩
    exact sL_told_43 hc hr ⟨by rw [← h3c]; exact r, r, fun _ => k hh hq, fun z => absurd (by rw [← h3c]; exact Int.le_refl _) z⟩
  | succ j ih =>
    intro i hi hh hq
    have hG := hq.1.gd.1
    have hG1 := hG.1
    have h3 := hG1.2.1
    have hrl : 0 ≤ q.1.2.1 ∧ q.1.2.1 ≤ 200 := by have := hG.2.1; omega
    have h27 := c27 h3
    have hci : 0 ≤ (i : Int) ∧ (i : Int) ≤ 26 := by omega
    have hcs : 0 ≤ (i : Int) ∧ (i : Int) < 3 ^ nA q.1.1 := by omega
    obtain ⟨E, ee⟩ := hq.2.2.1
    obtain ⟨G, ef⟩ := hq.2.2.2
    have wv := whyI_v h3 (i : Int)
    have w10 := why_10 h3 (i : Int)
    have wd := why_d h3 (i : Int)
    have hnr := holdN_r q.1 i
    have dnr := detN_r q.1 i
    refine sL_told_43 hc hr ⟨R3_s (by omega), R3_s (by omega), fun z => absurd z (by omega), fun _ => ?_⟩
    refine sL_told_50 hc hr ⟨d, a, e, f, Fd, F, E, G, q.1, i, rfl, hq.at ed l1 n1 n2, hq.at ea l2 n3 n4, ee, ef, n5, ⟨hD.1, hD.2.1⟩, hP, hG1, hrl, hci, fun E1 G1 => ⟨rfl, ?_⟩⟩
    have hq1 : TW h n e f q (va_up (va_up hh e (al 56 E1)) f (al 56 G1)) := (hq.e l3 n5).f l4 n5
    generalize va_up (va_up hh e (al 56 E1)) f (al 56 G1) = h1 at hq1
    have go : Ok X (bb + 8 * (j + 1)) (sb9 + 48 * (j + 1)) 95 [(0, .ref 0), (1, .int (i3 x1)), (2, .ref d), (3, .ref a), (4, .ref e), (5, .ref f), (6, .int (i3 x6)), (7, .int (i3 ((3 : Int) ^ nA q.1.1))), (8, .int (i3 (holdN q.1 (i + 1)))), (9, .int (i3 (detN q.1 (i + 1)))), (10, .int (i3 x10)), (11, .int (i3 x11)), (12, .int (i3 (i : Int))), (13, .int (i3 (whyI q.1 i)))] [] n h1 := by
      refine sL_told_95 (bb := bb + 8 * j + 7) (sb9 := sb9 + 48 * j + 42) hc hr hq1.1.1 rfl ⟨q, i, rfl, R3_s (by omega), hq1.1, fun h2 hq2 f2 => ?_⟩
      have hw2 := hq1.fr l3 l4 hq2 f2
      have o1 : opWhy q i = .inl (jud q.1 i).1 := if_neg (fun z => z hcs)
      have o2 : opConc q i = .inl (jud q.1 i).2 := if_neg (fun z => z hcs)
      rw [o1]
      refine ⟨rfl, sL_told_101 (t0 := (jud q.1 i).1) hc hr ⟨⟨⟨by omega, by omega⟩, by decide, by decide⟩, R3_s (by omega), R3_s (by omega), fun z => absurd wd.1 z, fun _ => ?_⟩⟩
      refine sL_told_109 (bb := bb + 8 * j + 6) (sb9 := sb9 + 48 * j + 36) hc hr hw2.1.1 rfl ⟨q, i, rfl, R3_s (by omega), hw2.1, fun h3 hq3 f3 => ?_⟩
      have hw3 := hw2.fr l3 l4 hq3 f3
      rw [o2]
      have go2 : Ok X (bb + 8 * j + 6) (sb9 + 48 * j + 36) 136 [(0, .ref 0), (1, .int (i3 x1)), (2, .ref d), (3, .ref a), (4, .ref e), (5, .ref f), (6, .int (i3 x6)), (7, .int (i3 ((3 : Int) ^ nA q.1.1))), (8, .int (i3 (holdN q.1 (i + 1)))), (9, .int (i3 (detN q.1 (i + 1)))), (10, .int (i3 x10)), (11, .int (i3 x11)), (12, .int (i3 (i : Int))), (13, .int (i3 (whyI q.1 i)))] [] n h3 := by
        obtain ⟨E3, ee3⟩ := hw3.2.2.1
        refine sL_told_136 hc hr ⟨d, a, e, Fd, F, E3, q.1.1, i, -1, satN i (nA q.1.1), q.1.2.1, givC q.1 i, rfl, hw3.at ed l1 n1 n2, hw3.at ea l2 n3 n4, ee3, ⟨hD.1, hD.2.1, hrl⟩, hP, hG1, ⟨hci, by decide, by decide⟩, mat_case hG1 i, fun G hGe => ⟨rfl, ?_⟩⟩
        refine sL_told_146 hc hr ⟨e, G, q.1.1, satN i (nA q.1.1), givC q.1 i, rfl, ee3.it, hG1, gv_case hG1 hrl i, hGe, fun E4 hE4 => ⟨rfl, ?_⟩⟩
        have hw4 : TW h n e f q (va_up (va_up h3 e (al 56 G)) e (al 56 E4)) := (hw3.e l3 n5).e l3 n5
        have ee4 : At (va_up (va_up h3 e (al 56 G)) e (al 56 E4)) n e (al 56 E4) := ⟨ee3.1, up_self⟩
        generalize va_up (va_up h3 e (al 56 G)) e (al 56 E4) = h4 at hw4 ee4
        refine sL_told_151 (t0 := bz (decide (solD q.1.1 (satN i (nA q.1.1)) ≠ 0))) hc hr ⟨⟨⟨by omega, by omega⟩, by decide, by decide⟩, _, 7, rfl, ⟨by decide, by decide⟩, fun z hz0 hz7 => ⟨rfl, ?_⟩⟩
        obtain ⟨nd, rfl⟩ : ∃ nd : Nat, z = nd := ⟨z.toNat, by omega⟩
        have hnd : nd < 7 := by omega
        have tv := tv_node (S := q.1) (c := i) hG1 hnd (decide (solD q.1.1 (satN i (nA q.1.1)) ≠ 0)) E4 rfl hE4
        have nx : ∀ told, TvOk (nodeV q.1 i nd) q.1.1 (satN i (nA q.1.1)) (givC q.1 i) nd told E4 → Ok X (bb + 8 * j + 6) (sb9 + 48 * j + 36) 197 [(0, .ref 0), (1, .int (i3 x1)), (2, .ref d), (3, .ref a), (4, .ref e), (5, .ref f), (6, .int (i3 x6)), (7, .int (i3 ((3 : Int) ^ nA q.1.1))), (8, .int (i3 (holdN q.1 (i + 1)))), (9, .int (i3 (detN q.1 (i + 1)))), (10, .int (i3 x10)), (11, .int (i3 x11)), (12, .int (i3 (i : Int))), (13, .int (i3 (whyI q.1 i))), (14, .int (i3 (bz (decide (solD q.1.1 (satN i (nA q.1.1)) ≠ 0))))), (15, .int (i3 (nd : Int))), (16, .int (i3 told)), (17, .int (i3 0))] [] n h4 := fun told ht => told_1k hc hr hT hcs hnd ht (fun h5 hw5 => by
          have := ih (i + 1) (by omega) h5 hw5
          exact this) 2 0 rfl h4 hw4 ee4
        generalize hb : decide (solD q.1.1 (satN i (nA q.1.1)) ≠ 0) = b at tv nx
        refine sL_told_165 hc hr (hw4.at ea l2 n3 n4) hP (hw4.at ed l1 n1 n2) hD.1 ⟨R3_bz, fun z => nx 0 (tv.1 (bz_0.mp z)), fun z => ⟨R3_s (by omega), fun z0 => nx 1 (tv.2.1 ?_ (by omega)), fun z0 => ⟨R3_s (by omega), fun u => nx 0 (tv.2.2.1 ?_ (by omega) u), fun u => nx 1 (tv.2.2.2 ?_ (by omega) u)⟩⟩⟩ <;> exact bz_1.mp z
      refine ⟨rfl, sL_told_115 (t0 := (jud q.1 i).2) hc hr ⟨R3_s (by omega), fun y => ?_, fun y => ?_⟩⟩
      · have := wd.2
        rw [if_neg (by omega)] at this
        exact ⟨⟨⟨by omega, by omega⟩, by decide, by decide⟩, R3_s (by omega), R3_s (by omega), fun _ => go2, fun z => absurd this z⟩
      · have := wd.2
        rw [if_pos (by omega)] at this
        exact ⟨R3_s (by omega), fun _ => go2, fun z => absurd this z⟩
    have eh : holdN q.1 (i + 1) = holdN q.1 i + (if (jud q.1 i).1 = 0 then 1 else 0) := rfl
    have edd : detN q.1 (i + 1) = detN q.1 i + (if solD q.1.1 (satN i (nA q.1.1)) = 0 then 0 else 1) := rfl
    refine sL_told_61 (t0 := whyI q.1 i) hc hr ⟨R3_s (by omega), fun y => ⟨R3_s (by omega), fun y2 => ?_, fun y2 => ?_⟩, fun y => ⟨R3_s (by omega), fun y2 => ?_, fun y2 => ?_⟩⟩
    · rw [if_neg (fun z => y (wv.2.mpr z))] at eh
      rw [if_pos (w10.mp y2)] at edd
      rw [eh, edd] at go
      exact go
    · rw [if_neg (fun z => y (wv.2.mpr z))] at eh
      rw [if_neg (fun z => y2 (w10.mpr z))] at edd
      rw [eh, edd] at go
      exact go
    · omega
    · rw [if_pos (wv.2.mp y)] at eh
      rw [if_neg (fun z => y2 (w10.mpr z))] at edd
      rw [eh, edd] at go
      exact go
