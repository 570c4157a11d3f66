/-! part a34: the law's load -/
set_option maxHeartbeats 4000000 in
set_option maxRecDepth 100000 in
theorem sL_load_0 {X : Xt} {n : Nat} {h : HP} {a0 : Nat} {x1 : Int} {x2 : Int} {a3 : Nat} {a4 : Nat} {a5 : Nat} {a6 : Nat} {bb : Nat} {sb9 : Nat} {f1 : Nat → Int} (hc : Cx X cL_load RL 17 8 158) {K : KT} (hr : CxR X (some .boolean) K) (e1 : At h n a3 (ai 4 f1))
    (P : (Ix 0 4) ∧ spec_L_at [.int (i3 x1), .int (i3 3)] n h (kc X bb sb9 8 [(0, .ref a0), (1, .int (i3 x1)), (2, .int (i3 x2)), (3, .ref a3), (4, .ref a4), (5, .ref a5), (6, .ref a6), (7, .int (i3 (f1 (0 : Int).toNat)))] [.int (i3 1)] n)) :
    Ok X bb sb9 0 [(0, .ref a0), (1, .int (i3 x1)), (2, .int (i3 x2)), (3, .ref a3), (4, .ref a4), (5, .ref a5), (6, .ref a6)] [] n h := by
  refine ok_aload_n (pc := 0) hc dL_load_0 rfl 3 rfl ?_
  refine ok_iconst (pc := 1) hc (v := i3 0) dL_load_1 (by decide) ?_
  obtain ⟨r, P⟩ := P
  refine zk_iald (pc := 2) hc dL_load_2 e1.1 e1.2 r ?_
  refine ok_istore (pc := 3) hc (lv' := [(7, .int (i3 (f1 (0 : Int).toNat))), (0, .ref a0), (1, .int (i3 x1)), (2, .int (i3 x2)), (3, .ref a3), (4, .ref a4), (5, .ref a5), (6, .ref a6)]) dL_load_3 (by decide) rfl ?_
  refine ok_iconst (pc := 5) hc (v := i3 1) dL_load_5 (by decide) ?_
  refine ok_iload_n (pc := 6) hc dL_load_6 rfl 2 rfl ?_
  refine ok_iconst (pc := 7) hc (v := i3 3) dL_load_7 (by decide) ?_
  refine ok_lv [1, 2, 3, 4, 5, 6, 7, 0] rfl ?_
  exact ok_callS (pc := 8) (cb := bb) (sb := sb9) (st := [.int (i3 1)]) hc [.int (i3 x1), .int (i3 3)] cs_L_71 sp_L_at (by decide) dL_load_8 rfl rfl rfl rfl (Nat.le_of_ble_eq_true rfl) P

set_option maxHeartbeats 4000000 in
set_option maxRecDepth 100000 in
theorem sL_load_11 {X : Xt} {n : Nat} {h : HP} {a0 : Nat} {x1 : Int} {x2 : Int} {a3 : Nat} {a4 : Nat} {a5 : Nat} {a6 : Nat} {x7 : Int} {t0 : Int} {t1 : Int} {bb : Nat} {sb9 : Nat} {fs1 : List Value} (hc : Cx X cL_load RL 17 8 158) {K : KT} (hr : CxR X (some .boolean) K) (e1 : At h n a0 (.inl (6, fs1))) (z1 : fs1.length = 6)
    (P : spec_X6_clearInput [.ref a0] n h (kc X bb sb9 18 [(0, .ref a0), (1, .int (i3 x1)), (2, .int (i3 x2)), (3, .ref a3), (4, .ref a4), (5, .ref a5), (6, .ref a6), (7, .int (i3 x7)), (8, .int (i3 (t1 + t0))), (9, .int (i3 0))] [] n)) :
    Ok X bb sb9 11 [(0, .ref a0), (1, .int (i3 x1)), (2, .int (i3 x2)), (3, .ref a3), (4, .ref a4), (5, .ref a5), (6, .ref a6), (7, .int (i3 x7))] [.int (i3 t0), .int (i3 t1)] n h := by
  refine zk_iadd (pc := 11) hc dL_load_11 ?_
  refine ok_istore (pc := 12) hc (lv' := [(8, .int (i3 (t1 + t0))), (0, .ref a0), (1, .int (i3 x1)), (2, .int (i3 x2)), (3, .ref a3), (4, .ref a4), (5, .ref a5), (6, .ref a6), (7, .int (i3 x7))]) dL_load_12 (by decide) rfl ?_
  refine ok_iconst (pc := 14) hc (v := i3 0) dL_load_14 (by decide) ?_
  refine ok_istore (pc := 15) hc (lv' := [(9, .int (i3 0)), (8, .int (i3 (t1 + t0))), (0, .ref a0), (1, .int (i3 x1)), (2, .int (i3 x2)), (3, .ref a3), (4, .ref a4), (5, .ref a5), (6, .ref a6), (7, .int (i3 x7))]) dL_load_15 (by decide) rfl ?_
  refine ok_aload_n (pc := 17) hc dL_load_17 rfl 2 rfl ?_
  refine ok_lv [2, 3, 4, 5, 6, 7, 8, 9, 1, 0] rfl ?_
  exact ok_callV (pc := 18) (a := a0) (cb := bb) (sb := sb9) (st := []) hc [] cv_L_123 sp_X6_clearInput (by decide) dL_load_18 rfl e1.1 e1.2 rfl rfl rfl (Nat.le_of_ble_eq_true rfl) P

set_option maxHeartbeats 4000000 in
set_option maxRecDepth 100000 in
theorem sL_load_21 {X : Xt} {n : Nat} {h : HP} {a0 : Nat} {x1 : Int} {x2 : Int} {a3 : Nat} {a4 : Nat} {a5 : Nat} {a6 : Nat} {x7 : Int} {x8 : Int} {x9 : Int} {t0 : Int} {bb : Nat} {sb9 : Nat} (hc : Cx X cL_load RL 17 8 158) {K : KT} (hr : CxR X (some .boolean) K) 
    (P : Ok X bb sb9 25 [(0, .ref a0), (1, .int (i3 x1)), (2, .int (i3 x2)), (3, .ref a3), (4, .ref a4), (5, .ref a5), (6, .ref a6), (7, .int (i3 x7)), (8, .int (i3 x8)), (9, .int (i3 x9)), (10, .int (i3 0))] [] n h) :
    Ok X bb sb9 21 [(0, .ref a0), (1, .int (i3 x1)), (2, .int (i3 x2)), (3, .ref a3), (4, .ref a4), (5, .ref a5), (6, .ref a6), (7, .int (i3 x7)), (8, .int (i3 x8)), (9, .int (i3 x9))] [.int (i3 t0)] n h := by
  refine ok_pop (pc := 21) hc dL_load_21 rfl ?_
  refine ok_iconst (pc := 22) hc (v := i3 0) dL_load_22 (by decide) ?_
  refine ok_istore (pc := 23) hc (lv' := [(10, .int (i3 0)), (0, .ref a0), (1, .int (i3 x1)), (2, .int (i3 x2)), (3, .ref a3), (4, .ref a4), (5, .ref a5), (6, .ref a6), (7, .int (i3 x7)), (8, .int (i3 x8)), (9, .int (i3 x9))]) dL_load_23 (by decide) rfl ?_
  refine ok_lv [1, 2, 3, 4, 5, 6, 7, 8, 9, 10, 0] rfl ?_
  exact P

set_option maxHeartbeats 4000000 in
set_option maxRecDepth 100000 in
theorem sL_load_25 {X : Xt} {n : Nat} {h : HP} {a0 : Nat} {x1 : Int} {x2 : Int} {a3 : Nat} {a4 : Nat} {a5 : Nat} {a6 : Nat} {x7 : Int} {x8 : Int} {x9 : Int} {x10 : Int} {bb : Nat} {sb9 : Nat} {f3 : Nat → Int} (hc : Cx X cL_load RL 17 8 158) {K : KT} (hr : CxR X (some .boolean) K) (e3 : At h n a3 (ai 4 f3))
    (P : (R3 x10) ∧ (R3 x8) ∧ (x8 ≤ x10 → Ok X bb sb9 317 [(0, .ref a0), (1, .int (i3 x1)), (2, .int (i3 x2)), (3, .ref a3), (4, .ref a4), (5, .ref a5), (6, .ref a6), (7, .int (i3 x7)), (8, .int (i3 x8)), (9, .int (i3 x9)), (10, .int (i3 x10))] [] n h) ∧ (¬ x8 ≤ x10 → (Ix 0 4) ∧ (R3 (f3 (0 : Int).toNat)) ∧ (12 ≤ (f3 (0 : Int).toNat) → Ok X bb sb9 317 [(0, .ref a0), (1, .int (i3 x1)), (2, .int (i3 x2)), (3, .ref a3), (4, .ref a4), (5, .ref a5), (6, .ref a6), (7, .int (i3 x7)), (8, .int (i3 x8)), (9, .int (i3 x9)), (10, .int (i3 x10))] [] n h) ∧ (¬ 12 ≤ (f3 (0 : Int).toNat) → Ok X bb sb9 40 [(0, .ref a0), (1, .int (i3 x1)), (2, .int (i3 x2)), (3, .ref a3), (4, .ref a4), (5, .ref a5), (6, .ref a6), (7, .int (i3 x7)), (8, .int (i3 x8)), (9, .int (i3 x9)), (10, .int (i3 x10))] [] n h))) :
    Ok X bb sb9 25 [(0, .ref a0), (1, .int (i3 x1)), (2, .int (i3 x2)), (3, .ref a3), (4, .ref a4), (5, .ref a5), (6, .ref a6), (7, .int (i3 x7)), (8, .int (i3 x8)), (9, .int (i3 x9)), (10, .int (i3 x10))] [] n h := by
  refine ok_iload (pc := 25) hc dL_load_25 10 rfl ?_
  refine ok_iload (pc := 27) hc dL_load_27 8 rfl ?_
  obtain ⟨r1, P⟩ := P
  obtain ⟨r2, P⟩ := P
  refine zk_icmp_ge (pc := 29) (tgt := 317) hc dL_load_29 (by decide) r1 r2 (fun c => ?_) (fun c => ?_)
  · have P := P.1 c
    exact P
  · have P := P.2 c
    refine ok_aload_n (pc := 32) hc dL_load_32 rfl 3 rfl ?_
    refine ok_iconst (pc := 33) hc (v := i3 0) dL_load_33 (by decide) ?_
    obtain ⟨r, P⟩ := P
    refine zk_iald (pc := 34) hc dL_load_34 e3.1 e3.2 r ?_
    refine ok_bipush (pc := 35) hc (v := i3 12) dL_load_35 (by decide) ?_
    obtain ⟨r4, P⟩ := P
    refine zk_icmp_ge (pc := 37) (tgt := 317) hc dL_load_37 (by decide) r4 ⟨by decide, by decide⟩ (fun c => ?_) (fun c => ?_)
    · have P := P.1 c
      exact P
    · have P := P.2 c
      exact P

set_option maxHeartbeats 4000000 in
set_option maxRecDepth 100000 in
theorem sL_load_40 {X : Xt} {n : Nat} {h : HP} {a0 : Nat} {x1 : Int} {x2 : Int} {a3 : Nat} {a4 : Nat} {a5 : Nat} {a6 : Nat} {x7 : Int} {x8 : Int} {x9 : Int} {x10 : Int} {bb : Nat} {sb9 : Nat} (hc : Cx X cL_load RL 17 8 158) {K : KT} (hr : CxR X (some .boolean) K) 
    (P : spec_L_at [.int (i3 ((bshr x1 ((2 * x10) + 2)) + x10)), .int (i3 7)] n h (kc X bb sb9 68 [(0, .ref a0), (1, .int (i3 x1)), (2, .int (i3 x2)), (3, .ref a3), (4, .ref a4), (5, .ref a5), (6, .ref a6), (7, .int (i3 x7)), (8, .int (i3 x8)), (9, .int (i3 x9)), (10, .int (i3 x10)), (11, .int (i3 ((bshr x1 ((2 * x10) + 2)) + x10))), (12, .int (i3 ((bshr x2 (3 * x10)) + x10)))] [] n)) :
    Ok X bb sb9 40 [(0, .ref a0), (1, .int (i3 x1)), (2, .int (i3 x2)), (3, .ref a3), (4, .ref a4), (5, .ref a5), (6, .ref a6), (7, .int (i3 x7)), (8, .int (i3 x8)), (9, .int (i3 x9)), (10, .int (i3 x10))] [] n h := by
  refine ok_iload_n (pc := 40) hc dL_load_40 rfl 1 rfl ?_
  refine ok_iconst (pc := 41) hc (v := i3 2) dL_load_41 (by decide) ?_
  refine ok_iload (pc := 42) hc dL_load_42 10 rfl ?_
  refine zk_imul (pc := 44) hc dL_load_44 ?_
  refine ok_iconst (pc := 45) hc (v := i3 2) dL_load_45 (by decide) ?_
  refine zk_iadd (pc := 46) hc dL_load_46 ?_
  refine zk_ishr (pc := 47) hc dL_load_47 ?_
  refine ok_iload (pc := 48) hc dL_load_48 10 rfl ?_
  refine zk_iadd (pc := 50) hc dL_load_50 ?_
  refine ok_istore (pc := 51) hc (lv' := [(11, .int (i3 ((bshr x1 ((2 * x10) + 2)) + x10))), (0, .ref a0), (1, .int (i3 x1)), (2, .int (i3 x2)), (3, .ref a3), (4, .ref a4), (5, .ref a5), (6, .ref a6), (7, .int (i3 x7)), (8, .int (i3 x8)), (9, .int (i3 x9)), (10, .int (i3 x10))]) dL_load_51 (by decide) rfl ?_
  refine ok_iload_n (pc := 53) hc dL_load_53 rfl 3 rfl ?_
  refine ok_iconst (pc := 54) hc (v := i3 3) dL_load_54 (by decide) ?_
  refine ok_iload (pc := 55) hc dL_load_55 11 rfl ?_
  refine zk_imul (pc := 57) hc dL_load_57 ?_
  refine zk_ishr (pc := 58) hc dL_load_58 ?_
  refine ok_iload (pc := 59) hc dL_load_59 11 rfl ?_
  refine zk_iadd (pc := 61) hc dL_load_61 ?_
  refine ok_istore (pc := 62) hc (lv' := [(12, .int (i3 ((bshr x2 (3 * x10)) + x10))), (11, .int (i3 ((bshr x1 ((2 * x10) + 2)) + x10))), (0, .ref a0), (1, .int (i3 x1)), (2, .int (i3 x2)), (3, .ref a3), (4, .ref a4), (5, .ref a5), (6, .ref a6), (7, .int (i3 x7)), (8, .int (i3 x8)), (9, .int (i3 x9)), (10, .int (i3 x10))]) dL_load_62 (by decide) rfl ?_
  refine ok_iload (pc := 64) hc dL_load_64 1 rfl ?_
  refine ok_bipush (pc := 66) hc (v := i3 7) dL_load_66 (by decide) ?_
  refine ok_lv [2, 3, 4, 5, 6, 7, 8, 9, 10, 11, 12, 1, 0] rfl ?_
  exact ok_callS (pc := 68) (cb := bb) (sb := sb9) (st := []) hc [.int (i3 ((bshr x1 ((2 * x10) + 2)) + x10)), .int (i3 7)] cs_L_71 sp_L_at (by decide) dL_load_68 rfl rfl rfl rfl (Nat.le_of_ble_eq_true rfl) P

set_option maxHeartbeats 4000000 in
set_option maxRecDepth 100000 in
theorem sL_load_71 {X : Xt} {n : Nat} {h : HP} {a0 : Nat} {x1 : Int} {x2 : Int} {a3 : Nat} {a4 : Nat} {a5 : Nat} {a6 : Nat} {x7 : Int} {x8 : Int} {x9 : Int} {x10 : Int} {x11 : Int} {x12 : Int} {t0 : Int} {bb : Nat} {sb9 : Nat} (hc : Cx X cL_load RL 17 8 158) {K : KT} (hr : CxR X (some .boolean) K) 
    (P : (R3 t0) ∧ (4 ≤ t0 → Ok X bb sb9 79 [(0, .ref a0), (1, .int (i3 x1)), (2, .int (i3 x2)), (3, .ref a3), (4, .ref a4), (5, .ref a5), (6, .ref a6), (7, .int (i3 x7)), (8, .int (i3 x8)), (9, .int (i3 x9)), (10, .int (i3 x10)), (11, .int (i3 x11)), (12, .int (i3 x12))] [] n h) ∧ (¬ 4 ≤ t0 → Ok X bb sb9 75 [(0, .ref a0), (1, .int (i3 x1)), (2, .int (i3 x2)), (3, .ref a3), (4, .ref a4), (5, .ref a5), (6, .ref a6), (7, .int (i3 x7)), (8, .int (i3 x8)), (9, .int (i3 x9)), (10, .int (i3 x10)), (11, .int (i3 x11)), (12, .int (i3 x12))] [] n h)) :
    Ok X bb sb9 71 [(0, .ref a0), (1, .int (i3 x1)), (2, .int (i3 x2)), (3, .ref a3), (4, .ref a4), (5, .ref a5), (6, .ref a6), (7, .int (i3 x7)), (8, .int (i3 x8)), (9, .int (i3 x9)), (10, .int (i3 x10)), (11, .int (i3 x11)), (12, .int (i3 x12))] [.int (i3 t0)] n h := by
  refine ok_iconst (pc := 71) hc (v := i3 4) dL_load_71 (by decide) ?_
  obtain ⟨r1, P⟩ := P
  refine zk_icmp_ge (pc := 72) (tgt := 79) hc dL_load_72 (by decide) r1 ⟨by decide, by decide⟩ (fun c => ?_) (fun c => ?_)
  · have P := P.1 c
    exact P
  · have P := P.2 c
    exact P

set_option maxHeartbeats 4000000 in
set_option maxRecDepth 100000 in
theorem sL_load_79 {X : Xt} {n : Nat} {h : HP} {a0 : Nat} {x1 : Int} {x2 : Int} {a3 : Nat} {a4 : Nat} {a5 : Nat} {a6 : Nat} {x7 : Int} {x8 : Int} {x9 : Int} {x10 : Int} {x11 : Int} {x12 : Int} {bb : Nat} {sb9 : Nat} (hc : Cx X cL_load RL 17 8 158) {K : KT} (hr : CxR X (some .boolean) K) 
    (P : spec_L_at [.int (i3 x11), .int (i3 7)] n h (kc X bb sb9 83 [(0, .ref a0), (1, .int (i3 x1)), (2, .int (i3 x2)), (3, .ref a3), (4, .ref a4), (5, .ref a5), (6, .ref a6), (7, .int (i3 x7)), (8, .int (i3 x8)), (9, .int (i3 x9)), (10, .int (i3 x10)), (11, .int (i3 x11)), (12, .int (i3 x12))] [] n)) :
    Ok X bb sb9 79 [(0, .ref a0), (1, .int (i3 x1)), (2, .int (i3 x2)), (3, .ref a3), (4, .ref a4), (5, .ref a5), (6, .ref a6), (7, .int (i3 x7)), (8, .int (i3 x8)), (9, .int (i3 x9)), (10, .int (i3 x10)), (11, .int (i3 x11)), (12, .int (i3 x12))] [] n h := by
  refine ok_iload (pc := 79) hc dL_load_79 11 rfl ?_
  refine ok_bipush (pc := 81) hc (v := i3 7) dL_load_81 (by decide) ?_
  exact ok_callS (pc := 83) (cb := bb) (sb := sb9) (st := []) hc [.int (i3 x11), .int (i3 7)] cs_L_71 sp_L_at (by decide) dL_load_83 rfl rfl rfl rfl (Nat.le_of_ble_eq_true rfl) P

set_option maxHeartbeats 4000000 in
set_option maxRecDepth 100000 in
theorem sL_load_86 {X : Xt} {n : Nat} {h : HP} {a0 : Nat} {x1 : Int} {x2 : Int} {a3 : Nat} {a4 : Nat} {a5 : Nat} {a6 : Nat} {x7 : Int} {x8 : Int} {x9 : Int} {x10 : Int} {x11 : Int} {x12 : Int} {t0 : Int} {bb : Nat} {sb9 : Nat} (hc : Cx X cL_load RL 17 8 158) {K : KT} (hr : CxR X (some .boolean) K) 
    (P : (R3 t0) ∧ (6 ≤ t0 → Ok X bb sb9 96 [(0, .ref a0), (1, .int (i3 x1)), (2, .int (i3 x2)), (3, .ref a3), (4, .ref a4), (5, .ref a5), (6, .ref a6), (7, .int (i3 x7)), (8, .int (i3 x8)), (9, .int (i3 x9)), (10, .int (i3 x10)), (11, .int (i3 x11)), (12, .int (i3 x12))] [.int (i3 2)] n h) ∧ (¬ 6 ≤ t0 → Ok X bb sb9 96 [(0, .ref a0), (1, .int (i3 x1)), (2, .int (i3 x2)), (3, .ref a3), (4, .ref a4), (5, .ref a5), (6, .ref a6), (7, .int (i3 x7)), (8, .int (i3 x8)), (9, .int (i3 x9)), (10, .int (i3 x10)), (11, .int (i3 x11)), (12, .int (i3 x12))] [.int (i3 1)] n h)) :
    Ok X bb sb9 86 [(0, .ref a0), (1, .int (i3 x1)), (2, .int (i3 x2)), (3, .ref a3), (4, .ref a4), (5, .ref a5), (6, .ref a6), (7, .int (i3 x7)), (8, .int (i3 x8)), (9, .int (i3 x9)), (10, .int (i3 x10)), (11, .int (i3 x11)), (12, .int (i3 x12))] [.int (i3 t0)] n h := by
  refine ok_bipush (pc := 86) hc (v := i3 6) dL_load_86 (by decide) ?_
  obtain ⟨r1, P⟩ := P
  refine zk_icmp_ge (pc := 88) (tgt := 95) hc dL_load_88 (by decide) r1 ⟨by decide, by decide⟩ (fun c => ?_) (fun c => ?_)
  · have P := P.1 c
    refine ok_iconst (pc := 95) hc (v := i3 2) dL_load_95 (by decide) ?_
    exact P
  · have P := P.2 c
    refine ok_iconst (pc := 91) hc (v := i3 1) dL_load_91 (by decide) ?_
    refine ok_goto (pc := 92) (tgt := 96) hc dL_load_92 (by decide) ?_
    exact P

set_option maxHeartbeats 4000000 in
set_option maxRecDepth 100000 in
theorem sL_load_75 {X : Xt} {n : Nat} {h : HP} {a0 : Nat} {x1 : Int} {x2 : Int} {a3 : Nat} {a4 : Nat} {a5 : Nat} {a6 : Nat} {x7 : Int} {x8 : Int} {x9 : Int} {x10 : Int} {x11 : Int} {x12 : Int} {bb : Nat} {sb9 : Nat} (hc : Cx X cL_load RL 17 8 158) {K : KT} (hr : CxR X (some .boolean) K) 
    (P : Ok X bb sb9 96 [(0, .ref a0), (1, .int (i3 x1)), (2, .int (i3 x2)), (3, .ref a3), (4, .ref a4), (5, .ref a5), (6, .ref a6), (7, .int (i3 x7)), (8, .int (i3 x8)), (9, .int (i3 x9)), (10, .int (i3 x10)), (11, .int (i3 x11)), (12, .int (i3 x12))] [.int (i3 0)] n h) :
    Ok X bb sb9 75 [(0, .ref a0), (1, .int (i3 x1)), (2, .int (i3 x2)), (3, .ref a3), (4, .ref a4), (5, .ref a5), (6, .ref a6), (7, .int (i3 x7)), (8, .int (i3 x8)), (9, .int (i3 x9)), (10, .int (i3 x10)), (11, .int (i3 x11)), (12, .int (i3 x12))] [] n h := by
  refine ok_iconst (pc := 75) hc (v := i3 0) dL_load_75 (by decide) ?_
  refine ok_goto (pc := 76) (tgt := 96) hc dL_load_76 (by decide) ?_
  exact P

set_option maxHeartbeats 4000000 in
set_option maxRecDepth 100000 in
theorem sL_load_96 {X : Xt} {n : Nat} {h : HP} {a0 : Nat} {x1 : Int} {x2 : Int} {a3 : Nat} {a4 : Nat} {a5 : Nat} {a6 : Nat} {x7 : Int} {x8 : Int} {x9 : Int} {x10 : Int} {x11 : Int} {x12 : Int} {t0 : Int} {bb : Nat} {sb9 : Nat} (hc : Cx X cL_load RL 17 8 158) {K : KT} (hr : CxR X (some .boolean) K) 
    (P : spec_L_at [.int (i3 (bshr x11 3)), .int (i3 7)] n h (kc X bb sb9 104 [(0, .ref a0), (1, .int (i3 x1)), (2, .int (i3 x2)), (3, .ref a3), (4, .ref a4), (5, .ref a5), (6, .ref a6), (7, .int (i3 x7)), (8, .int (i3 x8)), (9, .int (i3 x9)), (10, .int (i3 x10)), (11, .int (i3 x11)), (12, .int (i3 x12)), (13, .int (i3 t0))] [] n)) :
    Ok X bb sb9 96 [(0, .ref a0), (1, .int (i3 x1)), (2, .int (i3 x2)), (3, .ref a3), (4, .ref a4), (5, .ref a5), (6, .ref a6), (7, .int (i3 x7)), (8, .int (i3 x8)), (9, .int (i3 x9)), (10, .int (i3 x10)), (11, .int (i3 x11)), (12, .int (i3 x12))] [.int (i3 t0)] n h := by
  refine ok_istore (pc := 96) hc (lv' := [(13, .int (i3 t0)), (0, .ref a0), (1, .int (i3 x1)), (2, .int (i3 x2)), (3, .ref a3), (4, .ref a4), (5, .ref a5), (6, .ref a6), (7, .int (i3 x7)), (8, .int (i3 x8)), (9, .int (i3 x9)), (10, .int (i3 x10)), (11, .int (i3 x11)), (12, .int (i3 x12))]) dL_load_96 (by decide) rfl ?_
  refine ok_iload (pc := 98) hc dL_load_98 12 rfl ?_
  refine ok_iconst (pc := 100) hc (v := i3 3) dL_load_100 (by decide) ?_
  refine zk_ishr (pc := 101) hc dL_load_101 ?_
  refine ok_bipush (pc := 102) hc (v := i3 7) dL_load_102 (by decide) ?_
  refine ok_lv [1, 2, 3, 4, 5, 6, 7, 8, 9, 10, 11, 12, 13, 0] rfl ?_
  exact ok_callS (pc := 104) (cb := bb) (sb := sb9) (st := []) hc [.int (i3 (bshr x11 3)), .int (i3 7)] cs_L_71 sp_L_at (by decide) dL_load_104 rfl rfl rfl rfl (Nat.le_of_ble_eq_true rfl) P

set_option maxHeartbeats 4000000 in
set_option maxRecDepth 100000 in
theorem sL_load_107 {X : Xt} {n : Nat} {h : HP} {a0 : Nat} {x1 : Int} {x2 : Int} {a3 : Nat} {a4 : Nat} {a5 : Nat} {a6 : Nat} {x7 : Int} {x8 : Int} {x9 : Int} {x10 : Int} {x11 : Int} {x12 : Int} {x13 : Int} {t0 : Int} {bb : Nat} {sb9 : Nat} (hc : Cx X cL_load RL 17 8 158) {K : KT} (hr : CxR X (some .boolean) K) 
    (P : spec_L_at [.int (i3 x12), .int (i3 6)] n h (kc X bb sb9 117 [(0, .ref a0), (1, .int (i3 x1)), (2, .int (i3 x2)), (3, .ref a3), (4, .ref a4), (5, .ref a5), (6, .ref a6), (7, .int (i3 x7)), (8, .int (i3 x8)), (9, .int (i3 x9)), (10, .int (i3 x10)), (11, .int (i3 x11)), (12, .int (i3 x12)), (13, .int (i3 x13)), (14, .int (i3 t0))] [.int (i3 (t0 + 1))] n)) :
    Ok X bb sb9 107 [(0, .ref a0), (1, .int (i3 x1)), (2, .int (i3 x2)), (3, .ref a3), (4, .ref a4), (5, .ref a5), (6, .ref a6), (7, .int (i3 x7)), (8, .int (i3 x8)), (9, .int (i3 x9)), (10, .int (i3 x10)), (11, .int (i3 x11)), (12, .int (i3 x12)), (13, .int (i3 x13))] [.int (i3 t0)] n h := by
  refine ok_istore (pc := 107) hc (lv' := [(14, .int (i3 t0)), (0, .ref a0), (1, .int (i3 x1)), (2, .int (i3 x2)), (3, .ref a3), (4, .ref a4), (5, .ref a5), (6, .ref a6), (7, .int (i3 x7)), (8, .int (i3 x8)), (9, .int (i3 x9)), (10, .int (i3 x10)), (11, .int (i3 x11)), (12, .int (i3 x12)), (13, .int (i3 x13))]) dL_load_107 (by decide) rfl ?_
  refine ok_iload (pc := 109) hc dL_load_109 0 rfl ?_
  refine ok_iconst (pc := 111) hc (v := i3 1) dL_load_111 (by decide) ?_
  refine zk_iadd (pc := 112) hc dL_load_112 ?_
  refine ok_iload (pc := 113) hc dL_load_113 13 rfl ?_
  refine ok_bipush (pc := 115) hc (v := i3 6) dL_load_115 (by decide) ?_
  refine ok_lv [1, 2, 3, 4, 5, 6, 7, 8, 9, 10, 11, 12, 13, 14, 0] rfl ?_
  exact ok_callS (pc := 117) (cb := bb) (sb := sb9) (st := [.int (i3 (t0 + 1))]) hc [.int (i3 x12), .int (i3 6)] cs_L_71 sp_L_at (by decide) dL_load_117 rfl rfl rfl rfl (Nat.le_of_ble_eq_true rfl) P

set_option maxHeartbeats 4000000 in
set_option maxRecDepth 100000 in
theorem sL_load_120 {X : Xt} {n : Nat} {h : HP} {a0 : Nat} {x1 : Int} {x2 : Int} {a3 : Nat} {a4 : Nat} {a5 : Nat} {a6 : Nat} {x7 : Int} {x8 : Int} {x9 : Int} {x10 : Int} {x11 : Int} {x12 : Int} {x13 : Int} {x14 : Int} {t0 : Int} {t1 : Int} {bb : Nat} {sb9 : Nat} (hc : Cx X cL_load RL 17 8 158) {K : KT} (hr : CxR X (some .boolean) K) 
    (P : (((0 : Int) ≤ (t1 + t0) ∧ (t1 + t0) ≤ 2147483647) ∧ (0 : Int) < 7 ∧ (7 : Int) ≤ 2147483647) ∧ spec_L_at [.int (i3 (bshr x12 4)), .int (i3 7)] n h (kc X bb sb9 132 [(0, .ref a0), (1, .int (i3 x1)), (2, .int (i3 x2)), (3, .ref a3), (4, .ref a4), (5, .ref a5), (6, .ref a6), (7, .int (i3 x7)), (8, .int (i3 x8)), (9, .int (i3 x9)), (10, .int (i3 x10)), (11, .int (i3 x11)), (12, .int (i3 x12)), (13, .int (i3 x13)), (14, .int (i3 x14)), (15, .int (i3 ((t1 + t0) % 7)))] [] n)) :
    Ok X bb sb9 120 [(0, .ref a0), (1, .int (i3 x1)), (2, .int (i3 x2)), (3, .ref a3), (4, .ref a4), (5, .ref a5), (6, .ref a6), (7, .int (i3 x7)), (8, .int (i3 x8)), (9, .int (i3 x9)), (10, .int (i3 x10)), (11, .int (i3 x11)), (12, .int (i3 x12)), (13, .int (i3 x13)), (14, .int (i3 x14))] [.int (i3 t0), .int (i3 t1)] n h := by
  refine zk_iadd (pc := 120) hc dL_load_120 ?_
  refine ok_bipush (pc := 121) hc (v := i3 7) dL_load_121 (by decide) ?_
  obtain ⟨r, P⟩ := P
  refine zk_irem (pc := 123) hc dL_load_123 r ?_
  refine ok_istore (pc := 124) hc (lv' := [(15, .int (i3 ((t1 + t0) % 7))), (0, .ref a0), (1, .int (i3 x1)), (2, .int (i3 x2)), (3, .ref a3), (4, .ref a4), (5, .ref a5), (6, .ref a6), (7, .int (i3 x7)), (8, .int (i3 x8)), (9, .int (i3 x9)), (10, .int (i3 x10)), (11, .int (i3 x11)), (12, .int (i3 x12)), (13, .int (i3 x13)), (14, .int (i3 x14))]) dL_load_124 (by decide) rfl ?_
  refine ok_iload (pc := 126) hc dL_load_126 13 rfl ?_
  refine ok_iconst (pc := 128) hc (v := i3 4) dL_load_128 (by decide) ?_
  refine zk_ishr (pc := 129) hc dL_load_129 ?_
  refine ok_bipush (pc := 130) hc (v := i3 7) dL_load_130 (by decide) ?_
  refine ok_lv [1, 2, 3, 4, 5, 6, 7, 8, 9, 10, 11, 12, 13, 14, 15, 0] rfl ?_
  exact ok_callS (pc := 132) (cb := bb) (sb := sb9) (st := []) hc [.int (i3 (bshr x12 4)), .int (i3 7)] cs_L_71 sp_L_at (by decide) dL_load_132 rfl rfl rfl rfl (Nat.le_of_ble_eq_true rfl) P

set_option maxHeartbeats 4000000 in
set_option maxRecDepth 100000 in
theorem sL_load_135 {X : Xt} {n : Nat} {h : HP} {a0 : Nat} {x1 : Int} {x2 : Int} {a3 : Nat} {a4 : Nat} {a5 : Nat} {a6 : Nat} {x7 : Int} {x8 : Int} {x9 : Int} {x10 : Int} {x11 : Int} {x12 : Int} {x13 : Int} {x14 : Int} {x15 : Int} {t0 : Int} {bb : Nat} {sb9 : Nat} (hc : Cx X cL_load RL 17 8 158) {K : KT} (hr : CxR X (some .boolean) K) 
    (P : Ok X bb sb9 137 [(0, .ref a0), (1, .int (i3 x1)), (2, .int (i3 x2)), (3, .ref a3), (4, .ref a4), (5, .ref a5), (6, .ref a6), (7, .int (i3 x7)), (8, .int (i3 x8)), (9, .int (i3 x9)), (10, .int (i3 x10)), (11, .int (i3 x11)), (12, .int (i3 x12)), (13, .int (i3 x13)), (14, .int (i3 x14)), (15, .int (i3 x15)), (16, .int (i3 t0))] [] n h) :
    Ok X bb sb9 135 [(0, .ref a0), (1, .int (i3 x1)), (2, .int (i3 x2)), (3, .ref a3), (4, .ref a4), (5, .ref a5), (6, .ref a6), (7, .int (i3 x7)), (8, .int (i3 x8)), (9, .int (i3 x9)), (10, .int (i3 x10)), (11, .int (i3 x11)), (12, .int (i3 x12)), (13, .int (i3 x13)), (14, .int (i3 x14)), (15, .int (i3 x15))] [.int (i3 t0)] n h := by
  refine ok_istore (pc := 135) hc (lv' := [(16, .int (i3 t0)), (0, .ref a0), (1, .int (i3 x1)), (2, .int (i3 x2)), (3, .ref a3), (4, .ref a4), (5, .ref a5), (6, .ref a6), (7, .int (i3 x7)), (8, .int (i3 x8)), (9, .int (i3 x9)), (10, .int (i3 x10)), (11, .int (i3 x11)), (12, .int (i3 x12)), (13, .int (i3 x13)), (14, .int (i3 x14)), (15, .int (i3 x15))]) dL_load_135 (by decide) rfl ?_
  refine ok_lv [1, 2, 3, 4, 5, 6, 7, 8, 9, 10, 11, 12, 13, 14, 15, 16, 0] rfl ?_
  exact P

set_option maxHeartbeats 4000000 in
set_option maxRecDepth 100000 in
theorem sL_load_137 {X : Xt} {n : Nat} {h : HP} {a0 : Nat} {x1 : Int} {x2 : Int} {a3 : Nat} {a4 : Nat} {a5 : Nat} {a6 : Nat} {x7 : Int} {x8 : Int} {x9 : Int} {x10 : Int} {x11 : Int} {x12 : Int} {x13 : Int} {x14 : Int} {x15 : Int} {x16 : Int} {bb : Nat} {sb9 : Nat} {f3 : Nat → Int} {ps4 : List Part} {f5 : Nat → Int} (hc : Cx X cL_load RL 17 8 158) {K : KT} (hr : CxR X (some .boolean) K) (e3 : At h n a4 (ai 48 f3)) (hP4 : PaF f3 ps4) (e5 : At h n a3 (ai 4 f5)) (hD6 : f5 0 = ps4.length)
    (P : (R3 x13) ∧ (¬ x13 = 1 → Ok X bb sb9 162 [(0, .ref a0), (1, .int (i3 x1)), (2, .int (i3 x2)), (3, .ref a3), (4, .ref a4), (5, .ref a5), (6, .ref a6), (7, .int (i3 x7)), (8, .int (i3 x8)), (9, .int (i3 x9)), (10, .int (i3 x10)), (11, .int (i3 x11)), (12, .int (i3 x12)), (13, .int (i3 x13)), (14, .int (i3 x14)), (15, .int (i3 x15)), (16, .int (i3 x16))] [] n h) ∧ (x13 = 1 → (R3 x14) ∧ (x14 = 0 → Ok X bb sb9 162 [(0, .ref a0), (1, .int (i3 x1)), (2, .int (i3 x2)), (3, .ref a3), (4, .ref a4), (5, .ref a5), (6, .ref a6), (7, .int (i3 x7)), (8, .int (i3 x8)), (9, .int (i3 x9)), (10, .int (i3 x10)), (11, .int (i3 x11)), (12, .int (i3 x12)), (13, .int (i3 0)), (14, .int (i3 x14)), (15, .int (i3 x15)), (16, .int (i3 x16))] [] n h) ∧ (¬ x14 = 0 → (R3 x14) ∧ (R3 (drvI ps4 x14)) ∧ ((drvI ps4 x14) < 0 → Ok X bb sb9 162 [(0, .ref a0), (1, .int (i3 x1)), (2, .int (i3 x2)), (3, .ref a3), (4, .ref a4), (5, .ref a5), (6, .ref a6), (7, .int (i3 x7)), (8, .int (i3 x8)), (9, .int (i3 x9)), (10, .int (i3 x10)), (11, .int (i3 x11)), (12, .int (i3 x12)), (13, .int (i3 x13)), (14, .int (i3 x14)), (15, .int (i3 x15)), (16, .int (i3 x16))] [] n h) ∧ (¬ (drvI ps4 x14) < 0 → Ok X bb sb9 162 [(0, .ref a0), (1, .int (i3 x1)), (2, .int (i3 x2)), (3, .ref a3), (4, .ref a4), (5, .ref a5), (6, .ref a6), (7, .int (i3 x7)), (8, .int (i3 x8)), (9, .int (i3 x9)), (10, .int (i3 x10)), (11, .int (i3 x11)), (12, .int (i3 x12)), (13, .int (i3 0)), (14, .int (i3 x14)), (15, .int (i3 x15)), (16, .int (i3 x16))] [] n h)))) :
    Ok X bb sb9 137 [(0, .ref a0), (1, .int (i3 x1)), (2, .int (i3 x2)), (3, .ref a3), (4, .ref a4), (5, .ref a5), (6, .ref a6), (7, .int (i3 x7)), (8, .int (i3 x8)), (9, .int (i3 x9)), (10, .int (i3 x10)), (11, .int (i3 x11)), (12, .int (i3 x12)), (13, .int (i3 x13)), (14, .int (i3 x14)), (15, .int (i3 x15)), (16, .int (i3 x16))] [] n h := by
  refine ok_iload (pc := 137) hc dL_load_137 13 rfl ?_
  refine ok_iconst (pc := 139) hc (v := i3 1) dL_load_139 (by decide) ?_
  obtain ⟨r1, P⟩ := P
  refine zk_icmp_ne (pc := 140) (tgt := 162) hc dL_load_140 (by decide) r1 ⟨by decide, by decide⟩ (fun c => ?_) (fun c => ?_)
  · have P := P.1 c
    exact P
  · have P := P.2 c
    refine ok_iload (pc := 143) hc dL_load_143 14 rfl ?_
    obtain ⟨r2, P⟩ := P
    refine zk_if_eq (pc := 145) (tgt := 159) hc dL_load_145 (by decide) r2 (fun c => ?_) (fun c => ?_)
    · have P := P.1 c
      refine ok_iconst (pc := 159) hc (v := i3 0) dL_load_159 (by decide) ?_
      refine ok_istore (pc := 160) hc (lv' := [(13, .int (i3 0)), (0, .ref a0), (1, .int (i3 x1)), (2, .int (i3 x2)), (3, .ref a3), (4, .ref a4), (5, .ref a5), (6, .ref a6), (7, .int (i3 x7)), (8, .int (i3 x8)), (9, .int (i3 x9)), (10, .int (i3 x10)), (11, .int (i3 x11)), (12, .int (i3 x12)), (14, .int (i3 x14)), (15, .int (i3 x15)), (16, .int (i3 x16))]) dL_load_160 (by decide) rfl ?_
      refine ok_lv [1, 2, 3, 4, 5, 6, 7, 8, 9, 10, 11, 12, 13, 0, 14, 15, 16] rfl ?_
      exact P
    · have P := P.2 c
      refine ok_iload (pc := 148) hc dL_load_148 14 rfl ?_
      refine ok_aload_n (pc := 150) hc dL_load_150 rfl 3 rfl ?_
      refine ok_aload (pc := 151) hc dL_load_151 4 rfl ?_
      obtain ⟨r0, P⟩ := P
      refine ok_callS (pc := 153) (cb := bb) (sb := sb9) (st := []) hc [.int (i3 x14), .ref a3, .ref a4] cs_L_25 sp_L_driver (by decide) dL_load_153 rfl rfl rfl rfl (Nat.le_of_ble_eq_true rfl) (⟨_, _, _, _, _, _, rfl, ⟨e5.1, e5.2⟩, ⟨e3.1, e3.2⟩, hD6, hP4, r0, rfl, ?_⟩)
      show Ok X bb sb9 (153 + 3) [(0, .ref a0), (1, .int (i3 x1)), (2, .int (i3 x2)), (3, .ref a3), (4, .ref a4), (5, .ref a5), (6, .ref a6), (7, .int (i3 x7)), (8, .int (i3 x8)), (9, .int (i3 x9)), (10, .int (i3 x10)), (11, .int (i3 x11)), (12, .int (i3 x12)), (13, .int (i3 x13)), (14, .int (i3 x14)), (15, .int (i3 x15)), (16, .int (i3 x16))] [.int (i3 (drvI ps4 x14))] n h
      obtain ⟨r7, P⟩ := P
      refine zk_if_lt (pc := 156) (tgt := 162) hc dL_load_156 (by decide) r7 (fun c => ?_) (fun c => ?_)
      · have P := P.1 c
        exact P
      · have P := P.2 c
        refine ok_iconst (pc := 159) hc (v := i3 0) dL_load_159 (by decide) ?_
        refine ok_istore (pc := 160) hc (lv' := [(13, .int (i3 0)), (0, .ref a0), (1, .int (i3 x1)), (2, .int (i3 x2)), (3, .ref a3), (4, .ref a4), (5, .ref a5), (6, .ref a6), (7, .int (i3 x7)), (8, .int (i3 x8)), (9, .int (i3 x9)), (10, .int (i3 x10)), (11, .int (i3 x11)), (12, .int (i3 x12)), (14, .int (i3 x14)), (15, .int (i3 x15)), (16, .int (i3 x16))]) dL_load_160 (by decide) rfl ?_
        refine ok_lv [1, 2, 3, 4, 5, 6, 7, 8, 9, 10, 11, 12, 13, 0, 14, 15, 16] rfl ?_
        exact P

set_option maxHeartbeats 4000000 in
set_option maxRecDepth 100000 in
theorem sL_load_162 {X : Xt} {n : Nat} {h : HP} {a0 : Nat} {x1 : Int} {x2 : Int} {a3 : Nat} {a4 : Nat} {a5 : Nat} {a6 : Nat} {x7 : Int} {x8 : Int} {x9 : Int} {x10 : Int} {x11 : Int} {x12 : Int} {x13 : Int} {x14 : Int} {x15 : Int} {x16 : Int} {bb : Nat} {sb9 : Nat} {f7 : Nat → Int} {ps8 : List Part} {f9 : Nat → Int} (hc : Cx X cL_load RL 17 8 158) {K : KT} (hr : CxR X (some .boolean) K) (e7 : At h n a4 (ai 48 f7)) (hP8 : PaF f7 ps8) (e9 : At h n a3 (ai 4 f9)) (hD10 : f9 0 = ps8.length)
    (P : (R3 x13) ∧ (¬ x13 = 2 → Ok X bb sb9 213 [(0, .ref a0), (1, .int (i3 x1)), (2, .int (i3 x2)), (3, .ref a3), (4, .ref a4), (5, .ref a5), (6, .ref a6), (7, .int (i3 x7)), (8, .int (i3 x8)), (9, .int (i3 x9)), (10, .int (i3 x10)), (11, .int (i3 x11)), (12, .int (i3 x12)), (13, .int (i3 x13)), (14, .int (i3 x14)), (15, .int (i3 x15)), (16, .int (i3 x16))] [] n h) ∧ (x13 = 2 → (R3 x16) ∧ (x16 = 0 → Ok X bb sb9 213 [(0, .ref a0), (1, .int (i3 x1)), (2, .int (i3 x2)), (3, .ref a3), (4, .ref a4), (5, .ref a5), (6, .ref a6), (7, .int (i3 x7)), (8, .int (i3 x8)), (9, .int (i3 x9)), (10, .int (i3 x10)), (11, .int (i3 x11)), (12, .int (i3 x12)), (13, .int (i3 0)), (14, .int (i3 x14)), (15, .int (i3 x15)), (16, .int (i3 x16))] [] n h) ∧ (¬ x16 = 0 → (R3 x16) ∧ (R3 x14) ∧ (x16 = x14 → Ok X bb sb9 213 [(0, .ref a0), (1, .int (i3 x1)), (2, .int (i3 x2)), (3, .ref a3), (4, .ref a4), (5, .ref a5), (6, .ref a6), (7, .int (i3 x7)), (8, .int (i3 x8)), (9, .int (i3 x9)), (10, .int (i3 x10)), (11, .int (i3 x11)), (12, .int (i3 x12)), (13, .int (i3 0)), (14, .int (i3 x14)), (15, .int (i3 x15)), (16, .int (i3 x16))] [] n h) ∧ (¬ x16 = x14 → (R3 x16) ∧ (R3 x15) ∧ (x16 = x15 → Ok X bb sb9 213 [(0, .ref a0), (1, .int (i3 x1)), (2, .int (i3 x2)), (3, .ref a3), (4, .ref a4), (5, .ref a5), (6, .ref a6), (7, .int (i3 x7)), (8, .int (i3 x8)), (9, .int (i3 x9)), (10, .int (i3 x10)), (11, .int (i3 x11)), (12, .int (i3 x12)), (13, .int (i3 0)), (14, .int (i3 x14)), (15, .int (i3 x15)), (16, .int (i3 x16))] [] n h) ∧ (¬ x16 = x15 → (R3 x16) ∧ (R3 (drvI ps8 x16)) ∧ (0 ≤ (drvI ps8 x16) → Ok X bb sb9 213 [(0, .ref a0), (1, .int (i3 x1)), (2, .int (i3 x2)), (3, .ref a3), (4, .ref a4), (5, .ref a5), (6, .ref a6), (7, .int (i3 x7)), (8, .int (i3 x8)), (9, .int (i3 x9)), (10, .int (i3 x10)), (11, .int (i3 x11)), (12, .int (i3 x12)), (13, .int (i3 0)), (14, .int (i3 x14)), (15, .int (i3 x15)), (16, .int (i3 x16))] [] n h) ∧ (¬ 0 ≤ (drvI ps8 x16) → (Ix 0 4) ∧ (0 ≤ (f9 (0 : Int).toNat) ∧ (f9 (0 : Int).toNat) ≤ ps8.length) ∧ (R3 (nA (ps8.take ((f9 (0 : Int).toNat) : Int).toNat) : Int)) ∧ (¬ (nA (ps8.take ((f9 (0 : Int).toNat) : Int).toNat) : Int) = 3 → Ok X bb sb9 213 [(0, .ref a0), (1, .int (i3 x1)), (2, .int (i3 x2)), (3, .ref a3), (4, .ref a4), (5, .ref a5), (6, .ref a6), (7, .int (i3 x7)), (8, .int (i3 x8)), (9, .int (i3 x9)), (10, .int (i3 x10)), (11, .int (i3 x11)), (12, .int (i3 x12)), (13, .int (i3 x13)), (14, .int (i3 x14)), (15, .int (i3 x15)), (16, .int (i3 x16))] [] n h) ∧ ((nA (ps8.take ((f9 (0 : Int).toNat) : Int).toNat) : Int) = 3 → Ok X bb sb9 213 [(0, .ref a0), (1, .int (i3 x1)), (2, .int (i3 x2)), (3, .ref a3), (4, .ref a4), (5, .ref a5), (6, .ref a6), (7, .int (i3 x7)), (8, .int (i3 x8)), (9, .int (i3 x9)), (10, .int (i3 x10)), (11, .int (i3 x11)), (12, .int (i3 x12)), (13, .int (i3 0)), (14, .int (i3 x14)), (15, .int (i3 x15)), (16, .int (i3 x16))] [] n h))))))) :
    Ok X bb sb9 162 [(0, .ref a0), (1, .int (i3 x1)), (2, .int (i3 x2)), (3, .ref a3), (4, .ref a4), (5, .ref a5), (6, .ref a6), (7, .int (i3 x7)), (8, .int (i3 x8)), (9, .int (i3 x9)), (10, .int (i3 x10)), (11, .int (i3 x11)), (12, .int (i3 x12)), (13, .int (i3 x13)), (14, .int (i3 x14)), (15, .int (i3 x15)), (16, .int (i3 x16))] [] n h := by
  refine ok_iload (pc := 162) hc dL_load_162 13 rfl ?_
  refine ok_iconst (pc := 164) hc (v := i3 2) dL_load_164 (by decide) ?_
  obtain ⟨r1, P⟩ := P
  refine zk_icmp_ne (pc := 165) (tgt := 213) hc dL_load_165 (by decide) r1 ⟨by decide, by decide⟩ (fun c => ?_) (fun c => ?_)
  · have P := P.1 c
    exact P
  · have P := P.2 c
    refine ok_iload (pc := 168) hc dL_load_168 16 rfl ?_
    obtain ⟨r2, P⟩ := P
    refine zk_if_eq (pc := 170) (tgt := 210) hc dL_load_170 (by decide) r2 (fun c => ?_) (fun c => ?_)
    · have P := P.1 c
      refine ok_iconst (pc := 210) hc (v := i3 0) dL_load_210 (by decide) ?_
      refine ok_istore (pc := 211) hc (lv' := [(13, .int (i3 0)), (0, .ref a0), (1, .int (i3 x1)), (2, .int (i3 x2)), (3, .ref a3), (4, .ref a4), (5, .ref a5), (6, .ref a6), (7, .int (i3 x7)), (8, .int (i3 x8)), (9, .int (i3 x9)), (10, .int (i3 x10)), (11, .int (i3 x11)), (12, .int (i3 x12)), (14, .int (i3 x14)), (15, .int (i3 x15)), (16, .int (i3 x16))]) dL_load_211 (by decide) rfl ?_
      refine ok_lv [1, 2, 3, 4, 5, 6, 7, 8, 9, 10, 11, 12, 13, 0, 14, 15, 16] rfl ?_
      exact P
    · have P := P.2 c
      refine ok_iload (pc := 173) hc dL_load_173 16 rfl ?_
      refine ok_iload (pc := 175) hc dL_load_175 14 rfl ?_
      obtain ⟨r3, P⟩ := P
      obtain ⟨r4, P⟩ := P
      refine zk_icmp_eq (pc := 177) (tgt := 210) hc dL_load_177 (by decide) r3 r4 (fun c => ?_) (fun c => ?_)
      · have P := P.1 c
        refine ok_iconst (pc := 210) hc (v := i3 0) dL_load_210 (by decide) ?_
        refine ok_istore (pc := 211) hc (lv' := [(13, .int (i3 0)), (0, .ref a0), (1, .int (i3 x1)), (2, .int (i3 x2)), (3, .ref a3), (4, .ref a4), (5, .ref a5), (6, .ref a6), (7, .int (i3 x7)), (8, .int (i3 x8)), (9, .int (i3 x9)), (10, .int (i3 x10)), (11, .int (i3 x11)), (12, .int (i3 x12)), (14, .int (i3 x14)), (15, .int (i3 x15)), (16, .int (i3 x16))]) dL_load_211 (by decide) rfl ?_
        refine ok_lv [1, 2, 3, 4, 5, 6, 7, 8, 9, 10, 11, 12, 13, 0, 14, 15, 16] rfl ?_
        exact P
      · have P := P.2 c
        refine ok_iload (pc := 180) hc dL_load_180 16 rfl ?_
        refine ok_iload (pc := 182) hc dL_load_182 15 rfl ?_
        obtain ⟨r5, P⟩ := P
        obtain ⟨r6, P⟩ := P
        refine zk_icmp_eq (pc := 184) (tgt := 210) hc dL_load_184 (by decide) r5 r6 (fun c => ?_) (fun c => ?_)
        · have P := P.1 c
          refine ok_iconst (pc := 210) hc (v := i3 0) dL_load_210 (by decide) ?_
          refine ok_istore (pc := 211) hc (lv' := [(13, .int (i3 0)), (0, .ref a0), (1, .int (i3 x1)), (2, .int (i3 x2)), (3, .ref a3), (4, .ref a4), (5, .ref a5), (6, .ref a6), (7, .int (i3 x7)), (8, .int (i3 x8)), (9, .int (i3 x9)), (10, .int (i3 x10)), (11, .int (i3 x11)), (12, .int (i3 x12)), (14, .int (i3 x14)), (15, .int (i3 x15)), (16, .int (i3 x16))]) dL_load_211 (by decide) rfl ?_
          refine ok_lv [1, 2, 3, 4, 5, 6, 7, 8, 9, 10, 11, 12, 13, 0, 14, 15, 16] rfl ?_
          exact P
        · have P := P.2 c
          refine ok_iload (pc := 187) hc dL_load_187 16 rfl ?_
          refine ok_aload_n (pc := 189) hc dL_load_189 rfl 3 rfl ?_
          refine ok_aload (pc := 190) hc dL_load_190 4 rfl ?_
          obtain ⟨r0, P⟩ := P
          refine ok_callS (pc := 192) (cb := bb) (sb := sb9) (st := []) hc [.int (i3 x16), .ref a3, .ref a4] cs_L_25 sp_L_driver (by decide) dL_load_192 rfl rfl rfl rfl (Nat.le_of_ble_eq_true rfl) (⟨_, _, _, _, _, _, rfl, ⟨e9.1, e9.2⟩, ⟨e7.1, e7.2⟩, hD10, hP8, r0, rfl, ?_⟩)
          show Ok X bb sb9 (192 + 3) [(0, .ref a0), (1, .int (i3 x1)), (2, .int (i3 x2)), (3, .ref a3), (4, .ref a4), (5, .ref a5), (6, .ref a6), (7, .int (i3 x7)), (8, .int (i3 x8)), (9, .int (i3 x9)), (10, .int (i3 x10)), (11, .int (i3 x11)), (12, .int (i3 x12)), (13, .int (i3 x13)), (14, .int (i3 x14)), (15, .int (i3 x15)), (16, .int (i3 x16))] [.int (i3 (drvI ps8 x16))] n h
          obtain ⟨r11, P⟩ := P
          refine zk_if_ge (pc := 195) (tgt := 210) hc dL_load_195 (by decide) r11 (fun c => ?_) (fun c => ?_)
          · have P := P.1 c
            refine ok_iconst (pc := 210) hc (v := i3 0) dL_load_210 (by decide) ?_
            refine ok_istore (pc := 211) hc (lv' := [(13, .int (i3 0)), (0, .ref a0), (1, .int (i3 x1)), (2, .int (i3 x2)), (3, .ref a3), (4, .ref a4), (5, .ref a5), (6, .ref a6), (7, .int (i3 x7)), (8, .int (i3 x8)), (9, .int (i3 x9)), (10, .int (i3 x10)), (11, .int (i3 x11)), (12, .int (i3 x12)), (14, .int (i3 x14)), (15, .int (i3 x15)), (16, .int (i3 x16))]) dL_load_211 (by decide) rfl ?_
            refine ok_lv [1, 2, 3, 4, 5, 6, 7, 8, 9, 10, 11, 12, 13, 0, 14, 15, 16] rfl ?_
            exact P
          · have P := P.2 c
            refine ok_aload_n (pc := 198) hc dL_load_198 rfl 3 rfl ?_
            refine ok_iconst (pc := 199) hc (v := i3 0) dL_load_199 (by decide) ?_
            obtain ⟨r, P⟩ := P
            refine zk_iald (pc := 200) hc dL_load_200 e9.1 e9.2 r ?_
            refine ok_aload (pc := 201) hc dL_load_201 4 rfl ?_
            obtain ⟨r0, P⟩ := P
            refine ok_callS (pc := 203) (cb := bb) (sb := sb9) (st := []) hc [.int (i3 (f9 (0 : Int).toNat)), .ref a4] cs_L_18 sp_L_amplifiers (by decide) dL_load_203 rfl rfl rfl rfl (Nat.le_of_ble_eq_true rfl) (⟨((f9 (0 : Int).toNat) : Int).toNat, _, _, _, (by rw [Int.toNat_of_nonneg r0.1]), ⟨e7.1, e7.2⟩, hP8, (by omega), rfl, ?_⟩)
            show Ok X bb sb9 (203 + 3) [(0, .ref a0), (1, .int (i3 x1)), (2, .int (i3 x2)), (3, .ref a3), (4, .ref a4), (5, .ref a5), (6, .ref a6), (7, .int (i3 x7)), (8, .int (i3 x8)), (9, .int (i3 x9)), (10, .int (i3 x10)), (11, .int (i3 x11)), (12, .int (i3 x12)), (13, .int (i3 x13)), (14, .int (i3 x14)), (15, .int (i3 x15)), (16, .int (i3 x16))] [.int (i3 (nA (ps8.take ((f9 (0 : Int).toNat) : Int).toNat) : Int))] n h
            refine ok_iconst (pc := 206) hc (v := i3 3) dL_load_206 (by decide) ?_
            obtain ⟨r12, P⟩ := P
            refine zk_icmp_ne (pc := 207) (tgt := 213) hc dL_load_207 (by decide) r12 ⟨by decide, by decide⟩ (fun c => ?_) (fun c => ?_)
            · have P := P.1 c
              exact P
            · have P := P.2 c
              refine ok_iconst (pc := 210) hc (v := i3 0) dL_load_210 (by decide) ?_
              refine ok_istore (pc := 211) hc (lv' := [(13, .int (i3 0)), (0, .ref a0), (1, .int (i3 x1)), (2, .int (i3 x2)), (3, .ref a3), (4, .ref a4), (5, .ref a5), (6, .ref a6), (7, .int (i3 x7)), (8, .int (i3 x8)), (9, .int (i3 x9)), (10, .int (i3 x10)), (11, .int (i3 x11)), (12, .int (i3 x12)), (14, .int (i3 x14)), (15, .int (i3 x15)), (16, .int (i3 x16))]) dL_load_211 (by decide) rfl ?_
              refine ok_lv [1, 2, 3, 4, 5, 6, 7, 8, 9, 10, 11, 12, 13, 0, 14, 15, 16] rfl ?_
              exact P

set_option maxHeartbeats 4000000 in
set_option maxRecDepth 100000 in
theorem sL_load_213 {X : Xt} {n : Nat} {h : HP} {a0 : Nat} {x1 : Int} {x2 : Int} {a3 : Nat} {a4 : Nat} {a5 : Nat} {a6 : Nat} {x7 : Int} {x8 : Int} {x9 : Int} {x10 : Int} {x11 : Int} {x12 : Int} {x13 : Int} {x14 : Int} {x15 : Int} {x16 : Int} {bb : Nat} {sb9 : Nat} (hc : Cx X cL_load RL 17 8 158) {K : KT} (hr : CxR X (some .boolean) K) 
    (P : (R3 x13) ∧ (¬ x13 = 0 → (R3 x13) ∧ (¬ x13 = 1 → spec_L_put [.int (i3 x13), .int (i3 x14), .int (i3 x15), .int (i3 x16), .ref a3, .ref a4] n h (kc X bb sb9 265 [(0, .ref a0), (1, .int (i3 x1)), (2, .int (i3 x2)), (3, .ref a3), (4, .ref a4), (5, .ref a5), (6, .ref a6), (7, .int (i3 x7)), (8, .int (i3 x8)), (9, .int (i3 x9)), (10, .int (i3 x10)), (11, .int (i3 x11)), (12, .int (i3 x12)), (13, .int (i3 x13)), (14, .int (i3 x14)), (15, .int (i3 x15)), (16, .int (i3 x16))] [] n)) ∧ (x13 = 1 → spec_L_at [.int (i3 (bshr x12 2)), .int (i3 401)] n h (kc X bb sb9 250 [(0, .ref a0), (1, .int (i3 x1)), (2, .int (i3 x2)), (3, .ref a3), (4, .ref a4), (5, .ref a5), (6, .ref a6), (7, .int (i3 x7)), (8, .int (i3 x8)), (9, .int (i3 x9)), (10, .int (i3 x10)), (11, .int (i3 x11)), (12, .int (i3 x12)), (13, .int (i3 x13)), (14, .int (i3 x14)), (15, .int (i3 x15)), (16, .int (i3 x16))] [.int (i3 x15), .int (i3 x14), .int (i3 x13)] n))) ∧ (x13 = 0 → spec_L_at [.int (i3 (bshr x12 4)), .int (i3 4)] n h (kc X bb sb9 230 [(0, .ref a0), (1, .int (i3 x1)), (2, .int (i3 x2)), (3, .ref a3), (4, .ref a4), (5, .ref a5), (6, .ref a6), (7, .int (i3 x7)), (8, .int (i3 x8)), (9, .int (i3 x9)), (10, .int (i3 x10)), (11, .int (i3 x11)), (12, .int (i3 x12)), (13, .int (i3 x13)), (14, .int (i3 x14)), (15, .int (i3 x15)), (16, .int (i3 x16))] [.int (i3 1), .int (i3 x15), .int (i3 x14), .int (i3 x13)] n))) :
    Ok X bb sb9 213 [(0, .ref a0), (1, .int (i3 x1)), (2, .int (i3 x2)), (3, .ref a3), (4, .ref a4), (5, .ref a5), (6, .ref a6), (7, .int (i3 x7)), (8, .int (i3 x8)), (9, .int (i3 x9)), (10, .int (i3 x10)), (11, .int (i3 x11)), (12, .int (i3 x12)), (13, .int (i3 x13)), (14, .int (i3 x14)), (15, .int (i3 x15)), (16, .int (i3 x16))] [] n h := by
  refine ok_iload (pc := 213) hc dL_load_213 13 rfl ?_
  refine ok_iload (pc := 215) hc dL_load_215 14 rfl ?_
  refine ok_iload (pc := 217) hc dL_load_217 15 rfl ?_
  refine ok_iload (pc := 219) hc dL_load_219 13 rfl ?_
  obtain ⟨r1, P⟩ := P
  refine zk_if_ne (pc := 221) (tgt := 237) hc dL_load_221 (by decide) r1 (fun c => ?_) (fun c => ?_)
  · have P := P.1 c
    refine ok_iload (pc := 237) hc dL_load_237 13 rfl ?_
    refine ok_iconst (pc := 239) hc (v := i3 1) dL_load_239 (by decide) ?_
    obtain ⟨r2, P⟩ := P
    refine zk_icmp_ne (pc := 240) (tgt := 260) hc dL_load_240 (by decide) r2 ⟨by decide, by decide⟩ (fun c => ?_) (fun c => ?_)
    · have P := P.1 c
      refine ok_iload (pc := 260) hc dL_load_260 16 rfl ?_
      refine ok_aload_n (pc := 262) hc dL_load_262 rfl 3 rfl ?_
      refine ok_aload (pc := 263) hc dL_load_263 4 rfl ?_
      exact ok_callS (pc := 265) (cb := bb) (sb := sb9) (st := []) hc [.int (i3 x13), .int (i3 x14), .int (i3 x15), .int (i3 x16), .ref a3, .ref a4] cs_L_126 sp_L_put (by decide) dL_load_265 rfl rfl rfl rfl (Nat.le_of_ble_eq_true rfl) P
    · have P := P.2 c
      refine ok_iload (pc := 243) hc dL_load_243 12 rfl ?_
      refine ok_iconst (pc := 245) hc (v := i3 2) dL_load_245 (by decide) ?_
      refine zk_ishr (pc := 246) hc dL_load_246 ?_
      refine ok_sipush (pc := 247) hc (v := i3 401) dL_load_247 (by decide) ?_
      exact ok_callS (pc := 250) (cb := bb) (sb := sb9) (st := [.int (i3 x15), .int (i3 x14), .int (i3 x13)]) hc [.int (i3 (bshr x12 2)), .int (i3 401)] cs_L_71 sp_L_at (by decide) dL_load_250 rfl rfl rfl rfl (Nat.le_of_ble_eq_true rfl) P
  · have P := P.2 c
    refine ok_iconst (pc := 224) hc (v := i3 1) dL_load_224 (by decide) ?_
    refine ok_iload (pc := 225) hc dL_load_225 12 rfl ?_
    refine ok_iconst (pc := 227) hc (v := i3 4) dL_load_227 (by decide) ?_
    refine zk_ishr (pc := 228) hc dL_load_228 ?_
    refine ok_iconst (pc := 229) hc (v := i3 4) dL_load_229 (by decide) ?_
    exact ok_callS (pc := 230) (cb := bb) (sb := sb9) (st := [.int (i3 1), .int (i3 x15), .int (i3 x14), .int (i3 x13)]) hc [.int (i3 (bshr x12 4)), .int (i3 4)] cs_L_71 sp_L_at (by decide) dL_load_230 rfl rfl rfl rfl (Nat.le_of_ble_eq_true rfl) P

set_option maxHeartbeats 4000000 in
set_option maxRecDepth 100000 in
theorem sL_load_233 {X : Xt} {n : Nat} {h : HP} {a0 : Nat} {x1 : Int} {x2 : Int} {a3 : Nat} {a4 : Nat} {a5 : Nat} {a6 : Nat} {x7 : Int} {x8 : Int} {x9 : Int} {x10 : Int} {x11 : Int} {x12 : Int} {x13 : Int} {x14 : Int} {x15 : Int} {x16 : Int} {t0 : Int} {t1 : Int} {t2 : Int} {t3 : Int} {t4 : Int} {bb : Nat} {sb9 : Nat} (hc : Cx X cL_load RL 17 8 158) {K : KT} (hr : CxR X (some .boolean) K) 
    (P : Ok X bb sb9 262 [(0, .ref a0), (1, .int (i3 x1)), (2, .int (i3 x2)), (3, .ref a3), (4, .ref a4), (5, .ref a5), (6, .ref a6), (7, .int (i3 x7)), (8, .int (i3 x8)), (9, .int (i3 x9)), (10, .int (i3 x10)), (11, .int (i3 x11)), (12, .int (i3 x12)), (13, .int (i3 x13)), (14, .int (i3 x14)), (15, .int (i3 x15)), (16, .int (i3 x16))] [.int (i3 (t1 + t0)), .int (i3 t2), .int (i3 t3), .int (i3 t4)] n h) :
    Ok X bb sb9 233 [(0, .ref a0), (1, .int (i3 x1)), (2, .int (i3 x2)), (3, .ref a3), (4, .ref a4), (5, .ref a5), (6, .ref a6), (7, .int (i3 x7)), (8, .int (i3 x8)), (9, .int (i3 x9)), (10, .int (i3 x10)), (11, .int (i3 x11)), (12, .int (i3 x12)), (13, .int (i3 x13)), (14, .int (i3 x14)), (15, .int (i3 x15)), (16, .int (i3 x16))] [.int (i3 t0), .int (i3 t1), .int (i3 t2), .int (i3 t3), .int (i3 t4)] n h := by
  refine zk_iadd (pc := 233) hc dL_load_233 ?_
  refine ok_goto (pc := 234) (tgt := 262) hc dL_load_234 (by decide) ?_
  exact P

set_option maxHeartbeats 4000000 in
set_option maxRecDepth 100000 in
theorem sL_load_253 {X : Xt} {n : Nat} {h : HP} {a0 : Nat} {x1 : Int} {x2 : Int} {a3 : Nat} {a4 : Nat} {a5 : Nat} {a6 : Nat} {x7 : Int} {x8 : Int} {x9 : Int} {x10 : Int} {x11 : Int} {x12 : Int} {x13 : Int} {x14 : Int} {x15 : Int} {x16 : Int} {t0 : Int} {t1 : Int} {t2 : Int} {t3 : Int} {bb : Nat} {sb9 : Nat} (hc : Cx X cL_load RL 17 8 158) {K : KT} (hr : CxR X (some .boolean) K) 
    (P : Ok X bb sb9 262 [(0, .ref a0), (1, .int (i3 x1)), (2, .int (i3 x2)), (3, .ref a3), (4, .ref a4), (5, .ref a5), (6, .ref a6), (7, .int (i3 x7)), (8, .int (i3 x8)), (9, .int (i3 x9)), (10, .int (i3 x10)), (11, .int (i3 x11)), (12, .int (i3 x12)), (13, .int (i3 x13)), (14, .int (i3 x14)), (15, .int (i3 x15)), (16, .int (i3 x16))] [.int (i3 (t0 - 200)), .int (i3 t1), .int (i3 t2), .int (i3 t3)] n h) :
    Ok X bb sb9 253 [(0, .ref a0), (1, .int (i3 x1)), (2, .int (i3 x2)), (3, .ref a3), (4, .ref a4), (5, .ref a5), (6, .ref a6), (7, .int (i3 x7)), (8, .int (i3 x8)), (9, .int (i3 x9)), (10, .int (i3 x10)), (11, .int (i3 x11)), (12, .int (i3 x12)), (13, .int (i3 x13)), (14, .int (i3 x14)), (15, .int (i3 x15)), (16, .int (i3 x16))] [.int (i3 t0), .int (i3 t1), .int (i3 t2), .int (i3 t3)] n h := by
  refine ok_sipush (pc := 253) hc (v := i3 200) dL_load_253 (by decide) ?_
  refine zk_isub (pc := 256) hc dL_load_256 ?_
  refine ok_goto (pc := 257) (tgt := 262) hc dL_load_257 (by decide) ?_
  exact P

set_option maxHeartbeats 4000000 in
set_option maxRecDepth 100000 in
theorem sL_load_262 {X : Xt} {n : Nat} {h : HP} {a0 : Nat} {x1 : Int} {x2 : Int} {a3 : Nat} {a4 : Nat} {a5 : Nat} {a6 : Nat} {x7 : Int} {x8 : Int} {x9 : Int} {x10 : Int} {x11 : Int} {x12 : Int} {x13 : Int} {x14 : Int} {x15 : Int} {x16 : Int} {t0 : Int} {t1 : Int} {t2 : Int} {t3 : Int} {bb : Nat} {sb9 : Nat} (hc : Cx X cL_load RL 17 8 158) {K : KT} (hr : CxR X (some .boolean) K) 
    (P : spec_L_put [.int (i3 t3), .int (i3 t2), .int (i3 t1), .int (i3 t0), .ref a3, .ref a4] n h (kc X bb sb9 265 [(0, .ref a0), (1, .int (i3 x1)), (2, .int (i3 x2)), (3, .ref a3), (4, .ref a4), (5, .ref a5), (6, .ref a6), (7, .int (i3 x7)), (8, .int (i3 x8)), (9, .int (i3 x9)), (10, .int (i3 x10)), (11, .int (i3 x11)), (12, .int (i3 x12)), (13, .int (i3 x13)), (14, .int (i3 x14)), (15, .int (i3 x15)), (16, .int (i3 x16))] [] n)) :
    Ok X bb sb9 262 [(0, .ref a0), (1, .int (i3 x1)), (2, .int (i3 x2)), (3, .ref a3), (4, .ref a4), (5, .ref a5), (6, .ref a6), (7, .int (i3 x7)), (8, .int (i3 x8)), (9, .int (i3 x9)), (10, .int (i3 x10)), (11, .int (i3 x11)), (12, .int (i3 x12)), (13, .int (i3 x13)), (14, .int (i3 x14)), (15, .int (i3 x15)), (16, .int (i3 x16))] [.int (i3 t0), .int (i3 t1), .int (i3 t2), .int (i3 t3)] n h := by
  refine ok_aload_n (pc := 262) hc dL_load_262 rfl 3 rfl ?_
  refine ok_aload (pc := 263) hc dL_load_263 4 rfl ?_
  exact ok_callS (pc := 265) (cb := bb) (sb := sb9) (st := []) hc [.int (i3 t3), .int (i3 t2), .int (i3 t1), .int (i3 t0), .ref a3, .ref a4] cs_L_126 sp_L_put (by decide) dL_load_265 rfl rfl rfl rfl (Nat.le_of_ble_eq_true rfl) P

set_option maxHeartbeats 4000000 in
set_option maxRecDepth 100000 in
theorem sL_load_268 {X : Xt} {n : Nat} {h : HP} {a0 : Nat} {x1 : Int} {x2 : Int} {a3 : Nat} {a4 : Nat} {a5 : Nat} {a6 : Nat} {x7 : Int} {x8 : Int} {x9 : Int} {x10 : Int} {x11 : Int} {x12 : Int} {x13 : Int} {x14 : Int} {x15 : Int} {x16 : Int} {bb : Nat} {sb9 : Nat} (hc : Cx X cL_load RL 17 8 158) {K : KT} (hr : CxR X (some .boolean) K) 
    (P : (R3 x9) ∧ (x9 ≤ 0 → Ok X bb sb9 289 [(0, .ref a0), (1, .int (i3 x1)), (2, .int (i3 x2)), (3, .ref a3), (4, .ref a4), (5, .ref a5), (6, .ref a6), (7, .int (i3 x7)), (8, .int (i3 x8)), (9, .int (i3 x9)), (10, .int (i3 x10)), (11, .int (i3 x11)), (12, .int (i3 x12)), (13, .int (i3 x13)), (14, .int (i3 x14)), (15, .int (i3 x15)), (16, .int (i3 x16))] [] n h) ∧ (¬ x9 ≤ 0 → Ok X bb sb9 273 [(0, .ref a0), (1, .int (i3 x1)), (2, .int (i3 x2)), (3, .ref a3), (4, .ref a4), (5, .ref a5), (6, .ref a6), (7, .int (i3 x7)), (8, .int (i3 x8)), (9, .int (i3 x9)), (10, .int (i3 x10)), (11, .int (i3 x11)), (12, .int (i3 x12)), (13, .int (i3 x13)), (14, .int (i3 x14)), (15, .int (i3 x15)), (16, .int (i3 x16))] [] n h)) :
    Ok X bb sb9 268 [(0, .ref a0), (1, .int (i3 x1)), (2, .int (i3 x2)), (3, .ref a3), (4, .ref a4), (5, .ref a5), (6, .ref a6), (7, .int (i3 x7)), (8, .int (i3 x8)), (9, .int (i3 x9)), (10, .int (i3 x10)), (11, .int (i3 x11)), (12, .int (i3 x12)), (13, .int (i3 x13)), (14, .int (i3 x14)), (15, .int (i3 x15)), (16, .int (i3 x16))] [] n h := by
  refine ok_iload (pc := 268) hc dL_load_268 9 rfl ?_
  obtain ⟨r1, P⟩ := P
  refine zk_if_le (pc := 270) (tgt := 289) hc dL_load_270 (by decide) r1 (fun c => ?_) (fun c => ?_)
  · have P := P.1 c
    exact P
  · have P := P.2 c
    exact P

set_option maxHeartbeats 4000000 in
set_option maxRecDepth 100000 in
theorem sL_load_273 {X : Xt} {n : Nat} {h : HP} {a0 : Nat} {x1 : Int} {x2 : Int} {a3 : Nat} {a4 : Nat} {a5 : Nat} {a6 : Nat} {x7 : Int} {x8 : Int} {x9 : Int} {x10 : Int} {x11 : Int} {x12 : Int} {x13 : Int} {x14 : Int} {x15 : Int} {x16 : Int} {bb : Nat} {sb9 : Nat} {fs1 : List Value} (hc : Cx X cL_load RL 17 8 158) {K : KT} (hr : CxR X (some .boolean) K) (e1 : At h n a0 (.inl (6, fs1))) (z1 : fs1.length = 6)
    (P : spec_X6_append [.ref a0, .int (i3 59)] n h (kc X bb sb9 276 [(0, .ref a0), (1, .int (i3 x1)), (2, .int (i3 x2)), (3, .ref a3), (4, .ref a4), (5, .ref a5), (6, .ref a6), (7, .int (i3 x7)), (8, .int (i3 x8)), (9, .int (i3 x9)), (10, .int (i3 x10)), (11, .int (i3 x11)), (12, .int (i3 x12)), (13, .int (i3 x13)), (14, .int (i3 x14)), (15, .int (i3 x15)), (16, .int (i3 x16))] [] n)) :
    Ok X (bb + 1) (sb9 + 6) 273 [(0, .ref a0), (1, .int (i3 x1)), (2, .int (i3 x2)), (3, .ref a3), (4, .ref a4), (5, .ref a5), (6, .ref a6), (7, .int (i3 x7)), (8, .int (i3 x8)), (9, .int (i3 x9)), (10, .int (i3 x10)), (11, .int (i3 x11)), (12, .int (i3 x12)), (13, .int (i3 x13)), (14, .int (i3 x14)), (15, .int (i3 x15)), (16, .int (i3 x16))] [] n h := by
  refine ok_aload_n (pc := 273) hc dL_load_273 rfl 0 rfl ?_
  refine ok_bipush (pc := 274) hc (v := i3 59) dL_load_274 (by decide) ?_
  exact ok_callV (pc := 276) (a := a0) (cb := bb) (sb := sb9) (st := []) hc [.int (i3 59)] cv_L_116 sp_X6_append (by decide) dL_load_276 rfl e1.1 e1.2 rfl rfl rfl (Nat.le_of_ble_eq_true rfl) P

set_option maxHeartbeats 4000000 in
set_option maxRecDepth 100000 in
theorem sL_load_279 {X : Xt} {n : Nat} {h : HP} {a0 : Nat} {x1 : Int} {x2 : Int} {a3 : Nat} {a4 : Nat} {a5 : Nat} {a6 : Nat} {x7 : Int} {x8 : Int} {x9 : Int} {x10 : Int} {x11 : Int} {x12 : Int} {x13 : Int} {x14 : Int} {x15 : Int} {x16 : Int} {t0 : Int} {bb : Nat} {sb9 : Nat} (hc : Cx X cL_load RL 17 8 158) {K : KT} (hr : CxR X (some .boolean) K) 
    (P : (R3 t0) ∧ (R3 (x9 + 1)) ∧ (t0 = (x9 + 1) → Ok X bb sb9 289 [(0, .ref a0), (1, .int (i3 x1)), (2, .int (i3 x2)), (3, .ref a3), (4, .ref a4), (5, .ref a5), (6, .ref a6), (7, .int (i3 x7)), (8, .int (i3 x8)), (9, .int (i3 (x9 + 1))), (10, .int (i3 x10)), (11, .int (i3 x11)), (12, .int (i3 x12)), (13, .int (i3 x13)), (14, .int (i3 x14)), (15, .int (i3 x15)), (16, .int (i3 x16))] [] n h) ∧ (¬ t0 = (x9 + 1) → K (.inl (some (.int (i3 0)))) n h)) :
    Ok X bb sb9 279 [(0, .ref a0), (1, .int (i3 x1)), (2, .int (i3 x2)), (3, .ref a3), (4, .ref a4), (5, .ref a5), (6, .ref a6), (7, .int (i3 x7)), (8, .int (i3 x8)), (9, .int (i3 x9)), (10, .int (i3 x10)), (11, .int (i3 x11)), (12, .int (i3 x12)), (13, .int (i3 x13)), (14, .int (i3 x14)), (15, .int (i3 x15)), (16, .int (i3 x16))] [.int (i3 t0)] n h := by
  refine zk_iinc (pc := 279) hc (q := 9) (x := x9) (lv' := [(9, .int (i3 (x9 + 1))), (0, .ref a0), (1, .int (i3 x1)), (2, .int (i3 x2)), (3, .ref a3), (4, .ref a4), (5, .ref a5), (6, .ref a6), (7, .int (i3 x7)), (8, .int (i3 x8)), (10, .int (i3 x10)), (11, .int (i3 x11)), (12, .int (i3 x12)), (13, .int (i3 x13)), (14, .int (i3 x14)), (15, .int (i3 x15)), (16, .int (i3 x16))]) dL_load_279 rfl (by decide) rfl ?_
  refine ok_iload (pc := 282) hc dL_load_282 0 rfl ?_
  obtain ⟨r1, P⟩ := P
  obtain ⟨r2, P⟩ := P
  refine zk_icmp_eq (pc := 284) (tgt := 289) hc dL_load_284 (by decide) r1 r2 (fun c => ?_) (fun c => ?_)
  · have P := P.1 c
    refine ok_lv [1, 2, 3, 4, 5, 6, 7, 8, 9, 0, 10, 11, 12, 13, 14, 15, 16] rfl ?_
    exact P
  · have P := P.2 c
    refine ok_iconst (pc := 287) hc (v := i3 0) dL_load_287 (by decide) ?_
    exact ok_zret (st := []) (pc := 288) hc (nar_z (by decide)) hr dL_load_288 P

set_option maxHeartbeats 4000000 in
set_option maxRecDepth 100000 in
theorem sL_load_289 {X : Xt} {n : Nat} {h : HP} {a0 : Nat} {x1 : Int} {x2 : Int} {a3 : Nat} {a4 : Nat} {a5 : Nat} {a6 : Nat} {x7 : Int} {x8 : Int} {x9 : Int} {x10 : Int} {x11 : Int} {x12 : Int} {x13 : Int} {x14 : Int} {x15 : Int} {x16 : Int} {bb : Nat} {sb9 : Nat} {f1 : Nat → Int} (hc : Cx X cL_load RL 17 8 158) {K : KT} (hr : CxR X (some .boolean) K) (e1 : At h n a3 (ai 4 f1))
    (P : (Ix 0 4) ∧ spec_L_type [.ref a0, .int (i3 ((f1 (0 : Int).toNat) - 1)), .ref a4, .int (i3 x9)] n h (kc X bb sb9 299 [(0, .ref a0), (1, .int (i3 x1)), (2, .int (i3 x2)), (3, .ref a3), (4, .ref a4), (5, .ref a5), (6, .ref a6), (7, .int (i3 x7)), (8, .int (i3 x8)), (9, .int (i3 x9)), (10, .int (i3 x10)), (11, .int (i3 x11)), (12, .int (i3 x12)), (13, .int (i3 x13)), (14, .int (i3 x14)), (15, .int (i3 x15)), (16, .int (i3 x16))] [] n)) :
    Ok X (bb + 6) (sb9 + 36) 289 [(0, .ref a0), (1, .int (i3 x1)), (2, .int (i3 x2)), (3, .ref a3), (4, .ref a4), (5, .ref a5), (6, .ref a6), (7, .int (i3 x7)), (8, .int (i3 x8)), (9, .int (i3 x9)), (10, .int (i3 x10)), (11, .int (i3 x11)), (12, .int (i3 x12)), (13, .int (i3 x13)), (14, .int (i3 x14)), (15, .int (i3 x15)), (16, .int (i3 x16))] [] n h := by
  refine ok_aload_n (pc := 289) hc dL_load_289 rfl 0 rfl ?_
  refine ok_aload_n (pc := 290) hc dL_load_290 rfl 3 rfl ?_
  refine ok_iconst (pc := 291) hc (v := i3 0) dL_load_291 (by decide) ?_
  obtain ⟨r, P⟩ := P
  refine zk_iald (pc := 292) hc dL_load_292 e1.1 e1.2 r ?_
  refine ok_iconst (pc := 293) hc (v := i3 1) dL_load_293 (by decide) ?_
  refine zk_isub (pc := 294) hc dL_load_294 ?_
  refine ok_aload (pc := 295) hc dL_load_295 4 rfl ?_
  refine ok_iload (pc := 297) hc dL_load_297 9 rfl ?_
  exact ok_callS (pc := 299) (cb := bb) (sb := sb9) (st := []) hc [.ref a0, .int (i3 ((f1 (0 : Int).toNat) - 1)), .ref a4, .int (i3 x9)] cs_L_130 sp_L_type (by decide) dL_load_299 rfl rfl rfl rfl (Nat.le_of_ble_eq_true rfl) P

set_option maxHeartbeats 4000000 in
set_option maxRecDepth 100000 in
theorem sL_load_302 {X : Xt} {n : Nat} {h : HP} {a0 : Nat} {x1 : Int} {x2 : Int} {a3 : Nat} {a4 : Nat} {a5 : Nat} {a6 : Nat} {x7 : Int} {x8 : Int} {x9 : Int} {x10 : Int} {x11 : Int} {x12 : Int} {x13 : Int} {x14 : Int} {x15 : Int} {x16 : Int} {t0 : Int} {bb : Nat} {sb9 : Nat} (hc : Cx X cL_load RL 17 8 158) {K : KT} (hr : CxR X (some .boolean) K) 
    (P : (R3 t0) ∧ (0 ≤ t0 → Ok X bb sb9 25 [(0, .ref a0), (1, .int (i3 x1)), (2, .int (i3 x2)), (3, .ref a3), (4, .ref a4), (5, .ref a5), (6, .ref a6), (7, .int (i3 x7)), (8, .int (i3 x8)), (9, .int (i3 t0)), (10, .int (i3 (x10 + 1)))] [] n h) ∧ (¬ 0 ≤ t0 → K (.inl (some (.int (i3 0)))) n h)) :
    Ok X bb sb9 302 [(0, .ref a0), (1, .int (i3 x1)), (2, .int (i3 x2)), (3, .ref a3), (4, .ref a4), (5, .ref a5), (6, .ref a6), (7, .int (i3 x7)), (8, .int (i3 x8)), (9, .int (i3 x9)), (10, .int (i3 x10)), (11, .int (i3 x11)), (12, .int (i3 x12)), (13, .int (i3 x13)), (14, .int (i3 x14)), (15, .int (i3 x15)), (16, .int (i3 x16))] [.int (i3 t0)] n h := by
  refine ok_istore (pc := 302) hc (lv' := [(9, .int (i3 t0)), (0, .ref a0), (1, .int (i3 x1)), (2, .int (i3 x2)), (3, .ref a3), (4, .ref a4), (5, .ref a5), (6, .ref a6), (7, .int (i3 x7)), (8, .int (i3 x8)), (10, .int (i3 x10)), (11, .int (i3 x11)), (12, .int (i3 x12)), (13, .int (i3 x13)), (14, .int (i3 x14)), (15, .int (i3 x15)), (16, .int (i3 x16))]) dL_load_302 (by decide) rfl ?_
  refine ok_iload (pc := 304) hc dL_load_304 0 rfl ?_
  obtain ⟨r1, P⟩ := P
  refine zk_if_ge (pc := 306) (tgt := 311) hc dL_load_306 (by decide) r1 (fun c => ?_) (fun c => ?_)
  · have P := P.1 c
    refine zk_iinc (pc := 311) hc (q := 10) (x := x10) (lv' := [(10, .int (i3 (x10 + 1))), (9, .int (i3 t0)), (0, .ref a0), (1, .int (i3 x1)), (2, .int (i3 x2)), (3, .ref a3), (4, .ref a4), (5, .ref a5), (6, .ref a6), (7, .int (i3 x7)), (8, .int (i3 x8)), (11, .int (i3 x11)), (12, .int (i3 x12)), (13, .int (i3 x13)), (14, .int (i3 x14)), (15, .int (i3 x15)), (16, .int (i3 x16))]) dL_load_311 rfl (by decide) rfl ?_
    refine ok_goto (pc := 314) (tgt := 25) hc dL_load_314 (by decide) ?_
    refine ok_lv [2, 3, 4, 5, 6, 7, 8, 9, 10, 1, 0] rfl ?_
    exact P
  · have P := P.2 c
    refine ok_iconst (pc := 309) hc (v := i3 0) dL_load_309 (by decide) ?_
    exact ok_zret (st := []) (pc := 310) hc (nar_z (by decide)) hr dL_load_310 P

set_option maxHeartbeats 4000000 in
set_option maxRecDepth 100000 in
theorem sL_load_317 {X : Xt} {n : Nat} {h : HP} {a0 : Nat} {x1 : Int} {x2 : Int} {a3 : Nat} {a4 : Nat} {a5 : Nat} {a6 : Nat} {x7 : Int} {x8 : Int} {x9 : Int} {x10 : Int} {bb : Nat} {sb9 : Nat} {f1 : Nat → Int} (hc : Cx X cL_load RL 17 8 158) {K : KT} (hr : CxR X (some .boolean) K) (e1 : At h n a3 (ai 4 f1))
    (P : (Ix 0 4) ∧ (R3 (f1 (0 : Int).toNat)) ∧ (R3 x7) ∧ (¬ (f1 (0 : Int).toNat) = x7 → spec_L_settle [.ref a3, .ref a4, .ref a5, .ref a6] n h (kc X bb sb9 334 [(0, .ref a0), (1, .int (i3 x1)), (2, .int (i3 x2)), (3, .ref a3), (4, .ref a4), (5, .ref a5), (6, .ref a6), (7, .int (i3 x7)), (8, .int (i3 x8)), (9, .int (i3 x9)), (10, .int (i3 x10))] [] n)) ∧ ((f1 (0 : Int).toNat) = x7 → K (.inl (some (.int (i3 1)))) n h)) :
    Ok X bb sb9 317 [(0, .ref a0), (1, .int (i3 x1)), (2, .int (i3 x2)), (3, .ref a3), (4, .ref a4), (5, .ref a5), (6, .ref a6), (7, .int (i3 x7)), (8, .int (i3 x8)), (9, .int (i3 x9)), (10, .int (i3 x10))] [] n h := by
  refine ok_aload_n (pc := 317) hc dL_load_317 rfl 3 rfl ?_
  refine ok_iconst (pc := 318) hc (v := i3 0) dL_load_318 (by decide) ?_
  obtain ⟨r, P⟩ := P
  refine zk_iald (pc := 319) hc dL_load_319 e1.1 e1.2 r ?_
  refine ok_iload (pc := 320) hc dL_load_320 7 rfl ?_
  obtain ⟨r2, P⟩ := P
  obtain ⟨r3, P⟩ := P
  refine zk_icmp_ne (pc := 322) (tgt := 327) hc dL_load_322 (by decide) r2 r3 (fun c => ?_) (fun c => ?_)
  · have P := P.1 c
    refine ok_aload_n (pc := 327) hc dL_load_327 rfl 3 rfl ?_
    refine ok_aload (pc := 328) hc dL_load_328 4 rfl ?_
    refine ok_aload (pc := 330) hc dL_load_330 5 rfl ?_
    refine ok_aload (pc := 332) hc dL_load_332 6 rfl ?_
    exact ok_callS (pc := 334) (cb := bb) (sb := sb9) (st := []) hc [.ref a3, .ref a4, .ref a5, .ref a6] cs_L_105 sp_L_settle (by decide) dL_load_334 rfl rfl rfl rfl (Nat.le_of_ble_eq_true rfl) P
  · have P := P.2 c
    refine ok_iconst (pc := 325) hc (v := i3 1) dL_load_325 (by decide) ?_
    exact ok_zret (st := []) (pc := 326) hc (nar_z (by decide)) hr dL_load_326 P

set_option maxHeartbeats 4000000 in
set_option maxRecDepth 100000 in
theorem sL_load_337 {X : Xt} {n : Nat} {h : HP} {a0 : Nat} {x1 : Int} {x2 : Int} {a3 : Nat} {a4 : Nat} {a5 : Nat} {a6 : Nat} {x7 : Int} {x8 : Int} {x9 : Int} {x10 : Int} {t0 : Int} {bb : Nat} {sb9 : Nat} {fs1 : List Value} (hc : Cx X cL_load RL 17 8 158) {K : KT} (hr : CxR X (some .boolean) K) (e1 : At h n a0 (.inl (6, fs1))) (z1 : fs1.length = 6)
    (P : spec_X6_load [.ref a0] n h (kc X bb sb9 339 [(0, .ref a0), (1, .int (i3 x1)), (2, .int (i3 x2)), (3, .ref a3), (4, .ref a4), (5, .ref a5), (6, .ref a6), (7, .int (i3 x7)), (8, .int (i3 x8)), (9, .int (i3 x9)), (10, .int (i3 x10))] [] n)) :
    Ok X (bb + 1) (sb9 + 6) 337 [(0, .ref a0), (1, .int (i3 x1)), (2, .int (i3 x2)), (3, .ref a3), (4, .ref a4), (5, .ref a5), (6, .ref a6), (7, .int (i3 x7)), (8, .int (i3 x8)), (9, .int (i3 x9)), (10, .int (i3 x10))] [.int (i3 t0)] n h := by
  refine ok_pop (pc := 337) hc dL_load_337 rfl ?_
  refine ok_aload_n (pc := 338) hc dL_load_338 rfl 0 rfl ?_
  exact ok_callV (pc := 339) (a := a0) (cb := bb) (sb := sb9) (st := []) hc [] cv_L_134 sp_X6_load (by decide) dL_load_339 rfl e1.1 e1.2 rfl rfl rfl (Nat.le_of_ble_eq_true rfl) P

set_option maxHeartbeats 4000000 in
set_option maxRecDepth 100000 in
theorem sL_load_342 {X : Xt} {n : Nat} {h : HP} {a0 : Nat} {x1 : Int} {x2 : Int} {a3 : Nat} {a4 : Nat} {a5 : Nat} {a6 : Nat} {x7 : Int} {x8 : Int} {x9 : Int} {x10 : Int} {t0 : Int} {bb : Nat} {sb9 : Nat} {f1 : Nat → Int} (hc : Cx X cL_load RL 17 8 158) {K : KT} (hr : CxR X (some .boolean) K) (e1 : At h n a3 (ai 4 f1))
    (P : (Ix 0 4) ∧ (R3 t0) ∧ (R3 (f1 (0 : Int).toNat)) ∧ (¬ t0 = (f1 (0 : Int).toNat) → K (.inl (some (.int (i3 0)))) n h) ∧ (t0 = (f1 (0 : Int).toNat) → Ok X bb sb9 348 [(0, .ref a0), (1, .int (i3 x1)), (2, .int (i3 x2)), (3, .ref a3), (4, .ref a4), (5, .ref a5), (6, .ref a6), (7, .int (i3 x7)), (8, .int (i3 x8)), (9, .int (i3 x9)), (10, .int (i3 x10))] [] n h)) :
    Ok X bb sb9 342 [(0, .ref a0), (1, .int (i3 x1)), (2, .int (i3 x2)), (3, .ref a3), (4, .ref a4), (5, .ref a5), (6, .ref a6), (7, .int (i3 x7)), (8, .int (i3 x8)), (9, .int (i3 x9)), (10, .int (i3 x10))] [.int (i3 t0)] n h := by
  refine ok_aload_n (pc := 342) hc dL_load_342 rfl 3 rfl ?_
  refine ok_iconst (pc := 343) hc (v := i3 0) dL_load_343 (by decide) ?_
  obtain ⟨r, P⟩ := P
  refine zk_iald (pc := 344) hc dL_load_344 e1.1 e1.2 r ?_
  obtain ⟨r2, P⟩ := P
  obtain ⟨r3, P⟩ := P
  refine zk_icmp_ne (pc := 345) (tgt := 359) hc dL_load_345 (by decide) r2 r3 (fun c => ?_) (fun c => ?_)
  · have P := P.1 c
    refine ok_iconst (pc := 359) hc (v := i3 0) dL_load_359 (by decide) ?_
    exact ok_zret (st := []) (pc := 360) hc (nar_z (by decide)) hr dL_load_360 P
  · have P := P.2 c
    exact P

set_option maxHeartbeats 4000000 in
set_option maxRecDepth 100000 in
theorem sL_load_348 {X : Xt} {n : Nat} {h : HP} {a0 : Nat} {x1 : Int} {x2 : Int} {a3 : Nat} {a4 : Nat} {a5 : Nat} {a6 : Nat} {x7 : Int} {x8 : Int} {x9 : Int} {x10 : Int} {bb : Nat} {sb9 : Nat} {fs1 : List Value} (hc : Cx X cL_load RL 17 8 158) {K : KT} (hr : CxR X (some .boolean) K) (e1 : At h n a0 (.inl (6, fs1))) (z1 : fs1.length = 6)
    (P : spec_X6_clearInput [.ref a0] n h (kc X bb sb9 349 [(0, .ref a0), (1, .int (i3 x1)), (2, .int (i3 x2)), (3, .ref a3), (4, .ref a4), (5, .ref a5), (6, .ref a6), (7, .int (i3 x7)), (8, .int (i3 x8)), (9, .int (i3 x9)), (10, .int (i3 x10))] [] n)) :
    Ok X bb sb9 348 [(0, .ref a0), (1, .int (i3 x1)), (2, .int (i3 x2)), (3, .ref a3), (4, .ref a4), (5, .ref a5), (6, .ref a6), (7, .int (i3 x7)), (8, .int (i3 x8)), (9, .int (i3 x9)), (10, .int (i3 x10))] [] n h := by
  refine ok_aload_n (pc := 348) hc dL_load_348 rfl 0 rfl ?_
  exact ok_callV (pc := 349) (a := a0) (cb := bb) (sb := sb9) (st := []) hc [] cv_L_123 sp_X6_clearInput (by decide) dL_load_349 rfl e1.1 e1.2 rfl rfl rfl (Nat.le_of_ble_eq_true rfl) P

set_option maxHeartbeats 4000000 in
set_option maxRecDepth 100000 in
theorem sL_load_352 {X : Xt} {n : Nat} {h : HP} {a0 : Nat} {x1 : Int} {x2 : Int} {a3 : Nat} {a4 : Nat} {a5 : Nat} {a6 : Nat} {x7 : Int} {x8 : Int} {x9 : Int} {x10 : Int} {t0 : Int} {bb : Nat} {sb9 : Nat} (hc : Cx X cL_load RL 17 8 158) {K : KT} (hr : CxR X (some .boolean) K) 
    (P : (R3 t0) ∧ (¬ t0 = 0 → K (.inl (some (.int (i3 0)))) n h) ∧ (t0 = 0 → K (.inl (some (.int (i3 1)))) n h)) :
    Ok X bb sb9 352 [(0, .ref a0), (1, .int (i3 x1)), (2, .int (i3 x2)), (3, .ref a3), (4, .ref a4), (5, .ref a5), (6, .ref a6), (7, .int (i3 x7)), (8, .int (i3 x8)), (9, .int (i3 x9)), (10, .int (i3 x10))] [.int (i3 t0)] n h := by
  obtain ⟨r1, P⟩ := P
  refine zk_if_ne (pc := 352) (tgt := 359) hc dL_load_352 (by decide) r1 (fun c => ?_) (fun c => ?_)
  · have P := P.1 c
    refine ok_iconst (pc := 359) hc (v := i3 0) dL_load_359 (by decide) ?_
    exact ok_zret (st := []) (pc := 360) hc (nar_z (by decide)) hr dL_load_360 P
  · have P := P.2 c
    refine ok_iconst (pc := 355) hc (v := i3 1) dL_load_355 (by decide) ?_
    refine ok_goto (pc := 356) (tgt := 360) hc dL_load_356 (by decide) ?_
    exact ok_zret (st := []) (pc := 360) hc (nar_z (by decide)) hr dL_load_360 P

/-- a part as the law chooses it -/
def ldP (k a b v : Int) : Part := if k = 0 then (0, a, b, v) else if k = 1 then (1, a, -1, v) else (2, a, b, v)
/-- what the law's load has typed: the parts ps behind the desk's own -/
def LdI (q : Dsk) (B : List Int) (ps : List Part) (Fd F : Nat → Int) (i : Nat) : Prop := DFS Fd (q.1.1 ++ ps, q.1.2) ∧ PaF F (q.1.1 ++ ps) ∧ GdP (q.1.1 ++ ps) ∧ TxI B ps ∧ B.length ≤ 7 * i ∧ ps.length ≤ i
set_option maxHeartbeats 8000000 in
/-- one part: from its kind and nodes on -/
theorem ld_put {X : Xt} {n d a e f i : Nat} {h hh : HP} {q : Dsk} {Fd F : Nat → Int} {B : List Int} {ps : List Part} {x1 x2 x7 x8 x11 x12 k y z c : Int} {bb sb9 : Nat} (hc : Cx X cL_load RL 17 8 158) {K : KT} (hr : CxR X (some .boolean) K) (D : D4 d a e f) (hw : V4 h n d a e f (qB q B) Fd F hh) (hI : LdI q B ps Fd F i) (hi : i ≤ 2) (h12 : (q.1.1 ++ ps).length < 12) (hk : k = 0 ∨ k = 1 ∨ k = 2) (hy : 0 ≤ y ∧ y ≤ 6) (hz : 0 ≤ z ∧ z ≤ 6) (hyz : y ≠ z) (hcr : 0 ≤ c ∧ c ≤ 6) (k1 : k = 1 → y ≠ 0 ∧ ∀ r ∈ q.1.1 ++ ps, dvB r y = false) (k2 : k = 2 → (c ≠ 0 ∧ c ≠ y ∧ c ≠ z) ∧ nA (q.1.1 ++ ps) < 3 ∧ ∀ r ∈ q.1.1 ++ ps, dvB r c = false)
    (kk : ∀ h' Fd' F' B' ps', V4 h n d a e f (qB q B') Fd' F' h' → LdI q B' ps' Fd' F' (i + 1) → Ok X bb sb9 25 [(0, .ref 0), (1, .int (i3 x1)), (2, .int (i3 x2)), (3, .ref d), (4, .ref a), (5, .ref e), (6, .ref f), (7, .int (i3 x7)), (8, .int (i3 x8)), (9, .int (i3 (B'.length : Nat))), (10, .int (i3 ((i : Int) + 1)))] [] n h') :
    Ok X (bb + 7) (sb9 + 42) 213 [(0, .ref 0), (1, .int (i3 x1)), (2, .int (i3 x2)), (3, .ref d), (4, .ref a), (5, .ref e), (6, .ref f), (7, .int (i3 x7)), (8, .int (i3 x8)), (9, .int (i3 (B.length : Nat))), (10, .int (i3 (i : Int))), (11, .int (i3 x11)), (12, .int (i3 x12)), (13, .int (i3 k)), (14, .int (i3 y)), (15, .int (i3 z)), (16, .int (i3 c))] [] n hh := by
  obtain ⟨hD, hP, hG, hT, hB, hpl⟩ := hI
  have rk : R3 k := R3_s (by omega)
  -- the part p is put and typed
  have go : ∀ (v : Int) (p : Part), PW p → toldB p = true → (k = p.1 ∧ y = p.2.1 ∧ (p.1 ≠ 1 → z = p.2.2.1) ∧ v = p.2.2.2) → (p.1 = 2 → nA (q.1.1 ++ ps) < 3) → (p.1 ≠ 0 → ∀ r ∈ q.1.1 ++ ps, dvB r (drv p) = false) → spec_L_put [.int (i3 k), .int (i3 y), .int (i3 z), .int (i3 v), .ref d, .ref a] n hh (kc X (bb + 7) (sb9 + 42) 265 [(0, .ref 0), (1, .int (i3 x1)), (2, .int (i3 x2)), (3, .ref d), (4, .ref a), (5, .ref e), (6, .ref f), (7, .int (i3 x7)), (8, .int (i3 x8)), (9, .int (i3 (B.length : Nat))), (10, .int (i3 (i : Int))), (11, .int (i3 x11)), (12, .int (i3 x12)), (13, .int (i3 k)), (14, .int (i3 y)), (15, .int (i3 z)), (16, .int (i3 c))] [] n) := fun v p hp ht ⟨e0, e1, e2, e3⟩ hn hd => by
    have hG2 := hG.snoc h12 hp ht hn hd
    refine put_ok hw D hD.1 hP h12 hp ⟨e0, e1, e2, R3_s (by omega), e3⟩ (fun h1 F1 hw1 hP1 => ⟨rfl, ?_⟩)
    have hD1 : DFS (va_up Fd 0 (((q.1.1 ++ ps).length : Int) + 1)) (q.1.1 ++ (ps ++ [p]), q.1.2) := by
      refine ⟨?_, (up_ne (by decide)).trans hD.2.1, (up_ne (by decide)).trans hD.2.2.1, (up_ne (by decide)).trans hD.2.2.2⟩
      rw [up_self]
      show ((q.1.1 ++ ps).length : Int) + 1 = ((q.1.1 ++ (ps ++ [p])).length : Nat)
      rw [← List.append_assoc, List.length_append (as := q.1.1 ++ ps)]
      rfl
    rw [List.append_assoc] at hP1 hG2
    have hpe : (q.1.1 ++ (ps ++ [p]))[(q.1.1 ++ ps).length]? = some p := by
      rw [← List.append_assoc, List.getElem?_append_right (Nat.le_refl _), Nat.sub_self]
      rfl
    have d0 : va_up Fd 0 (((q.1.1 ++ ps).length : Int) + 1) (0 : Int).toNat = ((q.1.1 ++ ps).length : Int) + 1 := up_self
    generalize va_up Fd 0 (((q.1.1 ++ ps).length : Int) + 1) = Fd1 at hw1 hD1 d0
    have typ : ∀ (A : List Int) (h2 : HP), V4 h n d a e f (qB q A) Fd1 F1 h2 → RdS A ps → A.length ≤ 7 * i + 1 → Ok X (bb + 6) (sb9 + 36) 289 [(0, .ref 0), (1, .int (i3 x1)), (2, .int (i3 x2)), (3, .ref d), (4, .ref a), (5, .ref e), (6, .ref f), (7, .int (i3 x7)), (8, .int (i3 x8)), (9, .int (i3 (A.length : Nat))), (10, .int (i3 (i : Int))), (11, .int (i3 x11)), (12, .int (i3 x12)), (13, .int (i3 k)), (14, .int (i3 y)), (15, .int (i3 z)), (16, .int (i3 c))] [] n h2 := fun A h2 hw2 hS hA => by
      refine sL_load_289 (bb := bb) (sb9 := sb9) hc hr hw2.2.1 ?_
      rw [d0, show ((q.1.1 ++ ps).length : Int) + 1 - 1 = ((q.1.1 ++ ps).length : Nat) by omega]
      refine ⟨⟨by decide, by decide, by decide⟩, type_ok hw2 D hP1 hpe hS (by omega) (fun h3 hw3 => ⟨rfl, ?_⟩)⟩
      have hlen : (A ++ tx p).length ≤ 7 * (i + 1) := by
        rw [List.length_append]
        have := tx_len (p := p)
        omega
      refine sL_load_302 (t0 := ((A ++ tx p).length : Nat)) hc hr ⟨R3_s (by omega), fun _ => ?_, fun w => absurd (by omega) w⟩
      exact kk h3 Fd1 F1 (A ++ tx p) (ps ++ [p]) hw3 ⟨hD1, hP1, hG2, hS.ti hp, hlen, by rw [List.length_append]; show ps.length + 1 ≤ i + 1; omega⟩
    by_cases z0 : ps = []
    · subst z0
      have eB := hT.s0
      subst eB
      refine sL_load_268 hc hr ⟨R3_s (by decide), fun _ => ?_, fun w => absurd (by decide) w⟩
      exact (typ [] h1 hw1 RdS.nil (by omega)).up (by omega) (by omega)
    · have hE := hT.s1 z0
      have hpos := hE.pos
      refine sL_load_268 hc hr ⟨R3_s (by omega), fun w => absurd w (by omega), fun _ => ?_⟩
      refine sL_load_273 (bb := bb + 6) (sb9 := sb9 + 36) hc hr hw1.1.1 rfl (app_ok4 hw1 D (by decide) (by omega) (fun h2 hw2 => ⟨rfl, ?_⟩))
      have l1 : ((B ++ [59]).length : Nat) = B.length + 1 := by rw [List.length_append]; rfl
      have g := typ (B ++ [59]) h2 hw2 hE.s (by omega)
      have e1 : (((B ++ [59]).length : Nat) : Int) = (B.length : Int) + 1 := by rw [l1]; rfl
      rw [e1] at g
      exact sL_load_279 hc hr ⟨R3_s (by omega), R3_s (by omega), fun _ => g, fun w => absurd rfl w⟩
  refine sL_load_213 hc hr ⟨rk, fun w0 => ⟨rk, fun w1 => ?_, fun w1 => ?_⟩, fun w0 => ?_⟩
  · obtain ⟨⟨c0, c1, c2⟩, c3, c4⟩ := k2 (by omega)
    have e2 : k = 2 := by omega
    subst e2
    refine go c (2, y, z, c) (Or.inr (Or.inr ⟨rfl, hy.1, hy.2, hz.1, hz.2, hcr.1, hcr.2⟩)) ?_ ⟨rfl, rfl, fun _ => rfl, rfl⟩ (fun _ => c3) (fun _ => c4)
    unfold toldB
    rw [if_neg (show ¬ (2 : Int) = 1 by decide), Bool.and_eq_true, Bool.or_eq_true, Bool.and_eq_true, Bool.and_eq_true]
    exact ⟨decide_eq_true hyz, Or.inr ⟨⟨decide_eq_true c0, decide_eq_true c1⟩, decide_eq_true c2⟩⟩
  · subst w1
    obtain ⟨c0, c4⟩ := k1 rfl
    refine ⟨_, 401, rfl, ⟨by decide, by decide⟩, fun w hw0 hw4 => ⟨rfl, sL_load_253 hc hr (sL_load_262 hc hr ?_)⟩⟩
    refine go (w - 200) (1, y, -1, w - 200) (Or.inr (Or.inl ⟨rfl, hy.1, hy.2, rfl, (show -200 ≤ w - 200 by omega), (show w - 200 ≤ 200 by omega)⟩)) ?_ ⟨rfl, rfl, fun u => absurd rfl u, rfl⟩ (fun u => absurd u (by show ¬ (1 : Int) = 2; decide)) (fun _ => c4)
    unfold toldB
    rw [if_pos (show (1 : Int) = 1 from rfl)]
    exact decide_eq_true c0
  · subst w0
    refine ⟨_, 4, rfl, ⟨by decide, by decide⟩, fun w hw0 hw4 => ⟨rfl, sL_load_233 hc hr (sL_load_262 hc hr ?_)⟩⟩
    refine go (1 + w) (0, y, z, 1 + w) (Or.inl ⟨rfl, hy.1, hy.2, hz.1, hz.2, (show 1 ≤ 1 + w by omega), (show 1 + w ≤ 4 by omega)⟩) ?_ ⟨rfl, rfl, fun _ => rfl, rfl⟩ (fun u => absurd u (by show ¬ (0 : Int) = 2; decide)) (fun u => absurd rfl u)
    unfold toldB
    rw [if_neg (show ¬ (0 : Int) = 1 by decide), Bool.and_eq_true, Bool.or_eq_true]
    exact ⟨decide_eq_true hyz, Or.inl (decide_eq_true rfl)⟩
theorem drvI_no {ps : List Part} {k : Int} (h : drvI ps k < 0) : ∀ r ∈ ps, dvB r k = false := by
  rcases drvI_r ps k with ⟨_, h2⟩ | ⟨j, p, h1, _⟩
  · exact h2
  · omega
theorem drvI_b {ps : List Part} {k : Int} (hl : ps.length ≤ 12) : R3 (drvI ps k) := by
  rcases drvI_r ps k with ⟨h1, _⟩ | ⟨j, p, h1, h2, _⟩
  · exact R3_s (by omega)
  · have := (List.getElem?_eq_some_iff.mp h2).1
    exact R3_s (by omega)
set_option maxHeartbeats 8000000 in
theorem ld_loop {X : Xt} {n d a e f : Nat} {h : HP} {q : Dsk} {x1 x2 x7 x8 : Int} {bb sb9 : Nat} (hc : Cx X cL_load RL 17 8 158) {K : KT} (hr : CxR X (some .boolean) K) (D : D4 d a e f) (h8 : x8 ≤ 3) (r8 : 1 ≤ x8)
    (kk : ∀ h' Fd' F' B' ps' x9 x10, V4 h n d a e f (qB q B') Fd' F' h' → LdI q B' ps' Fd' F' 3 → Ok X bb sb9 317 [(0, .ref 0), (1, .int (i3 x1)), (2, .int (i3 x2)), (3, .ref d), (4, .ref a), (5, .ref e), (6, .ref f), (7, .int (i3 x7)), (8, .int (i3 x8)), (9, .int (i3 x9)), (10, .int (i3 x10))] [] n h') :
    ∀ (j i : Nat), i + j = 3 → ∀ hh Fd F B ps, V4 h n d a e f (qB q B) Fd F hh → LdI q B ps Fd F i → Ok X (bb + 7 * j) (sb9 + 42 * j) 25 [(0, .ref 0), (1, .int (i3 x1)), (2, .int (i3 x2)), (3, .ref d), (4, .ref a), (5, .ref e), (6, .ref f), (7, .int (i3 x7)), (8, .int (i3 x8)), (9, .int (i3 (B.length : Nat))), (10, .int (i3 (i : Int)))] [] n hh := by
  intro j
  induction j with
  | zero =>
    intro i hi hh Fd F B ps hw hI
    obtain rfl : i = 3 := by omega
    exact sL_load_25 hc hr hw.2.1 ⟨R3_s (by omega), R3_s (by omega), fun _ => kk hh Fd F B ps _ _ hw hI, fun z => absurd (by omega) z⟩
  | succ j ih =>
    intro i hi hh Fd F B ps hw hI
    have hI9 : LdI q B ps Fd F 3 := ⟨hI.1, hI.2.1, hI.2.2.1, hI.2.2.2.1, by have := hI.2.2.2.2.1; omega, by have := hI.2.2.2.2.2; omega⟩
    have stop := fun x9 x10 => (kk hh Fd F B ps x9 x10 hw hI9).up (cb' := bb + 7 * (j + 1)) (sb' := sb9 + 42 * (j + 1)) (by omega) (by omega)
    obtain ⟨hD, hP, hG, hT, hB, hpl⟩ := id hI
    have d0 : Fd (0 : Int).toNat = (q.1.1 ++ ps).length := hD.1
    have hl := hP.1
    have hn3 := hG.2.1
    refine sL_load_25 hc hr hw.2.1 ⟨R3_s (by omega), R3_s (by omega), fun _ => stop _ _, fun _ => ?_⟩
    rw [d0]
    refine ⟨⟨by decide, by decide, by decide⟩, R3_s (by omega), fun _ => stop _ _, fun w12 => ?_⟩
    have h12 : (q.1.1 ++ ps).length < 12 := by omega
    -- from the kind on
    have kind : ∀ (k x11 x12 : Int), k = 0 ∨ k = 1 ∨ k = 2 → Ok X (bb + 7 * (j + 1)) (sb9 + 42 * (j + 1)) 96 [(0, .ref 0), (1, .int (i3 x1)), (2, .int (i3 x2)), (3, .ref d), (4, .ref a), (5, .ref e), (6, .ref f), (7, .int (i3 x7)), (8, .int (i3 x8)), (9, .int (i3 (B.length : Nat))), (10, .int (i3 (i : Int))), (11, .int (i3 x11)), (12, .int (i3 x12))] [.int (i3 k)] n hh := fun k x11 x12 hk => by
      refine sL_load_96 hc hr ⟨_, 7, rfl, ⟨by decide, by decide⟩, fun y hy0 hy7 => ⟨rfl, ?_⟩⟩
      refine sL_load_107 hc hr ⟨_, 6, rfl, ⟨by decide, by decide⟩, fun b hb0 hb6 => ⟨rfl, ?_⟩⟩
      refine sL_load_120 hc hr ⟨⟨⟨by omega, by omega⟩, by decide, by decide⟩, _, 7, rfl, ⟨by decide, by decide⟩, fun c hc0 hc7 => ⟨rfl, ?_⟩⟩
      refine sL_load_135 hc hr ?_
      have ry : R3 y := R3_s (by omega)
      have rc : R3 c := R3_s (by omega)
      have hz : 0 ≤ (y + 1 + b) % 7 ∧ (y + 1 + b) % 7 ≤ 6 := by omega
      have hyz : y ≠ (y + 1 + b) % 7 := by omega
      generalize (y + 1 + b) % 7 = z at hz hyz
      have rz : R3 z := R3_s (by omega)
      have put := fun (k : Int) hk k1 k2 => ld_put (x1 := x1) (x2 := x2) (x7 := x7) (x8 := x8) (x11 := x11) (x12 := x12) (k := k) (y := y) (z := z) (c := c) (bb := bb + 7 * j) (sb9 := sb9 + 42 * j) hc hr D hw hI (by omega) h12 hk ⟨hy0, by omega⟩ hz hyz ⟨hc0, by omega⟩ k1 k2 (fun h' Fd' F' B' ps' hw' hI' => ih (i + 1) (by omega) h' Fd' F' B' ps' hw' hI')
      have zero := put 0 (Or.inl rfl) (fun u => absurd u (by decide)) (fun u => absurd u (by decide))
      have amp : ∀ k : Int, k = 0 ∨ k = 1 ∨ k = 2 → (k = 1 → y ≠ 0 ∧ ∀ r ∈ q.1.1 ++ ps, dvB r y = false) → Ok X (bb + 7 * j + 7) (sb9 + 42 * j + 42) 162 [(0, .ref 0), (1, .int (i3 x1)), (2, .int (i3 x2)), (3, .ref d), (4, .ref a), (5, .ref e), (6, .ref f), (7, .int (i3 x7)), (8, .int (i3 x8)), (9, .int (i3 (B.length : Nat))), (10, .int (i3 (i : Int))), (11, .int (i3 x11)), (12, .int (i3 x12)), (13, .int (i3 k)), (14, .int (i3 y)), (15, .int (i3 z)), (16, .int (i3 c))] [] n hh := fun k hk k1 => by
        have rk : R3 k := R3_s (by omega)
        refine sL_load_162 hc hr hw.2.2.1 hP hw.2.1 hD.1 ?_
        rw [d0, show (((q.1.1 ++ ps).length : Nat) : Int).toNat = (q.1.1 ++ ps).length from Int.toNat_natCast _, List.take_length]
        refine ⟨rk, fun u => put k hk k1 (fun v => absurd v u), fun u => ⟨rc, fun _ => zero, fun u0 => ⟨rc, ry, fun _ => zero, fun u1 => ⟨rc, rz, fun _ => zero, fun u2 => ⟨rc, drvI_b hl, fun _ => zero, fun u3 => ⟨⟨by decide, by decide, by decide⟩, ⟨by omega, by omega⟩, R3_s (by omega), fun u4 => put k hk k1 (fun _ => ⟨⟨u0, u1, u2⟩, by omega, drvI_no (by omega)⟩), fun _ => zero⟩⟩⟩⟩⟩⟩
      refine sL_load_137 hc hr hw.2.2.1 hP hw.2.1 hD.1 ⟨R3_s (by omega), fun u => amp k hk (fun v => absurd v u), fun u => ⟨ry, fun _ => amp 0 (Or.inl rfl) (fun v => absurd v (by decide)), fun u0 => ⟨ry, drvI_b hl, fun u1 => amp k hk (fun _ => ⟨u0, drvI_no u1⟩), fun _ => amp 0 (Or.inl rfl) (fun v => absurd v (by decide))⟩⟩⟩
    refine sL_load_40 hc hr ⟨_, 7, rfl, ⟨by decide, by decide⟩, fun t ht0 ht7 => ⟨rfl, ?_⟩⟩
    refine sL_load_71 hc hr ⟨R3_s (by omega), fun _ => sL_load_79 hc hr ⟨_, 7, rfl, ⟨by decide, by decide⟩, fun u hu0 hu7 => ⟨rfl, sL_load_86 hc hr ⟨R3_s (by omega), fun _ => kind 2 _ _ (Or.inr (Or.inr rfl)), fun _ => kind 1 _ _ (Or.inr (Or.inl rfl))⟩⟩⟩, fun _ => sL_load_75 hc hr (kind 0 _ _ (Or.inl rfl))⟩
def spec_L_load (args : List Value) (n : Nat) (h : HP) (K : KT) : Prop := ∃ (q : Dsk) (x y : Int) (d a e f : Nat), args = [.ref 0, .int (i3 x), .int (i3 y), .ref d, .ref a, .ref e, .ref f] ∧ D4 d a e f ∧ W4 h n d a e f q h ∧ OkF q ∧ ∀ h' q', W4 h n d a e f q' h' → HR q q' → OkF q' → K (.inl (some (.int (i3 1)))) n h'
set_option maxHeartbeats 8000000 in
theorem sp_L_load : Sp yL_load cL_load 17 (some .boolean) 8 158 22 132 spec_L_load := by
  refine sp_intro (by decide) (by rintro args n h K ⟨q, x, y, d, a, e, f, rfl, -⟩; exact Nat.le_of_ble_eq_true rfl) ?_
  rintro X args n h K hc hr ⟨q, x, y, d, a, e, f, rfl, D, ⟨Fd, F, hw, hD, hP⟩, hO, kk⟩
  have hG := hw.1.gd.1
  have hl := hP.1
  have d0 : Fd (0 : Int).toNat = q.1.1.length := hD.1
  have hw : V4 h n d a e f (qB q q.2.2.2.2) Fd F h := hw
  refine sL_load_0 (bb := 22) (sb9 := 132) hc hr hw.2.1 ?_
  rw [d0]
  refine ⟨⟨by decide, by decide, by decide⟩, x, 3, rfl, ⟨by decide, by decide⟩, fun m hm0 hm3 => ⟨rfl, ?_⟩⟩
  refine sL_load_11 hc hr hw.1.1 rfl (clr_ok hw D (fun h1 hw1 => ⟨rfl, sL_load_21 hc hr ?_⟩))
  refine ld_loop (x1 := x) (x2 := y) (x7 := (q.1.1.length : Int)) (bb := 1) (sb9 := 6) hc hr D (by omega) (by omega) (fun h2 Fd2 F2 B ps x9 x10 hw2 hI => ?_) 3 0 rfl h1 Fd F [] [] hw1 ⟨by rw [List.append_nil]; exact hD, by rw [List.append_nil]; exact hP, by rw [List.append_nil]; exact hG.1, Or.inl ⟨rfl, rfl⟩, Nat.zero_le _, Nat.zero_le _⟩
  obtain ⟨hD2, hP2, hG2, hT2, hB2, hpl2⟩ := hI
  have e0 : Fd2 (0 : Int).toNat = (q.1.1 ++ ps).length := hD2.1
  have hla : (q.1.1 ++ ps).length = q.1.1.length + ps.length := List.length_append
  have hl2 := hP2.1
  refine sL_load_317 hc hr hw2.2.1 ?_
  rw [e0]
  refine ⟨⟨by decide, by decide, by decide⟩, R3_s (by omega), R3_s (by omega), fun w => ?_, fun w => ?_⟩
  · have hne : ps ≠ [] := fun z => by
      subst z
      rw [List.append_nil] at w
      exact w rfl
    have hGS := hG.app hG2
    refine st_ok hw2 D hD2 hP2 hGS (fun h3 Fd3 hw3 hD3 => ⟨rfl, ?_⟩)
    have lv := load_v (q := q) (hT2.s1 hne) hG2
    refine sL_load_337 (t0 := if (setS (q.1.1 ++ ps, q.1.2)).2.2.1 = q.1.2.2.1 then 0 else 1) (bb := 0) (sb9 := 0) hc hr hw3.1.1 rfl ⟨qB q B, rfl, hw3.1, ?_⟩
    rw [lv]
    intro h4 hq4 f4
    have hw4 := hw3.fr D hq4 f4
    have e3 : Fd3 (0 : Int).toNat = (q.1.1.length : Int) + ps.length := by
      have : Fd3 0 = ((setS (q.1.1 ++ ps, q.1.2)).1.length : Nat) := hD3.1
      rw [setS_1] at this
      rw [show (0 : Int).toNat = 0 from rfl, this]
      show ((q.1.1 ++ ps).length : Int) = _
      omega
    refine ⟨rfl, sL_load_342 (t0 := (q.1.1.length : Int) + ps.length) hc hr hw4.2.1 ?_⟩
    rw [e3]
    refine ⟨⟨by decide, by decide, by decide⟩, R3_s (by omega), R3_s (by omega), fun w => absurd rfl w, fun _ => ?_⟩
    have hw4 : V4 h n d a e f (qB (setS (q.1.1 ++ ps, q.1.2), pushH q.2.1 q.1, q.2.2.1, q.2.2.2.1, []) []) Fd3 F2 h4 := hw4
    refine sL_load_348 hc hr hw4.1.1 rfl (clr_ok hw4 D (fun h5 hw5 => ⟨rfl, ?_⟩))
    refine sL_load_352 (t0 := ((([] : List Int).length : Nat) : Int)) hc hr ⟨R3_s (by decide), fun w => absurd rfl w, fun _ => ?_⟩
    refine kk h5 _ ⟨Fd3, F2, hw5, hD3, by rw [show (qB (setS (q.1.1 ++ ps, q.1.2), pushH q.2.1 q.1, q.2.2.1, q.2.2.2.1, []) []).1.1 = q.1.1 ++ ps from setS_1 _]; exact hP2⟩ (Or.inr rfl) ?_
    exact hO.push (T := (q.1.1 ++ ps, q.1.2)) hGS
  · have z : ps = [] := List.eq_nil_of_length_eq_zero (by omega)
    subst z
    rw [List.append_nil] at hD2 hP2
    exact kk h2 (qB q B) ⟨Fd2, F2, hw2, hD2, hP2⟩ (Or.inl rfl) hO
