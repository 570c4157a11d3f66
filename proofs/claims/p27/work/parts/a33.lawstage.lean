/-! part a33: the law's stage -/
set_option maxHeartbeats 4000000 in
set_option maxRecDepth 100000 in
theorem sL_stage_0 {X : Xt} {n : Nat} {h : HP} {a0 : Nat} {x1 : Int} {a2 : Nat} {a3 : Nat} {a4 : Nat} {a5 : Nat} {bb : Nat} {sb9 : Nat} {f1 : Nat → Int} (hc : Cx X cL_stage RL 9 8 158) {K : KT} (hr : CxR X (some .boolean) K) (e1 : At h n a2 (ai 4 f1))
    (P : (Ix 0 4) ∧ (R3 (f1 (0 : Int).toNat)) ∧ ((f1 (0 : Int).toNat) ≤ 0 → Ok X bb sb9 8 [(0, .ref a0), (1, .int (i3 x1)), (2, .ref a2), (3, .ref a3), (4, .ref a4), (5, .ref a5)] [] n h) ∧ (¬ (f1 (0 : Int).toNat) ≤ 0 → K (.inl (some (.int (i3 1)))) n h)) :
    Ok X bb sb9 0 [(0, .ref a0), (1, .int (i3 x1)), (2, .ref a2), (3, .ref a3), (4, .ref a4), (5, .ref a5)] [] n h := by
  refine ok_aload_n (pc := 0) hc dL_stage_0 rfl 2 rfl ?_
  refine ok_iconst (pc := 1) hc (v := i3 0) dL_stage_1 (by decide) ?_
  obtain ⟨r, P⟩ := P
  refine zk_iald (pc := 2) hc dL_stage_2 e1.1 e1.2 r ?_
  obtain ⟨r2, P⟩ := P
  refine zk_if_le (pc := 3) (tgt := 8) hc dL_stage_3 (by decide) r2 (fun c => ?_) (fun c => ?_)
  · have P := P.1 c
    exact P
  · have P := P.2 c
    refine ok_iconst (pc := 6) hc (v := i3 1) dL_stage_6 (by decide) ?_
    exact ok_zret (st := []) (pc := 7) hc (nar_z (by decide)) hr dL_stage_7 P

set_option maxHeartbeats 4000000 in
set_option maxRecDepth 100000 in
theorem sL_stage_8 {X : Xt} {n : Nat} {h : HP} {a0 : Nat} {x1 : Int} {a2 : Nat} {a3 : Nat} {a4 : Nat} {a5 : Nat} {bb : Nat} {sb9 : Nat} (hc : Cx X cL_stage RL 9 8 158) {K : KT} (hr : CxR X (some .boolean) K) 
    (P : spec_L_at [.int (i3 x1), .int (i3 3)] n h (kc X bb sb9 10 [(0, .ref a0), (1, .int (i3 x1)), (2, .ref a2), (3, .ref a3), (4, .ref a4), (5, .ref a5)] [] n)) :
    Ok X bb sb9 8 [(0, .ref a0), (1, .int (i3 x1)), (2, .ref a2), (3, .ref a3), (4, .ref a4), (5, .ref a5)] [] n h := by
  refine ok_iload_n (pc := 8) hc dL_stage_8 rfl 1 rfl ?_
  refine ok_iconst (pc := 9) hc (v := i3 3) dL_stage_9 (by decide) ?_
  exact ok_callS (pc := 10) (cb := bb) (sb := sb9) (st := []) hc [.int (i3 x1), .int (i3 3)] cs_L_71 sp_L_at (by decide) dL_stage_10 rfl rfl rfl rfl (Nat.le_of_ble_eq_true rfl) P

set_option maxHeartbeats 4000000 in
set_option maxRecDepth 100000 in
theorem sL_stage_13 {X : Xt} {n : Nat} {h : HP} {a0 : Nat} {x1 : Int} {a2 : Nat} {a3 : Nat} {a4 : Nat} {a5 : Nat} {t0 : Int} {bb : Nat} {sb9 : Nat} (hc : Cx X cL_stage RL 9 8 158) {K : KT} (hr : CxR X (some .boolean) K) 
    (P : (R3 t0) ∧ (¬ t0 = 0 → spec_L_at [.int (i3 (bshr x1 2)), .int (i3 401)] n h (kc X bb sb9 32 [(0, .ref a0), (1, .int (i3 x1)), (2, .ref a2), (3, .ref a3), (4, .ref a4), (5, .ref a5), (6, .int (i3 0))] [.int (i3 (-1)), .int (i3 1), .int (i3 1)] n)) ∧ (t0 = 0 → spec_L_at [.int (i3 (bshr x1 2)), .int (i3 401)] n h (kc X bb sb9 32 [(0, .ref a0), (1, .int (i3 x1)), (2, .ref a2), (3, .ref a3), (4, .ref a4), (5, .ref a5), (6, .int (i3 1))] [.int (i3 (-1)), .int (i3 1), .int (i3 1)] n))) :
    Ok X bb sb9 13 [(0, .ref a0), (1, .int (i3 x1)), (2, .ref a2), (3, .ref a3), (4, .ref a4), (5, .ref a5)] [.int (i3 t0)] n h := by
  obtain ⟨r1, P⟩ := P
  refine zk_if_ne (pc := 13) (tgt := 20) hc dL_stage_13 (by decide) r1 (fun c => ?_) (fun c => ?_)
  · have P := P.1 c
    refine ok_iconst (pc := 20) hc (v := i3 0) dL_stage_20 (by decide) ?_
    refine ok_istore (pc := 21) hc (lv' := [(6, .int (i3 0)), (0, .ref a0), (1, .int (i3 x1)), (2, .ref a2), (3, .ref a3), (4, .ref a4), (5, .ref a5)]) dL_stage_21 (by decide) rfl ?_
    refine ok_iconst (pc := 23) hc (v := i3 1) dL_stage_23 (by decide) ?_
    refine ok_iconst (pc := 24) hc (v := i3 1) dL_stage_24 (by decide) ?_
    refine ok_iconst (pc := 25) hc (v := i3 (-1)) dL_stage_25 (by decide) ?_
    refine ok_iload_n (pc := 26) hc dL_stage_26 rfl 2 rfl ?_
    refine ok_iconst (pc := 27) hc (v := i3 2) dL_stage_27 (by decide) ?_
    refine zk_ishr (pc := 28) hc dL_stage_28 ?_
    refine ok_sipush (pc := 29) hc (v := i3 401) dL_stage_29 (by decide) ?_
    refine ok_lv [1, 2, 3, 4, 5, 6, 0] rfl ?_
    exact ok_callS (pc := 32) (cb := bb) (sb := sb9) (st := [.int (i3 (-1)), .int (i3 1), .int (i3 1)]) hc [.int (i3 (bshr x1 2)), .int (i3 401)] cs_L_71 sp_L_at (by decide) dL_stage_32 rfl rfl rfl rfl (Nat.le_of_ble_eq_true rfl) P
  · have P := P.2 c
    refine ok_iconst (pc := 16) hc (v := i3 1) dL_stage_16 (by decide) ?_
    refine ok_goto (pc := 17) (tgt := 21) hc dL_stage_17 (by decide) ?_
    refine ok_istore (pc := 21) hc (lv' := [(6, .int (i3 1)), (0, .ref a0), (1, .int (i3 x1)), (2, .ref a2), (3, .ref a3), (4, .ref a4), (5, .ref a5)]) dL_stage_21 (by decide) rfl ?_
    refine ok_iconst (pc := 23) hc (v := i3 1) dL_stage_23 (by decide) ?_
    refine ok_iconst (pc := 24) hc (v := i3 1) dL_stage_24 (by decide) ?_
    refine ok_iconst (pc := 25) hc (v := i3 (-1)) dL_stage_25 (by decide) ?_
    refine ok_iload_n (pc := 26) hc dL_stage_26 rfl 2 rfl ?_
    refine ok_iconst (pc := 27) hc (v := i3 2) dL_stage_27 (by decide) ?_
    refine zk_ishr (pc := 28) hc dL_stage_28 ?_
    refine ok_sipush (pc := 29) hc (v := i3 401) dL_stage_29 (by decide) ?_
    refine ok_lv [1, 2, 3, 4, 5, 6, 0] rfl ?_
    exact ok_callS (pc := 32) (cb := bb) (sb := sb9) (st := [.int (i3 (-1)), .int (i3 1), .int (i3 1)]) hc [.int (i3 (bshr x1 2)), .int (i3 401)] cs_L_71 sp_L_at (by decide) dL_stage_32 rfl rfl rfl rfl (Nat.le_of_ble_eq_true rfl) P

set_option maxHeartbeats 4000000 in
set_option maxRecDepth 100000 in
theorem sL_stage_35 {X : Xt} {n : Nat} {h : HP} {a0 : Nat} {x1 : Int} {a2 : Nat} {a3 : Nat} {a4 : Nat} {a5 : Nat} {x6 : Int} {t0 : Int} {t1 : Int} {t2 : Int} {t3 : Int} {bb : Nat} {sb9 : Nat} (hc : Cx X cL_stage RL 9 8 158) {K : KT} (hr : CxR X (some .boolean) K) 
    (P : spec_L_put [.int (i3 t3), .int (i3 t2), .int (i3 t1), .int (i3 (t0 - 200)), .ref a2, .ref a3] n h (kc X bb sb9 41 [(0, .ref a0), (1, .int (i3 x1)), (2, .ref a2), (3, .ref a3), (4, .ref a4), (5, .ref a5), (6, .int (i3 x6))] [] n)) :
    Ok X bb sb9 35 [(0, .ref a0), (1, .int (i3 x1)), (2, .ref a2), (3, .ref a3), (4, .ref a4), (5, .ref a5), (6, .int (i3 x6))] [.int (i3 t0), .int (i3 t1), .int (i3 t2), .int (i3 t3)] n h := by
  refine ok_sipush (pc := 35) hc (v := i3 200) dL_stage_35 (by decide) ?_
  refine zk_isub (pc := 38) hc dL_stage_38 ?_
  refine ok_aload_n (pc := 39) hc dL_stage_39 rfl 2 rfl ?_
  refine ok_aload_n (pc := 40) hc dL_stage_40 rfl 3 rfl ?_
  exact ok_callS (pc := 41) (cb := bb) (sb := sb9) (st := []) hc [.int (i3 t3), .int (i3 t2), .int (i3 t1), .int (i3 (t0 - 200)), .ref a2, .ref a3] cs_L_126 sp_L_put (by decide) dL_stage_41 rfl rfl rfl rfl (Nat.le_of_ble_eq_true rfl) P

set_option maxHeartbeats 4000000 in
set_option maxRecDepth 100000 in
theorem sL_stage_44 {X : Xt} {n : Nat} {h : HP} {a0 : Nat} {x1 : Int} {a2 : Nat} {a3 : Nat} {a4 : Nat} {a5 : Nat} {x6 : Int} {bb : Nat} {sb9 : Nat} (hc : Cx X cL_stage RL 9 8 158) {K : KT} (hr : CxR X (some .boolean) K) 
    (P : (R3 x6) ∧ (x6 = 0 → spec_L_at [.int (i3 (bshr x1 4)), .int (i3 4)] n h (kc X bb sb9 61 [(0, .ref a0), (1, .int (i3 x1)), (2, .ref a2), (3, .ref a3), (4, .ref a4), (5, .ref a5), (6, .int (i3 x6))] [.int (i3 1), .int (i3 2), .int (i3 1), .int (i3 0)] n)) ∧ (¬ x6 = 0 → spec_L_at [.int (i3 (bshr x1 4)), .int (i3 4)] n h (kc X bb sb9 61 [(0, .ref a0), (1, .int (i3 x1)), (2, .ref a2), (3, .ref a3), (4, .ref a4), (5, .ref a5), (6, .int (i3 x6))] [.int (i3 1), .int (i3 2), .int (i3 0), .int (i3 0)] n))) :
    Ok X bb sb9 44 [(0, .ref a0), (1, .int (i3 x1)), (2, .ref a2), (3, .ref a3), (4, .ref a4), (5, .ref a5), (6, .int (i3 x6))] [] n h := by
  refine ok_iconst (pc := 44) hc (v := i3 0) dL_stage_44 (by decide) ?_
  refine ok_iload (pc := 45) hc dL_stage_45 6 rfl ?_
  obtain ⟨r1, P⟩ := P
  refine zk_if_eq (pc := 47) (tgt := 54) hc dL_stage_47 (by decide) r1 (fun c => ?_) (fun c => ?_)
  · have P := P.1 c
    refine ok_iconst (pc := 54) hc (v := i3 1) dL_stage_54 (by decide) ?_
    refine ok_iconst (pc := 55) hc (v := i3 2) dL_stage_55 (by decide) ?_
    refine ok_iconst (pc := 56) hc (v := i3 1) dL_stage_56 (by decide) ?_
    refine ok_iload_n (pc := 57) hc dL_stage_57 rfl 1 rfl ?_
    refine ok_iconst (pc := 58) hc (v := i3 4) dL_stage_58 (by decide) ?_
    refine zk_ishr (pc := 59) hc dL_stage_59 ?_
    refine ok_iconst (pc := 60) hc (v := i3 4) dL_stage_60 (by decide) ?_
    exact ok_callS (pc := 61) (cb := bb) (sb := sb9) (st := [.int (i3 1), .int (i3 2), .int (i3 1), .int (i3 0)]) hc [.int (i3 (bshr x1 4)), .int (i3 4)] cs_L_71 sp_L_at (by decide) dL_stage_61 rfl rfl rfl rfl (Nat.le_of_ble_eq_true rfl) P
  · have P := P.2 c
    refine ok_iconst (pc := 50) hc (v := i3 0) dL_stage_50 (by decide) ?_
    refine ok_goto (pc := 51) (tgt := 55) hc dL_stage_51 (by decide) ?_
    refine ok_iconst (pc := 55) hc (v := i3 2) dL_stage_55 (by decide) ?_
    refine ok_iconst (pc := 56) hc (v := i3 1) dL_stage_56 (by decide) ?_
    refine ok_iload_n (pc := 57) hc dL_stage_57 rfl 1 rfl ?_
    refine ok_iconst (pc := 58) hc (v := i3 4) dL_stage_58 (by decide) ?_
    refine zk_ishr (pc := 59) hc dL_stage_59 ?_
    refine ok_iconst (pc := 60) hc (v := i3 4) dL_stage_60 (by decide) ?_
    exact ok_callS (pc := 61) (cb := bb) (sb := sb9) (st := [.int (i3 1), .int (i3 2), .int (i3 0), .int (i3 0)]) hc [.int (i3 (bshr x1 4)), .int (i3 4)] cs_L_71 sp_L_at (by decide) dL_stage_61 rfl rfl rfl rfl (Nat.le_of_ble_eq_true rfl) P

set_option maxHeartbeats 4000000 in
set_option maxRecDepth 100000 in
theorem sL_stage_64 {X : Xt} {n : Nat} {h : HP} {a0 : Nat} {x1 : Int} {a2 : Nat} {a3 : Nat} {a4 : Nat} {a5 : Nat} {x6 : Int} {t0 : Int} {t1 : Int} {t2 : Int} {t3 : Int} {t4 : Int} {bb : Nat} {sb9 : Nat} (hc : Cx X cL_stage RL 9 8 158) {K : KT} (hr : CxR X (some .boolean) K) 
    (P : spec_L_put [.int (i3 t4), .int (i3 t3), .int (i3 t2), .int (i3 (t1 + t0)), .ref a2, .ref a3] n h (kc X bb sb9 67 [(0, .ref a0), (1, .int (i3 x1)), (2, .ref a2), (3, .ref a3), (4, .ref a4), (5, .ref a5), (6, .int (i3 x6))] [] n)) :
    Ok X bb sb9 64 [(0, .ref a0), (1, .int (i3 x1)), (2, .ref a2), (3, .ref a3), (4, .ref a4), (5, .ref a5), (6, .int (i3 x6))] [.int (i3 t0), .int (i3 t1), .int (i3 t2), .int (i3 t3), .int (i3 t4)] n h := by
  refine zk_iadd (pc := 64) hc dL_stage_64 ?_
  refine ok_aload_n (pc := 65) hc dL_stage_65 rfl 2 rfl ?_
  refine ok_aload_n (pc := 66) hc dL_stage_66 rfl 3 rfl ?_
  exact ok_callS (pc := 67) (cb := bb) (sb := sb9) (st := []) hc [.int (i3 t4), .int (i3 t3), .int (i3 t2), .int (i3 (t1 + t0)), .ref a2, .ref a3] cs_L_126 sp_L_put (by decide) dL_stage_67 rfl rfl rfl rfl (Nat.le_of_ble_eq_true rfl) P

set_option maxHeartbeats 4000000 in
set_option maxRecDepth 100000 in
theorem sL_stage_70 {X : Xt} {n : Nat} {h : HP} {a0 : Nat} {x1 : Int} {a2 : Nat} {a3 : Nat} {a4 : Nat} {a5 : Nat} {x6 : Int} {bb : Nat} {sb9 : Nat} (hc : Cx X cL_stage RL 9 8 158) {K : KT} (hr : CxR X (some .boolean) K) 
    (P : spec_L_at [.int (i3 (bshr x1 6)), .int (i3 4)] n h (kc X bb sb9 79 [(0, .ref a0), (1, .int (i3 x1)), (2, .ref a2), (3, .ref a3), (4, .ref a4), (5, .ref a5), (6, .int (i3 x6))] [.int (i3 1), .int (i3 3), .int (i3 2), .int (i3 0)] n)) :
    Ok X bb sb9 70 [(0, .ref a0), (1, .int (i3 x1)), (2, .ref a2), (3, .ref a3), (4, .ref a4), (5, .ref a5), (6, .int (i3 x6))] [] n h := by
  refine ok_iconst (pc := 70) hc (v := i3 0) dL_stage_70 (by decide) ?_
  refine ok_iconst (pc := 71) hc (v := i3 2) dL_stage_71 (by decide) ?_
  refine ok_iconst (pc := 72) hc (v := i3 3) dL_stage_72 (by decide) ?_
  refine ok_iconst (pc := 73) hc (v := i3 1) dL_stage_73 (by decide) ?_
  refine ok_iload_n (pc := 74) hc dL_stage_74 rfl 1 rfl ?_
  refine ok_bipush (pc := 75) hc (v := i3 6) dL_stage_75 (by decide) ?_
  refine zk_ishr (pc := 77) hc dL_stage_77 ?_
  refine ok_iconst (pc := 78) hc (v := i3 4) dL_stage_78 (by decide) ?_
  exact ok_callS (pc := 79) (cb := bb) (sb := sb9) (st := [.int (i3 1), .int (i3 3), .int (i3 2), .int (i3 0)]) hc [.int (i3 (bshr x1 6)), .int (i3 4)] cs_L_71 sp_L_at (by decide) dL_stage_79 rfl rfl rfl rfl (Nat.le_of_ble_eq_true rfl) P

set_option maxHeartbeats 4000000 in
set_option maxRecDepth 100000 in
theorem sL_stage_82 {X : Xt} {n : Nat} {h : HP} {a0 : Nat} {x1 : Int} {a2 : Nat} {a3 : Nat} {a4 : Nat} {a5 : Nat} {x6 : Int} {t0 : Int} {t1 : Int} {t2 : Int} {t3 : Int} {t4 : Int} {bb : Nat} {sb9 : Nat} (hc : Cx X cL_stage RL 9 8 158) {K : KT} (hr : CxR X (some .boolean) K) 
    (P : spec_L_put [.int (i3 t4), .int (i3 t3), .int (i3 t2), .int (i3 (t1 + t0)), .ref a2, .ref a3] n h (kc X bb sb9 85 [(0, .ref a0), (1, .int (i3 x1)), (2, .ref a2), (3, .ref a3), (4, .ref a4), (5, .ref a5), (6, .int (i3 x6))] [] n)) :
    Ok X bb sb9 82 [(0, .ref a0), (1, .int (i3 x1)), (2, .ref a2), (3, .ref a3), (4, .ref a4), (5, .ref a5), (6, .int (i3 x6))] [.int (i3 t0), .int (i3 t1), .int (i3 t2), .int (i3 t3), .int (i3 t4)] n h := by
  refine zk_iadd (pc := 82) hc dL_stage_82 ?_
  refine ok_aload_n (pc := 83) hc dL_stage_83 rfl 2 rfl ?_
  refine ok_aload_n (pc := 84) hc dL_stage_84 rfl 3 rfl ?_
  exact ok_callS (pc := 85) (cb := bb) (sb := sb9) (st := []) hc [.int (i3 t4), .int (i3 t3), .int (i3 t2), .int (i3 (t1 + t0)), .ref a2, .ref a3] cs_L_126 sp_L_put (by decide) dL_stage_85 rfl rfl rfl rfl (Nat.le_of_ble_eq_true rfl) P

set_option maxHeartbeats 4000000 in
set_option maxRecDepth 100000 in
theorem sL_stage_88 {X : Xt} {n : Nat} {h : HP} {a0 : Nat} {x1 : Int} {a2 : Nat} {a3 : Nat} {a4 : Nat} {a5 : Nat} {x6 : Int} {bb : Nat} {sb9 : Nat} (hc : Cx X cL_stage RL 9 8 158) {K : KT} (hr : CxR X (some .boolean) K) 
    (P : (R3 x6) ∧ (x6 = 0 → (R3 x6) ∧ (x6 = 0 → Ok X bb sb9 112 [(0, .ref a0), (1, .int (i3 x1)), (2, .ref a2), (3, .ref a3), (4, .ref a4), (5, .ref a5), (6, .int (i3 x6))] [.ref a3, .ref a2, .int (i3 3), .int (i3 2), .int (i3 0), .int (i3 2)] n h) ∧ (¬ x6 = 0 → Ok X bb sb9 112 [(0, .ref a0), (1, .int (i3 x1)), (2, .ref a2), (3, .ref a3), (4, .ref a4), (5, .ref a5), (6, .int (i3 x6))] [.ref a3, .ref a2, .int (i3 3), .int (i3 1), .int (i3 0), .int (i3 2)] n h)) ∧ (¬ x6 = 0 → (R3 x6) ∧ (x6 = 0 → Ok X bb sb9 112 [(0, .ref a0), (1, .int (i3 x1)), (2, .ref a2), (3, .ref a3), (4, .ref a4), (5, .ref a5), (6, .int (i3 x6))] [.ref a3, .ref a2, .int (i3 3), .int (i3 2), .int (i3 2), .int (i3 2)] n h) ∧ (¬ x6 = 0 → Ok X bb sb9 112 [(0, .ref a0), (1, .int (i3 x1)), (2, .ref a2), (3, .ref a3), (4, .ref a4), (5, .ref a5), (6, .int (i3 x6))] [.ref a3, .ref a2, .int (i3 3), .int (i3 1), .int (i3 2), .int (i3 2)] n h))) :
    Ok X bb sb9 88 [(0, .ref a0), (1, .int (i3 x1)), (2, .ref a2), (3, .ref a3), (4, .ref a4), (5, .ref a5), (6, .int (i3 x6))] [] n h := by
  refine ok_iconst (pc := 88) hc (v := i3 2) dL_stage_88 (by decide) ?_
  refine ok_iload (pc := 89) hc dL_stage_89 6 rfl ?_
  obtain ⟨r1, P⟩ := P
  refine zk_if_eq (pc := 91) (tgt := 98) hc dL_stage_91 (by decide) r1 (fun c => ?_) (fun c => ?_)
  · have P := P.1 c
    refine ok_iconst (pc := 98) hc (v := i3 0) dL_stage_98 (by decide) ?_
    refine ok_iload (pc := 99) hc dL_stage_99 6 rfl ?_
    obtain ⟨r2, P⟩ := P
    refine zk_if_eq (pc := 101) (tgt := 108) hc dL_stage_101 (by decide) r2 (fun c => ?_) (fun c => ?_)
    · have P := P.1 c
      refine ok_iconst (pc := 108) hc (v := i3 2) dL_stage_108 (by decide) ?_
      refine ok_iconst (pc := 109) hc (v := i3 3) dL_stage_109 (by decide) ?_
      refine ok_aload_n (pc := 110) hc dL_stage_110 rfl 2 rfl ?_
      refine ok_aload_n (pc := 111) hc dL_stage_111 rfl 3 rfl ?_
      exact P
    · have P := P.2 c
      refine ok_iconst (pc := 104) hc (v := i3 1) dL_stage_104 (by decide) ?_
      refine ok_goto (pc := 105) (tgt := 109) hc dL_stage_105 (by decide) ?_
      refine ok_iconst (pc := 109) hc (v := i3 3) dL_stage_109 (by decide) ?_
      refine ok_aload_n (pc := 110) hc dL_stage_110 rfl 2 rfl ?_
      refine ok_aload_n (pc := 111) hc dL_stage_111 rfl 3 rfl ?_
      exact P
  · have P := P.2 c
    refine ok_iconst (pc := 94) hc (v := i3 2) dL_stage_94 (by decide) ?_
    refine ok_goto (pc := 95) (tgt := 99) hc dL_stage_95 (by decide) ?_
    refine ok_iload (pc := 99) hc dL_stage_99 6 rfl ?_
    obtain ⟨r3, P⟩ := P
    refine zk_if_eq (pc := 101) (tgt := 108) hc dL_stage_101 (by decide) r3 (fun c => ?_) (fun c => ?_)
    · have P := P.1 c
      refine ok_iconst (pc := 108) hc (v := i3 2) dL_stage_108 (by decide) ?_
      refine ok_iconst (pc := 109) hc (v := i3 3) dL_stage_109 (by decide) ?_
      refine ok_aload_n (pc := 110) hc dL_stage_110 rfl 2 rfl ?_
      refine ok_aload_n (pc := 111) hc dL_stage_111 rfl 3 rfl ?_
      exact P
    · have P := P.2 c
      refine ok_iconst (pc := 104) hc (v := i3 1) dL_stage_104 (by decide) ?_
      refine ok_goto (pc := 105) (tgt := 109) hc dL_stage_105 (by decide) ?_
      refine ok_iconst (pc := 109) hc (v := i3 3) dL_stage_109 (by decide) ?_
      refine ok_aload_n (pc := 110) hc dL_stage_110 rfl 2 rfl ?_
      refine ok_aload_n (pc := 111) hc dL_stage_111 rfl 3 rfl ?_
      exact P

set_option maxHeartbeats 4000000 in
set_option maxRecDepth 100000 in
theorem sL_stage_112 {X : Xt} {n : Nat} {h : HP} {a0 : Nat} {x1 : Int} {a2 : Nat} {a3 : Nat} {a4 : Nat} {a5 : Nat} {x6 : Int} {ta0 : Nat} {ta1 : Nat} {t2 : Int} {t3 : Int} {t4 : Int} {t5 : Int} {bb : Nat} {sb9 : Nat} (hc : Cx X cL_stage RL 9 8 158) {K : KT} (hr : CxR X (some .boolean) K) 
    (P : spec_L_put [.int (i3 t5), .int (i3 t4), .int (i3 t3), .int (i3 t2), .ref ta1, .ref ta0] n h (kc X bb sb9 112 [(0, .ref a0), (1, .int (i3 x1)), (2, .ref a2), (3, .ref a3), (4, .ref a4), (5, .ref a5), (6, .int (i3 x6))] [] n)) :
    Ok X bb sb9 112 [(0, .ref a0), (1, .int (i3 x1)), (2, .ref a2), (3, .ref a3), (4, .ref a4), (5, .ref a5), (6, .int (i3 x6))] [.ref ta0, .ref ta1, .int (i3 t2), .int (i3 t3), .int (i3 t4), .int (i3 t5)] n h := by
  exact ok_callS (pc := 112) (cb := bb) (sb := sb9) (st := []) hc [.int (i3 t5), .int (i3 t4), .int (i3 t3), .int (i3 t2), .ref ta1, .ref ta0] cs_L_126 sp_L_put (by decide) dL_stage_112 rfl rfl rfl rfl (Nat.le_of_ble_eq_true rfl) P

set_option maxHeartbeats 4000000 in
set_option maxRecDepth 100000 in
theorem sL_stage_115 {X : Xt} {n : Nat} {h : HP} {a0 : Nat} {x1 : Int} {a2 : Nat} {a3 : Nat} {a4 : Nat} {a5 : Nat} {x6 : Int} {bb : Nat} {sb9 : Nat} {fs1 : List Value} (hc : Cx X cL_stage RL 9 8 158) {K : KT} (hr : CxR X (some .boolean) K) (e1 : At h n a0 (.inl (6, fs1))) (z1 : fs1.length = 6)
    (P : spec_X6_clearInput [.ref a0] n h (kc X bb sb9 119 [(0, .ref a0), (1, .int (i3 x1)), (2, .ref a2), (3, .ref a3), (4, .ref a4), (5, .ref a5), (6, .int (i3 x6)), (7, .int (i3 0))] [] n)) :
    Ok X bb sb9 115 [(0, .ref a0), (1, .int (i3 x1)), (2, .ref a2), (3, .ref a3), (4, .ref a4), (5, .ref a5), (6, .int (i3 x6))] [] n h := by
  refine ok_iconst (pc := 115) hc (v := i3 0) dL_stage_115 (by decide) ?_
  refine ok_istore (pc := 116) hc (lv' := [(7, .int (i3 0)), (0, .ref a0), (1, .int (i3 x1)), (2, .ref a2), (3, .ref a3), (4, .ref a4), (5, .ref a5), (6, .int (i3 x6))]) dL_stage_116 (by decide) rfl ?_
  refine ok_aload_n (pc := 118) hc dL_stage_118 rfl 1 rfl ?_
  refine ok_lv [1, 2, 3, 4, 5, 6, 7, 0] rfl ?_
  exact ok_callV (pc := 119) (a := a0) (cb := bb) (sb := sb9) (st := []) hc [] cv_L_123 sp_X6_clearInput (by decide) dL_stage_119 rfl e1.1 e1.2 rfl rfl rfl (Nat.le_of_ble_eq_true rfl) P

set_option maxHeartbeats 4000000 in
set_option maxRecDepth 100000 in
theorem sL_stage_122 {X : Xt} {n : Nat} {h : HP} {a0 : Nat} {x1 : Int} {a2 : Nat} {a3 : Nat} {a4 : Nat} {a5 : Nat} {x6 : Int} {x7 : Int} {t0 : Int} {bb : Nat} {sb9 : Nat} (hc : Cx X cL_stage RL 9 8 158) {K : KT} (hr : CxR X (some .boolean) K) 
    (P : Ok X bb sb9 126 [(0, .ref a0), (1, .int (i3 x1)), (2, .ref a2), (3, .ref a3), (4, .ref a4), (5, .ref a5), (6, .int (i3 x6)), (7, .int (i3 x7)), (8, .int (i3 0))] [] n h) :
    Ok X bb sb9 122 [(0, .ref a0), (1, .int (i3 x1)), (2, .ref a2), (3, .ref a3), (4, .ref a4), (5, .ref a5), (6, .int (i3 x6)), (7, .int (i3 x7))] [.int (i3 t0)] n h := by
  refine ok_pop (pc := 122) hc dL_stage_122 rfl ?_
  refine ok_iconst (pc := 123) hc (v := i3 0) dL_stage_123 (by decide) ?_
  refine ok_istore (pc := 124) hc (lv' := [(8, .int (i3 0)), (0, .ref a0), (1, .int (i3 x1)), (2, .ref a2), (3, .ref a3), (4, .ref a4), (5, .ref a5), (6, .int (i3 x6)), (7, .int (i3 x7))]) dL_stage_124 (by decide) rfl ?_
  refine ok_lv [1, 2, 3, 4, 5, 6, 7, 8, 0] rfl ?_
  exact P

set_option maxHeartbeats 4000000 in
set_option maxRecDepth 100000 in
theorem sL_stage_126 {X : Xt} {n : Nat} {h : HP} {a0 : Nat} {x1 : Int} {a2 : Nat} {a3 : Nat} {a4 : Nat} {a5 : Nat} {x6 : Int} {x7 : Int} {x8 : Int} {bb : Nat} {sb9 : Nat} (hc : Cx X cL_stage RL 9 8 158) {K : KT} (hr : CxR X (some .boolean) K) 
    (P : (R3 x8) ∧ (4 ≤ x8 → Ok X bb sb9 177 [(0, .ref a0), (1, .int (i3 x1)), (2, .ref a2), (3, .ref a3), (4, .ref a4), (5, .ref a5), (6, .int (i3 x6)), (7, .int (i3 x7)), (8, .int (i3 x8))] [] n h) ∧ (¬ 4 ≤ x8 → Ok X bb sb9 132 [(0, .ref a0), (1, .int (i3 x1)), (2, .ref a2), (3, .ref a3), (4, .ref a4), (5, .ref a5), (6, .int (i3 x6)), (7, .int (i3 x7)), (8, .int (i3 x8))] [] n h)) :
    Ok X bb sb9 126 [(0, .ref a0), (1, .int (i3 x1)), (2, .ref a2), (3, .ref a3), (4, .ref a4), (5, .ref a5), (6, .int (i3 x6)), (7, .int (i3 x7)), (8, .int (i3 x8))] [] n h := by
  refine ok_iload (pc := 126) hc dL_stage_126 8 rfl ?_
  refine ok_iconst (pc := 128) hc (v := i3 4) dL_stage_128 (by decide) ?_
  obtain ⟨r1, P⟩ := P
  refine zk_icmp_ge (pc := 129) (tgt := 177) hc dL_stage_129 (by decide) r1 ⟨by decide, by decide⟩ (fun c => ?_) (fun c => ?_)
  · have P := P.1 c
    exact P
  · have P := P.2 c
    exact P

set_option maxHeartbeats 4000000 in
set_option maxRecDepth 100000 in
theorem sL_stage_132 {X : Xt} {n : Nat} {h : HP} {a0 : Nat} {x1 : Int} {a2 : Nat} {a3 : Nat} {a4 : Nat} {a5 : Nat} {x6 : Int} {x7 : Int} {x8 : Int} {bb : Nat} {sb9 : Nat} (hc : Cx X cL_stage RL 9 8 158) {K : KT} (hr : CxR X (some .boolean) K) 
    (P : (R3 x8) ∧ (x8 ≤ 0 → Ok X bb sb9 153 [(0, .ref a0), (1, .int (i3 x1)), (2, .ref a2), (3, .ref a3), (4, .ref a4), (5, .ref a5), (6, .int (i3 x6)), (7, .int (i3 x7)), (8, .int (i3 x8))] [] n h) ∧ (¬ x8 ≤ 0 → Ok X bb sb9 137 [(0, .ref a0), (1, .int (i3 x1)), (2, .ref a2), (3, .ref a3), (4, .ref a4), (5, .ref a5), (6, .int (i3 x6)), (7, .int (i3 x7)), (8, .int (i3 x8))] [] n h)) :
    Ok X bb sb9 132 [(0, .ref a0), (1, .int (i3 x1)), (2, .ref a2), (3, .ref a3), (4, .ref a4), (5, .ref a5), (6, .int (i3 x6)), (7, .int (i3 x7)), (8, .int (i3 x8))] [] n h := by
  refine ok_iload (pc := 132) hc dL_stage_132 8 rfl ?_
  obtain ⟨r1, P⟩ := P
  refine zk_if_le (pc := 134) (tgt := 153) hc dL_stage_134 (by decide) r1 (fun c => ?_) (fun c => ?_)
  · have P := P.1 c
    exact P
  · have P := P.2 c
    exact P

set_option maxHeartbeats 4000000 in
set_option maxRecDepth 100000 in
theorem sL_stage_137 {X : Xt} {n : Nat} {h : HP} {a0 : Nat} {x1 : Int} {a2 : Nat} {a3 : Nat} {a4 : Nat} {a5 : Nat} {x6 : Int} {x7 : Int} {x8 : Int} {bb : Nat} {sb9 : Nat} {fs1 : List Value} (hc : Cx X cL_stage RL 9 8 158) {K : KT} (hr : CxR X (some .boolean) K) (e1 : At h n a0 (.inl (6, fs1))) (z1 : fs1.length = 6)
    (P : spec_X6_append [.ref a0, .int (i3 59)] n h (kc X bb sb9 140 [(0, .ref a0), (1, .int (i3 x1)), (2, .ref a2), (3, .ref a3), (4, .ref a4), (5, .ref a5), (6, .int (i3 x6)), (7, .int (i3 x7)), (8, .int (i3 x8))] [] n)) :
    Ok X (bb + 1) (sb9 + 6) 137 [(0, .ref a0), (1, .int (i3 x1)), (2, .ref a2), (3, .ref a3), (4, .ref a4), (5, .ref a5), (6, .int (i3 x6)), (7, .int (i3 x7)), (8, .int (i3 x8))] [] n h := by
  refine ok_aload_n (pc := 137) hc dL_stage_137 rfl 0 rfl ?_
  refine ok_bipush (pc := 138) hc (v := i3 59) dL_stage_138 (by decide) ?_
  exact ok_callV (pc := 140) (a := a0) (cb := bb) (sb := sb9) (st := []) hc [.int (i3 59)] cv_L_116 sp_X6_append (by decide) dL_stage_140 rfl e1.1 e1.2 rfl rfl rfl (Nat.le_of_ble_eq_true rfl) P

set_option maxHeartbeats 4000000 in
set_option maxRecDepth 100000 in
theorem sL_stage_143 {X : Xt} {n : Nat} {h : HP} {a0 : Nat} {x1 : Int} {a2 : Nat} {a3 : Nat} {a4 : Nat} {a5 : Nat} {x6 : Int} {x7 : Int} {x8 : Int} {t0 : Int} {bb : Nat} {sb9 : Nat} (hc : Cx X cL_stage RL 9 8 158) {K : KT} (hr : CxR X (some .boolean) K) 
    (P : (R3 t0) ∧ (R3 (x7 + 1)) ∧ (t0 = (x7 + 1) → Ok X bb sb9 153 [(0, .ref a0), (1, .int (i3 x1)), (2, .ref a2), (3, .ref a3), (4, .ref a4), (5, .ref a5), (6, .int (i3 x6)), (7, .int (i3 (x7 + 1))), (8, .int (i3 x8))] [] n h) ∧ (¬ t0 = (x7 + 1) → K (.inl (some (.int (i3 0)))) n h)) :
    Ok X bb sb9 143 [(0, .ref a0), (1, .int (i3 x1)), (2, .ref a2), (3, .ref a3), (4, .ref a4), (5, .ref a5), (6, .int (i3 x6)), (7, .int (i3 x7)), (8, .int (i3 x8))] [.int (i3 t0)] n h := by
  refine zk_iinc (pc := 143) hc (q := 7) (x := x7) (lv' := [(7, .int (i3 (x7 + 1))), (0, .ref a0), (1, .int (i3 x1)), (2, .ref a2), (3, .ref a3), (4, .ref a4), (5, .ref a5), (6, .int (i3 x6)), (8, .int (i3 x8))]) dL_stage_143 rfl (by decide) rfl ?_
  refine ok_iload (pc := 146) hc dL_stage_146 0 rfl ?_
  obtain ⟨r1, P⟩ := P
  obtain ⟨r2, P⟩ := P
  refine zk_icmp_eq (pc := 148) (tgt := 153) hc dL_stage_148 (by decide) r1 r2 (fun c => ?_) (fun c => ?_)
  · have P := P.1 c
    refine ok_lv [1, 2, 3, 4, 5, 6, 7, 0, 8] rfl ?_
    exact P
  · have P := P.2 c
    refine ok_iconst (pc := 151) hc (v := i3 0) dL_stage_151 (by decide) ?_
    exact ok_zret (st := []) (pc := 152) hc (nar_z (by decide)) hr dL_stage_152 P

set_option maxHeartbeats 4000000 in
set_option maxRecDepth 100000 in
theorem sL_stage_153 {X : Xt} {n : Nat} {h : HP} {a0 : Nat} {x1 : Int} {a2 : Nat} {a3 : Nat} {a4 : Nat} {a5 : Nat} {x6 : Int} {x7 : Int} {x8 : Int} {bb : Nat} {sb9 : Nat} (hc : Cx X cL_stage RL 9 8 158) {K : KT} (hr : CxR X (some .boolean) K) 
    (P : spec_L_type [.ref a0, .int (i3 x8), .ref a3, .int (i3 x7)] n h (kc X bb sb9 159 [(0, .ref a0), (1, .int (i3 x1)), (2, .ref a2), (3, .ref a3), (4, .ref a4), (5, .ref a5), (6, .int (i3 x6)), (7, .int (i3 x7)), (8, .int (i3 x8))] [] n)) :
    Ok X (bb + 6) (sb9 + 36) 153 [(0, .ref a0), (1, .int (i3 x1)), (2, .ref a2), (3, .ref a3), (4, .ref a4), (5, .ref a5), (6, .int (i3 x6)), (7, .int (i3 x7)), (8, .int (i3 x8))] [] n h := by
  refine ok_aload_n (pc := 153) hc dL_stage_153 rfl 0 rfl ?_
  refine ok_iload (pc := 154) hc dL_stage_154 8 rfl ?_
  refine ok_aload_n (pc := 156) hc dL_stage_156 rfl 3 rfl ?_
  refine ok_iload (pc := 157) hc dL_stage_157 7 rfl ?_
  exact ok_callS (pc := 159) (cb := bb) (sb := sb9) (st := []) hc [.ref a0, .int (i3 x8), .ref a3, .int (i3 x7)] cs_L_130 sp_L_type (by decide) dL_stage_159 rfl rfl rfl rfl (Nat.le_of_ble_eq_true rfl) P

set_option maxHeartbeats 4000000 in
set_option maxRecDepth 100000 in
theorem sL_stage_162 {X : Xt} {n : Nat} {h : HP} {a0 : Nat} {x1 : Int} {a2 : Nat} {a3 : Nat} {a4 : Nat} {a5 : Nat} {x6 : Int} {x7 : Int} {x8 : Int} {t0 : Int} {bb : Nat} {sb9 : Nat} (hc : Cx X cL_stage RL 9 8 158) {K : KT} (hr : CxR X (some .boolean) K) 
    (P : (R3 t0) ∧ (0 ≤ t0 → Ok X bb sb9 126 [(0, .ref a0), (1, .int (i3 x1)), (2, .ref a2), (3, .ref a3), (4, .ref a4), (5, .ref a5), (6, .int (i3 x6)), (7, .int (i3 t0)), (8, .int (i3 (x8 + 1)))] [] n h) ∧ (¬ 0 ≤ t0 → K (.inl (some (.int (i3 0)))) n h)) :
    Ok X bb sb9 162 [(0, .ref a0), (1, .int (i3 x1)), (2, .ref a2), (3, .ref a3), (4, .ref a4), (5, .ref a5), (6, .int (i3 x6)), (7, .int (i3 x7)), (8, .int (i3 x8))] [.int (i3 t0)] n h := by
  refine ok_istore (pc := 162) hc (lv' := [(7, .int (i3 t0)), (0, .ref a0), (1, .int (i3 x1)), (2, .ref a2), (3, .ref a3), (4, .ref a4), (5, .ref a5), (6, .int (i3 x6)), (8, .int (i3 x8))]) dL_stage_162 (by decide) rfl ?_
  refine ok_iload (pc := 164) hc dL_stage_164 0 rfl ?_
  obtain ⟨r1, P⟩ := P
  refine zk_if_ge (pc := 166) (tgt := 171) hc dL_stage_166 (by decide) r1 (fun c => ?_) (fun c => ?_)
  · have P := P.1 c
    refine zk_iinc (pc := 171) hc (q := 8) (x := x8) (lv' := [(8, .int (i3 (x8 + 1))), (7, .int (i3 t0)), (0, .ref a0), (1, .int (i3 x1)), (2, .ref a2), (3, .ref a3), (4, .ref a4), (5, .ref a5), (6, .int (i3 x6))]) dL_stage_171 rfl (by decide) rfl ?_
    refine ok_goto (pc := 174) (tgt := 126) hc dL_stage_174 (by decide) ?_
    refine ok_lv [2, 3, 4, 5, 6, 7, 8, 1, 0] rfl ?_
    exact P
  · have P := P.2 c
    refine ok_iconst (pc := 169) hc (v := i3 0) dL_stage_169 (by decide) ?_
    exact ok_zret (st := []) (pc := 170) hc (nar_z (by decide)) hr dL_stage_170 P

set_option maxHeartbeats 4000000 in
set_option maxRecDepth 100000 in
theorem sL_stage_177 {X : Xt} {n : Nat} {h : HP} {a0 : Nat} {x1 : Int} {a2 : Nat} {a3 : Nat} {a4 : Nat} {a5 : Nat} {x6 : Int} {x7 : Int} {x8 : Int} {bb : Nat} {sb9 : Nat} {fs1 : List Value} (hc : Cx X cL_stage RL 9 8 158) {K : KT} (hr : CxR X (some .boolean) K) (e1 : At h n a0 (.inl (6, fs1))) (z1 : fs1.length = 6)
    (P : spec_X6_append [.ref a0, .int (i3 57)] n h (kc X bb sb9 180 [(0, .ref a0), (1, .int (i3 x1)), (2, .ref a2), (3, .ref a3), (4, .ref a4), (5, .ref a5), (6, .int (i3 x6)), (7, .int (i3 x7)), (8, .int (i3 x8))] [] n)) :
    Ok X (bb + 1) (sb9 + 6) 177 [(0, .ref a0), (1, .int (i3 x1)), (2, .ref a2), (3, .ref a3), (4, .ref a4), (5, .ref a5), (6, .int (i3 x6)), (7, .int (i3 x7)), (8, .int (i3 x8))] [] n h := by
  refine ok_aload_n (pc := 177) hc dL_stage_177 rfl 0 rfl ?_
  refine ok_bipush (pc := 178) hc (v := i3 57) dL_stage_178 (by decide) ?_
  exact ok_callV (pc := 180) (a := a0) (cb := bb) (sb := sb9) (st := []) hc [.int (i3 57)] cv_L_116 sp_X6_append (by decide) dL_stage_180 rfl e1.1 e1.2 rfl rfl rfl (Nat.le_of_ble_eq_true rfl) P

set_option maxHeartbeats 4000000 in
set_option maxRecDepth 100000 in
theorem sL_stage_183 {X : Xt} {n : Nat} {h : HP} {a0 : Nat} {x1 : Int} {a2 : Nat} {a3 : Nat} {a4 : Nat} {a5 : Nat} {x6 : Int} {x7 : Int} {x8 : Int} {t0 : Int} {bb : Nat} {sb9 : Nat} (hc : Cx X cL_stage RL 9 8 158) {K : KT} (hr : CxR X (some .boolean) K) 
    (P : (R3 t0) ∧ (R3 (x7 + 1)) ∧ (¬ t0 = (x7 + 1) → K (.inl (some (.int (i3 0)))) n h) ∧ (t0 = (x7 + 1) → Ok X bb sb9 190 [(0, .ref a0), (1, .int (i3 x1)), (2, .ref a2), (3, .ref a3), (4, .ref a4), (5, .ref a5), (6, .int (i3 x6)), (7, .int (i3 x7)), (8, .int (i3 x8))] [] n h)) :
    Ok X bb sb9 183 [(0, .ref a0), (1, .int (i3 x1)), (2, .ref a2), (3, .ref a3), (4, .ref a4), (5, .ref a5), (6, .int (i3 x6)), (7, .int (i3 x7)), (8, .int (i3 x8))] [.int (i3 t0)] n h := by
  refine ok_iload (pc := 183) hc dL_stage_183 7 rfl ?_
  refine ok_iconst (pc := 185) hc (v := i3 1) dL_stage_185 (by decide) ?_
  refine zk_iadd (pc := 186) hc dL_stage_186 ?_
  obtain ⟨r1, P⟩ := P
  obtain ⟨r2, P⟩ := P
  refine zk_icmp_ne (pc := 187) (tgt := 210) hc dL_stage_187 (by decide) r1 r2 (fun c => ?_) (fun c => ?_)
  · have P := P.1 c
    refine ok_iconst (pc := 210) hc (v := i3 0) dL_stage_210 (by decide) ?_
    exact ok_zret (st := []) (pc := 211) hc (nar_z (by decide)) hr dL_stage_211 P
  · have P := P.2 c
    exact P

set_option maxHeartbeats 4000000 in
set_option maxRecDepth 100000 in
theorem sL_stage_190 {X : Xt} {n : Nat} {h : HP} {a0 : Nat} {x1 : Int} {a2 : Nat} {a3 : Nat} {a4 : Nat} {a5 : Nat} {x6 : Int} {x7 : Int} {x8 : Int} {bb : Nat} {sb9 : Nat} {fs1 : List Value} (hc : Cx X cL_stage RL 9 8 158) {K : KT} (hr : CxR X (some .boolean) K) (e1 : At h n a0 (.inl (6, fs1))) (z1 : fs1.length = 6)
    (P : spec_X6_firstError [.ref a0] n h (kc X bb sb9 191 [(0, .ref a0), (1, .int (i3 x1)), (2, .ref a2), (3, .ref a3), (4, .ref a4), (5, .ref a5), (6, .int (i3 x6)), (7, .int (i3 x7)), (8, .int (i3 x8))] [] n)) :
    Ok X bb sb9 190 [(0, .ref a0), (1, .int (i3 x1)), (2, .ref a2), (3, .ref a3), (4, .ref a4), (5, .ref a5), (6, .int (i3 x6)), (7, .int (i3 x7)), (8, .int (i3 x8))] [] n h := by
  refine ok_aload_n (pc := 190) hc dL_stage_190 rfl 0 rfl ?_
  exact ok_callV (pc := 191) (a := a0) (cb := bb) (sb := sb9) (st := []) hc [] cv_L_119 sp_X6_firstError (by decide) dL_stage_191 rfl e1.1 e1.2 rfl rfl rfl (Nat.le_of_ble_eq_true rfl) P

set_option maxHeartbeats 4000000 in
set_option maxRecDepth 100000 in
theorem sL_stage_194 {X : Xt} {n : Nat} {h : HP} {a0 : Nat} {x1 : Int} {a2 : Nat} {a3 : Nat} {a4 : Nat} {a5 : Nat} {x6 : Int} {x7 : Int} {x8 : Int} {t0 : Int} {bb : Nat} {sb9 : Nat} (hc : Cx X cL_stage RL 9 8 158) {K : KT} (hr : CxR X (some .boolean) K) 
    (P : (R3 t0) ∧ (R3 x7) ∧ (¬ t0 = x7 → K (.inl (some (.int (i3 0)))) n h) ∧ (t0 = x7 → Ok X bb sb9 199 [(0, .ref a0), (1, .int (i3 x1)), (2, .ref a2), (3, .ref a3), (4, .ref a4), (5, .ref a5), (6, .int (i3 x6)), (7, .int (i3 x7)), (8, .int (i3 x8))] [] n h)) :
    Ok X bb sb9 194 [(0, .ref a0), (1, .int (i3 x1)), (2, .ref a2), (3, .ref a3), (4, .ref a4), (5, .ref a5), (6, .int (i3 x6)), (7, .int (i3 x7)), (8, .int (i3 x8))] [.int (i3 t0)] n h := by
  refine ok_iload (pc := 194) hc dL_stage_194 7 rfl ?_
  obtain ⟨r1, P⟩ := P
  obtain ⟨r2, P⟩ := P
  refine zk_icmp_ne (pc := 196) (tgt := 210) hc dL_stage_196 (by decide) r1 r2 (fun c => ?_) (fun c => ?_)
  · have P := P.1 c
    refine ok_iconst (pc := 210) hc (v := i3 0) dL_stage_210 (by decide) ?_
    exact ok_zret (st := []) (pc := 211) hc (nar_z (by decide)) hr dL_stage_211 P
  · have P := P.2 c
    exact P

set_option maxHeartbeats 4000000 in
set_option maxRecDepth 100000 in
theorem sL_stage_199 {X : Xt} {n : Nat} {h : HP} {a0 : Nat} {x1 : Int} {a2 : Nat} {a3 : Nat} {a4 : Nat} {a5 : Nat} {x6 : Int} {x7 : Int} {x8 : Int} {bb : Nat} {sb9 : Nat} {fs1 : List Value} (hc : Cx X cL_stage RL 9 8 158) {K : KT} (hr : CxR X (some .boolean) K) (e1 : At h n a0 (.inl (6, fs1))) (z1 : fs1.length = 6)
    (P : spec_X6_clearInput [.ref a0] n h (kc X bb sb9 200 [(0, .ref a0), (1, .int (i3 x1)), (2, .ref a2), (3, .ref a3), (4, .ref a4), (5, .ref a5), (6, .int (i3 x6)), (7, .int (i3 x7)), (8, .int (i3 x8))] [] n)) :
    Ok X bb sb9 199 [(0, .ref a0), (1, .int (i3 x1)), (2, .ref a2), (3, .ref a3), (4, .ref a4), (5, .ref a5), (6, .int (i3 x6)), (7, .int (i3 x7)), (8, .int (i3 x8))] [] n h := by
  refine ok_aload_n (pc := 199) hc dL_stage_199 rfl 0 rfl ?_
  exact ok_callV (pc := 200) (a := a0) (cb := bb) (sb := sb9) (st := []) hc [] cv_L_123 sp_X6_clearInput (by decide) dL_stage_200 rfl e1.1 e1.2 rfl rfl rfl (Nat.le_of_ble_eq_true rfl) P

set_option maxHeartbeats 4000000 in
set_option maxRecDepth 100000 in
theorem sL_stage_203 {X : Xt} {n : Nat} {h : HP} {a0 : Nat} {x1 : Int} {a2 : Nat} {a3 : Nat} {a4 : Nat} {a5 : Nat} {x6 : Int} {x7 : Int} {x8 : Int} {t0 : Int} {bb : Nat} {sb9 : Nat} (hc : Cx X cL_stage RL 9 8 158) {K : KT} (hr : CxR X (some .boolean) K) 
    (P : (R3 t0) ∧ (R3 (x7 + 1)) ∧ (t0 = (x7 + 1) → Ok X bb sb9 218 [(0, .ref a0), (1, .int (i3 x1)), (2, .ref a2), (3, .ref a3), (4, .ref a4), (5, .ref a5), (6, .int (i3 x6)), (7, .int (i3 0)), (8, .int (i3 0))] [] n h) ∧ (¬ t0 = (x7 + 1) → K (.inl (some (.int (i3 0)))) n h)) :
    Ok X bb sb9 203 [(0, .ref a0), (1, .int (i3 x1)), (2, .ref a2), (3, .ref a3), (4, .ref a4), (5, .ref a5), (6, .int (i3 x6)), (7, .int (i3 x7)), (8, .int (i3 x8))] [.int (i3 t0)] n h := by
  refine ok_iload (pc := 203) hc dL_stage_203 7 rfl ?_
  refine ok_iconst (pc := 205) hc (v := i3 1) dL_stage_205 (by decide) ?_
  refine zk_iadd (pc := 206) hc dL_stage_206 ?_
  obtain ⟨r1, P⟩ := P
  obtain ⟨r2, P⟩ := P
  refine zk_icmp_eq (pc := 207) (tgt := 212) hc dL_stage_207 (by decide) r1 r2 (fun c => ?_) (fun c => ?_)
  · have P := P.1 c
    refine ok_iconst (pc := 212) hc (v := i3 0) dL_stage_212 (by decide) ?_
    refine ok_istore (pc := 213) hc (lv' := [(7, .int (i3 0)), (0, .ref a0), (1, .int (i3 x1)), (2, .ref a2), (3, .ref a3), (4, .ref a4), (5, .ref a5), (6, .int (i3 x6)), (8, .int (i3 x8))]) dL_stage_213 (by decide) rfl ?_
    refine ok_iconst (pc := 215) hc (v := i3 0) dL_stage_215 (by decide) ?_
    refine ok_istore (pc := 216) hc (lv' := [(8, .int (i3 0)), (7, .int (i3 0)), (0, .ref a0), (1, .int (i3 x1)), (2, .ref a2), (3, .ref a3), (4, .ref a4), (5, .ref a5), (6, .int (i3 x6))]) dL_stage_216 (by decide) rfl ?_
    refine ok_lv [2, 3, 4, 5, 6, 7, 8, 1, 0] rfl ?_
    exact P
  · have P := P.2 c
    refine ok_iconst (pc := 210) hc (v := i3 0) dL_stage_210 (by decide) ?_
    exact ok_zret (st := []) (pc := 211) hc (nar_z (by decide)) hr dL_stage_211 P

set_option maxHeartbeats 4000000 in
set_option maxRecDepth 100000 in
theorem sL_stage_218 {X : Xt} {n : Nat} {h : HP} {a0 : Nat} {x1 : Int} {a2 : Nat} {a3 : Nat} {a4 : Nat} {a5 : Nat} {x6 : Int} {x7 : Int} {x8 : Int} {bb : Nat} {sb9 : Nat} (hc : Cx X cL_stage RL 9 8 158) {K : KT} (hr : CxR X (some .boolean) K) 
    (P : (R3 x8) ∧ (4 ≤ x8 → Ok X bb sb9 262 [(0, .ref a0), (1, .int (i3 x1)), (2, .ref a2), (3, .ref a3), (4, .ref a4), (5, .ref a5), (6, .int (i3 x6)), (7, .int (i3 x7)), (8, .int (i3 x8))] [] n h) ∧ (¬ 4 ≤ x8 → Ok X bb sb9 224 [(0, .ref a0), (1, .int (i3 x1)), (2, .ref a2), (3, .ref a3), (4, .ref a4), (5, .ref a5), (6, .int (i3 x6)), (7, .int (i3 x7)), (8, .int (i3 x8))] [] n h)) :
    Ok X bb sb9 218 [(0, .ref a0), (1, .int (i3 x1)), (2, .ref a2), (3, .ref a3), (4, .ref a4), (5, .ref a5), (6, .int (i3 x6)), (7, .int (i3 x7)), (8, .int (i3 x8))] [] n h := by
  refine ok_iload (pc := 218) hc dL_stage_218 8 rfl ?_
  refine ok_iconst (pc := 220) hc (v := i3 4) dL_stage_220 (by decide) ?_
  obtain ⟨r1, P⟩ := P
  refine zk_icmp_ge (pc := 221) (tgt := 262) hc dL_stage_221 (by decide) r1 ⟨by decide, by decide⟩ (fun c => ?_) (fun c => ?_)
  · have P := P.1 c
    exact P
  · have P := P.2 c
    exact P

set_option maxHeartbeats 4000000 in
set_option maxRecDepth 100000 in
theorem sL_stage_224 {X : Xt} {n : Nat} {h : HP} {a0 : Nat} {x1 : Int} {a2 : Nat} {a3 : Nat} {a4 : Nat} {a5 : Nat} {x6 : Int} {x7 : Int} {x8 : Int} {bb : Nat} {sb9 : Nat} (hc : Cx X cL_stage RL 9 8 158) {K : KT} (hr : CxR X (some .boolean) K) 
    (P : (R3 x8) ∧ (x8 ≤ 0 → Ok X bb sb9 245 [(0, .ref a0), (1, .int (i3 x1)), (2, .ref a2), (3, .ref a3), (4, .ref a4), (5, .ref a5), (6, .int (i3 x6)), (7, .int (i3 x7)), (8, .int (i3 x8))] [] n h) ∧ (¬ x8 ≤ 0 → Ok X bb sb9 229 [(0, .ref a0), (1, .int (i3 x1)), (2, .ref a2), (3, .ref a3), (4, .ref a4), (5, .ref a5), (6, .int (i3 x6)), (7, .int (i3 x7)), (8, .int (i3 x8))] [] n h)) :
    Ok X bb sb9 224 [(0, .ref a0), (1, .int (i3 x1)), (2, .ref a2), (3, .ref a3), (4, .ref a4), (5, .ref a5), (6, .int (i3 x6)), (7, .int (i3 x7)), (8, .int (i3 x8))] [] n h := by
  refine ok_iload (pc := 224) hc dL_stage_224 8 rfl ?_
  obtain ⟨r1, P⟩ := P
  refine zk_if_le (pc := 226) (tgt := 245) hc dL_stage_226 (by decide) r1 (fun c => ?_) (fun c => ?_)
  · have P := P.1 c
    exact P
  · have P := P.2 c
    exact P

set_option maxHeartbeats 4000000 in
set_option maxRecDepth 100000 in
theorem sL_stage_229 {X : Xt} {n : Nat} {h : HP} {a0 : Nat} {x1 : Int} {a2 : Nat} {a3 : Nat} {a4 : Nat} {a5 : Nat} {x6 : Int} {x7 : Int} {x8 : Int} {bb : Nat} {sb9 : Nat} {fs1 : List Value} (hc : Cx X cL_stage RL 9 8 158) {K : KT} (hr : CxR X (some .boolean) K) (e1 : At h n a0 (.inl (6, fs1))) (z1 : fs1.length = 6)
    (P : spec_X6_append [.ref a0, .int (i3 59)] n h (kc X bb sb9 232 [(0, .ref a0), (1, .int (i3 x1)), (2, .ref a2), (3, .ref a3), (4, .ref a4), (5, .ref a5), (6, .int (i3 x6)), (7, .int (i3 x7)), (8, .int (i3 x8))] [] n)) :
    Ok X (bb + 1) (sb9 + 6) 229 [(0, .ref a0), (1, .int (i3 x1)), (2, .ref a2), (3, .ref a3), (4, .ref a4), (5, .ref a5), (6, .int (i3 x6)), (7, .int (i3 x7)), (8, .int (i3 x8))] [] n h := by
  refine ok_aload_n (pc := 229) hc dL_stage_229 rfl 0 rfl ?_
  refine ok_bipush (pc := 230) hc (v := i3 59) dL_stage_230 (by decide) ?_
  exact ok_callV (pc := 232) (a := a0) (cb := bb) (sb := sb9) (st := []) hc [.int (i3 59)] cv_L_116 sp_X6_append (by decide) dL_stage_232 rfl e1.1 e1.2 rfl rfl rfl (Nat.le_of_ble_eq_true rfl) P

set_option maxHeartbeats 4000000 in
set_option maxRecDepth 100000 in
theorem sL_stage_235 {X : Xt} {n : Nat} {h : HP} {a0 : Nat} {x1 : Int} {a2 : Nat} {a3 : Nat} {a4 : Nat} {a5 : Nat} {x6 : Int} {x7 : Int} {x8 : Int} {t0 : Int} {bb : Nat} {sb9 : Nat} (hc : Cx X cL_stage RL 9 8 158) {K : KT} (hr : CxR X (some .boolean) K) 
    (P : (R3 t0) ∧ (R3 (x7 + 1)) ∧ (t0 = (x7 + 1) → Ok X bb sb9 245 [(0, .ref a0), (1, .int (i3 x1)), (2, .ref a2), (3, .ref a3), (4, .ref a4), (5, .ref a5), (6, .int (i3 x6)), (7, .int (i3 (x7 + 1))), (8, .int (i3 x8))] [] n h) ∧ (¬ t0 = (x7 + 1) → K (.inl (some (.int (i3 0)))) n h)) :
    Ok X bb sb9 235 [(0, .ref a0), (1, .int (i3 x1)), (2, .ref a2), (3, .ref a3), (4, .ref a4), (5, .ref a5), (6, .int (i3 x6)), (7, .int (i3 x7)), (8, .int (i3 x8))] [.int (i3 t0)] n h := by
  refine zk_iinc (pc := 235) hc (q := 7) (x := x7) (lv' := [(7, .int (i3 (x7 + 1))), (0, .ref a0), (1, .int (i3 x1)), (2, .ref a2), (3, .ref a3), (4, .ref a4), (5, .ref a5), (6, .int (i3 x6)), (8, .int (i3 x8))]) dL_stage_235 rfl (by decide) rfl ?_
  refine ok_iload (pc := 238) hc dL_stage_238 0 rfl ?_
  obtain ⟨r1, P⟩ := P
  obtain ⟨r2, P⟩ := P
  refine zk_icmp_eq (pc := 240) (tgt := 245) hc dL_stage_240 (by decide) r1 r2 (fun c => ?_) (fun c => ?_)
  · have P := P.1 c
    refine ok_lv [1, 2, 3, 4, 5, 6, 7, 0, 8] rfl ?_
    exact P
  · have P := P.2 c
    refine ok_iconst (pc := 243) hc (v := i3 0) dL_stage_243 (by decide) ?_
    exact ok_zret (st := []) (pc := 244) hc (nar_z (by decide)) hr dL_stage_244 P

set_option maxHeartbeats 4000000 in
set_option maxRecDepth 100000 in
theorem sL_stage_245 {X : Xt} {n : Nat} {h : HP} {a0 : Nat} {x1 : Int} {a2 : Nat} {a3 : Nat} {a4 : Nat} {a5 : Nat} {x6 : Int} {x7 : Int} {x8 : Int} {bb : Nat} {sb9 : Nat} (hc : Cx X cL_stage RL 9 8 158) {K : KT} (hr : CxR X (some .boolean) K) 
    (P : spec_L_type [.ref a0, .int (i3 x8), .ref a3, .int (i3 x7)] n h (kc X bb sb9 251 [(0, .ref a0), (1, .int (i3 x1)), (2, .ref a2), (3, .ref a3), (4, .ref a4), (5, .ref a5), (6, .int (i3 x6)), (7, .int (i3 x7)), (8, .int (i3 x8))] [] n)) :
    Ok X (bb + 6) (sb9 + 36) 245 [(0, .ref a0), (1, .int (i3 x1)), (2, .ref a2), (3, .ref a3), (4, .ref a4), (5, .ref a5), (6, .int (i3 x6)), (7, .int (i3 x7)), (8, .int (i3 x8))] [] n h := by
  refine ok_aload_n (pc := 245) hc dL_stage_245 rfl 0 rfl ?_
  refine ok_iload (pc := 246) hc dL_stage_246 8 rfl ?_
  refine ok_aload_n (pc := 248) hc dL_stage_248 rfl 3 rfl ?_
  refine ok_iload (pc := 249) hc dL_stage_249 7 rfl ?_
  exact ok_callS (pc := 251) (cb := bb) (sb := sb9) (st := []) hc [.ref a0, .int (i3 x8), .ref a3, .int (i3 x7)] cs_L_130 sp_L_type (by decide) dL_stage_251 rfl rfl rfl rfl (Nat.le_of_ble_eq_true rfl) P

set_option maxHeartbeats 4000000 in
set_option maxRecDepth 100000 in
theorem sL_stage_254 {X : Xt} {n : Nat} {h : HP} {a0 : Nat} {x1 : Int} {a2 : Nat} {a3 : Nat} {a4 : Nat} {a5 : Nat} {x6 : Int} {x7 : Int} {x8 : Int} {t0 : Int} {bb : Nat} {sb9 : Nat} (hc : Cx X cL_stage RL 9 8 158) {K : KT} (hr : CxR X (some .boolean) K) 
    (P : Ok X bb sb9 218 [(0, .ref a0), (1, .int (i3 x1)), (2, .ref a2), (3, .ref a3), (4, .ref a4), (5, .ref a5), (6, .int (i3 x6)), (7, .int (i3 t0)), (8, .int (i3 (x8 + 1)))] [] n h) :
    Ok X bb sb9 254 [(0, .ref a0), (1, .int (i3 x1)), (2, .ref a2), (3, .ref a3), (4, .ref a4), (5, .ref a5), (6, .int (i3 x6)), (7, .int (i3 x7)), (8, .int (i3 x8))] [.int (i3 t0)] n h := by
  refine ok_istore (pc := 254) hc (lv' := [(7, .int (i3 t0)), (0, .ref a0), (1, .int (i3 x1)), (2, .ref a2), (3, .ref a3), (4, .ref a4), (5, .ref a5), (6, .int (i3 x6)), (8, .int (i3 x8))]) dL_stage_254 (by decide) rfl ?_
  refine zk_iinc (pc := 256) hc (q := 8) (x := x8) (lv' := [(8, .int (i3 (x8 + 1))), (7, .int (i3 t0)), (0, .ref a0), (1, .int (i3 x1)), (2, .ref a2), (3, .ref a3), (4, .ref a4), (5, .ref a5), (6, .int (i3 x6))]) dL_stage_256 rfl (by decide) rfl ?_
  refine ok_goto (pc := 259) (tgt := 218) hc dL_stage_259 (by decide) ?_
  refine ok_lv [2, 3, 4, 5, 6, 7, 8, 1, 0] rfl ?_
  exact P

set_option maxHeartbeats 4000000 in
set_option maxRecDepth 100000 in
theorem sL_stage_262 {X : Xt} {n : Nat} {h : HP} {a0 : Nat} {x1 : Int} {a2 : Nat} {a3 : Nat} {a4 : Nat} {a5 : Nat} {x6 : Int} {x7 : Int} {x8 : Int} {bb : Nat} {sb9 : Nat} (hc : Cx X cL_stage RL 9 8 158) {K : KT} (hr : CxR X (some .boolean) K) 
    (P : spec_L_settle [.ref a2, .ref a3, .ref a4, .ref a5] n h (kc X bb sb9 268 [(0, .ref a0), (1, .int (i3 x1)), (2, .ref a2), (3, .ref a3), (4, .ref a4), (5, .ref a5), (6, .int (i3 x6)), (7, .int (i3 x7)), (8, .int (i3 x8))] [] n)) :
    Ok X bb sb9 262 [(0, .ref a0), (1, .int (i3 x1)), (2, .ref a2), (3, .ref a3), (4, .ref a4), (5, .ref a5), (6, .int (i3 x6)), (7, .int (i3 x7)), (8, .int (i3 x8))] [] n h := by
  refine ok_aload_n (pc := 262) hc dL_stage_262 rfl 2 rfl ?_
  refine ok_aload_n (pc := 263) hc dL_stage_263 rfl 3 rfl ?_
  refine ok_aload (pc := 264) hc dL_stage_264 4 rfl ?_
  refine ok_aload (pc := 266) hc dL_stage_266 5 rfl ?_
  exact ok_callS (pc := 268) (cb := bb) (sb := sb9) (st := []) hc [.ref a2, .ref a3, .ref a4, .ref a5] cs_L_105 sp_L_settle (by decide) dL_stage_268 rfl rfl rfl rfl (Nat.le_of_ble_eq_true rfl) P

set_option maxHeartbeats 4000000 in
set_option maxRecDepth 100000 in
theorem sL_stage_271 {X : Xt} {n : Nat} {h : HP} {a0 : Nat} {x1 : Int} {a2 : Nat} {a3 : Nat} {a4 : Nat} {a5 : Nat} {x6 : Int} {x7 : Int} {x8 : Int} {t0 : Int} {bb : Nat} {sb9 : Nat} {fs1 : List Value} (hc : Cx X cL_stage RL 9 8 158) {K : KT} (hr : CxR X (some .boolean) K) (e1 : At h n a0 (.inl (6, fs1))) (z1 : fs1.length = 6)
    (P : spec_X6_load [.ref a0] n h (kc X bb sb9 273 [(0, .ref a0), (1, .int (i3 x1)), (2, .ref a2), (3, .ref a3), (4, .ref a4), (5, .ref a5), (6, .int (i3 x6)), (7, .int (i3 x7)), (8, .int (i3 x8))] [] n)) :
    Ok X (bb + 1) (sb9 + 6) 271 [(0, .ref a0), (1, .int (i3 x1)), (2, .ref a2), (3, .ref a3), (4, .ref a4), (5, .ref a5), (6, .int (i3 x6)), (7, .int (i3 x7)), (8, .int (i3 x8))] [.int (i3 t0)] n h := by
  refine ok_pop (pc := 271) hc dL_stage_271 rfl ?_
  refine ok_aload_n (pc := 272) hc dL_stage_272 rfl 0 rfl ?_
  exact ok_callV (pc := 273) (a := a0) (cb := bb) (sb := sb9) (st := []) hc [] cv_L_134 sp_X6_load (by decide) dL_stage_273 rfl e1.1 e1.2 rfl rfl rfl (Nat.le_of_ble_eq_true rfl) P

set_option maxHeartbeats 4000000 in
set_option maxRecDepth 100000 in
theorem sL_stage_276 {X : Xt} {n : Nat} {h : HP} {a0 : Nat} {x1 : Int} {a2 : Nat} {a3 : Nat} {a4 : Nat} {a5 : Nat} {x6 : Int} {x7 : Int} {x8 : Int} {t0 : Int} {bb : Nat} {sb9 : Nat} (hc : Cx X cL_stage RL 9 8 158) {K : KT} (hr : CxR X (some .boolean) K) 
    (P : (R3 t0) ∧ (¬ t0 = 4 → K (.inl (some (.int (i3 0)))) n h) ∧ (t0 = 4 → K (.inl (some (.int (i3 1)))) n h)) :
    Ok X bb sb9 276 [(0, .ref a0), (1, .int (i3 x1)), (2, .ref a2), (3, .ref a3), (4, .ref a4), (5, .ref a5), (6, .int (i3 x6)), (7, .int (i3 x7)), (8, .int (i3 x8))] [.int (i3 t0)] n h := by
  refine ok_iconst (pc := 276) hc (v := i3 4) dL_stage_276 (by decide) ?_
  obtain ⟨r1, P⟩ := P
  refine zk_icmp_ne (pc := 277) (tgt := 284) hc dL_stage_277 (by decide) r1 ⟨by decide, by decide⟩ (fun c => ?_) (fun c => ?_)
  · have P := P.1 c
    refine ok_iconst (pc := 284) hc (v := i3 0) dL_stage_284 (by decide) ?_
    exact ok_zret (st := []) (pc := 285) hc (nar_z (by decide)) hr dL_stage_285 P
  · have P := P.2 c
    refine ok_iconst (pc := 280) hc (v := i3 1) dL_stage_280 (by decide) ?_
    refine ok_goto (pc := 281) (tgt := 285) hc dL_stage_281 (by decide) ?_
    exact ok_zret (st := []) (pc := 285) hc (nar_z (by decide)) hr dL_stage_285 P

theorem endP_ne {q : RdQ} {ps : List Part} (h : endP q = some ps) : ps ≠ [] := by
  intro z
  subst z
  unfold endP at h
  split at h
  · cases h
  · split at h
    · split at h
      · cases h
      · have := Option.some.inj h
        simp at this
    · split at h
      · cases h
      · have := Option.some.inj h
        simp at this
theorem RdE.pos {B : List Int} {ps : List Part} (h : RdE B ps) : 0 < B.length := by
  obtain ⟨q, h1, h2, h3⟩ := h
  cases B with
  | nil =>
    obtain rfl : RQ0 = q := Option.some.inj h1
    exact absurd rfl h3
  | cons c B => exact Nat.succ_pos _
theorem Rtp.bad : ∀ {B : List Int} {q q' : RdQ} {c : Int}, Rtp q B q' → rstep q' c = none → (rrun q (B ++ [c])).1 = B.length
  | [], q, q', c, h, s => by
    obtain rfl : q = q' := Option.some.inj h
    show (match rstep q c with
      | none => ((0, none) : Nat × Option RdQ)
      | some q' => ((rrun q' []).1 + 1, (rrun q' []).2)).1 = 0
    rw [s]
  | b :: B, q, q', c, h, s => by
    have h : (match rstep q b with
      | none => ((0, none) : Nat × Option RdQ)
      | some q' => ((rrun q' B).1 + 1, (rrun q' B).2)).2 = some q' := h
    show (match rstep q b with
      | none => ((0, none) : Nat × Option RdQ)
      | some q' => ((rrun q' (B ++ [c])).1 + 1, (rrun q' (B ++ [c])).2)).1 = B.length + 1
    cases e : rstep q b with
    | none => rw [e] at h; cases h
    | some q2 =>
      rw [e] at h
      exact congrArg (· + 1) (Rtp.bad (q := q2) h s)
/-- the text of the parts l -/
def TxI (B : List Int) (l : List Part) : Prop := (l = [] ∧ B = []) ∨ (RdE B l ∧ ∀ p, l.getLast? = some p → p.1 = 2 → ferr (B ++ [57]) = B.length)
theorem TxI.s0 {B : List Int} (h : TxI B []) : B = [] := by
  rcases h with h | ⟨⟨q, h1, h2, h3⟩, _⟩
  · exact h.2
  · exact absurd rfl (endP_ne h2)
theorem TxI.s1 {B : List Int} {l : List Part} (h : TxI B l) (hl : l ≠ []) : RdE B l := by
  rcases h with h | h
  · exact absurd h.1 hl
  · exact h.1
theorem RdS.ti {B : List Int} {l : List Part} {p : Part} (h : RdS B l) (hp : PW p) : TxI (B ++ tx p) (l ++ [p]) := by
  refine Or.inr ⟨h.t hp, fun r hr h2 => ?_⟩
  rw [List.getLast?_append] at hr
  obtain rfl : p = r := Option.some.inj hr
  obtain ⟨D, h1⟩ := h
  obtain ⟨q, k1, k2, k3, k4⟩ := tx_run hp (D := D) (ps := l)
  refine (h1.app k1).bad ?_
  unfold rstep
  rw [if_neg (by rw [k3]; omega), if_neg (by decide), if_neg (by rw [k3]; omega)]
  unfold stepD
  rw [if_neg]
  intro z
  have := k4 h2
  omega
set_option maxHeartbeats 4000000 in
theorem stg_1 {X : Xt} {n d a e f : Nat} {h : HP} {q : Dsk} {Fd F : Nat → Int} {ps : List Part} {x1 x6 : Int} {bb sb9 : Nat} (hc : Cx X cL_stage RL 9 8 158) {K : KT} (hr : CxR X (some .boolean) K) (D : D4 d a e f) (hP : PaF F ps) (hl : ps.length = 4) (k : ∀ hh B, V4 h n d a e f (qB q B) Fd F hh → TxI B ps → B.length ≤ 28 → Ok X bb sb9 177 [(0, .ref 0), (1, .int (i3 x1)), (2, .ref d), (3, .ref a), (4, .ref e), (5, .ref f), (6, .int (i3 x6)), (7, .int (i3 (B.length : Nat))), (8, .int (i3 4))] [] n hh) : ∀ (j i : Nat), i + j = 4 → ∀ hh B, V4 h n d a e f (qB q B) Fd F hh → TxI B (ps.take i) → B.length ≤ 7 * i → Ok X (bb + 7 * j) (sb9 + 42 * j) 126 [(0, .ref 0), (1, .int (i3 x1)), (2, .ref d), (3, .ref a), (4, .ref e), (5, .ref f), (6, .int (i3 x6)), (7, .int (i3 (B.length : Nat))), (8, .int (i3 (i : Nat)))] [] n hh := by
  intro j
  induction j with
  | zero =>
    intro i hi hh B hw hT hB
    obtain rfl : i = 4 := by omega
    rw [List.take_of_length_le (by omega)] at hT
    exact sL_stage_126 hc hr ⟨R3_s (by omega), fun _ => k hh B hw hT (by omega), fun z => absurd (by omega) z⟩
  | succ j ih =>
    intro i hi hh B hw hT hB
    have hp : ps[i]? = some ps[i] := List.getElem?_eq_getElem (by omega)
    generalize ps[i] = p at hp
    have hpw := hP.2.2.1 p (List.mem_of_getElem? hp)
    have ets := take_s hp
    refine sL_stage_126 hc hr ⟨R3_s (by omega), fun z => absurd z (by omega), fun _ => ?_⟩
    have go : ∀ (B : List Int) (h1 : HP), V4 h n d a e f (qB q B) Fd F h1 → RdS B (ps.take i) → B.length ≤ 7 * i + 1 → Ok X (bb + 7 * j + 6) (sb9 + 42 * j + 36) 153 [(0, .ref 0), (1, .int (i3 x1)), (2, .ref d), (3, .ref a), (4, .ref e), (5, .ref f), (6, .int (i3 x6)), (7, .int (i3 (B.length : Nat))), (8, .int (i3 (i : Nat)))] [] n h1 := fun B h1 hw1 hS hB => by
      refine sL_stage_153 (bb := bb + 7 * j) (sb9 := sb9 + 42 * j) hc hr (type_ok hw1 D hP hp hS (by omega) (fun h2 hw2 => ⟨rfl, ?_⟩))
      have hlen : (B ++ tx p).length ≤ 7 * (i + 1) := by
        rw [List.length_append]
        have := tx_len (p := p)
        omega
      refine sL_stage_162 (t0 := ((B ++ tx p).length : Nat)) hc hr ⟨R3_s (by omega), fun _ => ?_, fun z => absurd (by omega) z⟩
      exact ih (i + 1) (by omega) h2 (B ++ tx p) hw2 (by rw [ets]; exact hS.ti hpw) hlen
    by_cases z0 : i = 0
    · subst z0
      have eB := hT.s0
      subst eB
      refine sL_stage_132 hc hr ⟨R3_s (by omega), fun _ => ?_, fun z => absurd (by omega) z⟩
      exact (go [] hh hw RdS.nil (by omega)).up (by omega) (by omega)
    · have hne : ps.take i ≠ [] := fun z => by
        have := congrArg List.length z
        rw [List.length_take] at this
        have : min i ps.length = 0 := this
        omega
      have hE := hT.s1 hne
      refine sL_stage_132 hc hr ⟨R3_s (by omega), fun z => absurd z (by omega), fun _ => ?_⟩
      refine sL_stage_137 (bb := bb + 7 * j + 6) (sb9 := sb9 + 42 * j + 36) hc hr hw.1.1 rfl (app_ok4 hw D (by decide) (by omega) (fun h1 hw1 => ⟨rfl, ?_⟩))
      have l1 : ((B ++ [59]).length : Nat) = B.length + 1 := by rw [List.length_append]; rfl
      have g := go (B ++ [59]) h1 hw1 hE.s (by omega)
      have e1 : (((B ++ [59]).length : Nat) : Int) = (B.length : Int) + 1 := by rw [l1]; rfl
      rw [e1] at g
      exact sL_stage_143 hc hr ⟨R3_s (by omega), R3_s (by omega), fun _ => g, fun z => absurd rfl z⟩
set_option maxHeartbeats 4000000 in
theorem stg_2 {X : Xt} {n d a e f : Nat} {h : HP} {q : Dsk} {Fd F : Nat → Int} {ps : List Part} {x1 x6 : Int} {bb sb9 : Nat} (hc : Cx X cL_stage RL 9 8 158) {K : KT} (hr : CxR X (some .boolean) K) (D : D4 d a e f) (hP : PaF F ps) (hl : ps.length = 4) (k : ∀ hh B, V4 h n d a e f (qB q B) Fd F hh → TxI B ps → B.length ≤ 28 → Ok X bb sb9 262 [(0, .ref 0), (1, .int (i3 x1)), (2, .ref d), (3, .ref a), (4, .ref e), (5, .ref f), (6, .int (i3 x6)), (7, .int (i3 (B.length : Nat))), (8, .int (i3 4))] [] n hh) : ∀ (j i : Nat), i + j = 4 → ∀ hh B, V4 h n d a e f (qB q B) Fd F hh → TxI B (ps.take i) → B.length ≤ 7 * i → Ok X (bb + 7 * j) (sb9 + 42 * j) 218 [(0, .ref 0), (1, .int (i3 x1)), (2, .ref d), (3, .ref a), (4, .ref e), (5, .ref f), (6, .int (i3 x6)), (7, .int (i3 (B.length : Nat))), (8, .int (i3 (i : Nat)))] [] n hh := by
  intro j
  induction j with
  | zero =>
    intro i hi hh B hw hT hB
    obtain rfl : i = 4 := by omega
    rw [List.take_of_length_le (by omega)] at hT
    exact sL_stage_218 hc hr ⟨R3_s (by omega), fun _ => k hh B hw hT (by omega), fun z => absurd (by omega) z⟩
  | succ j ih =>
    intro i hi hh B hw hT hB
    have hp : ps[i]? = some ps[i] := List.getElem?_eq_getElem (by omega)
    generalize ps[i] = p at hp
    have hpw := hP.2.2.1 p (List.mem_of_getElem? hp)
    have ets := take_s hp
    refine sL_stage_218 hc hr ⟨R3_s (by omega), fun z => absurd z (by omega), fun _ => ?_⟩
    have go : ∀ (B : List Int) (h1 : HP), V4 h n d a e f (qB q B) Fd F h1 → RdS B (ps.take i) → B.length ≤ 7 * i + 1 → Ok X (bb + 7 * j + 6) (sb9 + 42 * j + 36) 245 [(0, .ref 0), (1, .int (i3 x1)), (2, .ref d), (3, .ref a), (4, .ref e), (5, .ref f), (6, .int (i3 x6)), (7, .int (i3 (B.length : Nat))), (8, .int (i3 (i : Nat)))] [] n h1 := fun B h1 hw1 hS hB => by
      refine sL_stage_245 (bb := bb + 7 * j) (sb9 := sb9 + 42 * j) hc hr (type_ok hw1 D hP hp hS (by omega) (fun h2 hw2 => ⟨rfl, ?_⟩))
      have hlen : (B ++ tx p).length ≤ 7 * (i + 1) := by
        rw [List.length_append]
        have := tx_len (p := p)
        omega
      refine sL_stage_254 (t0 := ((B ++ tx p).length : Nat)) hc hr ?_
      exact ih (i + 1) (by omega) h2 (B ++ tx p) hw2 (by rw [ets]; exact hS.ti hpw) hlen
    by_cases z0 : i = 0
    · subst z0
      have eB := hT.s0
      subst eB
      refine sL_stage_224 hc hr ⟨R3_s (by omega), fun _ => ?_, fun z => absurd (by omega) z⟩
      exact (go [] hh hw RdS.nil (by omega)).up (by omega) (by omega)
    · have hne : ps.take i ≠ [] := fun z => by
        have := congrArg List.length z
        rw [List.length_take] at this
        have : min i ps.length = 0 := this
        omega
      have hE := hT.s1 hne
      refine sL_stage_224 hc hr ⟨R3_s (by omega), fun z => absurd z (by omega), fun _ => ?_⟩
      refine sL_stage_229 (bb := bb + 7 * j + 6) (sb9 := sb9 + 42 * j + 36) hc hr hw.1.1 rfl (app_ok4 hw D (by decide) (by omega) (fun h1 hw1 => ⟨rfl, ?_⟩))
      have l1 : ((B ++ [59]).length : Nat) = B.length + 1 := by rw [List.length_append]; rfl
      have g := go (B ++ [59]) h1 hw1 hE.s (by omega)
      have e1 : (((B ++ [59]).length : Nat) : Int) = (B.length : Int) + 1 := by rw [l1]; rfl
      rw [e1] at g
      exact sL_stage_235 hc hr ⟨R3_s (by omega), R3_s (by omega), fun _ => g, fun z => absurd rfl z⟩
theorem clr_ok {h hh : HP} {n d a e f : Nat} {q : Dsk} {B : List Int} {Fd F : Nat → Int} (w : V4 h n d a e f (qB q B) Fd F hh) (D : D4 d a e f) {K : KT} (k : ∀ h', V4 h n d a e f (qB q []) Fd F h' → K (.inl (some (.int (i3 (B.length : Nat))))) n h') : spec_X6_clearInput [.ref 0] n hh K :=
  ⟨qB q B, rfl, w.1, fun h' hq' g => k h' (w.fr D hq' g)⟩
theorem pw_a2 {t : Bool} {r : Int} (h : 1 ≤ r ∧ r ≤ 4) : PW (0, if t then 0 else 1, 2, r) := by
  cases t with
  | true => exact Or.inl ⟨rfl, (by decide : (0 : Int) ≤ 0), (by decide : (0 : Int) ≤ 6), (by decide : (0 : Int) ≤ 2), (by decide : (2 : Int) ≤ 6), h.1, h.2⟩
  | false => exact Or.inl ⟨rfl, (by decide : (0 : Int) ≤ 1), (by decide : (1 : Int) ≤ 6), (by decide : (0 : Int) ≤ 2), (by decide : (2 : Int) ≤ 6), h.1, h.2⟩
theorem pw_a4 {t : Bool} : PW (2, if t then 2 else 0, if t then 1 else 2, 3) := by
  cases t with
  | true => exact Or.inr (Or.inr ⟨rfl, (by decide : (0 : Int) ≤ 2), (by decide : (2 : Int) ≤ 6), (by decide : (0 : Int) ≤ 1), (by decide : (1 : Int) ≤ 6), (by decide : (0 : Int) ≤ 3), (by decide : (3 : Int) ≤ 6)⟩)
  | false => exact Or.inr (Or.inr ⟨rfl, (by decide : (0 : Int) ≤ 0), (by decide : (0 : Int) ≤ 6), (by decide : (0 : Int) ≤ 2), (by decide : (2 : Int) ≤ 6), (by decide : (0 : Int) ≤ 3), (by decide : (3 : Int) ≤ 6)⟩)
/-- what the law's stage puts -/
def stP (v r1 r2 : Int) (t : Bool) : List Part := [(1, 1, -1, v), (0, if t then 0 else 1, 2, r1), (0, 2, 3, r2), (2, if t then 2 else 0, if t then 1 else 2, 3)]
theorem stP_gd {v r1 r2 : Int} {t : Bool} (hv : -200 ≤ v ∧ v ≤ 200) (h1 : 1 ≤ r1 ∧ r1 ≤ 4) (h2 : 1 ≤ r2 ∧ r2 ≤ 4) : GdP (stP v r1 r2 t) := by
  have a1 : PW (1, 1, -1, v) := Or.inr (Or.inl ⟨rfl, (by decide : (0 : Int) ≤ 1), (by decide : (1 : Int) ≤ 6), rfl, hv.1, hv.2⟩)
  have a2 : PW (0, if t then 0 else 1, 2, r1) := pw_a2 h1
  have a3 : PW (0, 2, 3, r2) := Or.inl ⟨rfl, (by decide : (0 : Int) ≤ 2), (by decide : (2 : Int) ≤ 6), (by decide : (0 : Int) ≤ 3), (by decide : (3 : Int) ≤ 6), h2.1, h2.2⟩
  have a4 : PW (2, if t then 2 else 0, if t then 1 else 2, 3) := pw_a4
  have g1 := gdP_nil.snoc (p := (1, 1, -1, v)) (by decide) a1 rfl (fun z => absurd z (by show ¬ (1 : Int) = 2; decide)) (fun _ r hr => absurd hr List.not_mem_nil)
  have g2 := g1.snoc (p := (0, if t then 0 else 1, 2, r1)) (by show 1 < 12; decide) a2 (by cases t <;> rfl) (fun z => absurd z (by show ¬ (0 : Int) = 2; decide)) (fun z => absurd rfl z)
  have g3 := g2.snoc (p := (0, 2, 3, r2)) (by show 2 < 12; decide) a3 rfl (fun z => absurd z (by show ¬ (0 : Int) = 2; decide)) (fun z => absurd rfl z)
  have g4 := g3.snoc (p := (2, if t then 2 else 0, if t then 1 else 2, 3)) (by show 3 < 12; decide) a4 (by cases t <;> rfl) (fun _ => by show (0 : Nat) < 3; decide) (fun _ r hr => by
    have hr : r ∈ [((1 : Int), (1 : Int), (-1 : Int), v), (0, if t then 0 else 1, 2, r1), (0, 2, 3, r2)] := hr
    rcases List.mem_cons.mp hr with e | hr
    · subst e; rfl
    · rcases List.mem_cons.mp hr with e | hr
      · subst e; rfl
      · rw [List.mem_singleton.mp hr]; rfl)
  exact g4
def spec_L_stage (args : List Value) (n : Nat) (h : HP) (K : KT) : Prop := ∃ (q : Dsk) (x : Int) (d a e f : Nat), args = [.ref 0, .int (i3 x), .ref d, .ref a, .ref e, .ref f] ∧ D4 d a e f ∧ W4 h n d a e f q h ∧ OkF q ∧ ∀ h' q', W4 h n d a e f q' h' → HR q q' → OkF q' → K (.inl (some (.int (i3 1)))) n h'
set_option maxHeartbeats 16000000 in
theorem sp_L_stage : Sp yL_stage cL_stage 9 (some .boolean) 8 158 58 348 spec_L_stage := by
  refine sp_intro (by decide) (by rintro args n h K ⟨q, x, d, a, e, f, rfl, -⟩; exact Nat.le_of_ble_eq_true rfl) ?_
  rintro X args n h K hc hr ⟨q, x, d, a, e, f, rfl, D, ⟨Fd, F, hw, hD, hP⟩, hO, kk⟩
  have hG := hw.1.gd.1
  have hl := hP.1
  have d0 : Fd (0 : Int).toNat = q.1.1.length := hD.1
  refine sL_stage_0 (bb := 58) (sb9 := 348) hc hr hw.2.1 ?_
  rw [d0]
  refine ⟨⟨by decide, by decide, by decide⟩, R3_s (by omega), fun y => ?_, fun _ => kk h q ⟨Fd, F, hw, hD, hP⟩ (Or.inl rfl) hO⟩
  have e0 : q.1.1 = [] := List.eq_nil_of_length_eq_zero (by omega)
  have hP0 : PaF F [] := by rw [← e0]; exact hP
  have hd0 : Fd 0 = (([] : List Part).length : Nat) := by rw [hD.1, e0]
  refine sL_stage_8 hc hr ⟨x, 3, rfl, ⟨by decide, by decide⟩, fun z hz0 hz3 => ⟨rfl, ?_⟩⟩
  -- behind the trigger
  have go : ∀ t : Bool, spec_L_at [.int (i3 (bshr x 2)), .int (i3 401)] n h (kc X 58 348 32 [(0, .ref 0), (1, .int (i3 x)), (2, .ref d), (3, .ref a), (4, .ref e), (5, .ref f), (6, .int (i3 (bz t)))] [.int (i3 (-1)), .int (i3 1), .int (i3 1)] n) := fun t => by
    refine ⟨_, 401, rfl, ⟨by decide, by decide⟩, fun w hw0 hw4 => ⟨rfl, ?_⟩⟩
    have hv : -200 ≤ w - 200 ∧ w - 200 ≤ 200 := ⟨by omega, by omega⟩
    have a1 : PW (1, 1, -1, w - 200) := Or.inr (Or.inl ⟨rfl, (by decide : (0 : Int) ≤ 1), (by decide : (1 : Int) ≤ 6), rfl, hv.1, hv.2⟩)
    refine sL_stage_35 hc hr (put_ok hw D hd0 hP0 (by decide) a1 ⟨rfl, rfl, fun z => absurd rfl z, R3_s (by decide), rfl⟩ (fun h1 F1 hw1 hP1 => ⟨rfl, ?_⟩))
    have put2 : ∀ s : Int, s = (if t then 0 else 1) → spec_L_at [.int (i3 (bshr x 4)), .int (i3 4)] n h1 (kc X 58 348 61 [(0, .ref 0), (1, .int (i3 x)), (2, .ref d), (3, .ref a), (4, .ref e), (5, .ref f), (6, .int (i3 (bz t)))] [.int (i3 1), .int (i3 2), .int (i3 s), .int (i3 0)] n) := fun s hs => by
      subst hs
      refine ⟨_, 4, rfl, ⟨by decide, by decide⟩, fun u hu0 hu4 => ⟨rfl, ?_⟩⟩
      have h1r : 1 ≤ 1 + u ∧ 1 + u ≤ 4 := ⟨by omega, by omega⟩
      have a2 : PW (0, if t then 0 else 1, 2, 1 + u) := pw_a2 h1r
      refine sL_stage_64 hc hr (put_ok hw1 D (ps := [(1, 1, -1, w - 200)]) up_self hP1 (show 1 < 12 by decide) a2 ⟨rfl, rfl, fun _ => rfl, R3_s (x := 2) (by decide), rfl⟩ (fun h2 F2 hw2 hP2 => ⟨rfl, ?_⟩))
      refine sL_stage_70 hc hr ⟨_, 4, rfl, ⟨by decide, by decide⟩, fun r hr0 hr4 => ⟨rfl, ?_⟩⟩
      have h2r : 1 ≤ 1 + r ∧ 1 + r ≤ 4 := ⟨by omega, by omega⟩
      have a3 : PW (0, 2, 3, 1 + r) := Or.inl ⟨rfl, (by decide : (0 : Int) ≤ 2), (by decide : (2 : Int) ≤ 6), (by decide : (0 : Int) ≤ 3), (by decide : (3 : Int) ≤ 6), h2r.1, h2r.2⟩
      refine sL_stage_82 hc hr (put_ok hw2 D (ps := [(1, 1, -1, w - 200), (0, if t then 0 else 1, 2, 1 + u)]) up_self hP2 (show 2 < 12 by decide) a3 ⟨rfl, rfl, fun _ => rfl, R3_s (x := 3) (by decide), rfl⟩ (fun h3 F3 hw3 hP3 => ⟨rfl, ?_⟩))
      have a4 : PW (2, if t then 2 else 0, if t then 1 else 2, 3) := pw_a4
      have last : ∀ s1 s2 : Int, s1 = (if t then 2 else 0) → s2 = (if t then 1 else 2) → Ok X 58 348 112 [(0, .ref 0), (1, .int (i3 x)), (2, .ref d), (3, .ref a), (4, .ref e), (5, .ref f), (6, .int (i3 (bz t)))] [.ref a, .ref d, .int (i3 3), .int (i3 s2), .int (i3 s1), .int (i3 2)] n h3 := fun s1 s2 e1 e2 => by
        subst e1; subst e2
        refine sL_stage_112 hc hr (put_ok hw3 D (ps := [(1, 1, -1, w - 200), (0, if t then 0 else 1, 2, 1 + u), (0, 2, 3, 1 + r)]) up_self hP3 (show 3 < 12 by decide) a4 ⟨rfl, rfl, fun _ => rfl, R3_s (by cases t <;> decide), rfl⟩ (fun h4 F4 hw4 hP4 => ⟨rfl, ?_⟩))
        have hPS : PaF F4 (stP (w - 200) (1 + u) (1 + r) t) := hP4
        have hGP := stP_gd (t := t) hv h1r h2r
        have hlp : (stP (w - 200) (1 + u) (1 + r) t).length = 4 := rfl
        have hlast : (stP (w - 200) (1 + u) (1 + r) t).getLast? = some (2, if t then 2 else 0, if t then 1 else 2, 3) := rfl
        have eF : ∀ j : Nat, j ≠ 0 → va_up (va_up (va_up (va_up Fd 0 ((([] : List Part).length : Int) + 1)) 0 (([((1 : Int), (1 : Int), (-1 : Int), w - 200)].length : Int) + 1)) 0 (([((1 : Int), (1 : Int), (-1 : Int), w - 200), (0, if t then 0 else 1, 2, 1 + u)].length : Int) + 1)) 0 (([((1 : Int), (1 : Int), (-1 : Int), w - 200), (0, if t then 0 else 1, 2, 1 + u), (0, 2, 3, 1 + r)].length : Int) + 1) j = Fd j := fun j hj => by rw [up_ne hj, up_ne hj, up_ne hj, up_ne hj]
        have hDF : DFS (va_up (va_up (va_up (va_up Fd 0 ((([] : List Part).length : Int) + 1)) 0 (([((1 : Int), (1 : Int), (-1 : Int), w - 200)].length : Int) + 1)) 0 (([((1 : Int), (1 : Int), (-1 : Int), w - 200), (0, if t then 0 else 1, 2, 1 + u)].length : Int) + 1)) 0 (([((1 : Int), (1 : Int), (-1 : Int), w - 200), (0, if t then 0 else 1, 2, 1 + u), (0, 2, 3, 1 + r)].length : Int) + 1)) (stP (w - 200) (1 + u) (1 + r) t, q.1.2) := ⟨up_self, (eF 1 (by decide)).trans hD.2.1, (eF 2 (by decide)).trans hD.2.2.1, (eF 3 (by decide)).trans hD.2.2.2⟩
        generalize va_up (va_up (va_up (va_up Fd 0 ((([] : List Part).length : Int) + 1)) 0 (([((1 : Int), (1 : Int), (-1 : Int), w - 200)].length : Int) + 1)) 0 (([((1 : Int), (1 : Int), (-1 : Int), w - 200), (0, if t then 0 else 1, 2, 1 + u)].length : Int) + 1)) 0 (([((1 : Int), (1 : Int), (-1 : Int), w - 200), (0, if t then 0 else 1, 2, 1 + u), (0, 2, 3, 1 + r)].length : Int) + 1) = Fd4 at hw4 hDF
        generalize stP (w - 200) (1 + u) (1 + r) t = ps at hPS hGP hlp hlast hDF
        have hGa : GdP (q.1.1 ++ ps) := by rw [e0]; exact hGP
        have hGS : GdS (ps, q.1.2) := by
          have := hG.app hGa
          rw [e0] at this
          exact this
        -- the second text, and the end
        have fin : ∀ hh B, V4 h n d a e f (qB q B) Fd4 F4 hh → TxI B ps → B.length ≤ 28 → Ok X 1 6 262 [(0, .ref 0), (1, .int (i3 x)), (2, .ref d), (3, .ref a), (4, .ref e), (5, .ref f), (6, .int (i3 (bz t))), (7, .int (i3 (B.length : Nat))), (8, .int (i3 4))] [] n hh := fun hh B hw5 hT5 hB5 => by
          refine sL_stage_262 hc hr (st_ok hw5 D hDF hPS hGS (fun h6 Fd6 hw6 hD6 => ⟨rfl, ?_⟩))
          have lv := load_v (q := q) (hT5.s1 (fun z => by rw [z] at hlp; cases hlp)) hGa
          refine sL_stage_271 (t0 := if (setS (ps, q.1.2)).2.2.1 = q.1.2.2.1 then 0 else 1) (bb := 0) (sb9 := 0) hc hr hw6.1.1 rfl ⟨qB q B, rfl, hw6.1, ?_⟩
          rw [lv, e0]
          intro h7 hq7 f7
          refine ⟨rfl, sL_stage_276 (t0 := ((([] : List Part).length : Int) + ps.length)) hc hr ?_⟩
          rw [hlp]
          refine ⟨R3_s (by decide), fun z => absurd rfl z, fun _ => ?_⟩
          refine kk h7 _ ⟨Fd6, F4, hw6.fr D hq7 f7, hD6, by rw [show (setS (([] : List Part) ++ ps, q.1.2)).1 = ps from setS_1 _]; exact hPS⟩ (Or.inr rfl) ?_
          exact hO.push (T := ([] ++ ps, q.1.2)) hGS
        have two := stg_2 (x1 := x) (x6 := bz t) hc hr D hPS hlp fin
        have one := stg_1 (n := n) (h := h) (q := q) (Fd := Fd4) (x1 := x) (x6 := bz t) (bb := 30) (sb9 := 180) hc hr D hPS hlp (fun hh B hw5 hT5 hB5 => by
          refine sL_stage_177 (bb := 29) (sb9 := 174) hc hr hw5.1.1 rfl (app_ok4 hw5 D (by decide) (by omega) (fun h6 hw6 => ⟨rfl, ?_⟩))
          refine sL_stage_183 hc hr ⟨R3_s (by omega), R3_s (by omega), fun z => absurd rfl z, fun _ => ?_⟩
          have hf9 : ferr (B ++ [57]) = B.length := by
            rcases hT5 with z | z
            · rw [z.1] at hlp
              cases hlp
            · exact z.2 _ hlast rfl
          refine sL_stage_190 hc hr hw6.1.1 rfl ⟨_, rfl, hw6.1, fun h7 hq7 f7 => ⟨rfl, ?_⟩⟩
          show Ok X 29 174 194 _ [.int (i3 (ferr (B ++ [57])))] n h7
          rw [hf9]
          have hw7 := hw6.fr D hq7 f7
          refine sL_stage_194 hc hr ⟨R3_s (by omega), R3_s (by omega), fun z => absurd rfl z, fun _ => ?_⟩
          refine sL_stage_199 hc hr hw7.1.1 rfl (clr_ok hw7 D (fun h8 hw8 => ⟨rfl, ?_⟩))
          have e57 : (((B ++ [57]).length : Nat) : Int) = (B.length : Int) + 1 := by rw [List.length_append]; rfl
          refine sL_stage_203 (t0 := ((B ++ [57]).length : Nat)) hc hr ?_
          rw [e57]
          refine ⟨R3_s (by omega), R3_s (by omega), fun _ => ?_, fun z => absurd rfl z⟩
          exact (two 4 0 rfl h8 [] hw8 (Or.inl ⟨rfl, rfl⟩) (Nat.zero_le _)).up (by omega) (by omega)) 4 0 rfl
        have hw4 : V4 h n d a e f (qB q q.2.2.2.2) Fd4 F4 h4 := hw4
        refine sL_stage_115 hc hr hw4.1.1 rfl (clr_ok hw4 D (fun h5 hw5 => ⟨rfl, ?_⟩))
        refine sL_stage_122 hc hr ?_
        exact (one h5 [] hw5 (Or.inl ⟨rfl, rfl⟩) (Nat.zero_le _)).up (by omega) (by omega)
      cases t with
      | true => exact sL_stage_88 hc hr ⟨R3_s (by decide), fun z => absurd z (by decide), fun _ => ⟨R3_s (by decide), fun z => absurd z (by decide), fun _ => last _ _ rfl rfl⟩⟩
      | false => exact sL_stage_88 hc hr ⟨R3_s (by decide), fun _ => ⟨R3_s (by decide), fun _ => last _ _ rfl rfl, fun z => absurd rfl z⟩, fun z => absurd rfl z⟩
    cases t with
    | true => exact sL_stage_44 hc hr ⟨R3_s (by decide), fun z => absurd z (by decide), fun _ => put2 _ rfl⟩
    | false => exact sL_stage_44 hc hr ⟨R3_s (by decide), fun _ => put2 _ rfl, fun z => absurd rfl z⟩
  exact sL_stage_13 hc hr ⟨R3_s (by omega), fun _ => go false, fun _ => go true⟩
