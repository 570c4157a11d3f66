/-! part a36: the law's act -/
set_option maxHeartbeats 4000000 in
set_option maxRecDepth 100000 in
theorem sL_act_0 {X : Xt} {n : Nat} {h : HP} {a0 : Nat} {x1 : Int} {x2 : Int} {x3 : Int} {a4 : Nat} {a5 : Nat} {a6 : Nat} {a7 : Nat} {bb : Nat} {sb9 : Nat} (hc : Cx X cL_act RL 13 9 194) {K : KT} (hr : CxR X (some .boolean) K) 
    (P : (R3 x1) ∧ (6 ≤ x1 → Ok X bb sb9 21 [(0, .ref a0), (1, .int (i3 x1)), (2, .int (i3 x2)), (3, .int (i3 x3)), (4, .ref a4), (5, .ref a5), (6, .ref a6), (7, .ref a7)] [] n h) ∧ (¬ 6 ≤ x1 → Ok X bb sb9 6 [(0, .ref a0), (1, .int (i3 x1)), (2, .int (i3 x2)), (3, .int (i3 x3)), (4, .ref a4), (5, .ref a5), (6, .ref a6), (7, .ref a7)] [] n h)) :
    Ok X bb sb9 0 [(0, .ref a0), (1, .int (i3 x1)), (2, .int (i3 x2)), (3, .int (i3 x3)), (4, .ref a4), (5, .ref a5), (6, .ref a6), (7, .ref a7)] [] n h := by
  refine ok_iload_n (pc := 0) hc dL_act_0 rfl 1 rfl ?_
  refine ok_bipush (pc := 1) hc (v := i3 6) dL_act_1 (by decide) ?_
  obtain ⟨r1, P⟩ := P
  refine zk_icmp_ge (pc := 3) (tgt := 21) hc dL_act_3 (by decide) r1 ⟨by decide, by decide⟩ (fun c => ?_) (fun c => ?_)
  · have P := P.1 c
    exact P
  · have P := P.2 c
    exact P

set_option maxHeartbeats 4000000 in
set_option maxRecDepth 100000 in
theorem sL_act_6 {X : Xt} {n : Nat} {h : HP} {a0 : Nat} {x1 : Int} {x2 : Int} {x3 : Int} {a4 : Nat} {a5 : Nat} {a6 : Nat} {a7 : Nat} {bb : Nat} {sb9 : Nat} (hc : Cx X cL_act RL 13 9 194) {K : KT} (hr : CxR X (some .boolean) K) 
    (P : spec_L_load [.ref a0, .int (i3 x2), .int (i3 x3), .ref a4, .ref a5, .ref a6, .ref a7] n h (kc X bb sb9 17 [(0, .ref a0), (1, .int (i3 x1)), (2, .int (i3 x2)), (3, .int (i3 x3)), (4, .ref a4), (5, .ref a5), (6, .ref a6), (7, .ref a7)] [] n)) :
    Ok X (bb + 22) (sb9 + 132) 6 [(0, .ref a0), (1, .int (i3 x1)), (2, .int (i3 x2)), (3, .int (i3 x3)), (4, .ref a4), (5, .ref a5), (6, .ref a6), (7, .ref a7)] [] n h := by
  refine ok_aload_n (pc := 6) hc dL_act_6 rfl 0 rfl ?_
  refine ok_iload_n (pc := 7) hc dL_act_7 rfl 2 rfl ?_
  refine ok_iload_n (pc := 8) hc dL_act_8 rfl 3 rfl ?_
  refine ok_aload (pc := 9) hc dL_act_9 4 rfl ?_
  refine ok_aload (pc := 11) hc dL_act_11 5 rfl ?_
  refine ok_aload (pc := 13) hc dL_act_13 6 rfl ?_
  refine ok_aload (pc := 15) hc dL_act_15 7 rfl ?_
  exact ok_callS (pc := 17) (cb := bb) (sb := sb9) (st := []) hc [.ref a0, .int (i3 x2), .int (i3 x3), .ref a4, .ref a5, .ref a6, .ref a7] cs_L_137 sp_L_load (by decide) dL_act_17 rfl rfl rfl rfl (Nat.le_of_ble_eq_true rfl) P

set_option maxHeartbeats 4000000 in
set_option maxRecDepth 100000 in
theorem sL_act_20 {X : Xt} {n : Nat} {h : HP} {a0 : Nat} {x1 : Int} {x2 : Int} {x3 : Int} {a4 : Nat} {a5 : Nat} {a6 : Nat} {a7 : Nat} {t0 : Int} {bb : Nat} {sb9 : Nat} (hc : Cx X cL_act RL 13 9 194) {K : KT} (hr : CxR X (some .boolean) K) 
    (P : (t0 = 0 ∨ t0 = 1) ∧ K (.inl (some (.int (i3 t0)))) n h) :
    Ok X bb sb9 20 [(0, .ref a0), (1, .int (i3 x1)), (2, .int (i3 x2)), (3, .int (i3 x3)), (4, .ref a4), (5, .ref a5), (6, .ref a6), (7, .ref a7)] [.int (i3 t0)] n h := by
  obtain ⟨r, P⟩ := P
  exact ok_zret (st := []) (pc := 20) hc (nar_z r) hr dL_act_20 P

set_option maxHeartbeats 4000000 in
set_option maxRecDepth 100000 in
theorem sL_act_21 {X : Xt} {n : Nat} {h : HP} {a0 : Nat} {x1 : Int} {x2 : Int} {x3 : Int} {a4 : Nat} {a5 : Nat} {a6 : Nat} {a7 : Nat} {bb : Nat} {sb9 : Nat} (hc : Cx X cL_act RL 13 9 194) {K : KT} (hr : CxR X (some .boolean) K) 
    (P : (R3 x1) ∧ (¬ x1 = 6 → Ok X bb sb9 78 [(0, .ref a0), (1, .int (i3 x1)), (2, .int (i3 x2)), (3, .int (i3 x3)), (4, .ref a4), (5, .ref a5), (6, .ref a6), (7, .ref a7)] [] n h) ∧ (x1 = 6 → Ok X bb sb9 27 [(0, .ref a0), (1, .int (i3 x1)), (2, .int (i3 x2)), (3, .int (i3 x3)), (4, .ref a4), (5, .ref a5), (6, .ref a6), (7, .ref a7)] [] n h)) :
    Ok X bb sb9 21 [(0, .ref a0), (1, .int (i3 x1)), (2, .int (i3 x2)), (3, .int (i3 x3)), (4, .ref a4), (5, .ref a5), (6, .ref a6), (7, .ref a7)] [] n h := by
  refine ok_iload_n (pc := 21) hc dL_act_21 rfl 1 rfl ?_
  refine ok_bipush (pc := 22) hc (v := i3 6) dL_act_22 (by decide) ?_
  obtain ⟨r1, P⟩ := P
  refine zk_icmp_ne (pc := 24) (tgt := 78) hc dL_act_24 (by decide) r1 ⟨by decide, by decide⟩ (fun c => ?_) (fun c => ?_)
  · have P := P.1 c
    exact P
  · have P := P.2 c
    exact P

set_option maxHeartbeats 4000000 in
set_option maxRecDepth 100000 in
theorem sL_act_27 {X : Xt} {n : Nat} {h : HP} {a0 : Nat} {x1 : Int} {x2 : Int} {x3 : Int} {a4 : Nat} {a5 : Nat} {a6 : Nat} {a7 : Nat} {bb : Nat} {sb9 : Nat} {f1 : Nat → Int} (hc : Cx X cL_act RL 13 9 194) {K : KT} (hr : CxR X (some .boolean) K) (e1 : At h n a4 (ai 4 f1))
    (P : (Ix 1 4) ∧ spec_L_at [.int (i3 x2), .int (i3 191)] n h (kc X bb sb9 42 [(0, .ref a0), (1, .int (i3 x1)), (2, .int (i3 x2)), (3, .int (i3 x3)), (4, .ref a4), (5, .ref a5), (6, .ref a6), (7, .ref a7), (8, .int (i3 (f1 (1 : Int).toNat)))] [.int (i3 10), .int (i3 1), .ref a4] n)) :
    Ok X bb sb9 27 [(0, .ref a0), (1, .int (i3 x1)), (2, .int (i3 x2)), (3, .int (i3 x3)), (4, .ref a4), (5, .ref a5), (6, .ref a6), (7, .ref a7)] [] n h := by
  refine ok_aload (pc := 27) hc dL_act_27 4 rfl ?_
  refine ok_iconst (pc := 29) hc (v := i3 1) dL_act_29 (by decide) ?_
  obtain ⟨r, P⟩ := P
  refine zk_iald (pc := 30) hc dL_act_30 e1.1 e1.2 r ?_
  refine ok_istore (pc := 31) hc (lv' := [(8, .int (i3 (f1 (1 : Int).toNat))), (0, .ref a0), (1, .int (i3 x1)), (2, .int (i3 x2)), (3, .int (i3 x3)), (4, .ref a4), (5, .ref a5), (6, .ref a6), (7, .ref a7)]) dL_act_31 (by decide) rfl ?_
  refine ok_aload (pc := 33) hc dL_act_33 5 rfl ?_
  refine ok_iconst (pc := 35) hc (v := i3 1) dL_act_35 (by decide) ?_
  refine ok_bipush (pc := 36) hc (v := i3 10) dL_act_36 (by decide) ?_
  refine ok_iload_n (pc := 38) hc dL_act_38 rfl 3 rfl ?_
  refine ok_sipush (pc := 39) hc (v := i3 191) dL_act_39 (by decide) ?_
  refine ok_lv [1, 2, 3, 4, 5, 6, 7, 8, 0] rfl ?_
  exact ok_callS (pc := 42) (cb := bb) (sb := sb9) (st := [.int (i3 10), .int (i3 1), .ref a4]) hc [.int (i3 x2), .int (i3 191)] cs_L_71 sp_L_at (by decide) dL_act_42 rfl rfl rfl rfl (Nat.le_of_ble_eq_true rfl) P

set_option maxHeartbeats 4000000 in
set_option maxRecDepth 100000 in
theorem sL_act_45 {X : Xt} {n : Nat} {h : HP} {a0 : Nat} {x1 : Int} {x2 : Int} {x3 : Int} {a4 : Nat} {a5 : Nat} {a6 : Nat} {a7 : Nat} {x8 : Int} {t0 : Int} {t1 : Int} {t2 : Int} {ta3 : Nat} {bb : Nat} {sb9 : Nat} {f1 : Nat → Int} (hc : Cx X cL_act RL 13 9 194) {K : KT} (hr : CxR X (some .boolean) K) (e1 : At h n ta3 (ai 4 f1))
    (P : (Ix t2 4) ∧ spec_L_settle [.ref a4, .ref a5, .ref a6, .ref a7] n (va_up h ta3 (ai 4 (va_up f1 (t2 : Int).toNat (t1 + t0)))) (kc X bb sb9 55 [(0, .ref a0), (1, .int (i3 x1)), (2, .int (i3 x2)), (3, .int (i3 x3)), (4, .ref a4), (5, .ref a5), (6, .ref a6), (7, .ref a7), (8, .int (i3 x8))] [] n)) :
    Ok X bb sb9 45 [(0, .ref a0), (1, .int (i3 x1)), (2, .int (i3 x2)), (3, .int (i3 x3)), (4, .ref a4), (5, .ref a5), (6, .ref a6), (7, .ref a7), (8, .int (i3 x8))] [.int (i3 t0), .int (i3 t1), .int (i3 t2), .ref ta3] n h := by
  refine zk_iadd (pc := 45) hc dL_act_45 ?_
  obtain ⟨r, P⟩ := P
  refine zk_iast (pc := 46) hc dL_act_46 e1.1 e1.2 r ?_
  refine ok_aload (pc := 47) hc dL_act_47 4 rfl ?_
  refine ok_aload (pc := 49) hc dL_act_49 5 rfl ?_
  refine ok_aload (pc := 51) hc dL_act_51 6 rfl ?_
  refine ok_aload (pc := 53) hc dL_act_53 7 rfl ?_
  exact ok_callS (pc := 55) (cb := bb) (sb := sb9) (st := []) hc [.ref a4, .ref a5, .ref a6, .ref a7] cs_L_105 sp_L_settle (by decide) dL_act_55 rfl rfl rfl rfl (Nat.le_of_ble_eq_true rfl) P

set_option maxHeartbeats 4000000 in
set_option maxRecDepth 100000 in
theorem sL_act_58 {X : Xt} {n : Nat} {h : HP} {a0 : Nat} {x1 : Int} {x2 : Int} {x3 : Int} {a4 : Nat} {a5 : Nat} {a6 : Nat} {a7 : Nat} {x8 : Int} {t0 : Int} {bb : Nat} {sb9 : Nat} {f1 : Nat → Int} {fs2 : List Value} (hc : Cx X cL_act RL 13 9 194) {K : KT} (hr : CxR X (some .boolean) K) (e1 : At h n a4 (ai 4 f1)) (e2 : At h n a0 (.inl (6, fs2))) (z2 : fs2.length = 6)
    (P : (Ix 1 4) ∧ spec_X6_setRail [.ref a0, .int (i3 (f1 (1 : Int).toNat))] n h (kc X bb sb9 64 [(0, .ref a0), (1, .int (i3 x1)), (2, .int (i3 x2)), (3, .int (i3 x3)), (4, .ref a4), (5, .ref a5), (6, .ref a6), (7, .ref a7), (8, .int (i3 x8))] [] n)) :
    Ok X (bb + 1) (sb9 + 6) 58 [(0, .ref a0), (1, .int (i3 x1)), (2, .int (i3 x2)), (3, .int (i3 x3)), (4, .ref a4), (5, .ref a5), (6, .ref a6), (7, .ref a7), (8, .int (i3 x8))] [.int (i3 t0)] n h := by
  refine ok_pop (pc := 58) hc dL_act_58 rfl ?_
  refine ok_aload_n (pc := 59) hc dL_act_59 rfl 0 rfl ?_
  refine ok_aload (pc := 60) hc dL_act_60 4 rfl ?_
  refine ok_iconst (pc := 62) hc (v := i3 1) dL_act_62 (by decide) ?_
  obtain ⟨r, P⟩ := P
  refine zk_iald (pc := 63) hc dL_act_63 e1.1 e1.2 r ?_
  exact ok_callV (pc := 64) (a := a0) (cb := bb) (sb := sb9) (st := []) hc [.int (i3 (f1 (1 : Int).toNat))] cv_L_140 sp_X6_setRail (by decide) dL_act_64 rfl e2.1 e2.2 rfl rfl rfl (Nat.le_of_ble_eq_true rfl) P

set_option maxHeartbeats 4000000 in
set_option maxRecDepth 100000 in
theorem sL_act_67 {X : Xt} {n : Nat} {h : HP} {a0 : Nat} {x1 : Int} {x2 : Int} {x3 : Int} {a4 : Nat} {a5 : Nat} {a6 : Nat} {a7 : Nat} {x8 : Int} {t0 : Int} {bb : Nat} {sb9 : Nat} (hc : Cx X cL_act RL 13 9 194) {K : KT} (hr : CxR X (some .boolean) K) 
    (P : (R3 t0) ∧ (R3 x8) ∧ (¬ t0 = x8 → K (.inl (some (.int (i3 0)))) n h) ∧ (t0 = x8 → K (.inl (some (.int (i3 1)))) n h)) :
    Ok X bb sb9 67 [(0, .ref a0), (1, .int (i3 x1)), (2, .int (i3 x2)), (3, .int (i3 x3)), (4, .ref a4), (5, .ref a5), (6, .ref a6), (7, .ref a7), (8, .int (i3 x8))] [.int (i3 t0)] n h := by
  refine ok_iload (pc := 67) hc dL_act_67 8 rfl ?_
  obtain ⟨r1, P⟩ := P
  obtain ⟨r2, P⟩ := P
  refine zk_icmp_ne (pc := 69) (tgt := 76) hc dL_act_69 (by decide) r1 r2 (fun c => ?_) (fun c => ?_)
  · have P := P.1 c
    refine ok_iconst (pc := 76) hc (v := i3 0) dL_act_76 (by decide) ?_
    exact ok_zret (st := []) (pc := 77) hc (nar_z (by decide)) hr dL_act_77 P
  · have P := P.2 c
    refine ok_iconst (pc := 72) hc (v := i3 1) dL_act_72 (by decide) ?_
    refine ok_goto (pc := 73) (tgt := 77) hc dL_act_73 (by decide) ?_
    exact ok_zret (st := []) (pc := 77) hc (nar_z (by decide)) hr dL_act_77 P

set_option maxHeartbeats 4000000 in
set_option maxRecDepth 100000 in
theorem sL_act_78 {X : Xt} {n : Nat} {h : HP} {a0 : Nat} {x1 : Int} {x2 : Int} {x3 : Int} {a4 : Nat} {a5 : Nat} {a6 : Nat} {a7 : Nat} {bb : Nat} {sb9 : Nat} (hc : Cx X cL_act RL 13 9 194) {K : KT} (hr : CxR X (some .boolean) K) 
    (P : (R3 x1) ∧ (¬ x1 = 7 → Ok X bb sb9 149 [(0, .ref a0), (1, .int (i3 x1)), (2, .int (i3 x2)), (3, .int (i3 x3)), (4, .ref a4), (5, .ref a5), (6, .ref a6), (7, .ref a7)] [] n h) ∧ (x1 = 7 → Ok X bb sb9 84 [(0, .ref a0), (1, .int (i3 x1)), (2, .int (i3 x2)), (3, .int (i3 x3)), (4, .ref a4), (5, .ref a5), (6, .ref a6), (7, .ref a7)] [] n h)) :
    Ok X bb sb9 78 [(0, .ref a0), (1, .int (i3 x1)), (2, .int (i3 x2)), (3, .int (i3 x3)), (4, .ref a4), (5, .ref a5), (6, .ref a6), (7, .ref a7)] [] n h := by
  refine ok_iload_n (pc := 78) hc dL_act_78 rfl 1 rfl ?_
  refine ok_bipush (pc := 79) hc (v := i3 7) dL_act_79 (by decide) ?_
  obtain ⟨r1, P⟩ := P
  refine zk_icmp_ne (pc := 81) (tgt := 149) hc dL_act_81 (by decide) r1 ⟨by decide, by decide⟩ (fun c => ?_) (fun c => ?_)
  · have P := P.1 c
    exact P
  · have P := P.2 c
    exact P

set_option maxHeartbeats 4000000 in
set_option maxRecDepth 100000 in
theorem sL_act_84 {X : Xt} {n : Nat} {h : HP} {a0 : Nat} {x1 : Int} {x2 : Int} {x3 : Int} {a4 : Nat} {a5 : Nat} {a6 : Nat} {a7 : Nat} {bb : Nat} {sb9 : Nat} (hc : Cx X cL_act RL 13 9 194) {K : KT} (hr : CxR X (some .boolean) K) 
    (P : spec_L_at [.int (i3 x2), .int (i3 4)] n h (kc X bb sb9 86 [(0, .ref a0), (1, .int (i3 x1)), (2, .int (i3 x2)), (3, .int (i3 x3)), (4, .ref a4), (5, .ref a5), (6, .ref a6), (7, .ref a7)] [] n)) :
    Ok X bb sb9 84 [(0, .ref a0), (1, .int (i3 x1)), (2, .int (i3 x2)), (3, .int (i3 x3)), (4, .ref a4), (5, .ref a5), (6, .ref a6), (7, .ref a7)] [] n h := by
  refine ok_iload_n (pc := 84) hc dL_act_84 rfl 2 rfl ?_
  refine ok_iconst (pc := 85) hc (v := i3 4) dL_act_85 (by decide) ?_
  exact ok_callS (pc := 86) (cb := bb) (sb := sb9) (st := []) hc [.int (i3 x2), .int (i3 4)] cs_L_71 sp_L_at (by decide) dL_act_86 rfl rfl rfl rfl (Nat.le_of_ble_eq_true rfl) P

set_option maxHeartbeats 4000000 in
set_option maxRecDepth 100000 in
theorem sL_act_89 {X : Xt} {n : Nat} {h : HP} {a0 : Nat} {x1 : Int} {x2 : Int} {x3 : Int} {a4 : Nat} {a5 : Nat} {a6 : Nat} {a7 : Nat} {t0 : Int} {bb : Nat} {sb9 : Nat} (hc : Cx X cL_act RL 13 9 194) {K : KT} (hr : CxR X (some .boolean) K) 
    (P : (R3 t0) ∧ (t0 ≤ 0 → Ok X bb sb9 106 [(0, .ref a0), (1, .int (i3 x1)), (2, .int (i3 x2)), (3, .int (i3 x3)), (4, .ref a4), (5, .ref a5), (6, .ref a6), (7, .ref a7)] [] n h) ∧ (¬ t0 ≤ 0 → Ok X bb sb9 92 [(0, .ref a0), (1, .int (i3 x1)), (2, .int (i3 x2)), (3, .int (i3 x3)), (4, .ref a4), (5, .ref a5), (6, .ref a6), (7, .ref a7)] [] n h)) :
    Ok X bb sb9 89 [(0, .ref a0), (1, .int (i3 x1)), (2, .int (i3 x2)), (3, .int (i3 x3)), (4, .ref a4), (5, .ref a5), (6, .ref a6), (7, .ref a7)] [.int (i3 t0)] n h := by
  obtain ⟨r1, P⟩ := P
  refine zk_if_le (pc := 89) (tgt := 106) hc dL_act_89 (by decide) r1 (fun c => ?_) (fun c => ?_)
  · have P := P.1 c
    exact P
  · have P := P.2 c
    exact P

set_option maxHeartbeats 4000000 in
set_option maxRecDepth 100000 in
theorem sL_act_92 {X : Xt} {n : Nat} {h : HP} {a0 : Nat} {x1 : Int} {x2 : Int} {x3 : Int} {a4 : Nat} {a5 : Nat} {a6 : Nat} {a7 : Nat} {bb : Nat} {sb9 : Nat} (hc : Cx X cL_act RL 13 9 194) {K : KT} (hr : CxR X (some .boolean) K) 
    (P : spec_L_stage [.ref a0, .int (i3 x3), .ref a4, .ref a5, .ref a6, .ref a7] n h (kc X bb sb9 102 [(0, .ref a0), (1, .int (i3 x1)), (2, .int (i3 x2)), (3, .int (i3 x3)), (4, .ref a4), (5, .ref a5), (6, .ref a6), (7, .ref a7)] [] n)) :
    Ok X (bb + 58) (sb9 + 348) 92 [(0, .ref a0), (1, .int (i3 x1)), (2, .int (i3 x2)), (3, .int (i3 x3)), (4, .ref a4), (5, .ref a5), (6, .ref a6), (7, .ref a7)] [] n h := by
  refine ok_aload_n (pc := 92) hc dL_act_92 rfl 0 rfl ?_
  refine ok_iload_n (pc := 93) hc dL_act_93 rfl 3 rfl ?_
  refine ok_aload (pc := 94) hc dL_act_94 4 rfl ?_
  refine ok_aload (pc := 96) hc dL_act_96 5 rfl ?_
  refine ok_aload (pc := 98) hc dL_act_98 6 rfl ?_
  refine ok_aload (pc := 100) hc dL_act_100 7 rfl ?_
  exact ok_callS (pc := 102) (cb := bb) (sb := sb9) (st := []) hc [.ref a0, .int (i3 x3), .ref a4, .ref a5, .ref a6, .ref a7] cs_L_143 sp_L_stage (by decide) dL_act_102 rfl rfl rfl rfl (Nat.le_of_ble_eq_true rfl) P

set_option maxHeartbeats 4000000 in
set_option maxRecDepth 100000 in
theorem sL_act_105 {X : Xt} {n : Nat} {h : HP} {a0 : Nat} {x1 : Int} {x2 : Int} {x3 : Int} {a4 : Nat} {a5 : Nat} {a6 : Nat} {a7 : Nat} {t0 : Int} {bb : Nat} {sb9 : Nat} (hc : Cx X cL_act RL 13 9 194) {K : KT} (hr : CxR X (some .boolean) K) 
    (P : (t0 = 0 ∨ t0 = 1) ∧ K (.inl (some (.int (i3 t0)))) n h) :
    Ok X bb sb9 105 [(0, .ref a0), (1, .int (i3 x1)), (2, .int (i3 x2)), (3, .int (i3 x3)), (4, .ref a4), (5, .ref a5), (6, .ref a6), (7, .ref a7)] [.int (i3 t0)] n h := by
  obtain ⟨r, P⟩ := P
  exact ok_zret (st := []) (pc := 105) hc (nar_z r) hr dL_act_105 P

set_option maxHeartbeats 4000000 in
set_option maxRecDepth 100000 in
theorem sL_act_106 {X : Xt} {n : Nat} {h : HP} {a0 : Nat} {x1 : Int} {x2 : Int} {x3 : Int} {a4 : Nat} {a5 : Nat} {a6 : Nat} {a7 : Nat} {bb : Nat} {sb9 : Nat} {f1 : Nat → Int} {fs2 : List Value} (hc : Cx X cL_act RL 13 9 194) {K : KT} (hr : CxR X (some .boolean) K) (e1 : At h n a4 (ai 4 f1)) (e2 : At h n a0 (.inl (6, fs2))) (z2 : fs2.length = 6)
    (P : (Ix 0 4) ∧ (Ix 0 4) ∧ (Ix 1 4) ∧ (Ix 2 4) ∧ (Ix 3 4) ∧ spec_X6_begin [.ref a0] n (va_up (va_up (va_up (va_up h a4 (ai 4 (va_up f1 (0 : Int).toNat 0))) a4 (ai 4 (va_up (va_up f1 (0 : Int).toNat 0) (1 : Int).toNat 150))) a4 (ai 4 (va_up (va_up (va_up f1 (0 : Int).toNat 0) (1 : Int).toNat 150) (2 : Int).toNat 0))) a4 (ai 4 (va_up (va_up (va_up (va_up f1 (0 : Int).toNat 0) (1 : Int).toNat 150) (2 : Int).toNat 0) (3 : Int).toNat 1))) (kc X bb sb9 135 [(0, .ref a0), (1, .int (i3 x1)), (2, .int (i3 x2)), (3, .int (i3 x3)), (4, .ref a4), (5, .ref a5), (6, .ref a6), (7, .ref a7), (8, .int (i3 (f1 (0 : Int).toNat)))] [] n)) :
    Ok X bb sb9 106 [(0, .ref a0), (1, .int (i3 x1)), (2, .int (i3 x2)), (3, .int (i3 x3)), (4, .ref a4), (5, .ref a5), (6, .ref a6), (7, .ref a7)] [] n h := by
  refine ok_aload (pc := 106) hc dL_act_106 4 rfl ?_
  refine ok_iconst (pc := 108) hc (v := i3 0) dL_act_108 (by decide) ?_
  obtain ⟨r, P⟩ := P
  refine zk_iald (pc := 109) hc dL_act_109 e1.1 e1.2 r ?_
  refine ok_istore (pc := 110) hc (lv' := [(8, .int (i3 (f1 (0 : Int).toNat))), (0, .ref a0), (1, .int (i3 x1)), (2, .int (i3 x2)), (3, .int (i3 x3)), (4, .ref a4), (5, .ref a5), (6, .ref a6), (7, .ref a7)]) dL_act_110 (by decide) rfl ?_
  refine ok_aload (pc := 112) hc dL_act_112 5 rfl ?_
  refine ok_iconst (pc := 114) hc (v := i3 0) dL_act_114 (by decide) ?_
  refine ok_iconst (pc := 115) hc (v := i3 0) dL_act_115 (by decide) ?_
  obtain ⟨r, P⟩ := P
  refine zk_iast (pc := 116) hc dL_act_116 e1.1 e1.2 r ?_
  refine ok_aload (pc := 117) hc dL_act_117 5 rfl ?_
  refine ok_iconst (pc := 119) hc (v := i3 1) dL_act_119 (by decide) ?_
  refine ok_sipush (pc := 120) hc (v := i3 150) dL_act_120 (by decide) ?_
  obtain ⟨r, P⟩ := P
  refine zk_iast (pc := 123) hc dL_act_123 e1.1 up_self r ?_
  refine ok_aload (pc := 124) hc dL_act_124 5 rfl ?_
  refine ok_iconst (pc := 126) hc (v := i3 2) dL_act_126 (by decide) ?_
  refine ok_iconst (pc := 127) hc (v := i3 0) dL_act_127 (by decide) ?_
  obtain ⟨r, P⟩ := P
  refine zk_iast (pc := 128) hc dL_act_128 e1.1 up_self r ?_
  refine ok_aload (pc := 129) hc dL_act_129 5 rfl ?_
  refine ok_iconst (pc := 131) hc (v := i3 3) dL_act_131 (by decide) ?_
  refine ok_iconst (pc := 132) hc (v := i3 1) dL_act_132 (by decide) ?_
  obtain ⟨r, P⟩ := P
  refine zk_iast (pc := 133) hc dL_act_133 e1.1 up_self r ?_
  refine ok_aload_n (pc := 134) hc dL_act_134 rfl 1 rfl ?_
  refine ok_lv [1, 2, 3, 4, 5, 6, 7, 8, 0] rfl ?_
  exact ok_callV (pc := 135) (a := a0) (cb := bb) (sb := sb9) (st := []) hc [] cv_L_147 sp_X6_begin (by decide) dL_act_135 rfl e2.1 ((up_ne (ne_oa e2.2 e1.2)).trans ((up_ne (ne_oa e2.2 e1.2)).trans ((up_ne (ne_oa e2.2 e1.2)).trans ((up_ne (ne_oa e2.2 e1.2)).trans e2.2)))) rfl rfl rfl (Nat.le_of_ble_eq_true rfl) P

set_option maxHeartbeats 4000000 in
set_option maxRecDepth 100000 in
theorem sL_act_138 {X : Xt} {n : Nat} {h : HP} {a0 : Nat} {x1 : Int} {x2 : Int} {x3 : Int} {a4 : Nat} {a5 : Nat} {a6 : Nat} {a7 : Nat} {x8 : Int} {t0 : Int} {bb : Nat} {sb9 : Nat} (hc : Cx X cL_act RL 13 9 194) {K : KT} (hr : CxR X (some .boolean) K) 
    (P : (R3 t0) ∧ (R3 x8) ∧ (¬ t0 = x8 → K (.inl (some (.int (i3 0)))) n h) ∧ (t0 = x8 → K (.inl (some (.int (i3 1)))) n h)) :
    Ok X bb sb9 138 [(0, .ref a0), (1, .int (i3 x1)), (2, .int (i3 x2)), (3, .int (i3 x3)), (4, .ref a4), (5, .ref a5), (6, .ref a6), (7, .ref a7), (8, .int (i3 x8))] [.int (i3 t0)] n h := by
  refine ok_iload (pc := 138) hc dL_act_138 8 rfl ?_
  obtain ⟨r1, P⟩ := P
  obtain ⟨r2, P⟩ := P
  refine zk_icmp_ne (pc := 140) (tgt := 147) hc dL_act_140 (by decide) r1 r2 (fun c => ?_) (fun c => ?_)
  · have P := P.1 c
    refine ok_iconst (pc := 147) hc (v := i3 0) dL_act_147 (by decide) ?_
    exact ok_zret (st := []) (pc := 148) hc (nar_z (by decide)) hr dL_act_148 P
  · have P := P.2 c
    refine ok_iconst (pc := 143) hc (v := i3 1) dL_act_143 (by decide) ?_
    refine ok_goto (pc := 144) (tgt := 148) hc dL_act_144 (by decide) ?_
    exact ok_zret (st := []) (pc := 148) hc (nar_z (by decide)) hr dL_act_148 P

set_option maxHeartbeats 4000000 in
set_option maxRecDepth 100000 in
theorem sL_act_149 {X : Xt} {n : Nat} {h : HP} {a0 : Nat} {x1 : Int} {x2 : Int} {x3 : Int} {a4 : Nat} {a5 : Nat} {a6 : Nat} {a7 : Nat} {bb : Nat} {sb9 : Nat} {f1 : Nat → Int} (hc : Cx X cL_act RL 13 9 194) {K : KT} (hr : CxR X (some .boolean) K) (e1 : At h n a4 (ai 4 f1))
    (P : (Ix 0 4) ∧ (R3 (f1 (0 : Int).toNat)) ∧ (¬ (f1 (0 : Int).toNat) = 0 → Ok X bb sb9 170 [(0, .ref a0), (1, .int (i3 x1)), (2, .int (i3 x2)), (3, .int (i3 x3)), (4, .ref a4), (5, .ref a5), (6, .ref a6), (7, .ref a7)] [] n h) ∧ ((f1 (0 : Int).toNat) = 0 → Ok X bb sb9 156 [(0, .ref a0), (1, .int (i3 x1)), (2, .int (i3 x2)), (3, .int (i3 x3)), (4, .ref a4), (5, .ref a5), (6, .ref a6), (7, .ref a7)] [] n h)) :
    Ok X bb sb9 149 [(0, .ref a0), (1, .int (i3 x1)), (2, .int (i3 x2)), (3, .int (i3 x3)), (4, .ref a4), (5, .ref a5), (6, .ref a6), (7, .ref a7)] [] n h := by
  refine ok_aload (pc := 149) hc dL_act_149 4 rfl ?_
  refine ok_iconst (pc := 151) hc (v := i3 0) dL_act_151 (by decide) ?_
  obtain ⟨r, P⟩ := P
  refine zk_iald (pc := 152) hc dL_act_152 e1.1 e1.2 r ?_
  obtain ⟨r2, P⟩ := P
  refine zk_if_ne (pc := 153) (tgt := 170) hc dL_act_153 (by decide) r2 (fun c => ?_) (fun c => ?_)
  · have P := P.1 c
    exact P
  · have P := P.2 c
    exact P

set_option maxHeartbeats 4000000 in
set_option maxRecDepth 100000 in
theorem sL_act_156 {X : Xt} {n : Nat} {h : HP} {a0 : Nat} {x1 : Int} {x2 : Int} {x3 : Int} {a4 : Nat} {a5 : Nat} {a6 : Nat} {a7 : Nat} {bb : Nat} {sb9 : Nat} (hc : Cx X cL_act RL 13 9 194) {K : KT} (hr : CxR X (some .boolean) K) 
    (P : spec_L_stage [.ref a0, .int (i3 x3), .ref a4, .ref a5, .ref a6, .ref a7] n h (kc X bb sb9 166 [(0, .ref a0), (1, .int (i3 x1)), (2, .int (i3 x2)), (3, .int (i3 x3)), (4, .ref a4), (5, .ref a5), (6, .ref a6), (7, .ref a7)] [] n)) :
    Ok X (bb + 58) (sb9 + 348) 156 [(0, .ref a0), (1, .int (i3 x1)), (2, .int (i3 x2)), (3, .int (i3 x3)), (4, .ref a4), (5, .ref a5), (6, .ref a6), (7, .ref a7)] [] n h := by
  refine ok_aload_n (pc := 156) hc dL_act_156 rfl 0 rfl ?_
  refine ok_iload_n (pc := 157) hc dL_act_157 rfl 3 rfl ?_
  refine ok_aload (pc := 158) hc dL_act_158 4 rfl ?_
  refine ok_aload (pc := 160) hc dL_act_160 5 rfl ?_
  refine ok_aload (pc := 162) hc dL_act_162 6 rfl ?_
  refine ok_aload (pc := 164) hc dL_act_164 7 rfl ?_
  exact ok_callS (pc := 166) (cb := bb) (sb := sb9) (st := []) hc [.ref a0, .int (i3 x3), .ref a4, .ref a5, .ref a6, .ref a7] cs_L_143 sp_L_stage (by decide) dL_act_166 rfl rfl rfl rfl (Nat.le_of_ble_eq_true rfl) P

set_option maxHeartbeats 4000000 in
set_option maxRecDepth 100000 in
theorem sL_act_169 {X : Xt} {n : Nat} {h : HP} {a0 : Nat} {x1 : Int} {x2 : Int} {x3 : Int} {a4 : Nat} {a5 : Nat} {a6 : Nat} {a7 : Nat} {t0 : Int} {bb : Nat} {sb9 : Nat} (hc : Cx X cL_act RL 13 9 194) {K : KT} (hr : CxR X (some .boolean) K) 
    (P : (t0 = 0 ∨ t0 = 1) ∧ K (.inl (some (.int (i3 t0)))) n h) :
    Ok X bb sb9 169 [(0, .ref a0), (1, .int (i3 x1)), (2, .int (i3 x2)), (3, .int (i3 x3)), (4, .ref a4), (5, .ref a5), (6, .ref a6), (7, .ref a7)] [.int (i3 t0)] n h := by
  obtain ⟨r, P⟩ := P
  exact ok_zret (st := []) (pc := 169) hc (nar_z r) hr dL_act_169 P

set_option maxHeartbeats 4000000 in
set_option maxRecDepth 100000 in
theorem sL_act_170 {X : Xt} {n : Nat} {h : HP} {a0 : Nat} {x1 : Int} {x2 : Int} {x3 : Int} {a4 : Nat} {a5 : Nat} {a6 : Nat} {a7 : Nat} {bb : Nat} {sb9 : Nat} {f1 : Nat → Int} (hc : Cx X cL_act RL 13 9 194) {K : KT} (hr : CxR X (some .boolean) K) (e1 : At h n a4 (ai 4 f1))
    (P : (Ix 0 4) ∧ spec_L_at [.int (i3 x2), .int (i3 (f1 (0 : Int).toNat))] n h (kc X bb sb9 175 [(0, .ref a0), (1, .int (i3 x1)), (2, .int (i3 x2)), (3, .int (i3 x3)), (4, .ref a4), (5, .ref a5), (6, .ref a6), (7, .ref a7)] [] n)) :
    Ok X bb sb9 170 [(0, .ref a0), (1, .int (i3 x1)), (2, .int (i3 x2)), (3, .int (i3 x3)), (4, .ref a4), (5, .ref a5), (6, .ref a6), (7, .ref a7)] [] n h := by
  refine ok_iload_n (pc := 170) hc dL_act_170 rfl 2 rfl ?_
  refine ok_aload (pc := 171) hc dL_act_171 4 rfl ?_
  refine ok_iconst (pc := 173) hc (v := i3 0) dL_act_173 (by decide) ?_
  obtain ⟨r, P⟩ := P
  refine zk_iald (pc := 174) hc dL_act_174 e1.1 e1.2 r ?_
  exact ok_callS (pc := 175) (cb := bb) (sb := sb9) (st := []) hc [.int (i3 x2), .int (i3 (f1 (0 : Int).toNat))] cs_L_71 sp_L_at (by decide) dL_act_175 rfl rfl rfl rfl (Nat.le_of_ble_eq_true rfl) P

set_option maxHeartbeats 4000000 in
set_option maxRecDepth 100000 in
theorem sL_act_178 {X : Xt} {n : Nat} {h : HP} {a0 : Nat} {x1 : Int} {x2 : Int} {x3 : Int} {a4 : Nat} {a5 : Nat} {a6 : Nat} {a7 : Nat} {t0 : Int} {bb : Nat} {sb9 : Nat} {f1 : Nat → Int} (hc : Cx X cL_act RL 13 9 194) {K : KT} (hr : CxR X (some .boolean) K) (e1 : At h n a5 (ai 48 f1))
    (P : (Ix (4 * t0) 48) ∧ (R3 x1) ∧ (12 ≤ x1 → Ok X bb sb9 393 [(0, .ref a0), (1, .int (i3 x1)), (2, .int (i3 x2)), (3, .int (i3 x3)), (4, .ref a4), (5, .ref a5), (6, .ref a6), (7, .ref a7), (8, .int (i3 t0)), (9, .int (i3 (f1 (4 * t0 : Int).toNat)))] [] n h) ∧ (¬ 12 ≤ x1 → (R3 (f1 (4 * t0 : Int).toNat)) ∧ (¬ (f1 (4 * t0 : Int).toNat) = 2 → (Ix ((4 * t0) + 3) 48) ∧ (R3 (f1 (4 * t0 : Int).toNat)) ∧ (¬ (f1 (4 * t0 : Int).toNat) = 0 → spec_L_at [.int (i3 x3), .int (i3 401)] n h (kc X bb sb9 233 [(0, .ref a0), (1, .int (i3 x1)), (2, .int (i3 x2)), (3, .int (i3 x3)), (4, .ref a4), (5, .ref a5), (6, .ref a6), (7, .ref a7), (8, .int (i3 t0)), (9, .int (i3 (f1 (4 * t0 : Int).toNat))), (10, .int (i3 (f1 (((4 * t0) + 3) : Int).toNat)))] [] n)) ∧ ((f1 (4 * t0 : Int).toNat) = 0 → spec_L_at [.int (i3 x3), .int (i3 4)] n h (kc X bb sb9 222 [(0, .ref a0), (1, .int (i3 x1)), (2, .int (i3 x2)), (3, .int (i3 x3)), (4, .ref a4), (5, .ref a5), (6, .ref a6), (7, .ref a7), (8, .int (i3 t0)), (9, .int (i3 (f1 (4 * t0 : Int).toNat))), (10, .int (i3 (f1 (((4 * t0) + 3) : Int).toNat)))] [.int (i3 1)] n))) ∧ ((f1 (4 * t0 : Int).toNat) = 2 → K (.inl (some (.int (i3 1)))) n h))) :
    Ok X bb sb9 178 [(0, .ref a0), (1, .int (i3 x1)), (2, .int (i3 x2)), (3, .int (i3 x3)), (4, .ref a4), (5, .ref a5), (6, .ref a6), (7, .ref a7)] [.int (i3 t0)] n h := by
  refine ok_istore (pc := 178) hc (lv' := [(8, .int (i3 t0)), (0, .ref a0), (1, .int (i3 x1)), (2, .int (i3 x2)), (3, .int (i3 x3)), (4, .ref a4), (5, .ref a5), (6, .ref a6), (7, .ref a7)]) dL_act_178 (by decide) rfl ?_
  refine ok_iload (pc := 180) hc dL_act_180 0 rfl ?_
  refine ok_aload (pc := 182) hc dL_act_182 6 rfl ?_
  obtain ⟨r0, P⟩ := P
  refine ok_callS (pc := 184) (cb := bb) (sb := sb9) (st := []) hc [.int (i3 t0), .ref a5] cs_L_8 sp_L_kind (by decide) dL_act_184 rfl rfl rfl rfl (Nat.le_of_ble_eq_true rfl) (⟨_, _, _, _, rfl, ⟨e1.1, e1.2⟩, r0, rfl, ?_⟩)
  show Ok X bb sb9 (184 + 3) [(8, .int (i3 t0)), (0, .ref a0), (1, .int (i3 x1)), (2, .int (i3 x2)), (3, .int (i3 x3)), (4, .ref a4), (5, .ref a5), (6, .ref a6), (7, .ref a7)] [.int (i3 (f1 (4 * t0 : Int).toNat))] n h
  refine ok_istore (pc := 187) hc (lv' := [(9, .int (i3 (f1 (4 * t0 : Int).toNat))), (8, .int (i3 t0)), (0, .ref a0), (1, .int (i3 x1)), (2, .int (i3 x2)), (3, .int (i3 x3)), (4, .ref a4), (5, .ref a5), (6, .ref a6), (7, .ref a7)]) dL_act_187 (by decide) rfl ?_
  refine ok_iload_n (pc := 189) hc dL_act_189 rfl 3 rfl ?_
  refine ok_bipush (pc := 190) hc (v := i3 12) dL_act_190 (by decide) ?_
  obtain ⟨r2, P⟩ := P
  refine zk_icmp_ge (pc := 192) (tgt := 393) hc dL_act_192 (by decide) r2 ⟨by decide, by decide⟩ (fun c => ?_) (fun c => ?_)
  · have P := P.1 c
    refine ok_lv [2, 3, 4, 5, 6, 7, 8, 9, 1, 0] rfl ?_
    exact P
  · have P := P.2 c
    refine ok_iload (pc := 195) hc dL_act_195 0 rfl ?_
    refine ok_iconst (pc := 197) hc (v := i3 2) dL_act_197 (by decide) ?_
    obtain ⟨r3, P⟩ := P
    refine zk_icmp_ne (pc := 198) (tgt := 203) hc dL_act_198 (by decide) r3 ⟨by decide, by decide⟩ (fun c => ?_) (fun c => ?_)
    · have P := P.1 c
      refine ok_aload (pc := 203) hc dL_act_203 7 rfl ?_
      refine ok_iconst (pc := 205) hc (v := i3 4) dL_act_205 (by decide) ?_
      refine ok_iload (pc := 206) hc dL_act_206 1 rfl ?_
      refine zk_imul (pc := 208) hc dL_act_208 ?_
      refine ok_iconst (pc := 209) hc (v := i3 3) dL_act_209 (by decide) ?_
      refine zk_iadd (pc := 210) hc dL_act_210 ?_
      obtain ⟨r, P⟩ := P
      refine zk_iald (pc := 211) hc dL_act_211 e1.1 e1.2 r ?_
      refine ok_istore (pc := 212) hc (lv' := [(10, .int (i3 (f1 (((4 * t0) + 3) : Int).toNat))), (9, .int (i3 (f1 (4 * t0 : Int).toNat))), (8, .int (i3 t0)), (0, .ref a0), (1, .int (i3 x1)), (2, .int (i3 x2)), (3, .int (i3 x3)), (4, .ref a4), (5, .ref a5), (6, .ref a6), (7, .ref a7)]) dL_act_212 (by decide) rfl ?_
      refine ok_iload (pc := 214) hc dL_act_214 1 rfl ?_
      obtain ⟨r4, P⟩ := P
      refine zk_if_ne (pc := 216) (tgt := 229) hc dL_act_216 (by decide) r4 (fun c => ?_) (fun c => ?_)
      · have P := P.1 c
        refine ok_iload_n (pc := 229) hc dL_act_229 rfl 6 rfl ?_
        refine ok_sipush (pc := 230) hc (v := i3 401) dL_act_230 (by decide) ?_
        refine ok_lv [3, 4, 5, 6, 7, 8, 9, 10, 2, 1, 0] rfl ?_
        exact ok_callS (pc := 233) (cb := bb) (sb := sb9) (st := []) hc [.int (i3 x3), .int (i3 401)] cs_L_71 sp_L_at (by decide) dL_act_233 rfl rfl rfl rfl (Nat.le_of_ble_eq_true rfl) P
      · have P := P.2 c
        refine ok_iconst (pc := 219) hc (v := i3 1) dL_act_219 (by decide) ?_
        refine ok_iload_n (pc := 220) hc dL_act_220 rfl 6 rfl ?_
        refine ok_iconst (pc := 221) hc (v := i3 4) dL_act_221 (by decide) ?_
        refine ok_lv [3, 4, 5, 6, 7, 8, 9, 10, 2, 1, 0] rfl ?_
        exact ok_callS (pc := 222) (cb := bb) (sb := sb9) (st := [.int (i3 1)]) hc [.int (i3 x3), .int (i3 4)] cs_L_71 sp_L_at (by decide) dL_act_222 rfl rfl rfl rfl (Nat.le_of_ble_eq_true rfl) P
    · have P := P.2 c
      refine ok_iconst (pc := 201) hc (v := i3 1) dL_act_201 (by decide) ?_
      exact ok_zret (st := []) (pc := 202) hc (nar_z (by decide)) hr dL_act_202 P

set_option maxHeartbeats 4000000 in
set_option maxRecDepth 100000 in
theorem sL_act_225 {X : Xt} {n : Nat} {h : HP} {a0 : Nat} {x1 : Int} {x2 : Int} {x3 : Int} {a4 : Nat} {a5 : Nat} {a6 : Nat} {a7 : Nat} {x8 : Int} {x9 : Int} {x10 : Int} {t0 : Int} {t1 : Int} {bb : Nat} {sb9 : Nat} (hc : Cx X cL_act RL 13 9 194) {K : KT} (hr : CxR X (some .boolean) K) 
    (P : Ok X bb sb9 240 [(0, .ref a0), (1, .int (i3 x1)), (2, .int (i3 x2)), (3, .int (i3 x3)), (4, .ref a4), (5, .ref a5), (6, .ref a6), (7, .ref a7), (8, .int (i3 x8)), (9, .int (i3 x9)), (10, .int (i3 x10))] [.int (i3 (t1 + t0))] n h) :
    Ok X bb sb9 225 [(0, .ref a0), (1, .int (i3 x1)), (2, .int (i3 x2)), (3, .int (i3 x3)), (4, .ref a4), (5, .ref a5), (6, .ref a6), (7, .ref a7), (8, .int (i3 x8)), (9, .int (i3 x9)), (10, .int (i3 x10))] [.int (i3 t0), .int (i3 t1)] n h := by
  refine zk_iadd (pc := 225) hc dL_act_225 ?_
  refine ok_goto (pc := 226) (tgt := 240) hc dL_act_226 (by decide) ?_
  exact P

set_option maxHeartbeats 4000000 in
set_option maxRecDepth 100000 in
theorem sL_act_236 {X : Xt} {n : Nat} {h : HP} {a0 : Nat} {x1 : Int} {x2 : Int} {x3 : Int} {a4 : Nat} {a5 : Nat} {a6 : Nat} {a7 : Nat} {x8 : Int} {x9 : Int} {x10 : Int} {t0 : Int} {bb : Nat} {sb9 : Nat} (hc : Cx X cL_act RL 13 9 194) {K : KT} (hr : CxR X (some .boolean) K) 
    (P : Ok X bb sb9 240 [(0, .ref a0), (1, .int (i3 x1)), (2, .int (i3 x2)), (3, .int (i3 x3)), (4, .ref a4), (5, .ref a5), (6, .ref a6), (7, .ref a7), (8, .int (i3 x8)), (9, .int (i3 x9)), (10, .int (i3 x10))] [.int (i3 (t0 - 200))] n h) :
    Ok X bb sb9 236 [(0, .ref a0), (1, .int (i3 x1)), (2, .int (i3 x2)), (3, .int (i3 x3)), (4, .ref a4), (5, .ref a5), (6, .ref a6), (7, .ref a7), (8, .int (i3 x8)), (9, .int (i3 x9)), (10, .int (i3 x10))] [.int (i3 t0)] n h := by
  refine ok_sipush (pc := 236) hc (v := i3 200) dL_act_236 (by decide) ?_
  refine zk_isub (pc := 239) hc dL_act_239 ?_
  exact P

set_option maxHeartbeats 4000000 in
set_option maxRecDepth 100000 in
theorem sL_act_240 {X : Xt} {n : Nat} {h : HP} {a0 : Nat} {x1 : Int} {x2 : Int} {x3 : Int} {a4 : Nat} {a5 : Nat} {a6 : Nat} {a7 : Nat} {x8 : Int} {x9 : Int} {x10 : Int} {t0 : Int} {bb : Nat} {sb9 : Nat} (hc : Cx X cL_act RL 13 9 194) {K : KT} (hr : CxR X (some .boolean) K) 
    (P : (R3 x9) ∧ (x9 = 0 → Ok X bb sb9 253 [(0, .ref a0), (1, .int (i3 x1)), (2, .int (i3 x2)), (3, .int (i3 x3)), (4, .ref a4), (5, .ref a5), (6, .ref a6), (7, .ref a7), (8, .int (i3 x8)), (9, .int (i3 x9)), (10, .int (i3 x10)), (11, .int (i3 t0))] [] n h) ∧ (¬ x9 = 0 → (R3 x1) ∧ (10 ≤ x1 → Ok X bb sb9 295 [(0, .ref a0), (1, .int (i3 x1)), (2, .int (i3 x2)), (3, .int (i3 x3)), (4, .ref a4), (5, .ref a5), (6, .ref a6), (7, .ref a7), (8, .int (i3 x8)), (9, .int (i3 x9)), (10, .int (i3 x10)), (11, .int (i3 t0))] [] n h) ∧ (¬ 10 ≤ x1 → Ok X bb sb9 253 [(0, .ref a0), (1, .int (i3 x1)), (2, .int (i3 x2)), (3, .int (i3 x3)), (4, .ref a4), (5, .ref a5), (6, .ref a6), (7, .ref a7), (8, .int (i3 x8)), (9, .int (i3 x9)), (10, .int (i3 x10)), (11, .int (i3 t0))] [] n h))) :
    Ok X bb sb9 240 [(0, .ref a0), (1, .int (i3 x1)), (2, .int (i3 x2)), (3, .int (i3 x3)), (4, .ref a4), (5, .ref a5), (6, .ref a6), (7, .ref a7), (8, .int (i3 x8)), (9, .int (i3 x9)), (10, .int (i3 x10))] [.int (i3 t0)] n h := by
  refine ok_istore (pc := 240) hc (lv' := [(11, .int (i3 t0)), (0, .ref a0), (1, .int (i3 x1)), (2, .int (i3 x2)), (3, .int (i3 x3)), (4, .ref a4), (5, .ref a5), (6, .ref a6), (7, .ref a7), (8, .int (i3 x8)), (9, .int (i3 x9)), (10, .int (i3 x10))]) dL_act_240 (by decide) rfl ?_
  refine ok_iload (pc := 242) hc dL_act_242 10 rfl ?_
  obtain ⟨r1, P⟩ := P
  refine zk_if_eq (pc := 244) (tgt := 253) hc dL_act_244 (by decide) r1 (fun c => ?_) (fun c => ?_)
  · have P := P.1 c
    refine ok_lv [1, 2, 3, 4, 5, 6, 7, 8, 9, 10, 11, 0] rfl ?_
    exact P
  · have P := P.2 c
    refine ok_iload_n (pc := 247) hc dL_act_247 rfl 2 rfl ?_
    refine ok_bipush (pc := 248) hc (v := i3 10) dL_act_248 (by decide) ?_
    obtain ⟨r2, P⟩ := P
    refine zk_icmp_ge (pc := 250) (tgt := 295) hc dL_act_250 (by decide) r2 ⟨by decide, by decide⟩ (fun c => ?_) (fun c => ?_)
    · have P := P.1 c
      refine ok_lv [1, 2, 3, 4, 5, 6, 7, 8, 9, 10, 11, 0] rfl ?_
      exact P
    · have P := P.2 c
      refine ok_lv [1, 2, 3, 4, 5, 6, 7, 8, 9, 10, 11, 0] rfl ?_
      exact P

set_option maxHeartbeats 4000000 in
set_option maxRecDepth 100000 in
theorem sL_act_253 {X : Xt} {n : Nat} {h : HP} {a0 : Nat} {x1 : Int} {x2 : Int} {x3 : Int} {a4 : Nat} {a5 : Nat} {a6 : Nat} {a7 : Nat} {x8 : Int} {x9 : Int} {x10 : Int} {x11 : Int} {bb : Nat} {sb9 : Nat} {f1 : Nat → Int} (hc : Cx X cL_act RL 13 9 194) {K : KT} (hr : CxR X (some .boolean) K) (e1 : At h n a5 (ai 48 f1))
    (P : (Ix ((4 * x8) + 3) 48) ∧ spec_L_settle [.ref a4, .ref a5, .ref a6, .ref a7] n (va_up h a5 (ai 48 (va_up f1 (((4 * x8) + 3) : Int).toNat x11))) (kc X bb sb9 272 [(0, .ref a0), (1, .int (i3 x1)), (2, .int (i3 x2)), (3, .int (i3 x3)), (4, .ref a4), (5, .ref a5), (6, .ref a6), (7, .ref a7), (8, .int (i3 x8)), (9, .int (i3 x9)), (10, .int (i3 x10)), (11, .int (i3 x11))] [] n)) :
    Ok X bb sb9 253 [(0, .ref a0), (1, .int (i3 x1)), (2, .int (i3 x2)), (3, .int (i3 x3)), (4, .ref a4), (5, .ref a5), (6, .ref a6), (7, .ref a7), (8, .int (i3 x8)), (9, .int (i3 x9)), (10, .int (i3 x10)), (11, .int (i3 x11))] [] n h := by
  refine ok_aload (pc := 253) hc dL_act_253 5 rfl ?_
  refine ok_iconst (pc := 255) hc (v := i3 4) dL_act_255 (by decide) ?_
  refine ok_iload (pc := 256) hc dL_act_256 8 rfl ?_
  refine zk_imul (pc := 258) hc dL_act_258 ?_
  refine ok_iconst (pc := 259) hc (v := i3 3) dL_act_259 (by decide) ?_
  refine zk_iadd (pc := 260) hc dL_act_260 ?_
  refine ok_iload (pc := 261) hc dL_act_261 11 rfl ?_
  obtain ⟨r, P⟩ := P
  refine zk_iast (pc := 263) hc dL_act_263 e1.1 e1.2 r ?_
  refine ok_aload (pc := 264) hc dL_act_264 4 rfl ?_
  refine ok_aload (pc := 266) hc dL_act_266 5 rfl ?_
  refine ok_aload (pc := 268) hc dL_act_268 6 rfl ?_
  refine ok_aload (pc := 270) hc dL_act_270 7 rfl ?_
  exact ok_callS (pc := 272) (cb := bb) (sb := sb9) (st := []) hc [.ref a4, .ref a5, .ref a6, .ref a7] cs_L_105 sp_L_settle (by decide) dL_act_272 rfl rfl rfl rfl (Nat.le_of_ble_eq_true rfl) P

set_option maxHeartbeats 4000000 in
set_option maxRecDepth 100000 in
theorem sL_act_275 {X : Xt} {n : Nat} {h : HP} {a0 : Nat} {x1 : Int} {x2 : Int} {x3 : Int} {a4 : Nat} {a5 : Nat} {a6 : Nat} {a7 : Nat} {x8 : Int} {x9 : Int} {x10 : Int} {x11 : Int} {t0 : Int} {bb : Nat} {sb9 : Nat} {fs1 : List Value} (hc : Cx X cL_act RL 13 9 194) {K : KT} (hr : CxR X (some .boolean) K) (e1 : At h n a0 (.inl (6, fs1))) (z1 : fs1.length = 6)
    (P : spec_X6_setValue [.ref a0, .int (i3 x8), .int (i3 x11)] n h (kc X bb sb9 281 [(0, .ref a0), (1, .int (i3 x1)), (2, .int (i3 x2)), (3, .int (i3 x3)), (4, .ref a4), (5, .ref a5), (6, .ref a6), (7, .ref a7), (8, .int (i3 x8)), (9, .int (i3 x9)), (10, .int (i3 x10)), (11, .int (i3 x11))] [] n)) :
    Ok X (bb + 2) (sb9 + 12) 275 [(0, .ref a0), (1, .int (i3 x1)), (2, .int (i3 x2)), (3, .int (i3 x3)), (4, .ref a4), (5, .ref a5), (6, .ref a6), (7, .ref a7), (8, .int (i3 x8)), (9, .int (i3 x9)), (10, .int (i3 x10)), (11, .int (i3 x11))] [.int (i3 t0)] n h := by
  refine ok_pop (pc := 275) hc dL_act_275 rfl ?_
  refine ok_aload_n (pc := 276) hc dL_act_276 rfl 0 rfl ?_
  refine ok_iload (pc := 277) hc dL_act_277 8 rfl ?_
  refine ok_iload (pc := 279) hc dL_act_279 11 rfl ?_
  exact ok_callV (pc := 281) (a := a0) (cb := bb) (sb := sb9) (st := []) hc [.int (i3 x8), .int (i3 x11)] cv_L_150 sp_X6_setValue (by decide) dL_act_281 rfl e1.1 e1.2 rfl rfl rfl (Nat.le_of_ble_eq_true rfl) P

set_option maxHeartbeats 4000000 in
set_option maxRecDepth 100000 in
theorem sL_act_284 {X : Xt} {n : Nat} {h : HP} {a0 : Nat} {x1 : Int} {x2 : Int} {x3 : Int} {a4 : Nat} {a5 : Nat} {a6 : Nat} {a7 : Nat} {x8 : Int} {x9 : Int} {x10 : Int} {x11 : Int} {t0 : Int} {bb : Nat} {sb9 : Nat} (hc : Cx X cL_act RL 13 9 194) {K : KT} (hr : CxR X (some .boolean) K) 
    (P : (R3 t0) ∧ (R3 x10) ∧ (¬ t0 = x10 → K (.inl (some (.int (i3 0)))) n h) ∧ (t0 = x10 → K (.inl (some (.int (i3 1)))) n h)) :
    Ok X bb sb9 284 [(0, .ref a0), (1, .int (i3 x1)), (2, .int (i3 x2)), (3, .int (i3 x3)), (4, .ref a4), (5, .ref a5), (6, .ref a6), (7, .ref a7), (8, .int (i3 x8)), (9, .int (i3 x9)), (10, .int (i3 x10)), (11, .int (i3 x11))] [.int (i3 t0)] n h := by
  refine ok_iload (pc := 284) hc dL_act_284 10 rfl ?_
  obtain ⟨r1, P⟩ := P
  obtain ⟨r2, P⟩ := P
  refine zk_icmp_ne (pc := 286) (tgt := 293) hc dL_act_286 (by decide) r1 r2 (fun c => ?_) (fun c => ?_)
  · have P := P.1 c
    refine ok_iconst (pc := 293) hc (v := i3 0) dL_act_293 (by decide) ?_
    exact ok_zret (st := []) (pc := 294) hc (nar_z (by decide)) hr dL_act_294 P
  · have P := P.2 c
    refine ok_iconst (pc := 289) hc (v := i3 1) dL_act_289 (by decide) ?_
    refine ok_goto (pc := 290) (tgt := 294) hc dL_act_290 (by decide) ?_
    exact ok_zret (st := []) (pc := 294) hc (nar_z (by decide)) hr dL_act_294 P

set_option maxHeartbeats 4000000 in
set_option maxRecDepth 100000 in
theorem sL_act_295 {X : Xt} {n : Nat} {h : HP} {a0 : Nat} {x1 : Int} {x2 : Int} {x3 : Int} {a4 : Nat} {a5 : Nat} {a6 : Nat} {a7 : Nat} {x8 : Int} {x9 : Int} {x10 : Int} {x11 : Int} {bb : Nat} {sb9 : Nat} (hc : Cx X cL_act RL 13 9 194) {K : KT} (hr : CxR X (some .boolean) K) 
    (P : Ok X bb sb9 298 [(0, .ref a0), (1, .int (i3 x1)), (2, .int (i3 x2)), (3, .int (i3 x3)), (4, .ref a4), (5, .ref a5), (6, .ref a6), (7, .ref a7), (8, .int (i3 x8)), (9, .int (i3 x9)), (10, .int (i3 x10)), (11, .int (i3 x11)), (12, .int (i3 0))] [] n h) :
    Ok X bb sb9 295 [(0, .ref a0), (1, .int (i3 x1)), (2, .int (i3 x2)), (3, .int (i3 x3)), (4, .ref a4), (5, .ref a5), (6, .ref a6), (7, .ref a7), (8, .int (i3 x8)), (9, .int (i3 x9)), (10, .int (i3 x10)), (11, .int (i3 x11))] [] n h := by
  refine ok_iconst (pc := 295) hc (v := i3 0) dL_act_295 (by decide) ?_
  refine ok_istore (pc := 296) hc (lv' := [(12, .int (i3 0)), (0, .ref a0), (1, .int (i3 x1)), (2, .int (i3 x2)), (3, .int (i3 x3)), (4, .ref a4), (5, .ref a5), (6, .ref a6), (7, .ref a7), (8, .int (i3 x8)), (9, .int (i3 x9)), (10, .int (i3 x10)), (11, .int (i3 x11))]) dL_act_296 (by decide) rfl ?_
  refine ok_lv [1, 2, 3, 4, 5, 6, 7, 8, 9, 10, 11, 12, 0] rfl ?_
  exact P

set_option maxHeartbeats 4000000 in
set_option maxRecDepth 100000 in
theorem sL_act_362 {X : Xt} {n : Nat} {h : HP} {a0 : Nat} {x1 : Int} {x2 : Int} {x3 : Int} {a4 : Nat} {a5 : Nat} {a6 : Nat} {a7 : Nat} {x8 : Int} {x9 : Int} {x10 : Int} {x11 : Int} {x12 : Int} {bb : Nat} {sb9 : Nat} (hc : Cx X cL_act RL 13 9 194) {K : KT} (hr : CxR X (some .boolean) K) 
    (P : spec_L_settle [.ref a4, .ref a5, .ref a6, .ref a7] n h (kc X bb sb9 370 [(0, .ref a0), (1, .int (i3 x1)), (2, .int (i3 x2)), (3, .int (i3 x3)), (4, .ref a4), (5, .ref a5), (6, .ref a6), (7, .ref a7), (8, .int (i3 x8)), (9, .int (i3 x9)), (10, .int (i3 x10)), (11, .int (i3 x11)), (12, .int (i3 x12))] [] n)) :
    Ok X bb sb9 362 [(0, .ref a0), (1, .int (i3 x1)), (2, .int (i3 x2)), (3, .int (i3 x3)), (4, .ref a4), (5, .ref a5), (6, .ref a6), (7, .ref a7), (8, .int (i3 x8)), (9, .int (i3 x9)), (10, .int (i3 x10)), (11, .int (i3 x11)), (12, .int (i3 x12))] [] n h := by
  refine ok_aload (pc := 362) hc dL_act_362 4 rfl ?_
  refine ok_aload (pc := 364) hc dL_act_364 5 rfl ?_
  refine ok_aload (pc := 366) hc dL_act_366 6 rfl ?_
  refine ok_aload (pc := 368) hc dL_act_368 7 rfl ?_
  exact ok_callS (pc := 370) (cb := bb) (sb := sb9) (st := []) hc [.ref a4, .ref a5, .ref a6, .ref a7] cs_L_105 sp_L_settle (by decide) dL_act_370 rfl rfl rfl rfl (Nat.le_of_ble_eq_true rfl) P

set_option maxHeartbeats 4000000 in
set_option maxRecDepth 100000 in
theorem sL_act_373 {X : Xt} {n : Nat} {h : HP} {a0 : Nat} {x1 : Int} {x2 : Int} {x3 : Int} {a4 : Nat} {a5 : Nat} {a6 : Nat} {a7 : Nat} {x8 : Int} {x9 : Int} {x10 : Int} {x11 : Int} {x12 : Int} {t0 : Int} {bb : Nat} {sb9 : Nat} {fs1 : List Value} (hc : Cx X cL_act RL 13 9 194) {K : KT} (hr : CxR X (some .boolean) K) (e1 : At h n a0 (.inl (6, fs1))) (z1 : fs1.length = 6)
    (P : spec_X6_sweep [.ref a0, .int (i3 x8), .int (i3 x11)] n h (kc X bb sb9 379 [(0, .ref a0), (1, .int (i3 x1)), (2, .int (i3 x2)), (3, .int (i3 x3)), (4, .ref a4), (5, .ref a5), (6, .ref a6), (7, .ref a7), (8, .int (i3 x8)), (9, .int (i3 x9)), (10, .int (i3 x10)), (11, .int (i3 x11)), (12, .int (i3 x12))] [] n)) :
    Ok X (bb + 3) (sb9 + 18) 373 [(0, .ref a0), (1, .int (i3 x1)), (2, .int (i3 x2)), (3, .int (i3 x3)), (4, .ref a4), (5, .ref a5), (6, .ref a6), (7, .ref a7), (8, .int (i3 x8)), (9, .int (i3 x9)), (10, .int (i3 x10)), (11, .int (i3 x11)), (12, .int (i3 x12))] [.int (i3 t0)] n h := by
  refine ok_pop (pc := 373) hc dL_act_373 rfl ?_
  refine ok_aload_n (pc := 374) hc dL_act_374 rfl 0 rfl ?_
  refine ok_iload (pc := 375) hc dL_act_375 8 rfl ?_
  refine ok_iload (pc := 377) hc dL_act_377 11 rfl ?_
  exact ok_callV (pc := 379) (a := a0) (cb := bb) (sb := sb9) (st := []) hc [.int (i3 x8), .int (i3 x11)] cv_L_153 sp_X6_sweep (by decide) dL_act_379 rfl e1.1 e1.2 rfl rfl rfl (Nat.le_of_ble_eq_true rfl) P

set_option maxHeartbeats 4000000 in
set_option maxRecDepth 100000 in
theorem sL_act_382 {X : Xt} {n : Nat} {h : HP} {a0 : Nat} {x1 : Int} {x2 : Int} {x3 : Int} {a4 : Nat} {a5 : Nat} {a6 : Nat} {a7 : Nat} {x8 : Int} {x9 : Int} {x10 : Int} {x11 : Int} {x12 : Int} {t0 : Int} {bb : Nat} {sb9 : Nat} (hc : Cx X cL_act RL 13 9 194) {K : KT} (hr : CxR X (some .boolean) K) 
    (P : (R3 t0) ∧ (R3 x12) ∧ (¬ t0 = x12 → K (.inl (some (.int (i3 0)))) n h) ∧ (t0 = x12 → K (.inl (some (.int (i3 1)))) n h)) :
    Ok X bb sb9 382 [(0, .ref a0), (1, .int (i3 x1)), (2, .int (i3 x2)), (3, .int (i3 x3)), (4, .ref a4), (5, .ref a5), (6, .ref a6), (7, .ref a7), (8, .int (i3 x8)), (9, .int (i3 x9)), (10, .int (i3 x10)), (11, .int (i3 x11)), (12, .int (i3 x12))] [.int (i3 t0)] n h := by
  refine ok_iload (pc := 382) hc dL_act_382 12 rfl ?_
  obtain ⟨r1, P⟩ := P
  obtain ⟨r2, P⟩ := P
  refine zk_icmp_ne (pc := 384) (tgt := 391) hc dL_act_384 (by decide) r1 r2 (fun c => ?_) (fun c => ?_)
  · have P := P.1 c
    refine ok_iconst (pc := 391) hc (v := i3 0) dL_act_391 (by decide) ?_
    exact ok_zret (st := []) (pc := 392) hc (nar_z (by decide)) hr dL_act_392 P
  · have P := P.2 c
    refine ok_iconst (pc := 387) hc (v := i3 1) dL_act_387 (by decide) ?_
    refine ok_goto (pc := 388) (tgt := 392) hc dL_act_388 (by decide) ?_
    exact ok_zret (st := []) (pc := 392) hc (nar_z (by decide)) hr dL_act_392 P

set_option maxHeartbeats 4000000 in
set_option maxRecDepth 100000 in
theorem sL_act_393 {X : Xt} {n : Nat} {h : HP} {a0 : Nat} {x1 : Int} {x2 : Int} {x3 : Int} {a4 : Nat} {a5 : Nat} {a6 : Nat} {a7 : Nat} {x8 : Int} {x9 : Int} {bb : Nat} {sb9 : Nat} (hc : Cx X cL_act RL 13 9 194) {K : KT} (hr : CxR X (some .boolean) K) 
    (P : (R3 x9) ∧ (¬ x9 = 2 → Ok X bb sb9 441 [(0, .ref a0), (1, .int (i3 x1)), (2, .int (i3 x2)), (3, .int (i3 x3)), (4, .ref a4), (5, .ref a5), (6, .ref a6), (7, .ref a7), (8, .int (i3 x8)), (9, .int (i3 x9))] [] n h) ∧ (x9 = 2 → Ok X bb sb9 399 [(0, .ref a0), (1, .int (i3 x1)), (2, .int (i3 x2)), (3, .int (i3 x3)), (4, .ref a4), (5, .ref a5), (6, .ref a6), (7, .ref a7), (8, .int (i3 x8)), (9, .int (i3 x9))] [] n h)) :
    Ok X bb sb9 393 [(0, .ref a0), (1, .int (i3 x1)), (2, .int (i3 x2)), (3, .int (i3 x3)), (4, .ref a4), (5, .ref a5), (6, .ref a6), (7, .ref a7), (8, .int (i3 x8)), (9, .int (i3 x9))] [] n h := by
  refine ok_iload (pc := 393) hc dL_act_393 9 rfl ?_
  refine ok_iconst (pc := 395) hc (v := i3 2) dL_act_395 (by decide) ?_
  obtain ⟨r1, P⟩ := P
  refine zk_icmp_ne (pc := 396) (tgt := 441) hc dL_act_396 (by decide) r1 ⟨by decide, by decide⟩ (fun c => ?_) (fun c => ?_)
  · have P := P.1 c
    exact P
  · have P := P.2 c
    exact P

set_option maxHeartbeats 4000000 in
set_option maxRecDepth 100000 in
theorem sL_act_399 {X : Xt} {n : Nat} {h : HP} {a0 : Nat} {x1 : Int} {x2 : Int} {x3 : Int} {a4 : Nat} {a5 : Nat} {a6 : Nat} {a7 : Nat} {x8 : Int} {x9 : Int} {bb : Nat} {sb9 : Nat} {f1 : Nat → Int} {ps2 : List Part} {f3 : Nat → Int} (hc : Cx X cL_act RL 13 9 194) {K : KT} (hr : CxR X (some .boolean) K) (e1 : At h n a5 (ai 48 f1)) (hP2 : PaF f1 ps2) (e3 : At h n a4 (ai 4 f3))
    (P : (0 ≤ x8 ∧ x8 ≤ ps2.length) ∧ (Ix 2 4) ∧ (0 ≤ (nA (ps2.take (x8 : Int).toNat) : Int) ∧ (nA (ps2.take (x8 : Int).toNat) : Int) < 4) ∧ (((0 : Int) ≤ (f3 (2 : Int).toNat) ∧ (f3 (2 : Int).toNat) ≤ 2147483647) ∧ (0 : Int) < ((3 : Int) ^ ((nA (ps2.take (x8 : Int).toNat) : Int) : Int).toNat) ∧ (((3 : Int) ^ ((nA (ps2.take (x8 : Int).toNat) : Int) : Int).toNat) : Int) ≤ 2147483647) ∧ (Ix 2 4) ∧ (0 ≤ ((nA (ps2.take (x8 : Int).toNat) : Int) + 1) ∧ ((nA (ps2.take (x8 : Int).toNat) : Int) + 1) < 4) ∧ (((0 : Int) ≤ (f3 (2 : Int).toNat) ∧ (f3 (2 : Int).toNat) ≤ 2147483647) ∧ (0 : Int) < ((3 : Int) ^ (((nA (ps2.take (x8 : Int).toNat) : Int) + 1) : Int).toNat) ∧ (((3 : Int) ^ (((nA (ps2.take (x8 : Int).toNat) : Int) + 1) : Int).toNat) : Int) ≤ 2147483647) ∧ (0 ≤ (nA (ps2.take (x8 : Int).toNat) : Int) ∧ (nA (ps2.take (x8 : Int).toNat) : Int) < 4) ∧ (Ix 2 4) ∧ Ok X bb sb9 441 [(0, .ref a0), (1, .int (i3 x1)), (2, .int (i3 x2)), (3, .int (i3 x3)), (4, .ref a4), (5, .ref a5), (6, .ref a6), (7, .ref a7), (8, .int (i3 x8)), (9, .int (i3 x9))] [] n (va_up h a4 (ai 4 (va_up f3 (2 : Int).toNat (((f3 (2 : Int).toNat) % ((3 : Int) ^ ((nA (ps2.take (x8 : Int).toNat) : Int) : Int).toNat)) + (((f3 (2 : Int).toNat) / ((3 : Int) ^ (((nA (ps2.take (x8 : Int).toNat) : Int) + 1) : Int).toNat)) * ((3 : Int) ^ ((nA (ps2.take (x8 : Int).toNat) : Int) : Int).toNat))))))) :
    Ok X bb sb9 399 [(0, .ref a0), (1, .int (i3 x1)), (2, .int (i3 x2)), (3, .int (i3 x3)), (4, .ref a4), (5, .ref a5), (6, .ref a6), (7, .ref a7), (8, .int (i3 x8)), (9, .int (i3 x9))] [] n h := by
  refine ok_iload (pc := 399) hc dL_act_399 8 rfl ?_
  refine ok_aload (pc := 401) hc dL_act_401 5 rfl ?_
  obtain ⟨r0, P⟩ := P
  refine ok_callS (pc := 403) (cb := bb) (sb := sb9) (st := []) hc [.int (i3 x8), .ref a5] cs_L_18 sp_L_amplifiers (by decide) dL_act_403 rfl rfl rfl rfl (Nat.le_of_ble_eq_true rfl) (⟨(x8 : Int).toNat, _, _, _, (by rw [Int.toNat_of_nonneg r0.1]), ⟨e1.1, e1.2⟩, hP2, (by omega), rfl, ?_⟩)
  show Ok X bb sb9 (403 + 3) [(0, .ref a0), (1, .int (i3 x1)), (2, .int (i3 x2)), (3, .int (i3 x3)), (4, .ref a4), (5, .ref a5), (6, .ref a6), (7, .ref a7), (8, .int (i3 x8)), (9, .int (i3 x9))] [.int (i3 (nA (ps2.take (x8 : Int).toNat) : Int))] n h
  refine ok_istore (pc := 406) hc (lv' := [(10, .int (i3 (nA (ps2.take (x8 : Int).toNat) : Int))), (0, .ref a0), (1, .int (i3 x1)), (2, .int (i3 x2)), (3, .int (i3 x3)), (4, .ref a4), (5, .ref a5), (6, .ref a6), (7, .ref a7), (8, .int (i3 x8)), (9, .int (i3 x9))]) dL_act_406 (by decide) rfl ?_
  refine ok_aload (pc := 408) hc dL_act_408 5 rfl ?_
  refine ok_iconst (pc := 410) hc (v := i3 2) dL_act_410 (by decide) ?_
  refine ok_aload (pc := 411) hc dL_act_411 5 rfl ?_
  refine ok_iconst (pc := 413) hc (v := i3 2) dL_act_413 (by decide) ?_
  obtain ⟨r, P⟩ := P
  refine zk_iald (pc := 414) hc dL_act_414 e3.1 e3.2 r ?_
  refine ok_iload (pc := 415) hc dL_act_415 0 rfl ?_
  obtain ⟨r0, P⟩ := P
  refine ok_callS (pc := 417) (cb := bb) (sb := sb9) (st := [.int (i3 (f3 (2 : Int).toNat)), .int (i3 2), .ref a4]) hc [.int (i3 (nA (ps2.take (x8 : Int).toNat) : Int))] cs_L_21 sp_L_power (by decide) dL_act_417 rfl rfl rfl rfl (Nat.le_of_ble_eq_true rfl) (⟨_, rfl, r0, rfl, ?_⟩)
  show Ok X bb sb9 (417 + 3) [(10, .int (i3 (nA (ps2.take (x8 : Int).toNat) : Int))), (0, .ref a0), (1, .int (i3 x1)), (2, .int (i3 x2)), (3, .int (i3 x3)), (4, .ref a4), (5, .ref a5), (6, .ref a6), (7, .ref a7), (8, .int (i3 x8)), (9, .int (i3 x9))] [.int (i3 ((3 : Int) ^ ((nA (ps2.take (x8 : Int).toNat) : Int) : Int).toNat)), .int (i3 (f3 (2 : Int).toNat)), .int (i3 2), .ref a4] n h
  obtain ⟨r, P⟩ := P
  refine zk_irem (pc := 420) hc dL_act_420 r ?_
  refine ok_aload (pc := 421) hc dL_act_421 5 rfl ?_
  refine ok_iconst (pc := 423) hc (v := i3 2) dL_act_423 (by decide) ?_
  obtain ⟨r, P⟩ := P
  refine zk_iald (pc := 424) hc dL_act_424 e3.1 e3.2 r ?_
  refine ok_iload (pc := 425) hc dL_act_425 0 rfl ?_
  refine ok_iconst (pc := 427) hc (v := i3 1) dL_act_427 (by decide) ?_
  refine zk_iadd (pc := 428) hc dL_act_428 ?_
  obtain ⟨r0, P⟩ := P
  refine ok_callS (pc := 429) (cb := bb) (sb := sb9) (st := [.int (i3 (f3 (2 : Int).toNat)), .int (i3 ((f3 (2 : Int).toNat) % ((3 : Int) ^ ((nA (ps2.take (x8 : Int).toNat) : Int) : Int).toNat))), .int (i3 2), .ref a4]) hc [.int (i3 ((nA (ps2.take (x8 : Int).toNat) : Int) + 1))] cs_L_21 sp_L_power (by decide) dL_act_429 rfl rfl rfl rfl (Nat.le_of_ble_eq_true rfl) (⟨_, rfl, r0, rfl, ?_⟩)
  show Ok X bb sb9 (429 + 3) [(10, .int (i3 (nA (ps2.take (x8 : Int).toNat) : Int))), (0, .ref a0), (1, .int (i3 x1)), (2, .int (i3 x2)), (3, .int (i3 x3)), (4, .ref a4), (5, .ref a5), (6, .ref a6), (7, .ref a7), (8, .int (i3 x8)), (9, .int (i3 x9))] [.int (i3 ((3 : Int) ^ (((nA (ps2.take (x8 : Int).toNat) : Int) + 1) : Int).toNat)), .int (i3 (f3 (2 : Int).toNat)), .int (i3 ((f3 (2 : Int).toNat) % ((3 : Int) ^ ((nA (ps2.take (x8 : Int).toNat) : Int) : Int).toNat))), .int (i3 2), .ref a4] n h
  obtain ⟨r, P⟩ := P
  refine zk_idiv (pc := 432) hc dL_act_432 r ?_
  refine ok_iload (pc := 433) hc dL_act_433 0 rfl ?_
  obtain ⟨r0, P⟩ := P
  refine ok_callS (pc := 435) (cb := bb) (sb := sb9) (st := [.int (i3 ((f3 (2 : Int).toNat) / ((3 : Int) ^ (((nA (ps2.take (x8 : Int).toNat) : Int) + 1) : Int).toNat))), .int (i3 ((f3 (2 : Int).toNat) % ((3 : Int) ^ ((nA (ps2.take (x8 : Int).toNat) : Int) : Int).toNat))), .int (i3 2), .ref a4]) hc [.int (i3 (nA (ps2.take (x8 : Int).toNat) : Int))] cs_L_21 sp_L_power (by decide) dL_act_435 rfl rfl rfl rfl (Nat.le_of_ble_eq_true rfl) (⟨_, rfl, r0, rfl, ?_⟩)
  show Ok X bb sb9 (435 + 3) [(10, .int (i3 (nA (ps2.take (x8 : Int).toNat) : Int))), (0, .ref a0), (1, .int (i3 x1)), (2, .int (i3 x2)), (3, .int (i3 x3)), (4, .ref a4), (5, .ref a5), (6, .ref a6), (7, .ref a7), (8, .int (i3 x8)), (9, .int (i3 x9))] [.int (i3 ((3 : Int) ^ ((nA (ps2.take (x8 : Int).toNat) : Int) : Int).toNat)), .int (i3 ((f3 (2 : Int).toNat) / ((3 : Int) ^ (((nA (ps2.take (x8 : Int).toNat) : Int) + 1) : Int).toNat))), .int (i3 ((f3 (2 : Int).toNat) % ((3 : Int) ^ ((nA (ps2.take (x8 : Int).toNat) : Int) : Int).toNat))), .int (i3 2), .ref a4] n h
  refine zk_imul (pc := 438) hc dL_act_438 ?_
  refine zk_iadd (pc := 439) hc dL_act_439 ?_
  obtain ⟨r, P⟩ := P
  refine zk_iast (pc := 440) hc dL_act_440 e3.1 e3.2 r ?_
  refine ok_lv [1, 2, 3, 4, 5, 6, 7, 8, 9, 10] rfl ?_
  exact P

set_option maxHeartbeats 4000000 in
set_option maxRecDepth 100000 in
theorem sL_act_441 {X : Xt} {n : Nat} {h : HP} {a0 : Nat} {x1 : Int} {x2 : Int} {x3 : Int} {a4 : Nat} {a5 : Nat} {a6 : Nat} {a7 : Nat} {x8 : Int} {x9 : Int} {bb : Nat} {sb9 : Nat} {f1 : Nat → Int} (hc : Cx X cL_act RL 13 9 194) {K : KT} (hr : CxR X (some .boolean) K) (e1 : At h n a4 (ai 4 f1))
    (P : (Ix 0 4) ∧ (Ix 0 4) ∧ Ok X bb sb9 455 [(0, .ref a0), (1, .int (i3 x1)), (2, .int (i3 x2)), (3, .int (i3 x3)), (4, .ref a4), (5, .ref a5), (6, .ref a6), (7, .ref a7), (8, .int (i3 x8)), (9, .int (i3 x9)), (10, .int (i3 (4 * x8)))] [] n (va_up h a4 (ai 4 (va_up f1 (0 : Int).toNat ((f1 (0 : Int).toNat) - 1))))) :
    Ok X bb sb9 441 [(0, .ref a0), (1, .int (i3 x1)), (2, .int (i3 x2)), (3, .int (i3 x3)), (4, .ref a4), (5, .ref a5), (6, .ref a6), (7, .ref a7), (8, .int (i3 x8)), (9, .int (i3 x9))] [] n h := by
  refine ok_aload (pc := 441) hc dL_act_441 4 rfl ?_
  refine ok_iconst (pc := 443) hc (v := i3 0) dL_act_443 (by decide) ?_
  refine ok_dup2_11 (pc := 444) hc dL_act_444 rfl rfl ?_
  obtain ⟨r, P⟩ := P
  refine zk_iald (pc := 445) hc dL_act_445 e1.1 e1.2 r ?_
  refine ok_iconst (pc := 446) hc (v := i3 1) dL_act_446 (by decide) ?_
  refine zk_isub (pc := 447) hc dL_act_447 ?_
  obtain ⟨r, P⟩ := P
  refine zk_iast (pc := 448) hc dL_act_448 e1.1 e1.2 r ?_
  refine ok_iconst (pc := 449) hc (v := i3 4) dL_act_449 (by decide) ?_
  refine ok_iload (pc := 450) hc dL_act_450 8 rfl ?_
  refine zk_imul (pc := 452) hc dL_act_452 ?_
  refine ok_istore (pc := 453) hc (lv' := [(10, .int (i3 (4 * x8))), (0, .ref a0), (1, .int (i3 x1)), (2, .int (i3 x2)), (3, .int (i3 x3)), (4, .ref a4), (5, .ref a5), (6, .ref a6), (7, .ref a7), (8, .int (i3 x8)), (9, .int (i3 x9))]) dL_act_453 (by decide) rfl ?_
  refine ok_lv [1, 2, 3, 4, 5, 6, 7, 8, 9, 10, 0] rfl ?_
  exact P

set_option maxHeartbeats 4000000 in
set_option maxRecDepth 100000 in
theorem sL_act_484 {X : Xt} {n : Nat} {h : HP} {a0 : Nat} {x1 : Int} {x2 : Int} {x3 : Int} {a4 : Nat} {a5 : Nat} {a6 : Nat} {a7 : Nat} {x8 : Int} {x9 : Int} {x10 : Int} {bb : Nat} {sb9 : Nat} (hc : Cx X cL_act RL 13 9 194) {K : KT} (hr : CxR X (some .boolean) K) 
    (P : spec_L_settle [.ref a4, .ref a5, .ref a6, .ref a7] n h (kc X bb sb9 492 [(0, .ref a0), (1, .int (i3 x1)), (2, .int (i3 x2)), (3, .int (i3 x3)), (4, .ref a4), (5, .ref a5), (6, .ref a6), (7, .ref a7), (8, .int (i3 x8)), (9, .int (i3 x9)), (10, .int (i3 x10))] [] n)) :
    Ok X bb sb9 484 [(0, .ref a0), (1, .int (i3 x1)), (2, .int (i3 x2)), (3, .int (i3 x3)), (4, .ref a4), (5, .ref a5), (6, .ref a6), (7, .ref a7), (8, .int (i3 x8)), (9, .int (i3 x9)), (10, .int (i3 x10))] [] n h := by
  refine ok_aload (pc := 484) hc dL_act_484 4 rfl ?_
  refine ok_aload (pc := 486) hc dL_act_486 5 rfl ?_
  refine ok_aload (pc := 488) hc dL_act_488 6 rfl ?_
  refine ok_aload (pc := 490) hc dL_act_490 7 rfl ?_
  exact ok_callS (pc := 492) (cb := bb) (sb := sb9) (st := []) hc [.ref a4, .ref a5, .ref a6, .ref a7] cs_L_105 sp_L_settle (by decide) dL_act_492 rfl rfl rfl rfl (Nat.le_of_ble_eq_true rfl) P

set_option maxHeartbeats 4000000 in
set_option maxRecDepth 100000 in
theorem sL_act_495 {X : Xt} {n : Nat} {h : HP} {a0 : Nat} {x1 : Int} {x2 : Int} {x3 : Int} {a4 : Nat} {a5 : Nat} {a6 : Nat} {a7 : Nat} {x8 : Int} {x9 : Int} {x10 : Int} {t0 : Int} {bb : Nat} {sb9 : Nat} {fs1 : List Value} (hc : Cx X cL_act RL 13 9 194) {K : KT} (hr : CxR X (some .boolean) K) (e1 : At h n a0 (.inl (6, fs1))) (z1 : fs1.length = 6)
    (P : spec_X6_drop [.ref a0, .int (i3 x8)] n h (kc X bb sb9 499 [(0, .ref a0), (1, .int (i3 x1)), (2, .int (i3 x2)), (3, .int (i3 x3)), (4, .ref a4), (5, .ref a5), (6, .ref a6), (7, .ref a7), (8, .int (i3 x8)), (9, .int (i3 x9)), (10, .int (i3 x10))] [] n)) :
    Ok X (bb + 1) (sb9 + 6) 495 [(0, .ref a0), (1, .int (i3 x1)), (2, .int (i3 x2)), (3, .int (i3 x3)), (4, .ref a4), (5, .ref a5), (6, .ref a6), (7, .ref a7), (8, .int (i3 x8)), (9, .int (i3 x9)), (10, .int (i3 x10))] [.int (i3 t0)] n h := by
  refine ok_pop (pc := 495) hc dL_act_495 rfl ?_
  refine ok_aload_n (pc := 496) hc dL_act_496 rfl 0 rfl ?_
  refine ok_iload (pc := 497) hc dL_act_497 8 rfl ?_
  exact ok_callV (pc := 499) (a := a0) (cb := bb) (sb := sb9) (st := []) hc [.int (i3 x8)] cv_L_156 sp_X6_drop (by decide) dL_act_499 rfl e1.1 e1.2 rfl rfl rfl (Nat.le_of_ble_eq_true rfl) P

set_option maxHeartbeats 4000000 in
set_option maxRecDepth 100000 in
theorem sL_act_502 {X : Xt} {n : Nat} {h : HP} {a0 : Nat} {x1 : Int} {x2 : Int} {x3 : Int} {a4 : Nat} {a5 : Nat} {a6 : Nat} {a7 : Nat} {x8 : Int} {x9 : Int} {x10 : Int} {t0 : Int} {bb : Nat} {sb9 : Nat} {f1 : Nat → Int} (hc : Cx X cL_act RL 13 9 194) {K : KT} (hr : CxR X (some .boolean) K) (e1 : At h n a4 (ai 4 f1))
    (P : (Ix 0 4) ∧ (R3 t0) ∧ (R3 (f1 (0 : Int).toNat)) ∧ (¬ t0 = (f1 (0 : Int).toNat) → K (.inl (some (.int (i3 0)))) n h) ∧ (t0 = (f1 (0 : Int).toNat) → K (.inl (some (.int (i3 1)))) n h)) :
    Ok X bb sb9 502 [(0, .ref a0), (1, .int (i3 x1)), (2, .int (i3 x2)), (3, .int (i3 x3)), (4, .ref a4), (5, .ref a5), (6, .ref a6), (7, .ref a7), (8, .int (i3 x8)), (9, .int (i3 x9)), (10, .int (i3 x10))] [.int (i3 t0)] n h := by
  refine ok_aload (pc := 502) hc dL_act_502 4 rfl ?_
  refine ok_iconst (pc := 504) hc (v := i3 0) dL_act_504 (by decide) ?_
  obtain ⟨r, P⟩ := P
  refine zk_iald (pc := 505) hc dL_act_505 e1.1 e1.2 r ?_
  obtain ⟨r2, P⟩ := P
  obtain ⟨r3, P⟩ := P
  refine zk_icmp_ne (pc := 506) (tgt := 513) hc dL_act_506 (by decide) r2 r3 (fun c => ?_) (fun c => ?_)
  · have P := P.1 c
    refine ok_iconst (pc := 513) hc (v := i3 0) dL_act_513 (by decide) ?_
    exact ok_zret (st := []) (pc := 514) hc (nar_z (by decide)) hr dL_act_514 P
  · have P := P.2 c
    refine ok_iconst (pc := 509) hc (v := i3 1) dL_act_509 (by decide) ?_
    refine ok_goto (pc := 510) (tgt := 514) hc dL_act_510 (by decide) ?_
    exact ok_zret (st := []) (pc := 514) hc (nar_z (by decide)) hr dL_act_514 P

def spec_L_act (args : List Value) (n : Nat) (h : HP) (K : KT) : Prop := ∃ (q : Dsk) (w x y : Int) (d a e f : Nat), args = [.ref 0, .int (i3 w), .int (i3 x), .int (i3 y), .ref d, .ref a, .ref e, .ref f] ∧ (0 ≤ w ∧ w < 14) ∧ D4 d a e f ∧ W4 h n d a e f q h ∧ OkF q ∧ ∀ h' q', W4 h n d a e f q' h' → HR q q' → OkF q' → K (.inl (some (.int (i3 1)))) n h'
theorem V4.w {h hh h' : HP} {n d a e f : Nat} {q q' : Dsk} {Fd F : Nat → Int} (w : V4 h n d a e f q Fd F hh) (D : D4 d a e f) (p : DkA h' n q') (g : Fr hh h' 0 127) (hD : DFS Fd q'.1) (hP : PaF F q'.1.1) : W4 h n d a e f q' h' := ⟨Fd, F, w.fr D p g, hD, hP⟩
/-- begin, the rail, a value, a sweep, a drop -/
theorem begS {s : Int} (h : s = 0 ∨ s = 1) : setS ([], 150, 0, s) = ([], 150, 0, 1) := by
  have j0 : (jud ([], 150, 0, s) 0).1 = 0 := by
    rw [jud_key (S1 := ([], 150, 0, s)) (S2 := S0) rfl rfl]
    exact jud_0
  exact if_pos j0
set_option maxHeartbeats 16000000 in
theorem sp_L_act : Sp yL_act cL_act 13 (some .boolean) 9 194 58 348 spec_L_act := by
  refine sp_intro (by decide) (by rintro args n h K ⟨q, w, x, y, d, a, e, f, rfl, -⟩; exact Nat.le_of_ble_eq_true rfl) ?_
  rintro X args n h K hc hr ⟨q, w, x, y, d, a, e, f, rfl, hw14, D, hW, hO, kk⟩
  obtain ⟨Fd, F, hw, hD, hP⟩ := id hW
  have hG := hw.1.gd.1
  have hl := hP.1
  have h3 := hG.1.2.1
  have h27 := c27 h3
  have hst := hG.2.2.2
  have rw9 : R3 w := R3_s (by omega)
  have d0 : Fd (0 : Int).toNat = q.1.1.length := hD.1
  have d1 : Fd (1 : Int).toNat = q.1.2.1 := hD.2.1
  have hrl := hG.2.1
  have rl : R3 (q.1.1.length : Int) := R3_s (by omega)
  refine sL_act_0 (bb := 58) (sb9 := 348) hc hr ⟨rw9, fun w6 => ?_, fun w6 => ?_⟩
  rotate_left
  · exact sL_act_6 (bb := 36) (sb9 := 216) hc hr ⟨q, x, y, d, a, e, f, rfl, D, hW, hO, fun h' q' a1 a2 a3 => ⟨rfl, sL_act_20 (t0 := 1) hc hr ⟨Or.inr rfl, kk h' q' a1 a2 a3⟩⟩⟩
  refine sL_act_21 hc hr ⟨rw9, fun w7 => ?_, fun w7 => ?_⟩
  rotate_left
  · -- the rail
    refine sL_act_27 hc hr hw.2.1 ⟨⟨by decide, by decide, by decide⟩, x, 191, rfl, ⟨by decide, by decide⟩, fun z hz0 hz1 => ⟨rfl, ?_⟩⟩
    rw [d1]
    have hGS : GdS (q.1.1, 10 + z, q.1.2.2) := ⟨hG.1, ⟨(by omega : 10 ≤ 10 + z), (by omega : 10 + z ≤ 200)⟩, hG.2.2.1, hG.2.2.2⟩
    have hD2 : DFS (va_up Fd (1 : Int).toNat (10 + z)) (q.1.1, 10 + z, q.1.2.2) := ⟨(up_ne (by decide)).trans hD.1, up_self, (up_ne (by decide)).trans hD.2.2.1, (up_ne (by decide)).trans hD.2.2.2⟩
    refine sL_act_45 hc hr hw.2.1 ⟨⟨by decide, by decide, by decide⟩, st_ok (hw.d D) D hD2 hP hGS (fun h2 Fd2 hw2 hD3 => ⟨rfl, ?_⟩)⟩
    have e1 : Fd2 (1 : Int).toNat = 10 + z := by
      have := hD3.2.1
      rw [setS_21] at this
      exact this
    refine sL_act_58 (t0 := if (setS (q.1.1, 10 + z, q.1.2.2)).2.2.1 = q.1.2.2.1 then 0 else 1) (bb := 57) (sb9 := 342) hc hr hw2.2.1 hw2.1.1 rfl ?_
    rw [e1]
    refine ⟨⟨by decide, by decide, by decide⟩, q, 10 + z, rfl, R3_s (by omega), hw2.1, ?_⟩
    have eo : opRail q (10 + z) = ((setS (q.1.1, 10 + z, q.1.2.2), pushH q.2.1 q.1, q.2.2), .inl q.1.2.1) := if_pos ⟨by omega, by omega⟩
    rw [eo]
    intro h3 hq3 f3
    refine ⟨rfl, sL_act_67 (t0 := q.1.2.1) hc hr ⟨R3_s (by omega), R3_s (by omega), fun z => absurd rfl z, fun _ => ?_⟩⟩
    exact kk h3 _ (hw2.w D hq3 f3 hD3 (by rw [show (setS (q.1.1, 10 + z, q.1.2.2), pushH q.2.1 q.1, q.2.2).1.1 = q.1.1 from setS_1 _]; exact hP)) (Or.inr rfl) (hO.push hGS)
  refine sL_act_78 hc hr ⟨rw9, fun w8 => ?_, fun w8 => ?_⟩
  rotate_left
  · -- begin, or a stage
    refine sL_act_84 hc hr ⟨x, 4, rfl, ⟨by decide, by decide⟩, fun z hz0 hz1 => ⟨rfl, sL_act_89 hc hr ⟨R3_s (by omega), fun _ => ?_, fun _ => ?_⟩⟩⟩
    · refine sL_act_106 hc hr hw.2.1 hw.1.1 rfl ?_
      rw [d0, va_up2, va_up2, va_up2]
      have hw2 := hw.d (Fd' := va_up (va_up (va_up (va_up Fd (0 : Int).toNat 0) (1 : Int).toNat 150) (2 : Int).toNat 0) (3 : Int).toNat 1) D
      have i4 : ∀ z : Int, 0 ≤ z → z < 4 → Ix z 4 := fun z a b => ⟨a, by omega, by omega⟩
      refine ⟨i4 _ (by decide) (by decide), i4 _ (by decide) (by decide), i4 _ (by decide) (by decide), i4 _ (by decide) (by decide), i4 _ (by decide) (by decide), q, rfl, hw2.1, fun h3 hq3 f3 => ⟨rfl, sL_act_138 (t0 := (q.1.1.length : Int)) hc hr ⟨rl, rl, fun z => absurd rfl z, fun _ => ?_⟩⟩⟩
      have hG0 : GdS ([], 150, 0, q.1.2.2.2) := ⟨gdP_nil, ⟨(by decide : (10 : Int) ≤ 150), (by decide : (150 : Int) ≤ 200)⟩, ⟨Int.le_refl _, by show (0 : Int) < 3 ^ nA []; rw [nA_nil]; decide⟩, hst⟩
      refine kk h3 _ (hw2.w D hq3 f3 ?_ ?_) (Or.inr rfl) (hO.push hG0)
      · show DFS _ (setS ([], 150, 0, q.1.2.2.2))
        rw [begS hst]
        exact ⟨rfl, rfl, rfl, rfl⟩
      · show PaF F (setS ([], 150, 0, q.1.2.2.2)).1
        rw [setS_1]
        exact ⟨Nat.zero_le _, fun i p hp => by simp at hp, fun p hp => absurd hp List.not_mem_nil, hP.2.2.2⟩
    · exact sL_act_92 (bb := 0) (sb9 := 0) hc hr ⟨q, y, d, a, e, f, rfl, D, hW, hO, fun h' q' a1 a2 a3 => ⟨rfl, sL_act_105 (t0 := 1) hc hr ⟨Or.inr rfl, kk h' q' a1 a2 a3⟩⟩⟩
  refine sL_act_149 hc hr hw.2.1 ?_
  rw [d0]
  refine ⟨⟨by decide, by decide, by decide⟩, rl, fun w9 => ?_, fun w9 => ?_⟩
  rotate_left
  · exact sL_act_156 (bb := 0) (sb9 := 0) hc hr ⟨q, y, d, a, e, f, rfl, D, hW, hO, fun h' q' a1 a2 a3 => ⟨rfl, sL_act_169 (t0 := 1) hc hr ⟨Or.inr rfl, kk h' q' a1 a2 a3⟩⟩⟩
  refine sL_act_170 hc hr hw.2.1 ?_
  rw [d0]
  refine ⟨⟨by decide, by decide, by decide⟩, x, _, rfl, ⟨by omega, by omega⟩, fun z hz0 hz1 => ⟨rfl, ?_⟩⟩
  obtain ⟨i, rfl⟩ : ∃ i : Nat, z = i := ⟨z.toNat, by omega⟩
  have hp : q.1.1[i]? = some q.1.1[i] := List.getElem?_eq_getElem (by omega)
  generalize q.1.1[i] = p at hp
  obtain ⟨g0, g1, g2, g3, hi', hl', hpw⟩ := hP.g hp
  have ix0 : Ix (4 * (i : Int)) 48 := ⟨by omega, by omega, by omega⟩
  have ix3 : Ix (4 * (i : Int) + 3) 48 := ⟨by omega, by omega, by omega⟩
  have rp : R3 p.1 := by rw [← g0]; exact hP.2.2.2 _
  have rv9 : R3 p.2.2.2 := by rw [← g3]; exact hP.2.2.2 _
  have ri : R3 (i : Int) := R3_s (by omega)
  have eti : (i : Int).toNat = i := by omega
  have hpr : prt q.1.1 i = some p := by rw [prt_i]; exact hp
  refine sL_act_178 hc hr hw.2.2.1 ?_
  rw [g0, g3]
  refine ⟨ix0, rw9, fun w12 => ?_, fun w12 => ⟨rp, fun k2 => ?_, fun _ => kk h q hW (Or.inl rfl) hO⟩⟩
  · -- a drop
    have hGr := hG.rem hp
    have eo : opDrop q i = ((setS (remS q.1 i p), pushH q.2.1 q.1, q.2.2), .inl ((q.1.1.length : Int) - 1)) := by
      unfold opDrop
      rw [hpr]
      simp only
      rw [eti]
    have last : ∀ (h1 : HP) (Fd1 : Nat → Int) (c : Int), V4 h n d a e f q Fd1 F h1 → Fd1 0 = (q.1.1.length : Nat) → Fd1 1 = q.1.2.1 → Fd1 2 = (remS q.1 i p).2.2.1 → Fd1 3 = q.1.2.2.2 → Ok X 58 348 441 [(0, .ref 0), (1, .int (i3 w)), (2, .int (i3 x)), (3, .int (i3 y)), (4, .ref d), (5, .ref a), (6, .ref e), (7, .ref f), (8, .int (i3 (i : Int))), (9, .int (i3 c))] [] n h1 := fun h1 Fd1 c hw1 f0 f1 f2 f3 => by
      have f0' : Fd1 (0 : Int).toNat = (q.1.1.length : Nat) := f0
      refine sL_act_441 hc hr hw1.2.1 ?_
      rw [f0']
      refine ⟨⟨by decide, by decide, by decide⟩, ⟨by decide, by decide, by decide⟩, ?_⟩
      have hw2 := hw1.d (Fd' := va_up Fd1 (0 : Int).toNat ((q.1.1.length : Int) - 1)) D
      have eL : (va_up Fd1 (0 : Int).toNat ((q.1.1.length : Int) - 1)) 0 = ((q.1.1.length - 1 : Nat) : Int) := by
        rw [show (va_up Fd1 (0 : Int).toNat ((q.1.1.length : Int) - 1)) 0 = (q.1.1.length : Int) - 1 from up_self]
        omega
      have hD2 : DFS (va_up Fd1 (0 : Int).toNat ((q.1.1.length : Int) - 1)) (remS q.1 i p) := by
        refine ⟨?_, (up_ne (by decide)).trans f1, (up_ne (by decide)).trans f2, (up_ne (by decide)).trans f3⟩
        rw [eL]
        show _ = ((q.1.1.eraseIdx i).length : Int)
        rw [List.length_eraseIdx_of_lt hi']
      generalize va_up Fd1 (0 : Int).toNat ((q.1.1.length : Int) - 1) = Fd2 at hw2 eL hD2
      have e4 : 4 * (i : Int) = ((4 * i : Nat) : Int) := by omega
      rw [e4]
      refine act_dr (L := q.1.1.length - 1) hc hr D (by omega) (by omega) eL hP.2.2.2 (fun h3 G x10 hw3 b1 b2 b3 => ?_) (4 * (q.1.1.length - 1) - 4 * i) (4 * i) (by omega) (by omega) _ F hw2 (fun _ _ => rfl) (fun _ b1 b2 => absurd b2 (by omega)) (fun _ _ => rfl)
      have hPe : PaF G (remS q.1 i p).1 := hP.erase hi' b1 b2 b3
      refine sL_act_484 hc hr (st_ok hw3 D hD2 hPe hGr (fun h4 Fd4 hw4 hD4 => ⟨rfl, ?_⟩))
      refine sL_act_495 (t0 := if (setS (remS q.1 i p)).2.2.1 = (remS q.1 i p).2.2.1 then 0 else 1) (bb := 57) (sb9 := 342) hc hr hw4.1.1 rfl ⟨q, i, rfl, ri, hw4.1, ?_⟩
      rw [eo]
      intro h5 hq5 f5
      have e5 : Fd4 (0 : Int).toNat = (q.1.1.length : Int) - 1 := by
        have : Fd4 0 = ((setS (remS q.1 i p)).1.length : Nat) := hD4.1
        rw [setS_1] at this
        rw [show (0 : Int).toNat = 0 from rfl, this]
        show (((q.1.1.eraseIdx i).length : Nat) : Int) = _
        rw [List.length_eraseIdx_of_lt hi']
        omega
      have hw5 := hw4.fr D hq5 f5
      refine ⟨rfl, sL_act_502 (t0 := (q.1.1.length : Int) - 1) hc hr hw5.2.1 ?_⟩
      rw [e5]
      refine ⟨⟨by decide, by decide, by decide⟩, R3_s (by omega), R3_s (by omega), fun z => absurd rfl z, fun _ => ?_⟩
      exact kk h5 _ ⟨Fd4, G, hw5, hD4, by rw [show (setS (remS q.1 i p), pushH q.2.1 q.1, q.2.2).1.1 = (remS q.1 i p).1 from setS_1 _]; exact hPe⟩ (Or.inr rfl) (hO.push hGr)
    refine sL_act_393 hc hr ⟨rp, fun k2 => ?_, fun k2 => ?_⟩
    · exact last h Fd _ hw hD.1 hD.2.1 (by show Fd 2 = (if p.1 = 2 then _ else q.1.2.2.1); rw [if_neg k2]; exact hD.2.2.1) hD.2.2.2
    · have d2 : Fd (2 : Int).toNat = q.1.2.2.1 := hD.2.2.1
      have hna := nA_take hp k2
      have hci : 0 ≤ q.1.2.2.1 ∧ q.1.2.2.1 ≤ 26 := by have := hG.2.2.1; omega
      refine sL_act_399 hc hr hw.2.2.1 hP hw.2.1 ?_
      rw [d2, eti, show ((nA (q.1.1.take i) : Nat) : Int).toNat = nA (q.1.1.take i) from Int.toNat_natCast _, show (((nA (q.1.1.take i) : Nat) : Int) + 1).toNat = nA (q.1.1.take i) + 1 by omega]
      have q1 := pow3_pos (nA (q.1.1.take i))
      have q2 := pow3_pos (nA (q.1.1.take i) + 1)
      have q3 := c27 (k := nA (q.1.1.take i)) (by omega)
      have q4 := c27 (k := nA (q.1.1.take i) + 1) (by omega)
      have i2 : Ix 2 4 := ⟨by decide, by decide, by decide⟩
      refine ⟨⟨by omega, by omega⟩, i2, ⟨by omega, by omega⟩, ⟨⟨by omega, by omega⟩, q1, by omega⟩, i2, ⟨by omega, by omega⟩, ⟨⟨by omega, by omega⟩, q2, by omega⟩, ⟨by omega, by omega⟩, i2, ?_⟩
      refine last _ _ _ (hw.d D) ((up_ne (by decide)).trans hD.1) ((up_ne (by decide)).trans hD.2.1) ?_ ((up_ne (by decide)).trans hD.2.2.2)
      rw [show (2 : Int).toNat = 2 from rfl, up_self]
      show _ = (if p.1 = 2 then outC q.1.2.2.1 (nA (q.1.1.take i)) else q.1.2.2.1)
      rw [if_pos k2]
      unfold outC
      rw [show (3 : Int) ^ (nA (q.1.1.take i) + 1) = 3 * 3 ^ nA (q.1.1.take i) from by rw [Int.pow_succ, Int.mul_comm], Int.add_comm]
  · -- a value, or a sweep
    have hk01 : p.1 = 0 ∨ p.1 = 1 := by
      unfold PW at hpw
      omega
    have val : ∀ v : Int, PW (valP p v) → stlB p v = true → R3 v → Ok X 58 348 253 [(0, .ref 0), (1, .int (i3 w)), (2, .int (i3 x)), (3, .int (i3 y)), (4, .ref d), (5, .ref a), (6, .ref e), (7, .ref f), (8, .int (i3 (i : Int))), (9, .int (i3 p.1)), (10, .int (i3 p.2.2.2)), (11, .int (i3 v))] [] n h := fun v hv hsv rv => by
      have hGv := hG.val hp k2 hv
      have hPv := hP.set hp hv rv
      refine sL_act_253 hc hr hw.2.2.1 ⟨ix3, st_ok (hw.a D) D (hD.set (List.length_set ..)) hPv hGv (fun h2 Fd2 hw2 hD2 => ⟨rfl, ?_⟩)⟩
      have eo : opValue q i v = ((setS (q.1.1.set i (valP p v), q.1.2), pushH q.2.1 q.1, q.2.2), .inl p.2.2.2) := by
        unfold opValue
        rw [hpr]
        simp only
        rw [if_neg k2, if_pos hsv, eti]
      refine sL_act_275 (t0 := if (setS (q.1.1.set i (valP p v), q.1.2)).2.2.1 = q.1.2.2.1 then 0 else 1) (bb := 56) (sb9 := 336) hc hr hw2.1.1 rfl ⟨q, i, v, rfl, ri, rv, hw2.1, ?_⟩
      rw [eo]
      intro h3 hq3 f3
      refine ⟨rfl, sL_act_284 (t0 := p.2.2.2) hc hr ⟨rv9, rv9, fun z => absurd rfl z, fun _ => ?_⟩⟩
      exact kk h3 _ (hw2.w D hq3 f3 hD2 (by rw [show (setS (q.1.1.set i (valP p v), q.1.2), pushH q.2.1 q.1, q.2.2).1.1 = q.1.1.set i (valP p v) from setS_1 _]; exact hPv)) (Or.inr rfl) (hO.push hGv)
    refine ⟨ix3, rp, fun k0 => ?_, fun k0 => ?_⟩
    · have hk1 : p.1 = 1 := by omega
      refine ⟨y, 401, rfl, ⟨by decide, by decide⟩, fun z hz0 hz1 => ⟨rfl, sL_act_236 hc hr ?_⟩⟩
      have hv : -200 ≤ z - 200 ∧ z - 200 ≤ 200 := ⟨by omega, by omega⟩
      generalize z - 200 = v at hv
      have hsv : stlB p v = true := by
        unfold stlB
        rw [if_neg k0]
        exact decide_eq_true hv
      have rv : R3 v := R3_s (by omega)
      refine sL_act_240 hc hr ⟨rp, fun z0 => absurd z0 k0, fun _ => ⟨rw9, fun w10 => ?_, fun _ => val v (pw_src hpw hk1 hv) hsv rv⟩⟩
      have hs := told_src (hG.1.2.2.1 p (List.mem_of_getElem? hp)) hk1
      obtain ⟨dd, hdd⟩ : ∃ dd : Int, dd = (if v ≤ p.2.2.2 then -1 else 1) := ⟨_, rfl⟩
      obtain ⟨j, hj⟩ : ∃ j : Nat, j = (absZ (v - p.2.2.2)).toNat := ⟨_, rfl⟩
      have hd1 : dd = 1 ∨ dd = -1 := by
        rw [hdd]
        split
        · exact Or.inr rfl
        · exact Or.inl rfl
      have hvj : v = p.2.2.2 + dd * (j : Nat) ∧ j ≤ 400 := by
        rw [hdd, hj]
        unfold absZ
        split <;> split <;> omega
      have eo : opSweep q i v = (((swpL i dd j q.1 0).1, pushH q.2.1 q.1, q.2.2), .inl (swpL i dd j q.1 0).2) := by
        unfold opSweep
        rw [hpr]
        simp only
        rw [if_pos hk1, if_pos hv, eti, ← hdd, ← hj]
      refine sL_act_295 hc hr ?_
      refine act_sw (R := swpL i dd j q.1 0) hc hr D hd1 hv (fun h2 Fd2 F2 hw2 hD2 hP2 hG2 hfx rR => ?_) j q.1 p h Fd F 0 hvj.1 hw hD hP hG hO.2.1 hp hk1 rfl ⟨Int.le_refl _, by omega⟩
      refine sL_act_362 hc hr (st_ok hw2 D hD2 hP2 hG2 (fun h3 Fd3 hw3 hD3 => ⟨rfl, ?_⟩))
      rw [hfx] at hD3
      have hOk : OkF ((swpL i dd j q.1 0).1, pushH q.2.1 q.1, q.2.2) := by
        have := hO.push hG2
        rw [hfx] at this
        exact this
      refine sL_act_373 (t0 := if (setS (swpL i dd j q.1 0).1).2.2.1 = (swpL i dd j q.1 0).1.2.2.1 then 0 else 1) (bb := 55) (sb9 := 330) hc hr hw3.1.1 rfl ⟨q, i, v, rfl, ri, rv, hw3.1, ?_⟩
      rw [eo]
      intro h4 hq4 f4
      exact ⟨rfl, sL_act_382 (t0 := (swpL i dd j q.1 0).2) hc hr ⟨rR, rR, fun z => absurd rfl z, fun _ => kk h4 _ (hw3.w D hq4 f4 hD3 hP2) (Or.inr rfl) hOk⟩⟩
    · refine ⟨y, 4, rfl, ⟨by decide, by decide⟩, fun z hz0 hz1 => ⟨rfl, sL_act_225 hc hr ?_⟩⟩
      refine sL_act_240 hc hr ⟨rp, fun _ => val (1 + z) (pw_res hpw k0 ⟨by omega, by omega⟩) ?_ (R3_s (by omega)), fun z0 => absurd k0 z0⟩
      unfold stlB
      rw [if_pos k0]
      exact decide_eq_true ⟨by omega, by omega⟩
