/-! part a31: the law's type; texts of parts -/
set_option maxHeartbeats 4000000 in
set_option maxRecDepth 100000 in
theorem sL_type_0 {X : Xt} {n : Nat} {h : HP} {a0 : Nat} {x1 : Int} {a2 : Nat} {x3 : Int} {bb : Nat} {sb9 : Nat} {f1 : Nat → Int} {fs4 : List Value} (hc : Cx X cL_type RL 8 7 111) {K : KT} (hr : CxR X (some .int) K) (e1 : At h n a2 (ai 48 f1)) (e4 : At h n a0 (.inl (6, fs4))) (z4 : fs4.length = 6)
    (P : (Ix (4 * x1) 48) ∧ (Ix ((4 * x1) + 3) 48) ∧ (R3 (f1 (4 * x1 : Int).toNat)) ∧ (¬ (f1 (4 * x1 : Int).toNat) = 0 → (R3 (f1 (4 * x1 : Int).toNat)) ∧ (¬ (f1 (4 * x1 : Int).toNat) = 1 → spec_X6_append [.ref a0, .int (i3 111)] n h (kc X bb sb9 43 [(0, .ref a0), (1, .int (i3 x1)), (2, .ref a2), (3, .int (i3 x3)), (4, .int (i3 x3)), (5, .int (i3 (f1 (4 * x1 : Int).toNat))), (6, .int (i3 (f1 (((4 * x1) + 3) : Int).toNat)))] [] n)) ∧ ((f1 (4 * x1 : Int).toNat) = 1 → spec_X6_append [.ref a0, .int (i3 115)] n h (kc X bb sb9 43 [(0, .ref a0), (1, .int (i3 x1)), (2, .ref a2), (3, .int (i3 x3)), (4, .int (i3 x3)), (5, .int (i3 (f1 (4 * x1 : Int).toNat))), (6, .int (i3 (f1 (((4 * x1) + 3) : Int).toNat)))] [] n))) ∧ ((f1 (4 * x1 : Int).toNat) = 0 → spec_X6_append [.ref a0, .int (i3 114)] n h (kc X bb sb9 43 [(0, .ref a0), (1, .int (i3 x1)), (2, .ref a2), (3, .int (i3 x3)), (4, .int (i3 x3)), (5, .int (i3 (f1 (4 * x1 : Int).toNat))), (6, .int (i3 (f1 (((4 * x1) + 3) : Int).toNat)))] [] n))) :
    Ok X (bb + 1) (sb9 + 6) 0 [(0, .ref a0), (1, .int (i3 x1)), (2, .ref a2), (3, .int (i3 x3))] [] n h := by
  refine ok_iload_n (pc := 0) hc dL_type_0 rfl 3 rfl ?_
  refine ok_istore (pc := 1) hc (lv' := [(4, .int (i3 x3)), (0, .ref a0), (1, .int (i3 x1)), (2, .ref a2), (3, .int (i3 x3))]) dL_type_1 (by decide) rfl ?_
  refine ok_iload_n (pc := 3) hc dL_type_3 rfl 2 rfl ?_
  refine ok_aload_n (pc := 4) hc dL_type_4 rfl 3 rfl ?_
  obtain ⟨r0, P⟩ := P
  refine ok_callS (pc := 5) (cb := (bb + 1)) (sb := (sb9 + 6)) (st := []) hc [.int (i3 x1), .ref a2] cs_L_8 sp_L_kind (by decide) dL_type_5 rfl rfl rfl rfl (Nat.le_of_ble_eq_true rfl) (⟨_, _, _, _, rfl, ⟨e1.1, e1.2⟩, r0, rfl, ?_⟩)
  show Ok X (bb + 1) (sb9 + 6) (5 + 3) [(4, .int (i3 x3)), (0, .ref a0), (1, .int (i3 x1)), (2, .ref a2), (3, .int (i3 x3))] [.int (i3 (f1 (4 * x1 : Int).toNat))] n h
  refine ok_istore (pc := 8) hc (lv' := [(5, .int (i3 (f1 (4 * x1 : Int).toNat))), (4, .int (i3 x3)), (0, .ref a0), (1, .int (i3 x1)), (2, .ref a2), (3, .int (i3 x3))]) dL_type_8 (by decide) rfl ?_
  refine ok_aload_n (pc := 10) hc dL_type_10 rfl 4 rfl ?_
  refine ok_iconst (pc := 11) hc (v := i3 4) dL_type_11 (by decide) ?_
  refine ok_iload_n (pc := 12) hc dL_type_12 rfl 3 rfl ?_
  refine zk_imul (pc := 13) hc dL_type_13 ?_
  refine ok_iconst (pc := 14) hc (v := i3 3) dL_type_14 (by decide) ?_
  refine zk_iadd (pc := 15) hc dL_type_15 ?_
  obtain ⟨r, P⟩ := P
  refine zk_iald (pc := 16) hc dL_type_16 e1.1 e1.2 r ?_
  refine ok_istore (pc := 17) hc (lv' := [(6, .int (i3 (f1 (((4 * x1) + 3) : Int).toNat))), (5, .int (i3 (f1 (4 * x1 : Int).toNat))), (4, .int (i3 x3)), (0, .ref a0), (1, .int (i3 x1)), (2, .ref a2), (3, .int (i3 x3))]) dL_type_17 (by decide) rfl ?_
  refine ok_aload_n (pc := 19) hc dL_type_19 rfl 3 rfl ?_
  refine ok_iload (pc := 20) hc dL_type_20 1 rfl ?_
  obtain ⟨r2, P⟩ := P
  refine zk_if_ne (pc := 22) (tgt := 30) hc dL_type_22 (by decide) r2 (fun c => ?_) (fun c => ?_)
  · have P := P.1 c
    refine ok_iload (pc := 30) hc dL_type_30 1 rfl ?_
    refine ok_iconst (pc := 32) hc (v := i3 1) dL_type_32 (by decide) ?_
    obtain ⟨r3, P⟩ := P
    refine zk_icmp_ne (pc := 33) (tgt := 41) hc dL_type_33 (by decide) r3 ⟨by decide, by decide⟩ (fun c => ?_) (fun c => ?_)
    · have P := P.1 c
      refine ok_bipush (pc := 41) hc (v := i3 111) dL_type_41 (by decide) ?_
      refine ok_lv [3, 4, 5, 6, 2, 1, 0] rfl ?_
      exact ok_callV (pc := 43) (a := a0) (cb := bb) (sb := sb9) (st := []) hc [.int (i3 111)] cv_L_116 sp_X6_append (by decide) dL_type_43 rfl e4.1 e4.2 rfl rfl rfl (Nat.le_of_ble_eq_true rfl) P
    · have P := P.2 c
      refine ok_bipush (pc := 36) hc (v := i3 115) dL_type_36 (by decide) ?_
      refine ok_goto (pc := 38) (tgt := 43) hc dL_type_38 (by decide) ?_
      refine ok_lv [3, 4, 5, 6, 2, 1, 0] rfl ?_
      exact ok_callV (pc := 43) (a := a0) (cb := bb) (sb := sb9) (st := []) hc [.int (i3 115)] cv_L_116 sp_X6_append (by decide) dL_type_43 rfl e4.1 e4.2 rfl rfl rfl (Nat.le_of_ble_eq_true rfl) P
  · have P := P.2 c
    refine ok_bipush (pc := 25) hc (v := i3 114) dL_type_25 (by decide) ?_
    refine ok_goto (pc := 27) (tgt := 43) hc dL_type_27 (by decide) ?_
    refine ok_lv [3, 4, 5, 6, 2, 1, 0] rfl ?_
    exact ok_callV (pc := 43) (a := a0) (cb := bb) (sb := sb9) (st := []) hc [.int (i3 114)] cv_L_116 sp_X6_append (by decide) dL_type_43 rfl e4.1 e4.2 rfl rfl rfl (Nat.le_of_ble_eq_true rfl) P

set_option maxHeartbeats 4000000 in
set_option maxRecDepth 100000 in
theorem sL_type_46 {X : Xt} {n : Nat} {h : HP} {a0 : Nat} {x1 : Int} {a2 : Nat} {x3 : Int} {x4 : Int} {x5 : Int} {x6 : Int} {t0 : Int} {bb : Nat} {sb9 : Nat} (hc : Cx X cL_type RL 8 7 111) {K : KT} (hr : CxR X (some .int) K) 
    (P : (R3 t0) ∧ (R3 (x4 + 1)) ∧ (¬ t0 = (x4 + 1) → K (.inl (some (.int (i3 (-99))))) n h) ∧ (t0 = (x4 + 1) → Ok X bb sb9 54 [(0, .ref a0), (1, .int (i3 x1)), (2, .ref a2), (3, .int (i3 x3)), (4, .int (i3 (x4 + 1))), (5, .int (i3 x5)), (6, .int (i3 x6))] [] n h)) :
    Ok X bb sb9 46 [(0, .ref a0), (1, .int (i3 x1)), (2, .ref a2), (3, .int (i3 x3)), (4, .int (i3 x4)), (5, .int (i3 x5)), (6, .int (i3 x6))] [.int (i3 t0)] n h := by
  refine zk_iinc (pc := 46) hc (q := 4) (x := x4) (lv' := [(4, .int (i3 (x4 + 1))), (0, .ref a0), (1, .int (i3 x1)), (2, .ref a2), (3, .int (i3 x3)), (5, .int (i3 x5)), (6, .int (i3 x6))]) dL_type_46 rfl (by decide) rfl ?_
  refine ok_iload (pc := 49) hc dL_type_49 0 rfl ?_
  obtain ⟨r1, P⟩ := P
  obtain ⟨r2, P⟩ := P
  refine zk_icmp_ne (pc := 51) (tgt := 76) hc dL_type_51 (by decide) r1 r2 (fun c => ?_) (fun c => ?_)
  · have P := P.1 c
    refine ok_bipush (pc := 76) hc (v := i3 (-99)) dL_type_76 (by decide) ?_
    exact ok_iret (st := []) (pc := 78) hc hr dL_type_78 P
  · have P := P.2 c
    refine ok_lv [1, 2, 3, 4, 0, 5, 6] rfl ?_
    exact P

set_option maxHeartbeats 4000000 in
set_option maxRecDepth 100000 in
theorem sL_type_54 {X : Xt} {n : Nat} {h : HP} {a0 : Nat} {x1 : Int} {a2 : Nat} {x3 : Int} {x4 : Int} {x5 : Int} {x6 : Int} {bb : Nat} {sb9 : Nat} {f1 : Nat → Int} {fs2 : List Value} (hc : Cx X cL_type RL 8 7 111) {K : KT} (hr : CxR X (some .int) K) (e1 : At h n a2 (ai 48 f1)) (e2 : At h n a0 (.inl (6, fs2))) (z2 : fs2.length = 6)
    (P : (Ix ((4 * x1) + 1) 48) ∧ spec_X6_append [.ref a0, .int (i3 (48 + (f1 (((4 * x1) + 1) : Int).toNat)))] n h (kc X bb sb9 65 [(0, .ref a0), (1, .int (i3 x1)), (2, .ref a2), (3, .int (i3 x3)), (4, .int (i3 x4)), (5, .int (i3 x5)), (6, .int (i3 x6))] [] n)) :
    Ok X (bb + 1) (sb9 + 6) 54 [(0, .ref a0), (1, .int (i3 x1)), (2, .ref a2), (3, .int (i3 x3)), (4, .int (i3 x4)), (5, .int (i3 x5)), (6, .int (i3 x6))] [] n h := by
  refine ok_aload_n (pc := 54) hc dL_type_54 rfl 0 rfl ?_
  refine ok_bipush (pc := 55) hc (v := i3 48) dL_type_55 (by decide) ?_
  refine ok_aload_n (pc := 57) hc dL_type_57 rfl 2 rfl ?_
  refine ok_iconst (pc := 58) hc (v := i3 4) dL_type_58 (by decide) ?_
  refine ok_iload_n (pc := 59) hc dL_type_59 rfl 1 rfl ?_
  refine zk_imul (pc := 60) hc dL_type_60 ?_
  refine ok_iconst (pc := 61) hc (v := i3 1) dL_type_61 (by decide) ?_
  refine zk_iadd (pc := 62) hc dL_type_62 ?_
  obtain ⟨r, P⟩ := P
  refine zk_iald (pc := 63) hc dL_type_63 e1.1 e1.2 r ?_
  refine zk_iadd (pc := 64) hc dL_type_64 ?_
  exact ok_callV (pc := 65) (a := a0) (cb := bb) (sb := sb9) (st := []) hc [.int (i3 (48 + (f1 (((4 * x1) + 1) : Int).toNat)))] cv_L_116 sp_X6_append (by decide) dL_type_65 rfl e2.1 e2.2 rfl rfl rfl (Nat.le_of_ble_eq_true rfl) P

set_option maxHeartbeats 4000000 in
set_option maxRecDepth 100000 in
theorem sL_type_68 {X : Xt} {n : Nat} {h : HP} {a0 : Nat} {x1 : Int} {a2 : Nat} {x3 : Int} {x4 : Int} {x5 : Int} {x6 : Int} {t0 : Int} {bb : Nat} {sb9 : Nat} (hc : Cx X cL_type RL 8 7 111) {K : KT} (hr : CxR X (some .int) K) 
    (P : (R3 t0) ∧ (R3 (x4 + 1)) ∧ (t0 = (x4 + 1) → Ok X bb sb9 79 [(0, .ref a0), (1, .int (i3 x1)), (2, .ref a2), (3, .int (i3 x3)), (4, .int (i3 (x4 + 1))), (5, .int (i3 x5)), (6, .int (i3 x6))] [] n h) ∧ (¬ t0 = (x4 + 1) → K (.inl (some (.int (i3 (-99))))) n h)) :
    Ok X bb sb9 68 [(0, .ref a0), (1, .int (i3 x1)), (2, .ref a2), (3, .int (i3 x3)), (4, .int (i3 x4)), (5, .int (i3 x5)), (6, .int (i3 x6))] [.int (i3 t0)] n h := by
  refine zk_iinc (pc := 68) hc (q := 4) (x := x4) (lv' := [(4, .int (i3 (x4 + 1))), (0, .ref a0), (1, .int (i3 x1)), (2, .ref a2), (3, .int (i3 x3)), (5, .int (i3 x5)), (6, .int (i3 x6))]) dL_type_68 rfl (by decide) rfl ?_
  refine ok_iload (pc := 71) hc dL_type_71 0 rfl ?_
  obtain ⟨r1, P⟩ := P
  obtain ⟨r2, P⟩ := P
  refine zk_icmp_eq (pc := 73) (tgt := 79) hc dL_type_73 (by decide) r1 r2 (fun c => ?_) (fun c => ?_)
  · have P := P.1 c
    refine ok_lv [1, 2, 3, 4, 0, 5, 6] rfl ?_
    exact P
  · have P := P.2 c
    refine ok_bipush (pc := 76) hc (v := i3 (-99)) dL_type_76 (by decide) ?_
    exact ok_iret (st := []) (pc := 78) hc hr dL_type_78 P

set_option maxHeartbeats 4000000 in
set_option maxRecDepth 100000 in
theorem sL_type_79 {X : Xt} {n : Nat} {h : HP} {a0 : Nat} {x1 : Int} {a2 : Nat} {x3 : Int} {x4 : Int} {x5 : Int} {x6 : Int} {bb : Nat} {sb9 : Nat} (hc : Cx X cL_type RL 8 7 111) {K : KT} (hr : CxR X (some .int) K) 
    (P : (R3 x5) ∧ (x5 = 1 → Ok X bb sb9 139 [(0, .ref a0), (1, .int (i3 x1)), (2, .ref a2), (3, .int (i3 x3)), (4, .int (i3 x4)), (5, .int (i3 x5)), (6, .int (i3 x6))] [] n h) ∧ (¬ x5 = 1 → Ok X bb sb9 85 [(0, .ref a0), (1, .int (i3 x1)), (2, .ref a2), (3, .int (i3 x3)), (4, .int (i3 x4)), (5, .int (i3 x5)), (6, .int (i3 x6))] [] n h)) :
    Ok X bb sb9 79 [(0, .ref a0), (1, .int (i3 x1)), (2, .ref a2), (3, .int (i3 x3)), (4, .int (i3 x4)), (5, .int (i3 x5)), (6, .int (i3 x6))] [] n h := by
  refine ok_iload (pc := 79) hc dL_type_79 5 rfl ?_
  refine ok_iconst (pc := 81) hc (v := i3 1) dL_type_81 (by decide) ?_
  obtain ⟨r1, P⟩ := P
  refine zk_icmp_eq (pc := 82) (tgt := 139) hc dL_type_82 (by decide) r1 ⟨by decide, by decide⟩ (fun c => ?_) (fun c => ?_)
  · have P := P.1 c
    exact P
  · have P := P.2 c
    exact P

set_option maxHeartbeats 4000000 in
set_option maxRecDepth 100000 in
theorem sL_type_85 {X : Xt} {n : Nat} {h : HP} {a0 : Nat} {x1 : Int} {a2 : Nat} {x3 : Int} {x4 : Int} {x5 : Int} {x6 : Int} {bb : Nat} {sb9 : Nat} {f1 : Nat → Int} {fs2 : List Value} (hc : Cx X cL_type RL 8 7 111) {K : KT} (hr : CxR X (some .int) K) (e1 : At h n a2 (ai 48 f1)) (e2 : At h n a0 (.inl (6, fs2))) (z2 : fs2.length = 6)
    (P : (Ix ((4 * x1) + 2) 48) ∧ spec_X6_append [.ref a0, .int (i3 (48 + (f1 (((4 * x1) + 2) : Int).toNat)))] n h (kc X bb sb9 96 [(0, .ref a0), (1, .int (i3 x1)), (2, .ref a2), (3, .int (i3 x3)), (4, .int (i3 x4)), (5, .int (i3 x5)), (6, .int (i3 x6))] [] n)) :
    Ok X (bb + 1) (sb9 + 6) 85 [(0, .ref a0), (1, .int (i3 x1)), (2, .ref a2), (3, .int (i3 x3)), (4, .int (i3 x4)), (5, .int (i3 x5)), (6, .int (i3 x6))] [] n h := by
  refine ok_aload_n (pc := 85) hc dL_type_85 rfl 0 rfl ?_
  refine ok_bipush (pc := 86) hc (v := i3 48) dL_type_86 (by decide) ?_
  refine ok_aload_n (pc := 88) hc dL_type_88 rfl 2 rfl ?_
  refine ok_iconst (pc := 89) hc (v := i3 4) dL_type_89 (by decide) ?_
  refine ok_iload_n (pc := 90) hc dL_type_90 rfl 1 rfl ?_
  refine zk_imul (pc := 91) hc dL_type_91 ?_
  refine ok_iconst (pc := 92) hc (v := i3 2) dL_type_92 (by decide) ?_
  refine zk_iadd (pc := 93) hc dL_type_93 ?_
  obtain ⟨r, P⟩ := P
  refine zk_iald (pc := 94) hc dL_type_94 e1.1 e1.2 r ?_
  refine zk_iadd (pc := 95) hc dL_type_95 ?_
  exact ok_callV (pc := 96) (a := a0) (cb := bb) (sb := sb9) (st := []) hc [.int (i3 (48 + (f1 (((4 * x1) + 2) : Int).toNat)))] cv_L_116 sp_X6_append (by decide) dL_type_96 rfl e2.1 e2.2 rfl rfl rfl (Nat.le_of_ble_eq_true rfl) P

set_option maxHeartbeats 4000000 in
set_option maxRecDepth 100000 in
theorem sL_type_99 {X : Xt} {n : Nat} {h : HP} {a0 : Nat} {x1 : Int} {a2 : Nat} {x3 : Int} {x4 : Int} {x5 : Int} {x6 : Int} {t0 : Int} {bb : Nat} {sb9 : Nat} (hc : Cx X cL_type RL 8 7 111) {K : KT} (hr : CxR X (some .int) K) 
    (P : (R3 t0) ∧ (R3 (x4 + 1)) ∧ (¬ t0 = (x4 + 1) → K (.inl (some (.int (i3 (-99))))) n h) ∧ (t0 = (x4 + 1) → Ok X bb sb9 107 [(0, .ref a0), (1, .int (i3 x1)), (2, .ref a2), (3, .int (i3 x3)), (4, .int (i3 (x4 + 1))), (5, .int (i3 x5)), (6, .int (i3 x6))] [] n h)) :
    Ok X bb sb9 99 [(0, .ref a0), (1, .int (i3 x1)), (2, .ref a2), (3, .int (i3 x3)), (4, .int (i3 x4)), (5, .int (i3 x5)), (6, .int (i3 x6))] [.int (i3 t0)] n h := by
  refine zk_iinc (pc := 99) hc (q := 4) (x := x4) (lv' := [(4, .int (i3 (x4 + 1))), (0, .ref a0), (1, .int (i3 x1)), (2, .ref a2), (3, .int (i3 x3)), (5, .int (i3 x5)), (6, .int (i3 x6))]) dL_type_99 rfl (by decide) rfl ?_
  refine ok_iload (pc := 102) hc dL_type_102 0 rfl ?_
  obtain ⟨r1, P⟩ := P
  obtain ⟨r2, P⟩ := P
  refine zk_icmp_ne (pc := 104) (tgt := 133) hc dL_type_104 (by decide) r1 r2 (fun c => ?_) (fun c => ?_)
  · have P := P.1 c
    refine ok_bipush (pc := 133) hc (v := i3 (-99)) dL_type_133 (by decide) ?_
    exact ok_iret (st := []) (pc := 135) hc hr dL_type_135 P
  · have P := P.2 c
    refine ok_lv [1, 2, 3, 4, 0, 5, 6] rfl ?_
    exact P

set_option maxHeartbeats 4000000 in
set_option maxRecDepth 100000 in
theorem sL_type_107 {X : Xt} {n : Nat} {h : HP} {a0 : Nat} {x1 : Int} {a2 : Nat} {x3 : Int} {x4 : Int} {x5 : Int} {x6 : Int} {bb : Nat} {sb9 : Nat} {fs1 : List Value} (hc : Cx X cL_type RL 8 7 111) {K : KT} (hr : CxR X (some .int) K) (e1 : At h n a0 (.inl (6, fs1))) (z1 : fs1.length = 6)
    (P : spec_X6_append [.ref a0, .int (i3 (48 + x6))] n h (kc X bb sb9 113 [(0, .ref a0), (1, .int (i3 x1)), (2, .ref a2), (3, .int (i3 x3)), (4, .int (i3 x4)), (5, .int (i3 x5)), (6, .int (i3 x6))] [] n)) :
    Ok X (bb + 1) (sb9 + 6) 107 [(0, .ref a0), (1, .int (i3 x1)), (2, .ref a2), (3, .int (i3 x3)), (4, .int (i3 x4)), (5, .int (i3 x5)), (6, .int (i3 x6))] [] n h := by
  refine ok_aload_n (pc := 107) hc dL_type_107 rfl 0 rfl ?_
  refine ok_bipush (pc := 108) hc (v := i3 48) dL_type_108 (by decide) ?_
  refine ok_iload (pc := 110) hc dL_type_110 6 rfl ?_
  refine zk_iadd (pc := 112) hc dL_type_112 ?_
  exact ok_callV (pc := 113) (a := a0) (cb := bb) (sb := sb9) (st := []) hc [.int (i3 (48 + x6))] cv_L_116 sp_X6_append (by decide) dL_type_113 rfl e1.1 e1.2 rfl rfl rfl (Nat.le_of_ble_eq_true rfl) P

set_option maxHeartbeats 4000000 in
set_option maxRecDepth 100000 in
theorem sL_type_116 {X : Xt} {n : Nat} {h : HP} {a0 : Nat} {x1 : Int} {a2 : Nat} {x3 : Int} {x4 : Int} {x5 : Int} {x6 : Int} {t0 : Int} {bb : Nat} {sb9 : Nat} (hc : Cx X cL_type RL 8 7 111) {K : KT} (hr : CxR X (some .int) K) 
    (P : (R3 t0) ∧ (R3 (x4 + 1)) ∧ (¬ t0 = (x4 + 1) → K (.inl (some (.int (i3 (-99))))) n h) ∧ (t0 = (x4 + 1) → Ok X bb sb9 124 [(0, .ref a0), (1, .int (i3 x1)), (2, .ref a2), (3, .int (i3 x3)), (4, .int (i3 (x4 + 1))), (5, .int (i3 x5)), (6, .int (i3 x6))] [] n h)) :
    Ok X bb sb9 116 [(0, .ref a0), (1, .int (i3 x1)), (2, .ref a2), (3, .int (i3 x3)), (4, .int (i3 x4)), (5, .int (i3 x5)), (6, .int (i3 x6))] [.int (i3 t0)] n h := by
  refine zk_iinc (pc := 116) hc (q := 4) (x := x4) (lv' := [(4, .int (i3 (x4 + 1))), (0, .ref a0), (1, .int (i3 x1)), (2, .ref a2), (3, .int (i3 x3)), (5, .int (i3 x5)), (6, .int (i3 x6))]) dL_type_116 rfl (by decide) rfl ?_
  refine ok_iload (pc := 119) hc dL_type_119 0 rfl ?_
  obtain ⟨r1, P⟩ := P
  obtain ⟨r2, P⟩ := P
  refine zk_icmp_ne (pc := 121) (tgt := 133) hc dL_type_121 (by decide) r1 r2 (fun c => ?_) (fun c => ?_)
  · have P := P.1 c
    refine ok_bipush (pc := 133) hc (v := i3 (-99)) dL_type_133 (by decide) ?_
    exact ok_iret (st := []) (pc := 135) hc hr dL_type_135 P
  · have P := P.2 c
    refine ok_lv [1, 2, 3, 4, 0, 5, 6] rfl ?_
    exact P

set_option maxHeartbeats 4000000 in
set_option maxRecDepth 100000 in
theorem sL_type_124 {X : Xt} {n : Nat} {h : HP} {a0 : Nat} {x1 : Int} {a2 : Nat} {x3 : Int} {x4 : Int} {x5 : Int} {x6 : Int} {bb : Nat} {sb9 : Nat} {fs1 : List Value} (hc : Cx X cL_type RL 8 7 111) {K : KT} (hr : CxR X (some .int) K) (e1 : At h n a0 (.inl (6, fs1))) (z1 : fs1.length = 6)
    (P : spec_X6_firstError [.ref a0] n h (kc X bb sb9 125 [(0, .ref a0), (1, .int (i3 x1)), (2, .ref a2), (3, .int (i3 x3)), (4, .int (i3 x4)), (5, .int (i3 x5)), (6, .int (i3 x6))] [] n)) :
    Ok X bb sb9 124 [(0, .ref a0), (1, .int (i3 x1)), (2, .ref a2), (3, .int (i3 x3)), (4, .int (i3 x4)), (5, .int (i3 x5)), (6, .int (i3 x6))] [] n h := by
  refine ok_aload_n (pc := 124) hc dL_type_124 rfl 0 rfl ?_
  exact ok_callV (pc := 125) (a := a0) (cb := bb) (sb := sb9) (st := []) hc [] cv_L_119 sp_X6_firstError (by decide) dL_type_125 rfl e1.1 e1.2 rfl rfl rfl (Nat.le_of_ble_eq_true rfl) P

set_option maxHeartbeats 4000000 in
set_option maxRecDepth 100000 in
theorem sL_type_128 {X : Xt} {n : Nat} {h : HP} {a0 : Nat} {x1 : Int} {a2 : Nat} {x3 : Int} {x4 : Int} {x5 : Int} {x6 : Int} {t0 : Int} {bb : Nat} {sb9 : Nat} (hc : Cx X cL_type RL 8 7 111) {K : KT} (hr : CxR X (some .int) K) 
    (P : (R3 t0) ∧ (R3 x4) ∧ (t0 = x4 → K (.inl (some (.int (i3 x4)))) n h) ∧ (¬ t0 = x4 → K (.inl (some (.int (i3 (-99))))) n h)) :
    Ok X bb sb9 128 [(0, .ref a0), (1, .int (i3 x1)), (2, .ref a2), (3, .int (i3 x3)), (4, .int (i3 x4)), (5, .int (i3 x5)), (6, .int (i3 x6))] [.int (i3 t0)] n h := by
  refine ok_iload (pc := 128) hc dL_type_128 4 rfl ?_
  obtain ⟨r1, P⟩ := P
  obtain ⟨r2, P⟩ := P
  refine zk_icmp_eq (pc := 130) (tgt := 136) hc dL_type_130 (by decide) r1 r2 (fun c => ?_) (fun c => ?_)
  · have P := P.1 c
    refine ok_iload (pc := 136) hc dL_type_136 4 rfl ?_
    exact ok_iret (st := []) (pc := 138) hc hr dL_type_138 P
  · have P := P.2 c
    refine ok_bipush (pc := 133) hc (v := i3 (-99)) dL_type_133 (by decide) ?_
    exact ok_iret (st := []) (pc := 135) hc hr dL_type_135 P

set_option maxHeartbeats 4000000 in
set_option maxRecDepth 100000 in
theorem sL_type_139 {X : Xt} {n : Nat} {h : HP} {a0 : Nat} {x1 : Int} {a2 : Nat} {x3 : Int} {x4 : Int} {x5 : Int} {x6 : Int} {bb : Nat} {sb9 : Nat} (hc : Cx X cL_type RL 8 7 111) {K : KT} (hr : CxR X (some .int) K) 
    (P : (R3 x6) ∧ (0 ≤ x6 → Ok X bb sb9 154 [(0, .ref a0), (1, .int (i3 x1)), (2, .ref a2), (3, .int (i3 x3)), (4, .int (i3 x4)), (5, .int (i3 x5)), (6, .int (i3 x6)), (7, .int (i3 x6))] [] n h) ∧ (¬ 0 ≤ x6 → Ok X bb sb9 154 [(0, .ref a0), (1, .int (i3 x1)), (2, .ref a2), (3, .int (i3 x3)), (4, .int (i3 x4)), (5, .int (i3 x5)), (6, .int (i3 x6)), (7, .int (i3 (-x6)))] [] n h)) :
    Ok X bb sb9 139 [(0, .ref a0), (1, .int (i3 x1)), (2, .ref a2), (3, .int (i3 x3)), (4, .int (i3 x4)), (5, .int (i3 x5)), (6, .int (i3 x6))] [] n h := by
  refine ok_iload (pc := 139) hc dL_type_139 6 rfl ?_
  obtain ⟨r1, P⟩ := P
  refine zk_if_ge (pc := 141) (tgt := 150) hc dL_type_141 (by decide) r1 (fun c => ?_) (fun c => ?_)
  · have P := P.1 c
    refine ok_iload (pc := 150) hc dL_type_150 6 rfl ?_
    refine ok_istore (pc := 152) hc (lv' := [(7, .int (i3 x6)), (0, .ref a0), (1, .int (i3 x1)), (2, .ref a2), (3, .int (i3 x3)), (4, .int (i3 x4)), (5, .int (i3 x5)), (6, .int (i3 x6))]) dL_type_152 (by decide) rfl ?_
    refine ok_lv [1, 2, 3, 4, 5, 6, 7, 0] rfl ?_
    exact P
  · have P := P.2 c
    refine ok_iload (pc := 144) hc dL_type_144 6 rfl ?_
    refine zk_ineg (pc := 146) hc dL_type_146 ?_
    refine ok_goto (pc := 147) (tgt := 152) hc dL_type_147 (by decide) ?_
    refine ok_istore (pc := 152) hc (lv' := [(7, .int (i3 (-x6))), (0, .ref a0), (1, .int (i3 x1)), (2, .ref a2), (3, .int (i3 x3)), (4, .int (i3 x4)), (5, .int (i3 x5)), (6, .int (i3 x6))]) dL_type_152 (by decide) rfl ?_
    refine ok_lv [1, 2, 3, 4, 5, 6, 7, 0] rfl ?_
    exact P

set_option maxHeartbeats 4000000 in
set_option maxRecDepth 100000 in
theorem sL_type_154 {X : Xt} {n : Nat} {h : HP} {a0 : Nat} {x1 : Int} {a2 : Nat} {x3 : Int} {x4 : Int} {x5 : Int} {x6 : Int} {x7 : Int} {bb : Nat} {sb9 : Nat} (hc : Cx X cL_type RL 8 7 111) {K : KT} (hr : CxR X (some .int) K) 
    (P : (R3 x6) ∧ (0 ≤ x6 → Ok X bb sb9 173 [(0, .ref a0), (1, .int (i3 x1)), (2, .ref a2), (3, .int (i3 x3)), (4, .int (i3 x4)), (5, .int (i3 x5)), (6, .int (i3 x6)), (7, .int (i3 x7))] [] n h) ∧ (¬ 0 ≤ x6 → Ok X bb sb9 159 [(0, .ref a0), (1, .int (i3 x1)), (2, .ref a2), (3, .int (i3 x3)), (4, .int (i3 x4)), (5, .int (i3 x5)), (6, .int (i3 x6)), (7, .int (i3 x7))] [] n h)) :
    Ok X bb sb9 154 [(0, .ref a0), (1, .int (i3 x1)), (2, .ref a2), (3, .int (i3 x3)), (4, .int (i3 x4)), (5, .int (i3 x5)), (6, .int (i3 x6)), (7, .int (i3 x7))] [] n h := by
  refine ok_iload (pc := 154) hc dL_type_154 6 rfl ?_
  obtain ⟨r1, P⟩ := P
  refine zk_if_ge (pc := 156) (tgt := 173) hc dL_type_156 (by decide) r1 (fun c => ?_) (fun c => ?_)
  · have P := P.1 c
    exact P
  · have P := P.2 c
    exact P

set_option maxHeartbeats 4000000 in
set_option maxRecDepth 100000 in
theorem sL_type_159 {X : Xt} {n : Nat} {h : HP} {a0 : Nat} {x1 : Int} {a2 : Nat} {x3 : Int} {x4 : Int} {x5 : Int} {x6 : Int} {x7 : Int} {bb : Nat} {sb9 : Nat} {fs1 : List Value} (hc : Cx X cL_type RL 8 7 111) {K : KT} (hr : CxR X (some .int) K) (e1 : At h n a0 (.inl (6, fs1))) (z1 : fs1.length = 6)
    (P : spec_X6_append [.ref a0, .int (i3 45)] n h (kc X bb sb9 162 [(0, .ref a0), (1, .int (i3 x1)), (2, .ref a2), (3, .int (i3 x3)), (4, .int (i3 x4)), (5, .int (i3 x5)), (6, .int (i3 x6)), (7, .int (i3 x7))] [] n)) :
    Ok X (bb + 1) (sb9 + 6) 159 [(0, .ref a0), (1, .int (i3 x1)), (2, .ref a2), (3, .int (i3 x3)), (4, .int (i3 x4)), (5, .int (i3 x5)), (6, .int (i3 x6)), (7, .int (i3 x7))] [] n h := by
  refine ok_aload_n (pc := 159) hc dL_type_159 rfl 0 rfl ?_
  refine ok_bipush (pc := 160) hc (v := i3 45) dL_type_160 (by decide) ?_
  exact ok_callV (pc := 162) (a := a0) (cb := bb) (sb := sb9) (st := []) hc [.int (i3 45)] cv_L_116 sp_X6_append (by decide) dL_type_162 rfl e1.1 e1.2 rfl rfl rfl (Nat.le_of_ble_eq_true rfl) P

set_option maxHeartbeats 4000000 in
set_option maxRecDepth 100000 in
theorem sL_type_165 {X : Xt} {n : Nat} {h : HP} {a0 : Nat} {x1 : Int} {a2 : Nat} {x3 : Int} {x4 : Int} {x5 : Int} {x6 : Int} {x7 : Int} {t0 : Int} {bb : Nat} {sb9 : Nat} (hc : Cx X cL_type RL 8 7 111) {K : KT} (hr : CxR X (some .int) K) 
    (P : (R3 t0) ∧ (R3 (x4 + 1)) ∧ (¬ t0 = (x4 + 1) → K (.inl (some (.int (i3 (-99))))) n h) ∧ (t0 = (x4 + 1) → Ok X bb sb9 173 [(0, .ref a0), (1, .int (i3 x1)), (2, .ref a2), (3, .int (i3 x3)), (4, .int (i3 (x4 + 1))), (5, .int (i3 x5)), (6, .int (i3 x6)), (7, .int (i3 x7))] [] n h)) :
    Ok X bb sb9 165 [(0, .ref a0), (1, .int (i3 x1)), (2, .ref a2), (3, .int (i3 x3)), (4, .int (i3 x4)), (5, .int (i3 x5)), (6, .int (i3 x6)), (7, .int (i3 x7))] [.int (i3 t0)] n h := by
  refine zk_iinc (pc := 165) hc (q := 4) (x := x4) (lv' := [(4, .int (i3 (x4 + 1))), (0, .ref a0), (1, .int (i3 x1)), (2, .ref a2), (3, .int (i3 x3)), (5, .int (i3 x5)), (6, .int (i3 x6)), (7, .int (i3 x7))]) dL_type_165 rfl (by decide) rfl ?_
  refine ok_iload (pc := 168) hc dL_type_168 0 rfl ?_
  obtain ⟨r1, P⟩ := P
  obtain ⟨r2, P⟩ := P
  refine zk_icmp_ne (pc := 170) (tgt := 259) hc dL_type_170 (by decide) r1 r2 (fun c => ?_) (fun c => ?_)
  · have P := P.1 c
    refine ok_bipush (pc := 259) hc (v := i3 (-99)) dL_type_259 (by decide) ?_
    exact ok_iret (st := []) (pc := 261) hc hr dL_type_261 P
  · have P := P.2 c
    refine ok_lv [1, 2, 3, 4, 0, 5, 6, 7] rfl ?_
    exact P

set_option maxHeartbeats 4000000 in
set_option maxRecDepth 100000 in
theorem sL_type_173 {X : Xt} {n : Nat} {h : HP} {a0 : Nat} {x1 : Int} {a2 : Nat} {x3 : Int} {x4 : Int} {x5 : Int} {x6 : Int} {x7 : Int} {bb : Nat} {sb9 : Nat} (hc : Cx X cL_type RL 8 7 111) {K : KT} (hr : CxR X (some .int) K) 
    (P : (R3 x7) ∧ (x7 ≤ 99 → Ok X bb sb9 200 [(0, .ref a0), (1, .int (i3 x1)), (2, .ref a2), (3, .int (i3 x3)), (4, .int (i3 x4)), (5, .int (i3 x5)), (6, .int (i3 x6)), (7, .int (i3 x7))] [] n h) ∧ (¬ x7 ≤ 99 → Ok X bb sb9 180 [(0, .ref a0), (1, .int (i3 x1)), (2, .ref a2), (3, .int (i3 x3)), (4, .int (i3 x4)), (5, .int (i3 x5)), (6, .int (i3 x6)), (7, .int (i3 x7))] [] n h)) :
    Ok X bb sb9 173 [(0, .ref a0), (1, .int (i3 x1)), (2, .ref a2), (3, .int (i3 x3)), (4, .int (i3 x4)), (5, .int (i3 x5)), (6, .int (i3 x6)), (7, .int (i3 x7))] [] n h := by
  refine ok_iload (pc := 173) hc dL_type_173 7 rfl ?_
  refine ok_bipush (pc := 175) hc (v := i3 99) dL_type_175 (by decide) ?_
  obtain ⟨r1, P⟩ := P
  refine zk_icmp_le (pc := 177) (tgt := 200) hc dL_type_177 (by decide) r1 ⟨by decide, by decide⟩ (fun c => ?_) (fun c => ?_)
  · have P := P.1 c
    exact P
  · have P := P.2 c
    exact P

set_option maxHeartbeats 4000000 in
set_option maxRecDepth 100000 in
theorem sL_type_180 {X : Xt} {n : Nat} {h : HP} {a0 : Nat} {x1 : Int} {a2 : Nat} {x3 : Int} {x4 : Int} {x5 : Int} {x6 : Int} {x7 : Int} {bb : Nat} {sb9 : Nat} {fs1 : List Value} (hc : Cx X cL_type RL 8 7 111) {K : KT} (hr : CxR X (some .int) K) (e1 : At h n a0 (.inl (6, fs1))) (z1 : fs1.length = 6)
    (P : (((0 : Int) ≤ x7 ∧ x7 ≤ 2147483647) ∧ (0 : Int) < 100 ∧ (100 : Int) ≤ 2147483647) ∧ spec_X6_append [.ref a0, .int (i3 (48 + (x7 / 100)))] n h (kc X bb sb9 189 [(0, .ref a0), (1, .int (i3 x1)), (2, .ref a2), (3, .int (i3 x3)), (4, .int (i3 x4)), (5, .int (i3 x5)), (6, .int (i3 x6)), (7, .int (i3 x7))] [] n)) :
    Ok X (bb + 1) (sb9 + 6) 180 [(0, .ref a0), (1, .int (i3 x1)), (2, .ref a2), (3, .int (i3 x3)), (4, .int (i3 x4)), (5, .int (i3 x5)), (6, .int (i3 x6)), (7, .int (i3 x7))] [] n h := by
  refine ok_aload_n (pc := 180) hc dL_type_180 rfl 0 rfl ?_
  refine ok_bipush (pc := 181) hc (v := i3 48) dL_type_181 (by decide) ?_
  refine ok_iload (pc := 183) hc dL_type_183 7 rfl ?_
  refine ok_bipush (pc := 185) hc (v := i3 100) dL_type_185 (by decide) ?_
  obtain ⟨r, P⟩ := P
  refine zk_idiv (pc := 187) hc dL_type_187 r ?_
  refine zk_iadd (pc := 188) hc dL_type_188 ?_
  exact ok_callV (pc := 189) (a := a0) (cb := bb) (sb := sb9) (st := []) hc [.int (i3 (48 + (x7 / 100)))] cv_L_116 sp_X6_append (by decide) dL_type_189 rfl e1.1 e1.2 rfl rfl rfl (Nat.le_of_ble_eq_true rfl) P

set_option maxHeartbeats 4000000 in
set_option maxRecDepth 100000 in
theorem sL_type_192 {X : Xt} {n : Nat} {h : HP} {a0 : Nat} {x1 : Int} {a2 : Nat} {x3 : Int} {x4 : Int} {x5 : Int} {x6 : Int} {x7 : Int} {t0 : Int} {bb : Nat} {sb9 : Nat} (hc : Cx X cL_type RL 8 7 111) {K : KT} (hr : CxR X (some .int) K) 
    (P : (R3 t0) ∧ (R3 (x4 + 1)) ∧ (¬ t0 = (x4 + 1) → K (.inl (some (.int (i3 (-99))))) n h) ∧ (t0 = (x4 + 1) → Ok X bb sb9 200 [(0, .ref a0), (1, .int (i3 x1)), (2, .ref a2), (3, .int (i3 x3)), (4, .int (i3 (x4 + 1))), (5, .int (i3 x5)), (6, .int (i3 x6)), (7, .int (i3 x7))] [] n h)) :
    Ok X bb sb9 192 [(0, .ref a0), (1, .int (i3 x1)), (2, .ref a2), (3, .int (i3 x3)), (4, .int (i3 x4)), (5, .int (i3 x5)), (6, .int (i3 x6)), (7, .int (i3 x7))] [.int (i3 t0)] n h := by
  refine zk_iinc (pc := 192) hc (q := 4) (x := x4) (lv' := [(4, .int (i3 (x4 + 1))), (0, .ref a0), (1, .int (i3 x1)), (2, .ref a2), (3, .int (i3 x3)), (5, .int (i3 x5)), (6, .int (i3 x6)), (7, .int (i3 x7))]) dL_type_192 rfl (by decide) rfl ?_
  refine ok_iload (pc := 195) hc dL_type_195 0 rfl ?_
  obtain ⟨r1, P⟩ := P
  obtain ⟨r2, P⟩ := P
  refine zk_icmp_ne (pc := 197) (tgt := 259) hc dL_type_197 (by decide) r1 r2 (fun c => ?_) (fun c => ?_)
  · have P := P.1 c
    refine ok_bipush (pc := 259) hc (v := i3 (-99)) dL_type_259 (by decide) ?_
    exact ok_iret (st := []) (pc := 261) hc hr dL_type_261 P
  · have P := P.2 c
    refine ok_lv [1, 2, 3, 4, 0, 5, 6, 7] rfl ?_
    exact P

set_option maxHeartbeats 4000000 in
set_option maxRecDepth 100000 in
theorem sL_type_200 {X : Xt} {n : Nat} {h : HP} {a0 : Nat} {x1 : Int} {a2 : Nat} {x3 : Int} {x4 : Int} {x5 : Int} {x6 : Int} {x7 : Int} {bb : Nat} {sb9 : Nat} (hc : Cx X cL_type RL 8 7 111) {K : KT} (hr : CxR X (some .int) K) 
    (P : (R3 x7) ∧ (x7 ≤ 9 → Ok X bb sb9 230 [(0, .ref a0), (1, .int (i3 x1)), (2, .ref a2), (3, .int (i3 x3)), (4, .int (i3 x4)), (5, .int (i3 x5)), (6, .int (i3 x6)), (7, .int (i3 x7))] [] n h) ∧ (¬ x7 ≤ 9 → Ok X bb sb9 207 [(0, .ref a0), (1, .int (i3 x1)), (2, .ref a2), (3, .int (i3 x3)), (4, .int (i3 x4)), (5, .int (i3 x5)), (6, .int (i3 x6)), (7, .int (i3 x7))] [] n h)) :
    Ok X bb sb9 200 [(0, .ref a0), (1, .int (i3 x1)), (2, .ref a2), (3, .int (i3 x3)), (4, .int (i3 x4)), (5, .int (i3 x5)), (6, .int (i3 x6)), (7, .int (i3 x7))] [] n h := by
  refine ok_iload (pc := 200) hc dL_type_200 7 rfl ?_
  refine ok_bipush (pc := 202) hc (v := i3 9) dL_type_202 (by decide) ?_
  obtain ⟨r1, P⟩ := P
  refine zk_icmp_le (pc := 204) (tgt := 230) hc dL_type_204 (by decide) r1 ⟨by decide, by decide⟩ (fun c => ?_) (fun c => ?_)
  · have P := P.1 c
    exact P
  · have P := P.2 c
    exact P

set_option maxHeartbeats 4000000 in
set_option maxRecDepth 100000 in
theorem sL_type_207 {X : Xt} {n : Nat} {h : HP} {a0 : Nat} {x1 : Int} {a2 : Nat} {x3 : Int} {x4 : Int} {x5 : Int} {x6 : Int} {x7 : Int} {bb : Nat} {sb9 : Nat} {fs1 : List Value} (hc : Cx X cL_type RL 8 7 111) {K : KT} (hr : CxR X (some .int) K) (e1 : At h n a0 (.inl (6, fs1))) (z1 : fs1.length = 6)
    (P : (((0 : Int) ≤ x7 ∧ x7 ≤ 2147483647) ∧ (0 : Int) < 10 ∧ (10 : Int) ≤ 2147483647) ∧ (((0 : Int) ≤ (x7 / 10) ∧ (x7 / 10) ≤ 2147483647) ∧ (0 : Int) < 10 ∧ (10 : Int) ≤ 2147483647) ∧ spec_X6_append [.ref a0, .int (i3 (48 + ((x7 / 10) % 10)))] n h (kc X bb sb9 219 [(0, .ref a0), (1, .int (i3 x1)), (2, .ref a2), (3, .int (i3 x3)), (4, .int (i3 x4)), (5, .int (i3 x5)), (6, .int (i3 x6)), (7, .int (i3 x7))] [] n)) :
    Ok X (bb + 1) (sb9 + 6) 207 [(0, .ref a0), (1, .int (i3 x1)), (2, .ref a2), (3, .int (i3 x3)), (4, .int (i3 x4)), (5, .int (i3 x5)), (6, .int (i3 x6)), (7, .int (i3 x7))] [] n h := by
  refine ok_aload_n (pc := 207) hc dL_type_207 rfl 0 rfl ?_
  refine ok_bipush (pc := 208) hc (v := i3 48) dL_type_208 (by decide) ?_
  refine ok_iload (pc := 210) hc dL_type_210 7 rfl ?_
  refine ok_bipush (pc := 212) hc (v := i3 10) dL_type_212 (by decide) ?_
  obtain ⟨r, P⟩ := P
  refine zk_idiv (pc := 214) hc dL_type_214 r ?_
  refine ok_bipush (pc := 215) hc (v := i3 10) dL_type_215 (by decide) ?_
  obtain ⟨r, P⟩ := P
  refine zk_irem (pc := 217) hc dL_type_217 r ?_
  refine zk_iadd (pc := 218) hc dL_type_218 ?_
  exact ok_callV (pc := 219) (a := a0) (cb := bb) (sb := sb9) (st := []) hc [.int (i3 (48 + ((x7 / 10) % 10)))] cv_L_116 sp_X6_append (by decide) dL_type_219 rfl e1.1 e1.2 rfl rfl rfl (Nat.le_of_ble_eq_true rfl) P

set_option maxHeartbeats 4000000 in
set_option maxRecDepth 100000 in
theorem sL_type_222 {X : Xt} {n : Nat} {h : HP} {a0 : Nat} {x1 : Int} {a2 : Nat} {x3 : Int} {x4 : Int} {x5 : Int} {x6 : Int} {x7 : Int} {t0 : Int} {bb : Nat} {sb9 : Nat} (hc : Cx X cL_type RL 8 7 111) {K : KT} (hr : CxR X (some .int) K) 
    (P : (R3 t0) ∧ (R3 (x4 + 1)) ∧ (¬ t0 = (x4 + 1) → K (.inl (some (.int (i3 (-99))))) n h) ∧ (t0 = (x4 + 1) → Ok X bb sb9 230 [(0, .ref a0), (1, .int (i3 x1)), (2, .ref a2), (3, .int (i3 x3)), (4, .int (i3 (x4 + 1))), (5, .int (i3 x5)), (6, .int (i3 x6)), (7, .int (i3 x7))] [] n h)) :
    Ok X bb sb9 222 [(0, .ref a0), (1, .int (i3 x1)), (2, .ref a2), (3, .int (i3 x3)), (4, .int (i3 x4)), (5, .int (i3 x5)), (6, .int (i3 x6)), (7, .int (i3 x7))] [.int (i3 t0)] n h := by
  refine zk_iinc (pc := 222) hc (q := 4) (x := x4) (lv' := [(4, .int (i3 (x4 + 1))), (0, .ref a0), (1, .int (i3 x1)), (2, .ref a2), (3, .int (i3 x3)), (5, .int (i3 x5)), (6, .int (i3 x6)), (7, .int (i3 x7))]) dL_type_222 rfl (by decide) rfl ?_
  refine ok_iload (pc := 225) hc dL_type_225 0 rfl ?_
  obtain ⟨r1, P⟩ := P
  obtain ⟨r2, P⟩ := P
  refine zk_icmp_ne (pc := 227) (tgt := 259) hc dL_type_227 (by decide) r1 r2 (fun c => ?_) (fun c => ?_)
  · have P := P.1 c
    refine ok_bipush (pc := 259) hc (v := i3 (-99)) dL_type_259 (by decide) ?_
    exact ok_iret (st := []) (pc := 261) hc hr dL_type_261 P
  · have P := P.2 c
    refine ok_lv [1, 2, 3, 4, 0, 5, 6, 7] rfl ?_
    exact P

set_option maxHeartbeats 4000000 in
set_option maxRecDepth 100000 in
theorem sL_type_230 {X : Xt} {n : Nat} {h : HP} {a0 : Nat} {x1 : Int} {a2 : Nat} {x3 : Int} {x4 : Int} {x5 : Int} {x6 : Int} {x7 : Int} {bb : Nat} {sb9 : Nat} {fs1 : List Value} (hc : Cx X cL_type RL 8 7 111) {K : KT} (hr : CxR X (some .int) K) (e1 : At h n a0 (.inl (6, fs1))) (z1 : fs1.length = 6)
    (P : (((0 : Int) ≤ x7 ∧ x7 ≤ 2147483647) ∧ (0 : Int) < 10 ∧ (10 : Int) ≤ 2147483647) ∧ spec_X6_append [.ref a0, .int (i3 (48 + (x7 % 10)))] n h (kc X bb sb9 239 [(0, .ref a0), (1, .int (i3 x1)), (2, .ref a2), (3, .int (i3 x3)), (4, .int (i3 x4)), (5, .int (i3 x5)), (6, .int (i3 x6)), (7, .int (i3 x7))] [] n)) :
    Ok X (bb + 1) (sb9 + 6) 230 [(0, .ref a0), (1, .int (i3 x1)), (2, .ref a2), (3, .int (i3 x3)), (4, .int (i3 x4)), (5, .int (i3 x5)), (6, .int (i3 x6)), (7, .int (i3 x7))] [] n h := by
  refine ok_aload_n (pc := 230) hc dL_type_230 rfl 0 rfl ?_
  refine ok_bipush (pc := 231) hc (v := i3 48) dL_type_231 (by decide) ?_
  refine ok_iload (pc := 233) hc dL_type_233 7 rfl ?_
  refine ok_bipush (pc := 235) hc (v := i3 10) dL_type_235 (by decide) ?_
  obtain ⟨r, P⟩ := P
  refine zk_irem (pc := 237) hc dL_type_237 r ?_
  refine zk_iadd (pc := 238) hc dL_type_238 ?_
  exact ok_callV (pc := 239) (a := a0) (cb := bb) (sb := sb9) (st := []) hc [.int (i3 (48 + (x7 % 10)))] cv_L_116 sp_X6_append (by decide) dL_type_239 rfl e1.1 e1.2 rfl rfl rfl (Nat.le_of_ble_eq_true rfl) P

set_option maxHeartbeats 4000000 in
set_option maxRecDepth 100000 in
theorem sL_type_242 {X : Xt} {n : Nat} {h : HP} {a0 : Nat} {x1 : Int} {a2 : Nat} {x3 : Int} {x4 : Int} {x5 : Int} {x6 : Int} {x7 : Int} {t0 : Int} {bb : Nat} {sb9 : Nat} (hc : Cx X cL_type RL 8 7 111) {K : KT} (hr : CxR X (some .int) K) 
    (P : (R3 t0) ∧ (R3 (x4 + 1)) ∧ (¬ t0 = (x4 + 1) → K (.inl (some (.int (i3 (-99))))) n h) ∧ (t0 = (x4 + 1) → Ok X bb sb9 250 [(0, .ref a0), (1, .int (i3 x1)), (2, .ref a2), (3, .int (i3 x3)), (4, .int (i3 (x4 + 1))), (5, .int (i3 x5)), (6, .int (i3 x6)), (7, .int (i3 x7))] [] n h)) :
    Ok X bb sb9 242 [(0, .ref a0), (1, .int (i3 x1)), (2, .ref a2), (3, .int (i3 x3)), (4, .int (i3 x4)), (5, .int (i3 x5)), (6, .int (i3 x6)), (7, .int (i3 x7))] [.int (i3 t0)] n h := by
  refine zk_iinc (pc := 242) hc (q := 4) (x := x4) (lv' := [(4, .int (i3 (x4 + 1))), (0, .ref a0), (1, .int (i3 x1)), (2, .ref a2), (3, .int (i3 x3)), (5, .int (i3 x5)), (6, .int (i3 x6)), (7, .int (i3 x7))]) dL_type_242 rfl (by decide) rfl ?_
  refine ok_iload (pc := 245) hc dL_type_245 0 rfl ?_
  obtain ⟨r1, P⟩ := P
  obtain ⟨r2, P⟩ := P
  refine zk_icmp_ne (pc := 247) (tgt := 259) hc dL_type_247 (by decide) r1 r2 (fun c => ?_) (fun c => ?_)
  · have P := P.1 c
    refine ok_bipush (pc := 259) hc (v := i3 (-99)) dL_type_259 (by decide) ?_
    exact ok_iret (st := []) (pc := 261) hc hr dL_type_261 P
  · have P := P.2 c
    refine ok_lv [1, 2, 3, 4, 0, 5, 6, 7] rfl ?_
    exact P

set_option maxHeartbeats 4000000 in
set_option maxRecDepth 100000 in
theorem sL_type_250 {X : Xt} {n : Nat} {h : HP} {a0 : Nat} {x1 : Int} {a2 : Nat} {x3 : Int} {x4 : Int} {x5 : Int} {x6 : Int} {x7 : Int} {bb : Nat} {sb9 : Nat} {fs1 : List Value} (hc : Cx X cL_type RL 8 7 111) {K : KT} (hr : CxR X (some .int) K) (e1 : At h n a0 (.inl (6, fs1))) (z1 : fs1.length = 6)
    (P : spec_X6_firstError [.ref a0] n h (kc X bb sb9 251 [(0, .ref a0), (1, .int (i3 x1)), (2, .ref a2), (3, .int (i3 x3)), (4, .int (i3 x4)), (5, .int (i3 x5)), (6, .int (i3 x6)), (7, .int (i3 x7))] [] n)) :
    Ok X bb sb9 250 [(0, .ref a0), (1, .int (i3 x1)), (2, .ref a2), (3, .int (i3 x3)), (4, .int (i3 x4)), (5, .int (i3 x5)), (6, .int (i3 x6)), (7, .int (i3 x7))] [] n h := by
  refine ok_aload_n (pc := 250) hc dL_type_250 rfl 0 rfl ?_
  exact ok_callV (pc := 251) (a := a0) (cb := bb) (sb := sb9) (st := []) hc [] cv_L_119 sp_X6_firstError (by decide) dL_type_251 rfl e1.1 e1.2 rfl rfl rfl (Nat.le_of_ble_eq_true rfl) P

set_option maxHeartbeats 4000000 in
set_option maxRecDepth 100000 in
theorem sL_type_254 {X : Xt} {n : Nat} {h : HP} {a0 : Nat} {x1 : Int} {a2 : Nat} {x3 : Int} {x4 : Int} {x5 : Int} {x6 : Int} {x7 : Int} {t0 : Int} {bb : Nat} {sb9 : Nat} (hc : Cx X cL_type RL 8 7 111) {K : KT} (hr : CxR X (some .int) K) 
    (P : (R3 t0) ∧ (R3 x4) ∧ (t0 = x4 → K (.inl (some (.int (i3 x4)))) n h) ∧ (¬ t0 = x4 → K (.inl (some (.int (i3 (-99))))) n h)) :
    Ok X bb sb9 254 [(0, .ref a0), (1, .int (i3 x1)), (2, .ref a2), (3, .int (i3 x3)), (4, .int (i3 x4)), (5, .int (i3 x5)), (6, .int (i3 x6)), (7, .int (i3 x7))] [.int (i3 t0)] n h := by
  refine ok_iload (pc := 254) hc dL_type_254 4 rfl ?_
  obtain ⟨r1, P⟩ := P
  obtain ⟨r2, P⟩ := P
  refine zk_icmp_eq (pc := 256) (tgt := 262) hc dL_type_256 (by decide) r1 r2 (fun c => ?_) (fun c => ?_)
  · have P := P.1 c
    refine ok_iload (pc := 262) hc dL_type_262 4 rfl ?_
    exact ok_iret (st := []) (pc := 264) hc hr dL_type_264 P
  · have P := P.2 c
    refine ok_bipush (pc := 259) hc (v := i3 (-99)) dL_type_259 (by decide) ?_
    exact ok_iret (st := []) (pc := 261) hc hr dL_type_261 P

/-- the desk, its buffer another -/
def qB (q : Dsk) (B : List Int) : Dsk := (q.1, q.2.1, q.2.2.1, q.2.2.2.1, B)
def Rtp (q : RdQ) (B : List Int) (q' : RdQ) : Prop := (rrun q B).2 = some q'
theorem Rtp.nil {q : RdQ} : Rtp q [] q := rfl
theorem Rtp.cons {q q1 q' : RdQ} {c : Int} {B : List Int} (h : rstep q c = some q1) (s : Rtp q1 B q') : Rtp q (c :: B) q' := by
  show (match rstep q c with
    | none => ((0, none) : Nat × Option RdQ)
    | some q' => ((rrun q' B).1 + 1, (rrun q' B).2)).2 = some q'
  rw [h]
  exact s
theorem Rtp.app : ∀ {A B : List Int} {q q1 q' : RdQ}, Rtp q A q1 → Rtp q1 B q' → Rtp q (A ++ B) q'
  | [], B, q, q1, q', h, s => by
    obtain rfl : q = q1 := Option.some.inj h
    exact s
  | c :: A, B, q, q1, q', h, s => by
    have h : (match rstep q c with
      | none => ((0, none) : Nat × Option RdQ)
      | some q' => ((rrun q' A).1 + 1, (rrun q' A).2)).2 = some q1 := h
    cases e : rstep q c with
    | none => rw [e] at h; cases h
    | some q2 =>
      rw [e] at h
      exact Rtp.cons e (Rtp.app (q := q2) h s)
def RQ0 : RdQ := q0R (fun _ => 0) [] (-1)
/-- the text's parts are whole, and another may begin -/
def RdS (B : List Int) (ps : List Part) : Prop := ∃ D, Rtp RQ0 B (q0R D ps (-1))
/-- the text is whole -/
def RdE (B : List Int) (ps : List Part) : Prop := ∃ q, Rtp RQ0 B q ∧ endP q = some ps ∧ q.1 ≠ -1
theorem RdS.nil : RdS [] [] := ⟨_, Rtp.nil⟩
theorem RdE.c {B : List Int} {ps : List Part} (h : RdE B ps) : compl B = some ps := by
  obtain ⟨q, h1, h2, h3⟩ := h
  show (rrun RQ0 B).2.bind endP = some ps
  have h1 : (rrun RQ0 B).2 = some q := h1
  rw [h1]
  exact h2
theorem RdE.f {B : List Int} {ps : List Part} (h : RdE B ps) : ferr B = B.length := by
  obtain ⟨q, h1, h2, h3⟩ := h
  have h1 : (rrun RQ0 B).2 = some q := h1
  exact rrun_len.mpr (by show (rrun RQ0 B).2.isSome = true; rw [h1]; rfl)
theorem RdE.s {B : List Int} {ps : List Part} (h : RdE B ps) : RdS (B ++ [59]) ps := by
  obtain ⟨q, h1, h2, h3⟩ := h
  refine ⟨q.2.2.2.2.2.1, h1.app (Rtp.cons ?_ Rtp.nil)⟩
  unfold rstep
  rw [if_neg h3, if_pos rfl, h2]
  rfl
theorem rs_let {D : Nat → Int} {ps : List Part} {c k : Int} (h : kl c = k) (hk : k ≠ -1) : rstep (q0R D ps (-1)) c = some (q0R D ps k) := by
  unfold rstep
  rw [if_pos (show (q0R D ps (-1)).1 = -1 from rfl), h, if_neg hk]
  rfl
theorem rs_dig {k j x : Int} {D : Nat → Int} {ps : List Part} (hk : k = 0 ∨ k = 2) (hj : 0 ≤ j ∧ j < 3) (hx : 0 ≤ x ∧ x ≤ 6) (h3 : k = 0 → j = 2 → 1 ≤ x ∧ x ≤ 4) : rstep (k, j, -1, 0, 0, D, ps) (48 + x) = some (k, j + 1, -1, 0, 0, va_up D j.toNat x, ps) := by
  unfold rstep
  dsimp only
  rw [if_neg (by omega), if_neg (by omega), if_neg (by omega)]
  unfold stepD
  dsimp only
  have e : 48 + x - 48 = x := by omega
  have hd : digOk (k, j, -1, 0, 0, D, ps) (48 + x) = true := by
    unfold digOk
    dsimp only
    by_cases z : k = 0 ∧ j = 2
    · rw [if_pos z]
      have := h3 z.1 z.2
      exact decide_eq_true ⟨by omega, by omega⟩
    · rw [if_neg z]
      exact decide_eq_true ⟨by omega, by omega⟩
  rw [if_pos ⟨hj.2, hd⟩, e]
theorem rs_src {x : Int} {D : Nat → Int} {ps : List Part} (hx : 0 ≤ x ∧ x ≤ 6) : rstep (q0R D ps 1) (48 + x) = some (1, 0, x, 0, 0, D, ps) := by
  unfold rstep q0R
  dsimp only
  rw [if_neg (by decide), if_neg (by omega), if_pos rfl]
  unfold stepS nodeC
  dsimp only
  rw [if_pos rfl, if_pos (show 48 ≤ 48 + x ∧ 48 + x ≤ 54 by omega), if_neg (by decide), show 48 + x - 48 = x by omega]
theorem rs_neg {a : Int} {D : Nat → Int} {ps : List Part} (ha : 0 ≤ a) : rstep (1, 0, a, 0, 0, D, ps) 45 = some (1, 0, a, 1, 0, D, ps) := by
  unfold rstep
  dsimp only
  rw [if_neg (by decide), if_neg (by decide), if_pos rfl]
  unfold stepS
  dsimp only
  rw [if_neg (by omega), if_pos rfl, if_pos ⟨rfl, rfl⟩]
theorem rs_val {m a g v x : Int} {D : Nat → Int} {ps : List Part} (ha : 0 ≤ a) (hx : 0 ≤ x ∧ x ≤ 9) (hm : ¬ (0 < m ∧ v = 0)) (hv : 10 * v + x ≤ 200) : rstep (1, m, a, g, v, D, ps) (48 + x) = some (1, m + 1, a, g, 10 * v + x, D, ps) := by
  unfold rstep
  dsimp only
  rw [if_neg (by decide), if_neg (by omega), if_pos rfl]
  unfold stepS
  dsimp only
  rw [if_neg (by omega), if_neg (by omega)]
  unfold stepV
  dsimp only
  rw [show 48 + x - 48 = x by omega, if_pos ⟨by omega, by omega, hm, hv⟩]
/-- digits of a size -/
def tv (s : Int) : List Int := (if 99 < s then [48 + s / 100] else []) ++ ((if 9 < s then [48 + s / 10 % 10] else []) ++ [48 + s % 10])
def tx (p : Part) : List Int := if p.1 = 1 then [115, 48 + p.2.1] ++ ((if p.2.2.2 < 0 then [45] else []) ++ tv (if p.2.2.2 < 0 then -p.2.2.2 else p.2.2.2)) else [if p.1 = 0 then 114 else 111, 48 + p.2.1, 48 + p.2.2.1, 48 + p.2.2.2]
theorem tv_run {a g s : Int} {D : Nat → Int} {ps : List Part} (ha : 0 ≤ a) (hs : 0 ≤ s ∧ s ≤ 200) : ∃ m, 0 < m ∧ Rtp (1, 0, a, g, 0, D, ps) (tv s) (1, m, a, g, s, D, ps) := by
  unfold tv
  by_cases h1 : 99 < s
  · rw [if_pos h1, if_pos (by omega)]
    refine ⟨0 + 1 + 1 + 1, by decide, Rtp.cons (rs_val ha (by omega) (fun z => absurd z.1 (by decide)) (by omega)) (Rtp.cons (rs_val ha (by omega) (by omega) (by omega)) (Rtp.cons (rs_val ha (by omega) (by omega) (by omega)) ?_))⟩
    have e : 10 * (10 * (10 * 0 + s / 100) + s / 10 % 10) + s % 10 = s := by omega
    rw [e]
    exact Rtp.nil
  · rw [if_neg h1]
    by_cases h2 : 9 < s
    · rw [if_pos h2]
      refine ⟨0 + 1 + 1, by decide, Rtp.cons (rs_val ha (by omega) (fun z => absurd z.1 (by decide)) (by omega)) (Rtp.cons (rs_val ha (by omega) (by omega) (by omega)) ?_)⟩
      have e : 10 * (10 * 0 + s / 10 % 10) + s % 10 = s := by omega
      rw [e]
      exact Rtp.nil
    · rw [if_neg h2]
      refine ⟨0 + 1, by decide, Rtp.cons (rs_val ha (by omega) (fun z => absurd z.1 (by decide)) (by omega)) ?_⟩
      have e : 10 * 0 + s % 10 = s := by omega
      rw [e]
      exact Rtp.nil
theorem tx_run {p : Part} (hp : PW p) {D : Nat → Int} {ps : List Part} : ∃ q, Rtp (q0R D ps (-1)) (tx p) q ∧ endP q = some (ps ++ [p]) ∧ q.1 = p.1 ∧ (p.1 = 2 → q.2.1 = 3) := by
  obtain ⟨k, a, b, v⟩ := p
  have k012 : (k = 0 ∧ 0 ≤ a ∧ a ≤ 6 ∧ 0 ≤ b ∧ b ≤ 6 ∧ 1 ≤ v ∧ v ≤ 4) ∨ (k = 1 ∧ 0 ≤ a ∧ a ≤ 6 ∧ b = -1 ∧ -200 ≤ v ∧ v ≤ 200) ∨ (k = 2 ∧ 0 ≤ a ∧ a ≤ 6 ∧ 0 ≤ b ∧ b ≤ 6 ∧ 0 ≤ v ∧ v ≤ 6) := hp
  unfold tx
  dsimp only
  by_cases h1 : k = 1
  · obtain ⟨ha, hb, hv⟩ : (0 ≤ a ∧ a ≤ 6) ∧ b = -1 ∧ -200 ≤ v ∧ v ≤ 200 := by omega
    subst h1; subst hb
    rw [if_pos rfl]
    by_cases hn : v < 0
    · rw [if_pos hn, if_pos hn]
      obtain ⟨m, hm, st⟩ := tv_run (a := a) (g := 1) (s := -v) (D := D) (ps := ps) ha.1 (by omega)
      refine ⟨_, Rtp.cons (rs_let (k := 1) (by decide) (by decide)) (Rtp.cons (rs_src ha) (Rtp.cons (rs_neg ha.1) st)), ?_, rfl, fun z => absurd z (by show ¬ (1 : Int) = 2; decide)⟩
      unfold endP
      dsimp only
      rw [if_neg (by decide), if_pos rfl, if_neg (by omega), if_neg (by decide), Int.neg_neg]
    · rw [if_neg hn, if_neg hn]
      obtain ⟨m, hm, st⟩ := tv_run (a := a) (g := 0) (s := v) (D := D) (ps := ps) ha.1 (by omega)
      refine ⟨_, Rtp.cons (rs_let (k := 1) (by decide) (by decide)) (Rtp.cons (rs_src ha) st), ?_, rfl, fun z => absurd z (by show ¬ (1 : Int) = 2; decide)⟩
      unfold endP
      dsimp only
      rw [if_neg (by decide), if_pos rfl, if_neg (by omega), if_pos rfl]
  · rw [if_neg h1]
    have hk : k = 0 ∨ k = 2 := by omega
    refine ⟨_, Rtp.cons (rs_let (k := k) ?_ (by omega)) (Rtp.cons (rs_dig (j := 0) hk (by decide) (by omega) (fun _ z => absurd z (by decide))) (Rtp.cons (rs_dig (j := 0 + 1) hk (by decide) (by omega) (fun _ z => absurd z (by decide))) (Rtp.cons (rs_dig (j := 0 + 1 + 1) hk (by decide) (by omega) (by omega)) Rtp.nil))), ?_, rfl, fun _ => rfl⟩
    · rcases hk with e | e <;> subst e <;> rfl
    · unfold endP
      dsimp only
      rw [if_neg (by omega), if_neg h1, if_neg (by decide)]
      rfl
theorem RdS.t {B : List Int} {ps : List Part} {p : Part} (h : RdS B ps) (hp : PW p) : RdE (B ++ tx p) (ps ++ [p]) := by
  obtain ⟨D, h1⟩ := h
  obtain ⟨q, h2, h3, h4, _⟩ := tx_run hp (D := D) (ps := ps)
  refine ⟨q, h1.app h2, h3, ?_⟩
  rw [h4]
  unfold PW at hp
  omega
theorem tx_len {p : Part} : (tx p).length ≤ 6 := by
  unfold tx tv
  split
  · (repeat' split) <;> simp
  · simp
theorem app_ok {h : HP} {n : Nat} {q : Dsk} {B : List Int} {c : Int} (hq : DkA h n (qB q B)) (hc : 32 ≤ c ∧ c ≤ 126) (hl : B.length < 60) {K : KT} (k : ∀ h', DkA h' n (qB q (B ++ [c])) → Fr h h' 0 127 → K (.inl (some (.int (i3 ((B.length : Int) + 1))))) n h') : spec_X6_append [.ref 0, .int (i3 c)] n h K := by
  have e : opAppend (qB q B) c = (qB q (B ++ [c]), .inl ((B.length : Int) + 1)) := by
    unfold opAppend
    rw [if_neg (fun z => z hc), if_pos (show (qB q B).2.2.2.2.length < 60 from hl)]
    rfl
  refine ⟨qB q B, c, rfl, R3_s (by omega), hq, ?_⟩
  rw [e]
  exact k
def spec_L_type (args : List Value) (n : Nat) (h : HP) (K : KT) : Prop := ∃ (q : Dsk) (B : List Int) (i a : Nat) (p : Part) (F : Nat → Int) (ps qs : List Part), args = [.ref 0, .int (i3 i), .ref a, .int (i3 B.length)] ∧ DkA h n (qB q B) ∧ 127 < a ∧ At h n a (ai 48 F) ∧ PaF F ps ∧ ps[i]? = some p ∧ RdS B qs ∧ B.length ≤ 53 ∧ ∀ h', DkA h' n (qB q (B ++ tx p)) → Fr h h' 0 127 → K (.inl (some (.int (i3 ((B ++ tx p).length : Nat))))) n h'
set_option maxHeartbeats 16000000 in
theorem sp_L_type : Sp yL_type cL_type 8 (some .int) 7 111 6 36 spec_L_type := by
  refine sp_intro (by decide) (by rintro args n h K ⟨q, B, i, a, p, F, ps, qs, rfl, -⟩; exact Nat.le_of_ble_eq_true rfl) ?_
  rintro X args n h K hc hr ⟨q, B, i, a, p, F, ps, qs, rfl, hq, la, ea, hP, hp, hS, hl, kk⟩
  obtain ⟨g0, g1, g2, g3, hi', hl', hw⟩ := hP.g hp
  have hE := hS.t hw
  have hf := hE.f
  have x0 : Ix (4 * (i : Int)) 48 := ⟨by omega, by omega, by omega⟩
  have x1 : Ix (4 * (i : Int) + 1) 48 := ⟨by omega, by omega, by omega⟩
  have x2 : Ix (4 * (i : Int) + 2) 48 := ⟨by omega, by omega, by omega⟩
  have x3 : Ix (4 * (i : Int) + 3) 48 := ⟨by omega, by omega, by omega⟩
  have rk : R3 p.1 := by rw [← g0]; exact hP.2.2.2 _
  have rv : R3 p.2.2.2 := by rw [← g3]; exact hP.2.2.2 _
  have rB : ∀ j : Int, 0 ≤ j → j ≤ 7 → R3 ((B.length : Int) + j) := fun j h1 h2 => R3_s (by omega)
  have hw' := hw
  unfold PW at hw'
  have l1 : ∀ (A : List Int) (c : Int), ((A ++ [c]).length : Int) = (A.length : Int) + 1 := fun A c => by rw [List.length_append]; rfl
  -- the letter and the first node
  have go : ∀ c : Int, 32 ≤ c ∧ c ≤ 126 → (∀ h1, DkA h1 n (qB q (B ++ [c] ++ [48 + p.2.1])) → Fr h h1 0 127 → Ok X 4 24 79 [(0, .ref 0), (1, .int (i3 i)), (2, .ref a), (3, .int (i3 B.length)), (4, .int (i3 ((B.length : Int) + 1 + 1))), (5, .int (i3 p.1)), (6, .int (i3 p.2.2.2))] [] n h1) → spec_X6_append [.ref 0, .int (i3 c)] n h (kc X 5 30 43 [(0, .ref 0), (1, .int (i3 i)), (2, .ref a), (3, .int (i3 B.length)), (4, .int (i3 B.length)), (5, .int (i3 p.1)), (6, .int (i3 p.2.2.2))] [] n) := fun c hc2 k => by
    refine app_ok hq hc2 (by omega) (fun h1 hq1 f1 => ⟨rfl, sL_type_46 hc hr ⟨rB 1 (by decide) (by decide), rB 1 (by decide) (by decide), fun z => absurd rfl z, fun _ => ?_⟩⟩)
    refine sL_type_54 (bb := 4) (sb9 := 24) hc hr (ea.fr f1 (by omega)) hq1.1 rfl ?_
    rw [g1]
    refine ⟨x1, app_ok hq1 (by omega) (by rw [List.length_append]; show B.length + 1 < 60; omega) (fun h2 hq2 f2 => ⟨rfl, ?_⟩)⟩
    rw [l1]
    exact sL_type_68 hc hr ⟨R3_s (by omega), R3_s (by omega), fun _ => k h2 hq2 (f1.tr f2), fun z => absurd rfl z⟩
  refine sL_type_0 (bb := 5) (sb9 := 30) hc hr ea hq.1 rfl ?_
  rw [g0, g3]
  -- what comes behind the whole text
  refine ⟨x0, x3, rk, fun z0 => ⟨rk, fun z1 => go 111 (by decide) (fun h1 hq1 f1 => ?_), fun z1 => go 115 (by decide) (fun h1 hq1 f1 => ?_)⟩, fun z0 => go 114 (by decide) (fun h1 hq1 f1 => ?_)⟩
  rotate_left
  · -- a source
    have et : tx p = [115, 48 + p.2.1] ++ ((if p.2.2.2 < 0 then [45] else []) ++ tv (if p.2.2.2 < 0 then -p.2.2.2 else p.2.2.2)) := if_pos z1
    have fin : ∀ (A : List Int) (hh : HP) (x7 : Int), A.length ≤ 59 → DkA hh n (qB q A) → Fr h hh 0 127 → A = B ++ tx p → Ok X 0 0 250 [(0, .ref 0), (1, .int (i3 i)), (2, .ref a), (3, .int (i3 B.length)), (4, .int (i3 A.length)), (5, .int (i3 p.1)), (6, .int (i3 p.2.2.2)), (7, .int (i3 x7))] [] n hh := fun A hh x7 hA hqA fA eA => by
      subst eA
      refine sL_type_250 hc hr hqA.1 rfl ⟨_, rfl, hqA, fun h9 hq9 f9 => ⟨rfl, ?_⟩⟩
      show Ok X 0 0 254 _ [.int (i3 (ferr (B ++ tx p)))] n h9
      rw [hf]
      have r9 : R3 (((B ++ tx p).length : Nat) : Int) := R3_s (by omega)
      exact sL_type_254 hc hr ⟨r9, r9, fun _ => kk h9 hq9 (fA.tr f9), fun z => absurd rfl z⟩
    have hs : ∀ (s : Int), 0 ≤ s ∧ s ≤ 200 → ∀ (A : List Int) (hh : HP), A.length ≤ B.length + 3 → DkA hh n (qB q A) → Fr h hh 0 127 → A ++ tv s = B ++ tx p → Ok X 3 18 173 [(0, .ref 0), (1, .int (i3 i)), (2, .ref a), (3, .int (i3 B.length)), (4, .int (i3 A.length)), (5, .int (i3 p.1)), (6, .int (i3 p.2.2.2)), (7, .int (i3 s))] [] n hh := fun s hs A hh hA hqA fA eA => by
      have rs : R3 s := R3_s (by omega)
      -- the last digit
      have c3 : ∀ (A : List Int) (hh : HP) (bb sb9 : Nat), A.length ≤ B.length + 5 → DkA hh n (qB q A) → Fr h hh 0 127 → A ++ [48 + s % 10] = B ++ tx p → Ok X 1 6 230 [(0, .ref 0), (1, .int (i3 i)), (2, .ref a), (3, .int (i3 B.length)), (4, .int (i3 A.length)), (5, .int (i3 p.1)), (6, .int (i3 p.2.2.2)), (7, .int (i3 s))] [] n hh := fun A hh _ _ hA hqA fA eA => by
        refine sL_type_230 (bb := 0) (sb9 := 0) hc hr hqA.1 rfl ⟨⟨⟨by omega, by omega⟩, by decide, by decide⟩, app_ok hqA (by omega) (by omega) (fun h2 hq2 f2 => ⟨rfl, ?_⟩)⟩
        refine sL_type_242 hc hr ⟨R3_s (by omega), R3_s (by omega), fun z => absurd rfl z, fun _ => ?_⟩
        have := fin (A ++ [48 + s % 10]) h2 s (by rw [List.length_append]; show A.length + 1 ≤ 59; omega) hq2 (fA.tr f2) eA
        rw [l1] at this
        exact this
      have c2 : ∀ (A : List Int) (hh : HP), A.length ≤ B.length + 4 → DkA hh n (qB q A) → Fr h hh 0 127 → A ++ ((if 9 < s then [48 + s / 10 % 10] else []) ++ [48 + s % 10]) = B ++ tx p → Ok X 2 12 200 [(0, .ref 0), (1, .int (i3 i)), (2, .ref a), (3, .int (i3 B.length)), (4, .int (i3 A.length)), (5, .int (i3 p.1)), (6, .int (i3 p.2.2.2)), (7, .int (i3 s))] [] n hh := fun A hh hA hqA fA eA => by
        refine sL_type_200 hc hr ⟨rs, fun y => ?_, fun y => ?_⟩
        · rw [if_neg (by omega), List.nil_append] at eA
          exact (c3 A hh 0 0 (by omega) hqA fA eA).up (by omega) (by omega)
        · rw [if_pos (by omega)] at eA
          refine sL_type_207 (bb := 1) (sb9 := 6) hc hr hqA.1 rfl ⟨⟨⟨by omega, by omega⟩, by decide, by decide⟩, ⟨⟨by omega, by omega⟩, by decide, by decide⟩, app_ok hqA (by omega) (by omega) (fun h2 hq2 f2 => ⟨rfl, ?_⟩)⟩
          refine sL_type_222 hc hr ⟨R3_s (by omega), R3_s (by omega), fun z => absurd rfl z, fun _ => ?_⟩
          have := c3 (A ++ [48 + s / 10 % 10]) h2 0 0 (by rw [List.length_append]; show A.length + 1 ≤ _; omega) hq2 (fA.tr f2) (by rw [List.append_assoc]; exact eA)
          rw [l1] at this
          exact this
      unfold tv at eA
      refine sL_type_173 hc hr ⟨rs, fun y => ?_, fun y => ?_⟩
      · rw [if_neg (by omega), List.nil_append] at eA
        exact (c2 A hh (by omega) hqA fA eA).up (by omega) (by omega)
      · rw [if_pos (by omega)] at eA
        refine sL_type_180 (bb := 2) (sb9 := 12) hc hr hqA.1 rfl ⟨⟨⟨by omega, by omega⟩, by decide, by decide⟩, app_ok hqA (by omega) (by omega) (fun h2 hq2 f2 => ⟨rfl, ?_⟩)⟩
        refine sL_type_192 hc hr ⟨R3_s (by omega), R3_s (by omega), fun z => absurd rfl z, fun _ => ?_⟩
        have := c2 (A ++ [48 + s / 100]) h2 (by rw [List.length_append]; show A.length + 1 ≤ _; omega) hq2 (fA.tr f2) (by rw [List.append_assoc]; exact eA)
        rw [l1] at this
        exact this
    have lB : ((B ++ [115] ++ [48 + p.2.1]).length : Int) = (B.length : Int) + 1 + 1 := by rw [l1, l1]
    have lB' : (B ++ [115] ++ [48 + p.2.1]).length = B.length + 2 := by omega
    have eB : B ++ [115] ++ [48 + p.2.1] ++ ((if p.2.2.2 < 0 then [45] else []) ++ tv (if p.2.2.2 < 0 then -p.2.2.2 else p.2.2.2)) = B ++ tx p := by
      rw [et]
      simp only [List.append_assoc, List.cons_append, List.nil_append]
    refine sL_type_79 hc hr ⟨rk, fun _ => ?_, fun z => absurd z1 z⟩
    rw [← lB]
    generalize B ++ [115] ++ [48 + p.2.1] = B2 at *
    refine sL_type_139 hc hr ⟨rv, fun y => ?_, fun y => ?_⟩
    · rw [if_neg (by omega), if_neg (by omega), List.nil_append] at eB
      refine sL_type_154 hc hr ⟨rv, fun _ => ?_, fun z => absurd y z⟩
      exact (hs p.2.2.2 (by omega) B2 h1 (by omega) hq1 f1 eB).up (by omega) (by omega)
    · rw [if_pos (by omega), if_pos (by omega)] at eB
      refine sL_type_154 hc hr ⟨rv, fun z => absurd z y, fun _ => ?_⟩
      refine sL_type_159 (bb := 3) (sb9 := 18) hc hr hq1.1 rfl (app_ok hq1 (by decide) (by omega) (fun h2 hq2 f2 => ⟨rfl, ?_⟩))
      refine sL_type_165 hc hr ⟨R3_s (by omega), R3_s (by omega), fun z => absurd rfl z, fun _ => ?_⟩
      have := hs (-p.2.2.2) (by omega) (B2 ++ [45]) h2 (by rw [List.length_append]; show B2.length + 1 ≤ _; omega) hq2 (f1.tr f2) (by rw [List.append_assoc]; exact eB)
      rw [l1] at this
      exact this
  all_goals
    have hk : p.1 = 0 ∨ p.1 = 2 := by omega
    have hk1 : p.1 ≠ 1 := by omega
    have g2' := g2 hk1
    have et : tx p = [if p.1 = 0 then 114 else 111, 48 + p.2.1, 48 + p.2.2.1, 48 + p.2.2.2] := if_neg hk1
    first | rw [if_pos z0] at et | rw [if_neg z0] at et
    refine sL_type_79 hc hr ⟨rk, fun z => absurd z hk1, fun _ => ?_⟩
    refine sL_type_85 (bb := 3) (sb9 := 18) hc hr (ea.fr f1 (by omega)) hq1.1 rfl ?_
    rw [g2']
    refine ⟨x2, app_ok hq1 (by omega) (by rw [List.length_append, List.length_append]; show B.length + 1 + 1 < 60; omega) (fun h2 hq2 f2 => ⟨rfl, ?_⟩)⟩
    rw [l1, l1]
    refine sL_type_99 hc hr ⟨R3_s (by omega), R3_s (by omega), fun z => absurd rfl z, fun _ => ?_⟩
    refine sL_type_107 (bb := 2) (sb9 := 12) hc hr hq2.1 rfl (app_ok hq2 (by omega) (by rw [List.length_append, List.length_append, List.length_append]; show B.length + 1 + 1 + 1 < 60; omega) (fun h3 hq3 f3 => ⟨rfl, ?_⟩))
    rw [l1, l1, l1]
    refine sL_type_116 hc hr ⟨R3_s (by omega), R3_s (by omega), fun z => absurd rfl z, fun _ => ?_⟩
    have eB0 : ∀ c : Int, tx p = [c, 48 + p.2.1, 48 + p.2.2.1, 48 + p.2.2.2] → B ++ tx p = (((B ++ [c]) ++ [48 + p.2.1]) ++ [48 + p.2.2.1]) ++ [48 + p.2.2.2] := fun c e => by
      rw [e]
      simp only [List.append_assoc, List.cons_append, List.nil_append]
    have eB := eB0 _ et
    rw [← eB] at hq3
    refine sL_type_124 hc hr hq3.1 rfl ⟨_, rfl, hq3, fun h9 hq9 f9 => ⟨rfl, ?_⟩⟩
    show Ok X 2 12 128 _ [.int (i3 (ferr (B ++ tx p)))] n h9
    rw [hf]
    have e9 : (B.length : Int) + 1 + 1 + 1 + 1 = ((B ++ tx p).length : Nat) := by rw [eB, l1, l1, l1, l1]
    have kk := kk h9 hq9 (((f1.tr f2).tr f3).tr f9)
    rw [← e9] at kk ⊢
    have r9 : R3 ((B.length : Int) + 1 + 1 + 1 + 1) := R3_s (by omega)
    exact sL_type_128 hc hr ⟨r9, r9, fun _ => kk, fun z => absurd rfl z⟩
