/-! part a28: the law's ahead -/
set_option maxHeartbeats 4000000 in
set_option maxRecDepth 100000 in
theorem sL_ahead_23 {X : Xt} {n : Nat} {h : HP} {a0 : Nat} {x1 : Int} {a2 : Nat} {a3 : Nat} {a4 : Nat} {a5 : Nat} {a6 : Nat} {a7 : Nat} {bb : Nat} {sb9 : Nat} {f1 : Nat → Int} (hc : Cx X cL_ahead RL 12 9 165) {K : KT} (hr : CxR X (some .boolean) K) (e1 : At h n a2 (ai 4 f1))
    (P : (Ix 0 4) ∧ (R3 (f1 (0 : Int).toNat)) ∧ (¬ (f1 (0 : Int).toNat) = 0 → (Ix 0 4) ∧ spec_L_at [.int (i3 x1), .int (i3 (f1 (0 : Int).toNat))] n h (kc X bb sb9 37 [(0, .ref a0), (1, .int (i3 x1)), (2, .ref a2), (3, .ref a3), (4, .ref a4), (5, .ref a5), (6, .ref a6), (7, .ref a7)] [] n)) ∧ ((f1 (0 : Int).toNat) = 0 → Ok X bb sb9 40 [(0, .ref a0), (1, .int (i3 x1)), (2, .ref a2), (3, .ref a3), (4, .ref a4), (5, .ref a5), (6, .ref a6), (7, .ref a7)] [.int (i3 (-1))] n h)) :
    Ok X bb sb9 23 [(0, .ref a0), (1, .int (i3 x1)), (2, .ref a2), (3, .ref a3), (4, .ref a4), (5, .ref a5), (6, .ref a6), (7, .ref a7)] [] n h := by
  refine ok_aload_n (pc := 23) hc dL_ahead_23 rfl 2 rfl ?_
  refine ok_iconst (pc := 24) hc (v := i3 0) dL_ahead_24 (by decide) ?_
  obtain ⟨r, P⟩ := P
  refine zk_iald (pc := 25) hc dL_ahead_25 e1.1 e1.2 r ?_
  obtain ⟨r2, P⟩ := P
  refine zk_if_ne (pc := 26) (tgt := 33) hc dL_ahead_26 (by decide) r2 (fun c => ?_) (fun c => ?_)
  · have P := P.1 c
    refine ok_iload_n (pc := 33) hc dL_ahead_33 rfl 1 rfl ?_
    refine ok_aload_n (pc := 34) hc dL_ahead_34 rfl 2 rfl ?_
    refine ok_iconst (pc := 35) hc (v := i3 0) dL_ahead_35 (by decide) ?_
    obtain ⟨r, P⟩ := P
    refine zk_iald (pc := 36) hc dL_ahead_36 e1.1 e1.2 r ?_
    exact ok_callS (pc := 37) (cb := bb) (sb := sb9) (st := []) hc [.int (i3 x1), .int (i3 (f1 (0 : Int).toNat))] cs_L_71 sp_L_at (by decide) dL_ahead_37 rfl rfl rfl rfl (Nat.le_of_ble_eq_true rfl) P
  · have P := P.2 c
    refine ok_iconst (pc := 29) hc (v := i3 (-1)) dL_ahead_29 (by decide) ?_
    refine ok_goto (pc := 30) (tgt := 40) hc dL_ahead_30 (by decide) ?_
    exact P

set_option maxHeartbeats 4000000 in
set_option maxRecDepth 100000 in
theorem sL_ahead_40 {X : Xt} {n : Nat} {h : HP} {a0 : Nat} {x1 : Int} {a2 : Nat} {a3 : Nat} {a4 : Nat} {a5 : Nat} {a6 : Nat} {a7 : Nat} {t0 : Int} {bb : Nat} {sb9 : Nat} {f2 : Nat → Int} (hc : Cx X cL_ahead RL 12 9 165) {K : KT} (hr : CxR X (some .boolean) K) (e2 : At h n a3 (ai 48 f2))
    (P : (R3 t0) ∧ (t0 < 0 → K (.inl (some (.int (i3 1)))) n h) ∧ (¬ t0 < 0 → (Ix (4 * t0) 48) ∧ (R3 (f2 (4 * t0 : Int).toNat)) ∧ (¬ (f2 (4 * t0 : Int).toNat) = 2 → Ok X bb sb9 59 [(0, .ref a0), (1, .int (i3 x1)), (2, .ref a2), (3, .ref a3), (4, .ref a4), (5, .ref a5), (6, .ref a6), (7, .ref a7), (8, .int (i3 t0))] [] n h) ∧ ((f2 (4 * t0 : Int).toNat) = 2 → K (.inl (some (.int (i3 1)))) n h))) :
    Ok X bb sb9 40 [(0, .ref a0), (1, .int (i3 x1)), (2, .ref a2), (3, .ref a3), (4, .ref a4), (5, .ref a5), (6, .ref a6), (7, .ref a7)] [.int (i3 t0)] n h := by
  refine ok_istore (pc := 40) hc (lv' := [(8, .int (i3 t0)), (0, .ref a0), (1, .int (i3 x1)), (2, .ref a2), (3, .ref a3), (4, .ref a4), (5, .ref a5), (6, .ref a6), (7, .ref a7)]) dL_ahead_40 (by decide) rfl ?_
  refine ok_iload (pc := 42) hc dL_ahead_42 0 rfl ?_
  obtain ⟨r1, P⟩ := P
  refine zk_if_lt (pc := 44) (tgt := 57) hc dL_ahead_44 (by decide) r1 (fun c => ?_) (fun c => ?_)
  · have P := P.1 c
    refine ok_iconst (pc := 57) hc (v := i3 1) dL_ahead_57 (by decide) ?_
    exact ok_zret (st := []) (pc := 58) hc (nar_z (by decide)) hr dL_ahead_58 P
  · have P := P.2 c
    refine ok_iload (pc := 47) hc dL_ahead_47 0 rfl ?_
    refine ok_aload_n (pc := 49) hc dL_ahead_49 rfl 4 rfl ?_
    obtain ⟨r0, P⟩ := P
    refine ok_callS (pc := 50) (cb := bb) (sb := sb9) (st := []) hc [.int (i3 t0), .ref a3] cs_L_8 sp_L_kind (by decide) dL_ahead_50 rfl rfl rfl rfl (Nat.le_of_ble_eq_true rfl) (⟨_, _, _, _, rfl, ⟨e2.1, e2.2⟩, r0, rfl, ?_⟩)
    show Ok X bb sb9 (50 + 3) [(8, .int (i3 t0)), (0, .ref a0), (1, .int (i3 x1)), (2, .ref a2), (3, .ref a3), (4, .ref a4), (5, .ref a5), (6, .ref a6), (7, .ref a7)] [.int (i3 (f2 (4 * t0 : Int).toNat))] n h
    refine ok_iconst (pc := 53) hc (v := i3 2) dL_ahead_53 (by decide) ?_
    obtain ⟨r3, P⟩ := P
    refine zk_icmp_ne (pc := 54) (tgt := 59) hc dL_ahead_54 (by decide) r3 ⟨by decide, by decide⟩ (fun c => ?_) (fun c => ?_)
    · have P := P.1 c
      refine ok_lv [1, 2, 3, 4, 5, 6, 7, 8, 0] rfl ?_
      exact P
    · have P := P.2 c
      refine ok_iconst (pc := 57) hc (v := i3 1) dL_ahead_57 (by decide) ?_
      exact ok_zret (st := []) (pc := 58) hc (nar_z (by decide)) hr dL_ahead_58 P

set_option maxHeartbeats 4000000 in
set_option maxRecDepth 100000 in
theorem sL_ahead_59 {X : Xt} {n : Nat} {h : HP} {a0 : Nat} {x1 : Int} {a2 : Nat} {a3 : Nat} {a4 : Nat} {a5 : Nat} {a6 : Nat} {a7 : Nat} {x8 : Int} {bb : Nat} {sb9 : Nat} (hc : Cx X cL_ahead RL 12 9 165) {K : KT} (hr : CxR X (some .boolean) K) 
    (P : Ok X bb sb9 62 [(0, .ref a0), (1, .int (i3 x1)), (2, .ref a2), (3, .ref a3), (4, .ref a4), (5, .ref a5), (6, .ref a6), (7, .ref a7), (8, .int (i3 x8)), (9, .int (i3 0))] [] n h) :
    Ok X bb sb9 59 [(0, .ref a0), (1, .int (i3 x1)), (2, .ref a2), (3, .ref a3), (4, .ref a4), (5, .ref a5), (6, .ref a6), (7, .ref a7), (8, .int (i3 x8))] [] n h := by
  refine ok_iconst (pc := 59) hc (v := i3 0) dL_ahead_59 (by decide) ?_
  refine ok_istore (pc := 60) hc (lv' := [(9, .int (i3 0)), (0, .ref a0), (1, .int (i3 x1)), (2, .ref a2), (3, .ref a3), (4, .ref a4), (5, .ref a5), (6, .ref a6), (7, .ref a7), (8, .int (i3 x8))]) dL_ahead_60 (by decide) rfl ?_
  refine ok_lv [1, 2, 3, 4, 5, 6, 7, 8, 9, 0] rfl ?_
  exact P

set_option maxHeartbeats 4000000 in
set_option maxRecDepth 100000 in
theorem sL_ahead_62 {X : Xt} {n : Nat} {h : HP} {a0 : Nat} {x1 : Int} {a2 : Nat} {a3 : Nat} {a4 : Nat} {a5 : Nat} {a6 : Nat} {a7 : Nat} {x8 : Int} {x9 : Int} {bb : Nat} {sb9 : Nat} (hc : Cx X cL_ahead RL 12 9 165) {K : KT} (hr : CxR X (some .boolean) K) 
    (P : (R3 x9) ∧ (4 ≤ x9 → Ok X bb sb9 83 [(0, .ref a0), (1, .int (i3 x1)), (2, .ref a2), (3, .ref a3), (4, .ref a4), (5, .ref a5), (6, .ref a6), (7, .ref a7), (8, .int (i3 x8)), (9, .int (i3 x9))] [] n h) ∧ (¬ 4 ≤ x9 → Ok X bb sb9 68 [(0, .ref a0), (1, .int (i3 x1)), (2, .ref a2), (3, .ref a3), (4, .ref a4), (5, .ref a5), (6, .ref a6), (7, .ref a7), (8, .int (i3 x8)), (9, .int (i3 x9))] [] n h)) :
    Ok X bb sb9 62 [(0, .ref a0), (1, .int (i3 x1)), (2, .ref a2), (3, .ref a3), (4, .ref a4), (5, .ref a5), (6, .ref a6), (7, .ref a7), (8, .int (i3 x8)), (9, .int (i3 x9))] [] n h := by
  refine ok_iload (pc := 62) hc dL_ahead_62 9 rfl ?_
  refine ok_iconst (pc := 64) hc (v := i3 4) dL_ahead_64 (by decide) ?_
  obtain ⟨r1, P⟩ := P
  refine zk_icmp_ge (pc := 65) (tgt := 83) hc dL_ahead_65 (by decide) r1 ⟨by decide, by decide⟩ (fun c => ?_) (fun c => ?_)
  · have P := P.1 c
    exact P
  · have P := P.2 c
    exact P

set_option maxHeartbeats 4000000 in
set_option maxRecDepth 100000 in
theorem sL_ahead_68 {X : Xt} {n : Nat} {h : HP} {a0 : Nat} {x1 : Int} {a2 : Nat} {a3 : Nat} {a4 : Nat} {a5 : Nat} {a6 : Nat} {a7 : Nat} {x8 : Int} {x9 : Int} {bb : Nat} {sb9 : Nat} {f1 : Nat → Int} {f2 : Nat → Int} (hc : Cx X cL_ahead RL 12 9 165) {K : KT} (hr : CxR X (some .boolean) K) (e1 : At h n a2 (ai 4 f1)) (e2 : At h n a6 (ai 4 f2))
    (P : (Ix x9 4) ∧ (Ix x9 4) ∧ Ok X bb sb9 62 [(0, .ref a0), (1, .int (i3 x1)), (2, .ref a2), (3, .ref a3), (4, .ref a4), (5, .ref a5), (6, .ref a6), (7, .ref a7), (8, .int (i3 x8)), (9, .int (i3 (x9 + 1)))] [] n (va_up h a6 (ai 4 (va_up f2 (x9 : Int).toNat (f1 (x9 : Int).toNat))))) :
    Ok X bb sb9 68 [(0, .ref a0), (1, .int (i3 x1)), (2, .ref a2), (3, .ref a3), (4, .ref a4), (5, .ref a5), (6, .ref a6), (7, .ref a7), (8, .int (i3 x8)), (9, .int (i3 x9))] [] n h := by
  refine ok_aload (pc := 68) hc dL_ahead_68 6 rfl ?_
  refine ok_iload (pc := 70) hc dL_ahead_70 9 rfl ?_
  refine ok_aload_n (pc := 72) hc dL_ahead_72 rfl 2 rfl ?_
  refine ok_iload (pc := 73) hc dL_ahead_73 9 rfl ?_
  obtain ⟨r, P⟩ := P
  refine zk_iald (pc := 75) hc dL_ahead_75 e1.1 e1.2 r ?_
  obtain ⟨r, P⟩ := P
  refine zk_iast (pc := 76) hc dL_ahead_76 e2.1 e2.2 r ?_
  refine zk_iinc (pc := 77) hc (q := 9) (x := x9) (lv' := [(9, .int (i3 (x9 + 1))), (0, .ref a0), (1, .int (i3 x1)), (2, .ref a2), (3, .ref a3), (4, .ref a4), (5, .ref a5), (6, .ref a6), (7, .ref a7), (8, .int (i3 x8))]) dL_ahead_77 rfl (by decide) rfl ?_
  refine ok_goto (pc := 80) (tgt := 62) hc dL_ahead_80 (by decide) ?_
  refine ok_lv [1, 2, 3, 4, 5, 6, 7, 8, 9, 0] rfl ?_
  exact P

set_option maxHeartbeats 4000000 in
set_option maxRecDepth 100000 in
theorem sL_ahead_83 {X : Xt} {n : Nat} {h : HP} {a0 : Nat} {x1 : Int} {a2 : Nat} {a3 : Nat} {a4 : Nat} {a5 : Nat} {a6 : Nat} {a7 : Nat} {x8 : Int} {x9 : Int} {bb : Nat} {sb9 : Nat} (hc : Cx X cL_ahead RL 12 9 165) {K : KT} (hr : CxR X (some .boolean) K) 
    (P : Ok X bb sb9 86 [(0, .ref a0), (1, .int (i3 x1)), (2, .ref a2), (3, .ref a3), (4, .ref a4), (5, .ref a5), (6, .ref a6), (7, .ref a7), (8, .int (i3 x8)), (9, .int (i3 0))] [] n h) :
    Ok X bb sb9 83 [(0, .ref a0), (1, .int (i3 x1)), (2, .ref a2), (3, .ref a3), (4, .ref a4), (5, .ref a5), (6, .ref a6), (7, .ref a7), (8, .int (i3 x8)), (9, .int (i3 x9))] [] n h := by
  refine ok_iconst (pc := 83) hc (v := i3 0) dL_ahead_83 (by decide) ?_
  refine ok_istore (pc := 84) hc (lv' := [(9, .int (i3 0)), (0, .ref a0), (1, .int (i3 x1)), (2, .ref a2), (3, .ref a3), (4, .ref a4), (5, .ref a5), (6, .ref a6), (7, .ref a7), (8, .int (i3 x8))]) dL_ahead_84 (by decide) rfl ?_
  refine ok_lv [1, 2, 3, 4, 5, 6, 7, 8, 9, 0] rfl ?_
  exact P

set_option maxHeartbeats 4000000 in
set_option maxRecDepth 100000 in
theorem sL_ahead_86 {X : Xt} {n : Nat} {h : HP} {a0 : Nat} {x1 : Int} {a2 : Nat} {a3 : Nat} {a4 : Nat} {a5 : Nat} {a6 : Nat} {a7 : Nat} {x8 : Int} {x9 : Int} {bb : Nat} {sb9 : Nat} (hc : Cx X cL_ahead RL 12 9 165) {K : KT} (hr : CxR X (some .boolean) K) 
    (P : (R3 x9) ∧ (48 ≤ x9 → Ok X bb sb9 108 [(0, .ref a0), (1, .int (i3 x1)), (2, .ref a2), (3, .ref a3), (4, .ref a4), (5, .ref a5), (6, .ref a6), (7, .ref a7), (8, .int (i3 x8)), (9, .int (i3 x9))] [] n h) ∧ (¬ 48 ≤ x9 → Ok X bb sb9 93 [(0, .ref a0), (1, .int (i3 x1)), (2, .ref a2), (3, .ref a3), (4, .ref a4), (5, .ref a5), (6, .ref a6), (7, .ref a7), (8, .int (i3 x8)), (9, .int (i3 x9))] [] n h)) :
    Ok X bb sb9 86 [(0, .ref a0), (1, .int (i3 x1)), (2, .ref a2), (3, .ref a3), (4, .ref a4), (5, .ref a5), (6, .ref a6), (7, .ref a7), (8, .int (i3 x8)), (9, .int (i3 x9))] [] n h := by
  refine ok_iload (pc := 86) hc dL_ahead_86 9 rfl ?_
  refine ok_bipush (pc := 88) hc (v := i3 48) dL_ahead_88 (by decide) ?_
  obtain ⟨r1, P⟩ := P
  refine zk_icmp_ge (pc := 90) (tgt := 108) hc dL_ahead_90 (by decide) r1 ⟨by decide, by decide⟩ (fun c => ?_) (fun c => ?_)
  · have P := P.1 c
    exact P
  · have P := P.2 c
    exact P

set_option maxHeartbeats 4000000 in
set_option maxRecDepth 100000 in
theorem sL_ahead_93 {X : Xt} {n : Nat} {h : HP} {a0 : Nat} {x1 : Int} {a2 : Nat} {a3 : Nat} {a4 : Nat} {a5 : Nat} {a6 : Nat} {a7 : Nat} {x8 : Int} {x9 : Int} {bb : Nat} {sb9 : Nat} {f1 : Nat → Int} {f2 : Nat → Int} (hc : Cx X cL_ahead RL 12 9 165) {K : KT} (hr : CxR X (some .boolean) K) (e1 : At h n a3 (ai 48 f1)) (e2 : At h n a7 (ai 48 f2))
    (P : (Ix x9 48) ∧ (Ix x9 48) ∧ Ok X bb sb9 86 [(0, .ref a0), (1, .int (i3 x1)), (2, .ref a2), (3, .ref a3), (4, .ref a4), (5, .ref a5), (6, .ref a6), (7, .ref a7), (8, .int (i3 x8)), (9, .int (i3 (x9 + 1)))] [] n (va_up h a7 (ai 48 (va_up f2 (x9 : Int).toNat (f1 (x9 : Int).toNat))))) :
    Ok X bb sb9 93 [(0, .ref a0), (1, .int (i3 x1)), (2, .ref a2), (3, .ref a3), (4, .ref a4), (5, .ref a5), (6, .ref a6), (7, .ref a7), (8, .int (i3 x8)), (9, .int (i3 x9))] [] n h := by
  refine ok_aload (pc := 93) hc dL_ahead_93 7 rfl ?_
  refine ok_iload (pc := 95) hc dL_ahead_95 9 rfl ?_
  refine ok_aload_n (pc := 97) hc dL_ahead_97 rfl 3 rfl ?_
  refine ok_iload (pc := 98) hc dL_ahead_98 9 rfl ?_
  obtain ⟨r, P⟩ := P
  refine zk_iald (pc := 100) hc dL_ahead_100 e1.1 e1.2 r ?_
  obtain ⟨r, P⟩ := P
  refine zk_iast (pc := 101) hc dL_ahead_101 e2.1 e2.2 r ?_
  refine zk_iinc (pc := 102) hc (q := 9) (x := x9) (lv' := [(9, .int (i3 (x9 + 1))), (0, .ref a0), (1, .int (i3 x1)), (2, .ref a2), (3, .ref a3), (4, .ref a4), (5, .ref a5), (6, .ref a6), (7, .ref a7), (8, .int (i3 x8))]) dL_ahead_102 rfl (by decide) rfl ?_
  refine ok_goto (pc := 105) (tgt := 86) hc dL_ahead_105 (by decide) ?_
  refine ok_lv [1, 2, 3, 4, 5, 6, 7, 8, 9, 0] rfl ?_
  exact P

set_option maxHeartbeats 4000000 in
set_option maxRecDepth 100000 in
theorem sL_ahead_108 {X : Xt} {n : Nat} {h : HP} {a0 : Nat} {x1 : Int} {a2 : Nat} {a3 : Nat} {a4 : Nat} {a5 : Nat} {a6 : Nat} {a7 : Nat} {x8 : Int} {x9 : Int} {bb : Nat} {sb9 : Nat} {f1 : Nat → Int} (hc : Cx X cL_ahead RL 12 9 165) {K : KT} (hr : CxR X (some .boolean) K) (e1 : At h n a3 (ai 48 f1))
    (P : (Ix (4 * x8) 48) ∧ (R3 (f1 (4 * x8 : Int).toNat)) ∧ (¬ (f1 (4 * x8 : Int).toNat) = 0 → spec_L_at [.int (i3 (bshr x1 4)), .int (i3 401)] n h (kc X bb sb9 143 [(0, .ref a0), (1, .int (i3 x1)), (2, .ref a2), (3, .ref a3), (4, .ref a4), (5, .ref a5), (6, .ref a6), (7, .ref a7), (8, .int (i3 x8)), (9, .int (i3 x9))] [.int (i3 ((4 * x8) + 3)), .ref a7] n)) ∧ ((f1 (4 * x8 : Int).toNat) = 0 → spec_L_at [.int (i3 (bshr x1 4)), .int (i3 4)] n h (kc X bb sb9 130 [(0, .ref a0), (1, .int (i3 x1)), (2, .ref a2), (3, .ref a3), (4, .ref a4), (5, .ref a5), (6, .ref a6), (7, .ref a7), (8, .int (i3 x8)), (9, .int (i3 x9))] [.int (i3 1), .int (i3 ((4 * x8) + 3)), .ref a7] n))) :
    Ok X bb sb9 108 [(0, .ref a0), (1, .int (i3 x1)), (2, .ref a2), (3, .ref a3), (4, .ref a4), (5, .ref a5), (6, .ref a6), (7, .ref a7), (8, .int (i3 x8)), (9, .int (i3 x9))] [] n h := by
  refine ok_aload (pc := 108) hc dL_ahead_108 7 rfl ?_
  refine ok_iconst (pc := 110) hc (v := i3 4) dL_ahead_110 (by decide) ?_
  refine ok_iload (pc := 111) hc dL_ahead_111 8 rfl ?_
  refine zk_imul (pc := 113) hc dL_ahead_113 ?_
  refine ok_iconst (pc := 114) hc (v := i3 3) dL_ahead_114 (by decide) ?_
  refine zk_iadd (pc := 115) hc dL_ahead_115 ?_
  refine ok_iload (pc := 116) hc dL_ahead_116 8 rfl ?_
  refine ok_aload_n (pc := 118) hc dL_ahead_118 rfl 3 rfl ?_
  obtain ⟨r0, P⟩ := P
  refine ok_callS (pc := 119) (cb := bb) (sb := sb9) (st := [.int (i3 ((4 * x8) + 3)), .ref a7]) hc [.int (i3 x8), .ref a3] cs_L_8 sp_L_kind (by decide) dL_ahead_119 rfl rfl rfl rfl (Nat.le_of_ble_eq_true rfl) (⟨_, _, _, _, rfl, ⟨e1.1, e1.2⟩, r0, rfl, ?_⟩)
  show Ok X bb sb9 (119 + 3) [(0, .ref a0), (1, .int (i3 x1)), (2, .ref a2), (3, .ref a3), (4, .ref a4), (5, .ref a5), (6, .ref a6), (7, .ref a7), (8, .int (i3 x8)), (9, .int (i3 x9))] [.int (i3 (f1 (4 * x8 : Int).toNat)), .int (i3 ((4 * x8) + 3)), .ref a7] n h
  obtain ⟨r2, P⟩ := P
  refine zk_if_ne (pc := 122) (tgt := 137) hc dL_ahead_122 (by decide) r2 (fun c => ?_) (fun c => ?_)
  · have P := P.1 c
    refine ok_iload_n (pc := 137) hc dL_ahead_137 rfl 1 rfl ?_
    refine ok_iconst (pc := 138) hc (v := i3 4) dL_ahead_138 (by decide) ?_
    refine zk_ishr (pc := 139) hc dL_ahead_139 ?_
    refine ok_sipush (pc := 140) hc (v := i3 401) dL_ahead_140 (by decide) ?_
    exact ok_callS (pc := 143) (cb := bb) (sb := sb9) (st := [.int (i3 ((4 * x8) + 3)), .ref a7]) hc [.int (i3 (bshr x1 4)), .int (i3 401)] cs_L_71 sp_L_at (by decide) dL_ahead_143 rfl rfl rfl rfl (Nat.le_of_ble_eq_true rfl) P
  · have P := P.2 c
    refine ok_iconst (pc := 125) hc (v := i3 1) dL_ahead_125 (by decide) ?_
    refine ok_iload_n (pc := 126) hc dL_ahead_126 rfl 1 rfl ?_
    refine ok_iconst (pc := 127) hc (v := i3 4) dL_ahead_127 (by decide) ?_
    refine zk_ishr (pc := 128) hc dL_ahead_128 ?_
    refine ok_iconst (pc := 129) hc (v := i3 4) dL_ahead_129 (by decide) ?_
    exact ok_callS (pc := 130) (cb := bb) (sb := sb9) (st := [.int (i3 1), .int (i3 ((4 * x8) + 3)), .ref a7]) hc [.int (i3 (bshr x1 4)), .int (i3 4)] cs_L_71 sp_L_at (by decide) dL_ahead_130 rfl rfl rfl rfl (Nat.le_of_ble_eq_true rfl) P

set_option maxHeartbeats 4000000 in
set_option maxRecDepth 100000 in
theorem sL_ahead_133 {X : Xt} {n : Nat} {h : HP} {a0 : Nat} {x1 : Int} {a2 : Nat} {a3 : Nat} {a4 : Nat} {a5 : Nat} {a6 : Nat} {a7 : Nat} {x8 : Int} {x9 : Int} {t0 : Int} {t1 : Int} {t2 : Int} {ta3 : Nat} {bb : Nat} {sb9 : Nat} {f1 : Nat → Int} (hc : Cx X cL_ahead RL 12 9 165) {K : KT} (hr : CxR X (some .boolean) K) (e1 : At h n ta3 (ai 48 f1))
    (P : (Ix t2 48) ∧ Ok X bb sb9 151 [(0, .ref a0), (1, .int (i3 x1)), (2, .ref a2), (3, .ref a3), (4, .ref a4), (5, .ref a5), (6, .ref a6), (7, .ref a7), (8, .int (i3 x8)), (9, .int (i3 x9))] [] n (va_up h ta3 (ai 48 (va_up f1 (t2 : Int).toNat (t1 + t0))))) :
    Ok X bb sb9 133 [(0, .ref a0), (1, .int (i3 x1)), (2, .ref a2), (3, .ref a3), (4, .ref a4), (5, .ref a5), (6, .ref a6), (7, .ref a7), (8, .int (i3 x8)), (9, .int (i3 x9))] [.int (i3 t0), .int (i3 t1), .int (i3 t2), .ref ta3] n h := by
  refine zk_iadd (pc := 133) hc dL_ahead_133 ?_
  refine ok_goto (pc := 134) (tgt := 150) hc dL_ahead_134 (by decide) ?_
  obtain ⟨r, P⟩ := P
  refine zk_iast (pc := 150) hc dL_ahead_150 e1.1 e1.2 r ?_
  exact P

set_option maxHeartbeats 4000000 in
set_option maxRecDepth 100000 in
theorem sL_ahead_146 {X : Xt} {n : Nat} {h : HP} {a0 : Nat} {x1 : Int} {a2 : Nat} {a3 : Nat} {a4 : Nat} {a5 : Nat} {a6 : Nat} {a7 : Nat} {x8 : Int} {x9 : Int} {t0 : Int} {t1 : Int} {ta2 : Nat} {bb : Nat} {sb9 : Nat} {f1 : Nat → Int} (hc : Cx X cL_ahead RL 12 9 165) {K : KT} (hr : CxR X (some .boolean) K) (e1 : At h n ta2 (ai 48 f1))
    (P : (Ix t1 48) ∧ Ok X bb sb9 151 [(0, .ref a0), (1, .int (i3 x1)), (2, .ref a2), (3, .ref a3), (4, .ref a4), (5, .ref a5), (6, .ref a6), (7, .ref a7), (8, .int (i3 x8)), (9, .int (i3 x9))] [] n (va_up h ta2 (ai 48 (va_up f1 (t1 : Int).toNat (t0 - 200))))) :
    Ok X bb sb9 146 [(0, .ref a0), (1, .int (i3 x1)), (2, .ref a2), (3, .ref a3), (4, .ref a4), (5, .ref a5), (6, .ref a6), (7, .ref a7), (8, .int (i3 x8)), (9, .int (i3 x9))] [.int (i3 t0), .int (i3 t1), .ref ta2] n h := by
  refine ok_sipush (pc := 146) hc (v := i3 200) dL_ahead_146 (by decide) ?_
  refine zk_isub (pc := 149) hc dL_ahead_149 ?_
  obtain ⟨r, P⟩ := P
  refine zk_iast (pc := 150) hc dL_ahead_150 e1.1 e1.2 r ?_
  exact P

set_option maxHeartbeats 4000000 in
set_option maxRecDepth 100000 in
theorem sL_ahead_151 {X : Xt} {n : Nat} {h : HP} {a0 : Nat} {x1 : Int} {a2 : Nat} {a3 : Nat} {a4 : Nat} {a5 : Nat} {a6 : Nat} {a7 : Nat} {x8 : Int} {x9 : Int} {bb : Nat} {sb9 : Nat} (hc : Cx X cL_ahead RL 12 9 165) {K : KT} (hr : CxR X (some .boolean) K) 
    (P : spec_L_settle [.ref a6, .ref a7, .ref a4, .ref a5] n h (kc X bb sb9 159 [(0, .ref a0), (1, .int (i3 x1)), (2, .ref a2), (3, .ref a3), (4, .ref a4), (5, .ref a5), (6, .ref a6), (7, .ref a7), (8, .int (i3 x8)), (9, .int (i3 x9))] [] n)) :
    Ok X bb sb9 151 [(0, .ref a0), (1, .int (i3 x1)), (2, .ref a2), (3, .ref a3), (4, .ref a4), (5, .ref a5), (6, .ref a6), (7, .ref a7), (8, .int (i3 x8)), (9, .int (i3 x9))] [] n h := by
  refine ok_aload (pc := 151) hc dL_ahead_151 6 rfl ?_
  refine ok_aload (pc := 153) hc dL_ahead_153 7 rfl ?_
  refine ok_aload (pc := 155) hc dL_ahead_155 4 rfl ?_
  refine ok_aload (pc := 157) hc dL_ahead_157 5 rfl ?_
  exact ok_callS (pc := 159) (cb := bb) (sb := sb9) (st := []) hc [.ref a6, .ref a7, .ref a4, .ref a5] cs_L_105 sp_L_settle (by decide) dL_ahead_159 rfl rfl rfl rfl (Nat.le_of_ble_eq_true rfl) P

set_option maxHeartbeats 4000000 in
set_option maxRecDepth 100000 in
theorem sL_ahead_162 {X : Xt} {n : Nat} {h : HP} {a0 : Nat} {x1 : Int} {a2 : Nat} {a3 : Nat} {a4 : Nat} {a5 : Nat} {a6 : Nat} {a7 : Nat} {x8 : Int} {x9 : Int} {t0 : Int} {bb : Nat} {sb9 : Nat} {f1 : Nat → Int} {fs2 : List Value} (hc : Cx X cL_ahead RL 12 9 165) {K : KT} (hr : CxR X (some .boolean) K) (e1 : At h n a7 (ai 48 f1)) (e2 : At h n a0 (.inl (6, fs2))) (z2 : fs2.length = 6)
    (P : (Ix ((4 * x8) + 3) 48) ∧ spec_X6_ifValue [.ref a0, .int (i3 x8), .int (i3 (f1 (((4 * x8) + 3) : Int).toNat))] n h (kc X bb sb9 175 [(0, .ref a0), (1, .int (i3 x1)), (2, .ref a2), (3, .ref a3), (4, .ref a4), (5, .ref a5), (6, .ref a6), (7, .ref a7), (8, .int (i3 x8)), (9, .int (i3 x9))] [] n)) :
    Ok X (bb + 2) (sb9 + 12) 162 [(0, .ref a0), (1, .int (i3 x1)), (2, .ref a2), (3, .ref a3), (4, .ref a4), (5, .ref a5), (6, .ref a6), (7, .ref a7), (8, .int (i3 x8)), (9, .int (i3 x9))] [.int (i3 t0)] n h := by
  refine ok_pop (pc := 162) hc dL_ahead_162 rfl ?_
  refine ok_aload_n (pc := 163) hc dL_ahead_163 rfl 0 rfl ?_
  refine ok_iload (pc := 164) hc dL_ahead_164 8 rfl ?_
  refine ok_aload (pc := 166) hc dL_ahead_166 7 rfl ?_
  refine ok_iconst (pc := 168) hc (v := i3 4) dL_ahead_168 (by decide) ?_
  refine ok_iload (pc := 169) hc dL_ahead_169 8 rfl ?_
  refine zk_imul (pc := 171) hc dL_ahead_171 ?_
  refine ok_iconst (pc := 172) hc (v := i3 3) dL_ahead_172 (by decide) ?_
  refine zk_iadd (pc := 173) hc dL_ahead_173 ?_
  obtain ⟨r, P⟩ := P
  refine zk_iald (pc := 174) hc dL_ahead_174 e1.1 e1.2 r ?_
  exact ok_callV (pc := 175) (a := a0) (cb := bb) (sb := sb9) (st := []) hc [.int (i3 x8), .int (i3 (f1 (((4 * x8) + 3) : Int).toNat))] cv_L_109 sp_X6_ifValue (by decide) dL_ahead_175 rfl e2.1 e2.2 rfl rfl rfl (Nat.le_of_ble_eq_true rfl) P

set_option maxHeartbeats 4000000 in
set_option maxRecDepth 100000 in
theorem sL_ahead_178 {X : Xt} {n : Nat} {h : HP} {a0 : Nat} {x1 : Int} {a2 : Nat} {a3 : Nat} {a4 : Nat} {a5 : Nat} {a6 : Nat} {a7 : Nat} {x8 : Int} {x9 : Int} {t0 : Int} {bb : Nat} {sb9 : Nat} {f1 : Nat → Int} {f4 : Nat → Int} (hc : Cx X cL_ahead RL 12 9 165) {K : KT} (hr : CxR X (some .boolean) K) (e1 : At h n a6 (ai 4 f1)) (e4 : At h n a3 (ai 48 f4))
    (P : (Ix 3 4) ∧ (R3 (f1 (3 : Int).toNat)) ∧ (¬ (f1 (3 : Int).toNat) = 1 → (R3 t0) ∧ (t0 = (-1) → (Ix (4 * x8) 48) ∧ (R3 (f4 (4 * x8 : Int).toNat)) ∧ (¬ (f4 (4 * x8 : Int).toNat) = 0 → Ok X bb sb9 210 [(0, .ref a0), (1, .int (i3 x1)), (2, .ref a2), (3, .ref a3), (4, .ref a4), (5, .ref a5), (6, .ref a6), (7, .ref a7), (8, .int (i3 x8)), (9, .int (i3 x9))] [] n h) ∧ ((f4 (4 * x8 : Int).toNat) = 0 → K (.inl (some (.int (i3 1)))) n h)) ∧ (¬ t0 = (-1) → K (.inl (some (.int (i3 0)))) n h)) ∧ ((f1 (3 : Int).toNat) = 1 → (Ix 2 4) ∧ (R3 t0) ∧ (R3 (f1 (2 : Int).toNat)) ∧ (t0 = (f1 (2 : Int).toNat) → (Ix (4 * x8) 48) ∧ (R3 (f4 (4 * x8 : Int).toNat)) ∧ (¬ (f4 (4 * x8 : Int).toNat) = 0 → Ok X bb sb9 210 [(0, .ref a0), (1, .int (i3 x1)), (2, .ref a2), (3, .ref a3), (4, .ref a4), (5, .ref a5), (6, .ref a6), (7, .ref a7), (8, .int (i3 x8)), (9, .int (i3 x9))] [] n h) ∧ ((f4 (4 * x8 : Int).toNat) = 0 → K (.inl (some (.int (i3 1)))) n h)) ∧ (¬ t0 = (f1 (2 : Int).toNat) → K (.inl (some (.int (i3 0)))) n h))) :
    Ok X bb sb9 178 [(0, .ref a0), (1, .int (i3 x1)), (2, .ref a2), (3, .ref a3), (4, .ref a4), (5, .ref a5), (6, .ref a6), (7, .ref a7), (8, .int (i3 x8)), (9, .int (i3 x9))] [.int (i3 t0)] n h := by
  refine ok_aload (pc := 178) hc dL_ahead_178 6 rfl ?_
  refine ok_iconst (pc := 180) hc (v := i3 3) dL_ahead_180 (by decide) ?_
  obtain ⟨r, P⟩ := P
  refine zk_iald (pc := 181) hc dL_ahead_181 e1.1 e1.2 r ?_
  refine ok_iconst (pc := 182) hc (v := i3 1) dL_ahead_182 (by decide) ?_
  obtain ⟨r2, P⟩ := P
  refine zk_icmp_ne (pc := 183) (tgt := 193) hc dL_ahead_183 (by decide) r2 ⟨by decide, by decide⟩ (fun c => ?_) (fun c => ?_)
  · have P := P.1 c
    refine ok_iconst (pc := 193) hc (v := i3 (-1)) dL_ahead_193 (by decide) ?_
    obtain ⟨r3, P⟩ := P
    refine zk_icmp_eq (pc := 194) (tgt := 199) hc dL_ahead_194 (by decide) r3 ⟨by decide, by decide⟩ (fun c => ?_) (fun c => ?_)
    · have P := P.1 c
      refine ok_iload (pc := 199) hc dL_ahead_199 8 rfl ?_
      refine ok_aload_n (pc := 201) hc dL_ahead_201 rfl 3 rfl ?_
      obtain ⟨r0, P⟩ := P
      refine ok_callS (pc := 202) (cb := bb) (sb := sb9) (st := []) hc [.int (i3 x8), .ref a3] cs_L_8 sp_L_kind (by decide) dL_ahead_202 rfl rfl rfl rfl (Nat.le_of_ble_eq_true rfl) (⟨_, _, _, _, rfl, ⟨e4.1, e4.2⟩, r0, rfl, ?_⟩)
      show Ok X bb sb9 (202 + 3) [(0, .ref a0), (1, .int (i3 x1)), (2, .ref a2), (3, .ref a3), (4, .ref a4), (5, .ref a5), (6, .ref a6), (7, .ref a7), (8, .int (i3 x8)), (9, .int (i3 x9))] [.int (i3 (f4 (4 * x8 : Int).toNat))] n h
      obtain ⟨r5, P⟩ := P
      refine zk_if_ne (pc := 205) (tgt := 210) hc dL_ahead_205 (by decide) r5 (fun c => ?_) (fun c => ?_)
      · have P := P.1 c
        exact P
      · have P := P.2 c
        refine ok_iconst (pc := 208) hc (v := i3 1) dL_ahead_208 (by decide) ?_
        exact ok_zret (st := []) (pc := 209) hc (nar_z (by decide)) hr dL_ahead_209 P
    · have P := P.2 c
      refine ok_iconst (pc := 197) hc (v := i3 0) dL_ahead_197 (by decide) ?_
      exact ok_zret (st := []) (pc := 198) hc (nar_z (by decide)) hr dL_ahead_198 P
  · have P := P.2 c
    refine ok_aload (pc := 186) hc dL_ahead_186 6 rfl ?_
    refine ok_iconst (pc := 188) hc (v := i3 2) dL_ahead_188 (by decide) ?_
    obtain ⟨r, P⟩ := P
    refine zk_iald (pc := 189) hc dL_ahead_189 e1.1 e1.2 r ?_
    refine ok_goto (pc := 190) (tgt := 194) hc dL_ahead_190 (by decide) ?_
    obtain ⟨r6, P⟩ := P
    obtain ⟨r7, P⟩ := P
    refine zk_icmp_eq (pc := 194) (tgt := 199) hc dL_ahead_194 (by decide) r6 r7 (fun c => ?_) (fun c => ?_)
    · have P := P.1 c
      refine ok_iload (pc := 199) hc dL_ahead_199 8 rfl ?_
      refine ok_aload_n (pc := 201) hc dL_ahead_201 rfl 3 rfl ?_
      obtain ⟨r0, P⟩ := P
      refine ok_callS (pc := 202) (cb := bb) (sb := sb9) (st := []) hc [.int (i3 x8), .ref a3] cs_L_8 sp_L_kind (by decide) dL_ahead_202 rfl rfl rfl rfl (Nat.le_of_ble_eq_true rfl) (⟨_, _, _, _, rfl, ⟨e4.1, e4.2⟩, r0, rfl, ?_⟩)
      show Ok X bb sb9 (202 + 3) [(0, .ref a0), (1, .int (i3 x1)), (2, .ref a2), (3, .ref a3), (4, .ref a4), (5, .ref a5), (6, .ref a6), (7, .ref a7), (8, .int (i3 x8)), (9, .int (i3 x9))] [.int (i3 (f4 (4 * x8 : Int).toNat))] n h
      obtain ⟨r8, P⟩ := P
      refine zk_if_ne (pc := 205) (tgt := 210) hc dL_ahead_205 (by decide) r8 (fun c => ?_) (fun c => ?_)
      · have P := P.1 c
        exact P
      · have P := P.2 c
        refine ok_iconst (pc := 208) hc (v := i3 1) dL_ahead_208 (by decide) ?_
        exact ok_zret (st := []) (pc := 209) hc (nar_z (by decide)) hr dL_ahead_209 P
    · have P := P.2 c
      refine ok_iconst (pc := 197) hc (v := i3 0) dL_ahead_197 (by decide) ?_
      exact ok_zret (st := []) (pc := 198) hc (nar_z (by decide)) hr dL_ahead_198 P

set_option maxHeartbeats 4000000 in
set_option maxRecDepth 100000 in
theorem sL_ahead_210 {X : Xt} {n : Nat} {h : HP} {a0 : Nat} {x1 : Int} {a2 : Nat} {a3 : Nat} {a4 : Nat} {a5 : Nat} {a6 : Nat} {a7 : Nat} {x8 : Int} {x9 : Int} {bb : Nat} {sb9 : Nat} (hc : Cx X cL_ahead RL 12 9 165) {K : KT} (hr : CxR X (some .boolean) K) 
    (P : spec_L_at [.int (i3 (bshr x1 3)), .int (i3 2)] n h (kc X bb sb9 214 [(0, .ref a0), (1, .int (i3 x1)), (2, .ref a2), (3, .ref a3), (4, .ref a4), (5, .ref a5), (6, .ref a6), (7, .ref a7), (8, .int (i3 x8)), (9, .int (i3 x9))] [] n)) :
    Ok X bb sb9 210 [(0, .ref a0), (1, .int (i3 x1)), (2, .ref a2), (3, .ref a3), (4, .ref a4), (5, .ref a5), (6, .ref a6), (7, .ref a7), (8, .int (i3 x8)), (9, .int (i3 x9))] [] n h := by
  refine ok_iload_n (pc := 210) hc dL_ahead_210 rfl 1 rfl ?_
  refine ok_iconst (pc := 211) hc (v := i3 3) dL_ahead_211 (by decide) ?_
  refine zk_ishr (pc := 212) hc dL_ahead_212 ?_
  refine ok_iconst (pc := 213) hc (v := i3 2) dL_ahead_213 (by decide) ?_
  exact ok_callS (pc := 214) (cb := bb) (sb := sb9) (st := []) hc [.int (i3 (bshr x1 3)), .int (i3 2)] cs_L_71 sp_L_at (by decide) dL_ahead_214 rfl rfl rfl rfl (Nat.le_of_ble_eq_true rfl) P

set_option maxHeartbeats 4000000 in
set_option maxRecDepth 100000 in
theorem sL_ahead_217 {X : Xt} {n : Nat} {h : HP} {a0 : Nat} {x1 : Int} {a2 : Nat} {a3 : Nat} {a4 : Nat} {a5 : Nat} {a6 : Nat} {a7 : Nat} {x8 : Int} {x9 : Int} {t0 : Int} {bb : Nat} {sb9 : Nat} (hc : Cx X cL_ahead RL 12 9 165) {K : KT} (hr : CxR X (some .boolean) K) 
    (P : (R3 t0) ∧ (¬ t0 = 0 → Ok X bb sb9 233 [(0, .ref a0), (1, .int (i3 x1)), (2, .ref a2), (3, .ref a3), (4, .ref a4), (5, .ref a5), (6, .ref a6), (7, .ref a7), (8, .int (i3 x8)), (9, .int (i3 (-1))), (10, .int (i3 (-1))), (11, .int (i3 0))] [] n h) ∧ (t0 = 0 → Ok X bb sb9 233 [(0, .ref a0), (1, .int (i3 x1)), (2, .ref a2), (3, .ref a3), (4, .ref a4), (5, .ref a5), (6, .ref a6), (7, .ref a7), (8, .int (i3 x8)), (9, .int (i3 1)), (10, .int (i3 (-1))), (11, .int (i3 0))] [] n h)) :
    Ok X bb sb9 217 [(0, .ref a0), (1, .int (i3 x1)), (2, .ref a2), (3, .ref a3), (4, .ref a4), (5, .ref a5), (6, .ref a6), (7, .ref a7), (8, .int (i3 x8)), (9, .int (i3 x9))] [.int (i3 t0)] n h := by
  obtain ⟨r1, P⟩ := P
  refine zk_if_ne (pc := 217) (tgt := 224) hc dL_ahead_217 (by decide) r1 (fun c => ?_) (fun c => ?_)
  · have P := P.1 c
    refine ok_iconst (pc := 224) hc (v := i3 (-1)) dL_ahead_224 (by decide) ?_
    refine ok_istore (pc := 225) hc (lv' := [(9, .int (i3 (-1))), (0, .ref a0), (1, .int (i3 x1)), (2, .ref a2), (3, .ref a3), (4, .ref a4), (5, .ref a5), (6, .ref a6), (7, .ref a7), (8, .int (i3 x8))]) dL_ahead_225 (by decide) rfl ?_
    refine ok_iconst (pc := 227) hc (v := i3 (-1)) dL_ahead_227 (by decide) ?_
    refine ok_istore (pc := 228) hc (lv' := [(10, .int (i3 (-1))), (9, .int (i3 (-1))), (0, .ref a0), (1, .int (i3 x1)), (2, .ref a2), (3, .ref a3), (4, .ref a4), (5, .ref a5), (6, .ref a6), (7, .ref a7), (8, .int (i3 x8))]) dL_ahead_228 (by decide) rfl ?_
    refine ok_iconst (pc := 230) hc (v := i3 0) dL_ahead_230 (by decide) ?_
    refine ok_istore (pc := 231) hc (lv' := [(11, .int (i3 0)), (10, .int (i3 (-1))), (9, .int (i3 (-1))), (0, .ref a0), (1, .int (i3 x1)), (2, .ref a2), (3, .ref a3), (4, .ref a4), (5, .ref a5), (6, .ref a6), (7, .ref a7), (8, .int (i3 x8))]) dL_ahead_231 (by decide) rfl ?_
    refine ok_lv [3, 4, 5, 6, 7, 8, 9, 10, 11, 2, 1, 0] rfl ?_
    exact P
  · have P := P.2 c
    refine ok_iconst (pc := 220) hc (v := i3 1) dL_ahead_220 (by decide) ?_
    refine ok_goto (pc := 221) (tgt := 225) hc dL_ahead_221 (by decide) ?_
    refine ok_istore (pc := 225) hc (lv' := [(9, .int (i3 1)), (0, .ref a0), (1, .int (i3 x1)), (2, .ref a2), (3, .ref a3), (4, .ref a4), (5, .ref a5), (6, .ref a6), (7, .ref a7), (8, .int (i3 x8))]) dL_ahead_225 (by decide) rfl ?_
    refine ok_iconst (pc := 227) hc (v := i3 (-1)) dL_ahead_227 (by decide) ?_
    refine ok_istore (pc := 228) hc (lv' := [(10, .int (i3 (-1))), (9, .int (i3 1)), (0, .ref a0), (1, .int (i3 x1)), (2, .ref a2), (3, .ref a3), (4, .ref a4), (5, .ref a5), (6, .ref a6), (7, .ref a7), (8, .int (i3 x8))]) dL_ahead_228 (by decide) rfl ?_
    refine ok_iconst (pc := 230) hc (v := i3 0) dL_ahead_230 (by decide) ?_
    refine ok_istore (pc := 231) hc (lv' := [(11, .int (i3 0)), (10, .int (i3 (-1))), (9, .int (i3 1)), (0, .ref a0), (1, .int (i3 x1)), (2, .ref a2), (3, .ref a3), (4, .ref a4), (5, .ref a5), (6, .ref a6), (7, .ref a7), (8, .int (i3 x8))]) dL_ahead_231 (by decide) rfl ?_
    refine ok_lv [3, 4, 5, 6, 7, 8, 9, 10, 11, 2, 1, 0] rfl ?_
    exact P

set_option maxHeartbeats 4000000 in
set_option maxRecDepth 100000 in
theorem sL_ahead_233 {X : Xt} {n : Nat} {h : HP} {a0 : Nat} {x1 : Int} {a2 : Nat} {a3 : Nat} {a4 : Nat} {a5 : Nat} {a6 : Nat} {a7 : Nat} {x8 : Int} {x9 : Int} {x10 : Int} {x11 : Int} {bb : Nat} {sb9 : Nat} (hc : Cx X cL_ahead RL 12 9 165) {K : KT} (hr : CxR X (some .boolean) K) 
    (P : (R3 x11) ∧ (4 ≤ x11 → Ok X bb sb9 254 [(0, .ref a0), (1, .int (i3 x1)), (2, .ref a2), (3, .ref a3), (4, .ref a4), (5, .ref a5), (6, .ref a6), (7, .ref a7), (8, .int (i3 x8)), (9, .int (i3 x9)), (10, .int (i3 x10)), (11, .int (i3 x11))] [] n h) ∧ (¬ 4 ≤ x11 → Ok X bb sb9 239 [(0, .ref a0), (1, .int (i3 x1)), (2, .ref a2), (3, .ref a3), (4, .ref a4), (5, .ref a5), (6, .ref a6), (7, .ref a7), (8, .int (i3 x8)), (9, .int (i3 x9)), (10, .int (i3 x10)), (11, .int (i3 x11))] [] n h)) :
    Ok X bb sb9 233 [(0, .ref a0), (1, .int (i3 x1)), (2, .ref a2), (3, .ref a3), (4, .ref a4), (5, .ref a5), (6, .ref a6), (7, .ref a7), (8, .int (i3 x8)), (9, .int (i3 x9)), (10, .int (i3 x10)), (11, .int (i3 x11))] [] n h := by
  refine ok_iload (pc := 233) hc dL_ahead_233 11 rfl ?_
  refine ok_iconst (pc := 235) hc (v := i3 4) dL_ahead_235 (by decide) ?_
  obtain ⟨r1, P⟩ := P
  refine zk_icmp_ge (pc := 236) (tgt := 254) hc dL_ahead_236 (by decide) r1 ⟨by decide, by decide⟩ (fun c => ?_) (fun c => ?_)
  · have P := P.1 c
    exact P
  · have P := P.2 c
    exact P

set_option maxHeartbeats 4000000 in
set_option maxRecDepth 100000 in
theorem sL_ahead_239 {X : Xt} {n : Nat} {h : HP} {a0 : Nat} {x1 : Int} {a2 : Nat} {a3 : Nat} {a4 : Nat} {a5 : Nat} {a6 : Nat} {a7 : Nat} {x8 : Int} {x9 : Int} {x10 : Int} {x11 : Int} {bb : Nat} {sb9 : Nat} {f1 : Nat → Int} {f2 : Nat → Int} (hc : Cx X cL_ahead RL 12 9 165) {K : KT} (hr : CxR X (some .boolean) K) (e1 : At h n a2 (ai 4 f1)) (e2 : At h n a6 (ai 4 f2))
    (P : (Ix x11 4) ∧ (Ix x11 4) ∧ Ok X bb sb9 233 [(0, .ref a0), (1, .int (i3 x1)), (2, .ref a2), (3, .ref a3), (4, .ref a4), (5, .ref a5), (6, .ref a6), (7, .ref a7), (8, .int (i3 x8)), (9, .int (i3 x9)), (10, .int (i3 x10)), (11, .int (i3 (x11 + 1)))] [] n (va_up h a6 (ai 4 (va_up f2 (x11 : Int).toNat (f1 (x11 : Int).toNat))))) :
    Ok X bb sb9 239 [(0, .ref a0), (1, .int (i3 x1)), (2, .ref a2), (3, .ref a3), (4, .ref a4), (5, .ref a5), (6, .ref a6), (7, .ref a7), (8, .int (i3 x8)), (9, .int (i3 x9)), (10, .int (i3 x10)), (11, .int (i3 x11))] [] n h := by
  refine ok_aload (pc := 239) hc dL_ahead_239 6 rfl ?_
  refine ok_iload (pc := 241) hc dL_ahead_241 11 rfl ?_
  refine ok_aload_n (pc := 243) hc dL_ahead_243 rfl 2 rfl ?_
  refine ok_iload (pc := 244) hc dL_ahead_244 11 rfl ?_
  obtain ⟨r, P⟩ := P
  refine zk_iald (pc := 246) hc dL_ahead_246 e1.1 e1.2 r ?_
  obtain ⟨r, P⟩ := P
  refine zk_iast (pc := 247) hc dL_ahead_247 e2.1 e2.2 r ?_
  refine zk_iinc (pc := 248) hc (q := 11) (x := x11) (lv' := [(11, .int (i3 (x11 + 1))), (0, .ref a0), (1, .int (i3 x1)), (2, .ref a2), (3, .ref a3), (4, .ref a4), (5, .ref a5), (6, .ref a6), (7, .ref a7), (8, .int (i3 x8)), (9, .int (i3 x9)), (10, .int (i3 x10))]) dL_ahead_248 rfl (by decide) rfl ?_
  refine ok_goto (pc := 251) (tgt := 233) hc dL_ahead_251 (by decide) ?_
  refine ok_lv [1, 2, 3, 4, 5, 6, 7, 8, 9, 10, 11, 0] rfl ?_
  exact P

set_option maxHeartbeats 4000000 in
set_option maxRecDepth 100000 in
theorem sL_ahead_254 {X : Xt} {n : Nat} {h : HP} {a0 : Nat} {x1 : Int} {a2 : Nat} {a3 : Nat} {a4 : Nat} {a5 : Nat} {a6 : Nat} {a7 : Nat} {x8 : Int} {x9 : Int} {x10 : Int} {x11 : Int} {bb : Nat} {sb9 : Nat} {f1 : Nat → Int} {f2 : Nat → Int} (hc : Cx X cL_ahead RL 12 9 165) {K : KT} (hr : CxR X (some .boolean) K) (e1 : At h n a3 (ai 48 f1)) (e2 : At h n a7 (ai 48 f2))
    (P : (Ix ((4 * x8) + 3) 48) ∧ (Ix ((4 * x8) + 3) 48) ∧ Ok X bb sb9 271 [(0, .ref a0), (1, .int (i3 x1)), (2, .ref a2), (3, .ref a3), (4, .ref a4), (5, .ref a5), (6, .ref a6), (7, .ref a7), (8, .int (i3 x8)), (9, .int (i3 x9)), (10, .int (i3 x10)), (11, .int (i3 x11))] [] n (va_up h a7 (ai 48 (va_up f2 (((4 * x8) + 3) : Int).toNat (f1 (((4 * x8) + 3) : Int).toNat))))) :
    Ok X bb sb9 254 [(0, .ref a0), (1, .int (i3 x1)), (2, .ref a2), (3, .ref a3), (4, .ref a4), (5, .ref a5), (6, .ref a6), (7, .ref a7), (8, .int (i3 x8)), (9, .int (i3 x9)), (10, .int (i3 x10)), (11, .int (i3 x11))] [] n h := by
  refine ok_aload (pc := 254) hc dL_ahead_254 7 rfl ?_
  refine ok_iconst (pc := 256) hc (v := i3 4) dL_ahead_256 (by decide) ?_
  refine ok_iload (pc := 257) hc dL_ahead_257 8 rfl ?_
  refine zk_imul (pc := 259) hc dL_ahead_259 ?_
  refine ok_iconst (pc := 260) hc (v := i3 3) dL_ahead_260 (by decide) ?_
  refine zk_iadd (pc := 261) hc dL_ahead_261 ?_
  refine ok_aload_n (pc := 262) hc dL_ahead_262 rfl 3 rfl ?_
  refine ok_iconst (pc := 263) hc (v := i3 4) dL_ahead_263 (by decide) ?_
  refine ok_iload (pc := 264) hc dL_ahead_264 8 rfl ?_
  refine zk_imul (pc := 266) hc dL_ahead_266 ?_
  refine ok_iconst (pc := 267) hc (v := i3 3) dL_ahead_267 (by decide) ?_
  refine zk_iadd (pc := 268) hc dL_ahead_268 ?_
  obtain ⟨r, P⟩ := P
  refine zk_iald (pc := 269) hc dL_ahead_269 e1.1 e1.2 r ?_
  obtain ⟨r, P⟩ := P
  refine zk_iast (pc := 270) hc dL_ahead_270 e2.1 e2.2 r ?_
  exact P

set_option maxHeartbeats 4000000 in
set_option maxRecDepth 100000 in
theorem sL_ahead_271 {X : Xt} {n : Nat} {h : HP} {a0 : Nat} {x1 : Int} {a2 : Nat} {a3 : Nat} {a4 : Nat} {a5 : Nat} {a6 : Nat} {a7 : Nat} {x8 : Int} {x9 : Int} {x10 : Int} {x11 : Int} {bb : Nat} {sb9 : Nat} {f2 : Nat → Int} (hc : Cx X cL_ahead RL 12 9 165) {K : KT} (hr : CxR X (some .boolean) K) (e2 : At h n a7 (ai 48 f2))
    (P : (R3 x10) ∧ (0 ≤ x10 → Ok X bb sb9 359 [(0, .ref a0), (1, .int (i3 x1)), (2, .ref a2), (3, .ref a3), (4, .ref a4), (5, .ref a5), (6, .ref a6), (7, .ref a7), (8, .int (i3 x8)), (9, .int (i3 x9)), (10, .int (i3 x10)), (11, .int (i3 x11))] [] n h) ∧ (¬ 0 ≤ x10 → (Ix ((4 * x8) + 3) 48) ∧ (R3 ((f2 (((4 * x8) + 3) : Int).toNat) + x9)) ∧ (200 < ((f2 (((4 * x8) + 3) : Int).toNat) + x9) → Ok X bb sb9 359 [(0, .ref a0), (1, .int (i3 x1)), (2, .ref a2), (3, .ref a3), (4, .ref a4), (5, .ref a5), (6, .ref a6), (7, .ref a7), (8, .int (i3 x8)), (9, .int (i3 x9)), (10, .int (i3 x10)), (11, .int (i3 x11))] [] n h) ∧ (¬ 200 < ((f2 (((4 * x8) + 3) : Int).toNat) + x9) → (Ix ((4 * x8) + 3) 48) ∧ (R3 ((f2 (((4 * x8) + 3) : Int).toNat) + x9)) ∧ (((f2 (((4 * x8) + 3) : Int).toNat) + x9) < (-200) → Ok X bb sb9 359 [(0, .ref a0), (1, .int (i3 x1)), (2, .ref a2), (3, .ref a3), (4, .ref a4), (5, .ref a5), (6, .ref a6), (7, .ref a7), (8, .int (i3 x8)), (9, .int (i3 x9)), (10, .int (i3 x10)), (11, .int (i3 x11))] [] n h) ∧ (¬ ((f2 (((4 * x8) + 3) : Int).toNat) + x9) < (-200) → Ok X bb sb9 312 [(0, .ref a0), (1, .int (i3 x1)), (2, .ref a2), (3, .ref a3), (4, .ref a4), (5, .ref a5), (6, .ref a6), (7, .ref a7), (8, .int (i3 x8)), (9, .int (i3 x9)), (10, .int (i3 x10)), (11, .int (i3 x11))] [] n h)))) :
    Ok X bb sb9 271 [(0, .ref a0), (1, .int (i3 x1)), (2, .ref a2), (3, .ref a3), (4, .ref a4), (5, .ref a5), (6, .ref a6), (7, .ref a7), (8, .int (i3 x8)), (9, .int (i3 x9)), (10, .int (i3 x10)), (11, .int (i3 x11))] [] n h := by
  refine ok_iload (pc := 271) hc dL_ahead_271 10 rfl ?_
  obtain ⟨r1, P⟩ := P
  refine zk_if_ge (pc := 273) (tgt := 359) hc dL_ahead_273 (by decide) r1 (fun c => ?_) (fun c => ?_)
  · have P := P.1 c
    exact P
  · have P := P.2 c
    refine ok_aload (pc := 276) hc dL_ahead_276 7 rfl ?_
    refine ok_iconst (pc := 278) hc (v := i3 4) dL_ahead_278 (by decide) ?_
    refine ok_iload (pc := 279) hc dL_ahead_279 8 rfl ?_
    refine zk_imul (pc := 281) hc dL_ahead_281 ?_
    refine ok_iconst (pc := 282) hc (v := i3 3) dL_ahead_282 (by decide) ?_
    refine zk_iadd (pc := 283) hc dL_ahead_283 ?_
    obtain ⟨r, P⟩ := P
    refine zk_iald (pc := 284) hc dL_ahead_284 e2.1 e2.2 r ?_
    refine ok_iload (pc := 285) hc dL_ahead_285 9 rfl ?_
    refine zk_iadd (pc := 287) hc dL_ahead_287 ?_
    refine ok_sipush (pc := 288) hc (v := i3 200) dL_ahead_288 (by decide) ?_
    obtain ⟨r3, P⟩ := P
    refine zk_icmp_gt (pc := 291) (tgt := 359) hc dL_ahead_291 (by decide) r3 ⟨by decide, by decide⟩ (fun c => ?_) (fun c => ?_)
    · have P := P.1 c
      exact P
    · have P := P.2 c
      refine ok_aload (pc := 294) hc dL_ahead_294 7 rfl ?_
      refine ok_iconst (pc := 296) hc (v := i3 4) dL_ahead_296 (by decide) ?_
      refine ok_iload (pc := 297) hc dL_ahead_297 8 rfl ?_
      refine zk_imul (pc := 299) hc dL_ahead_299 ?_
      refine ok_iconst (pc := 300) hc (v := i3 3) dL_ahead_300 (by decide) ?_
      refine zk_iadd (pc := 301) hc dL_ahead_301 ?_
      obtain ⟨r, P⟩ := P
      refine zk_iald (pc := 302) hc dL_ahead_302 e2.1 e2.2 r ?_
      refine ok_iload (pc := 303) hc dL_ahead_303 9 rfl ?_
      refine zk_iadd (pc := 305) hc dL_ahead_305 ?_
      refine ok_sipush (pc := 306) hc (v := i3 (-200)) dL_ahead_306 (by decide) ?_
      obtain ⟨r4, P⟩ := P
      refine zk_icmp_lt (pc := 309) (tgt := 359) hc dL_ahead_309 (by decide) r4 ⟨by decide, by decide⟩ (fun c => ?_) (fun c => ?_)
      · have P := P.1 c
        exact P
      · have P := P.2 c
        exact P

set_option maxHeartbeats 4000000 in
set_option maxRecDepth 100000 in
theorem sL_ahead_312 {X : Xt} {n : Nat} {h : HP} {a0 : Nat} {x1 : Int} {a2 : Nat} {a3 : Nat} {a4 : Nat} {a5 : Nat} {a6 : Nat} {a7 : Nat} {x8 : Int} {x9 : Int} {x10 : Int} {x11 : Int} {bb : Nat} {sb9 : Nat} {f1 : Nat → Int} (hc : Cx X cL_ahead RL 12 9 165) {K : KT} (hr : CxR X (some .boolean) K) (e1 : At h n a7 (ai 48 f1))
    (P : (Ix ((4 * x8) + 3) 48) ∧ (Ix ((4 * x8) + 3) 48) ∧ spec_L_settle [.ref a6, .ref a7, .ref a4, .ref a5] n (va_up h a7 (ai 48 (va_up f1 (((4 * x8) + 3) : Int).toNat ((f1 (((4 * x8) + 3) : Int).toNat) + x9)))) (kc X bb sb9 334 [(0, .ref a0), (1, .int (i3 x1)), (2, .ref a2), (3, .ref a3), (4, .ref a4), (5, .ref a5), (6, .ref a6), (7, .ref a7), (8, .int (i3 x8)), (9, .int (i3 x9)), (10, .int (i3 x10)), (11, .int (i3 x11))] [] n)) :
    Ok X bb sb9 312 [(0, .ref a0), (1, .int (i3 x1)), (2, .ref a2), (3, .ref a3), (4, .ref a4), (5, .ref a5), (6, .ref a6), (7, .ref a7), (8, .int (i3 x8)), (9, .int (i3 x9)), (10, .int (i3 x10)), (11, .int (i3 x11))] [] n h := by
  refine ok_aload (pc := 312) hc dL_ahead_312 7 rfl ?_
  refine ok_iconst (pc := 314) hc (v := i3 4) dL_ahead_314 (by decide) ?_
  refine ok_iload (pc := 315) hc dL_ahead_315 8 rfl ?_
  refine zk_imul (pc := 317) hc dL_ahead_317 ?_
  refine ok_iconst (pc := 318) hc (v := i3 3) dL_ahead_318 (by decide) ?_
  refine zk_iadd (pc := 319) hc dL_ahead_319 ?_
  refine ok_dup2_11 (pc := 320) hc dL_ahead_320 rfl rfl ?_
  obtain ⟨r, P⟩ := P
  refine zk_iald (pc := 321) hc dL_ahead_321 e1.1 e1.2 r ?_
  refine ok_iload (pc := 322) hc dL_ahead_322 9 rfl ?_
  refine zk_iadd (pc := 324) hc dL_ahead_324 ?_
  obtain ⟨r, P⟩ := P
  refine zk_iast (pc := 325) hc dL_ahead_325 e1.1 e1.2 r ?_
  refine ok_aload (pc := 326) hc dL_ahead_326 6 rfl ?_
  refine ok_aload (pc := 328) hc dL_ahead_328 7 rfl ?_
  refine ok_aload (pc := 330) hc dL_ahead_330 4 rfl ?_
  refine ok_aload (pc := 332) hc dL_ahead_332 5 rfl ?_
  exact ok_callS (pc := 334) (cb := bb) (sb := sb9) (st := []) hc [.ref a6, .ref a7, .ref a4, .ref a5] cs_L_105 sp_L_settle (by decide) dL_ahead_334 rfl rfl rfl rfl (Nat.le_of_ble_eq_true rfl) P

set_option maxHeartbeats 4000000 in
set_option maxRecDepth 100000 in
theorem sL_ahead_337 {X : Xt} {n : Nat} {h : HP} {a0 : Nat} {x1 : Int} {a2 : Nat} {a3 : Nat} {a4 : Nat} {a5 : Nat} {a6 : Nat} {a7 : Nat} {x8 : Int} {x9 : Int} {x10 : Int} {x11 : Int} {t0 : Int} {bb : Nat} {sb9 : Nat} {f2 : Nat → Int} (hc : Cx X cL_ahead RL 12 9 165) {K : KT} (hr : CxR X (some .boolean) K) (e2 : At h n a7 (ai 48 f2))
    (P : (R3 t0) ∧ (¬ t0 = 1 → Ok X bb sb9 271 [(0, .ref a0), (1, .int (i3 x1)), (2, .ref a2), (3, .ref a3), (4, .ref a4), (5, .ref a5), (6, .ref a6), (7, .ref a7), (8, .int (i3 x8)), (9, .int (i3 x9)), (10, .int (i3 x10)), (11, .int (i3 x11))] [] n h) ∧ (t0 = 1 → (Ix ((4 * x8) + 3) 48) ∧ Ok X bb sb9 271 [(0, .ref a0), (1, .int (i3 x1)), (2, .ref a2), (3, .ref a3), (4, .ref a4), (5, .ref a5), (6, .ref a6), (7, .ref a7), (8, .int (i3 x8)), (9, .int (i3 x9)), (10, .int (i3 ((f2 (((4 * x8) + 3) : Int).toNat) + 1000))), (11, .int (i3 x11))] [] n h)) :
    Ok X bb sb9 337 [(0, .ref a0), (1, .int (i3 x1)), (2, .ref a2), (3, .ref a3), (4, .ref a4), (5, .ref a5), (6, .ref a6), (7, .ref a7), (8, .int (i3 x8)), (9, .int (i3 x9)), (10, .int (i3 x10)), (11, .int (i3 x11))] [.int (i3 t0)] n h := by
  refine ok_iconst (pc := 337) hc (v := i3 1) dL_ahead_337 (by decide) ?_
  obtain ⟨r1, P⟩ := P
  refine zk_icmp_ne (pc := 338) (tgt := 271) hc dL_ahead_338 (by decide) r1 ⟨by decide, by decide⟩ (fun c => ?_) (fun c => ?_)
  · have P := P.1 c
    exact P
  · have P := P.2 c
    refine ok_aload (pc := 341) hc dL_ahead_341 7 rfl ?_
    refine ok_iconst (pc := 343) hc (v := i3 4) dL_ahead_343 (by decide) ?_
    refine ok_iload (pc := 344) hc dL_ahead_344 8 rfl ?_
    refine zk_imul (pc := 346) hc dL_ahead_346 ?_
    refine ok_iconst (pc := 347) hc (v := i3 3) dL_ahead_347 (by decide) ?_
    refine zk_iadd (pc := 348) hc dL_ahead_348 ?_
    obtain ⟨r, P⟩ := P
    refine zk_iald (pc := 349) hc dL_ahead_349 e2.1 e2.2 r ?_
    refine ok_sipush (pc := 350) hc (v := i3 1000) dL_ahead_350 (by decide) ?_
    refine zk_iadd (pc := 353) hc dL_ahead_353 ?_
    refine ok_istore (pc := 354) hc (lv' := [(10, .int (i3 ((f2 (((4 * x8) + 3) : Int).toNat) + 1000))), (0, .ref a0), (1, .int (i3 x1)), (2, .ref a2), (3, .ref a3), (4, .ref a4), (5, .ref a5), (6, .ref a6), (7, .ref a7), (8, .int (i3 x8)), (9, .int (i3 x9)), (11, .int (i3 x11))]) dL_ahead_354 (by decide) rfl ?_
    refine ok_goto (pc := 356) (tgt := 271) hc dL_ahead_356 (by decide) ?_
    refine ok_lv [1, 2, 3, 4, 5, 6, 7, 8, 9, 10, 0, 11] rfl ?_
    exact P

set_option maxHeartbeats 4000000 in
set_option maxRecDepth 100000 in
theorem sL_ahead_359 {X : Xt} {n : Nat} {h : HP} {a0 : Nat} {x1 : Int} {a2 : Nat} {a3 : Nat} {a4 : Nat} {a5 : Nat} {a6 : Nat} {a7 : Nat} {x8 : Int} {x9 : Int} {x10 : Int} {x11 : Int} {bb : Nat} {sb9 : Nat} {fs2 : List Value} (hc : Cx X cL_ahead RL 12 9 165) {K : KT} (hr : CxR X (some .boolean) K) (e2 : At h n a0 (.inl (6, fs2))) (z2 : fs2.length = 6)
    (P : (R3 x9) ∧ (x9 ≤ 0 → spec_X6_trip [.ref a0, .int (i3 x8), .int (i3 0)] n h (kc X bb sb9 372 [(0, .ref a0), (1, .int (i3 x1)), (2, .ref a2), (3, .ref a3), (4, .ref a4), (5, .ref a5), (6, .ref a6), (7, .ref a7), (8, .int (i3 x8)), (9, .int (i3 x9)), (10, .int (i3 x10)), (11, .int (i3 x11))] [] n)) ∧ (¬ x9 ≤ 0 → spec_X6_trip [.ref a0, .int (i3 x8), .int (i3 1)] n h (kc X bb sb9 372 [(0, .ref a0), (1, .int (i3 x1)), (2, .ref a2), (3, .ref a3), (4, .ref a4), (5, .ref a5), (6, .ref a6), (7, .ref a7), (8, .int (i3 x8)), (9, .int (i3 x9)), (10, .int (i3 x10)), (11, .int (i3 x11))] [] n))) :
    Ok X (bb + 2) (sb9 + 12) 359 [(0, .ref a0), (1, .int (i3 x1)), (2, .ref a2), (3, .ref a3), (4, .ref a4), (5, .ref a5), (6, .ref a6), (7, .ref a7), (8, .int (i3 x8)), (9, .int (i3 x9)), (10, .int (i3 x10)), (11, .int (i3 x11))] [] n h := by
  refine ok_aload_n (pc := 359) hc dL_ahead_359 rfl 0 rfl ?_
  refine ok_iload (pc := 360) hc dL_ahead_360 8 rfl ?_
  refine ok_iload (pc := 362) hc dL_ahead_362 9 rfl ?_
  obtain ⟨r1, P⟩ := P
  refine zk_if_le (pc := 364) (tgt := 371) hc dL_ahead_364 (by decide) r1 (fun c => ?_) (fun c => ?_)
  · have P := P.1 c
    refine ok_iconst (pc := 371) hc (v := i3 0) dL_ahead_371 (by decide) ?_
    exact ok_callV (pc := 372) (a := a0) (cb := bb) (sb := sb9) (st := []) hc [.int (i3 x8), .int (i3 0)] cv_L_112 sp_X6_trip (by decide) dL_ahead_372 rfl e2.1 e2.2 rfl rfl rfl (Nat.le_of_ble_eq_true rfl) P
  · have P := P.2 c
    refine ok_iconst (pc := 367) hc (v := i3 1) dL_ahead_367 (by decide) ?_
    refine ok_goto (pc := 368) (tgt := 372) hc dL_ahead_368 (by decide) ?_
    exact ok_callV (pc := 372) (a := a0) (cb := bb) (sb := sb9) (st := []) hc [.int (i3 x8), .int (i3 1)] cv_L_112 sp_X6_trip (by decide) dL_ahead_372 rfl e2.1 e2.2 rfl rfl rfl (Nat.le_of_ble_eq_true rfl) P

set_option maxHeartbeats 4000000 in
set_option maxRecDepth 100000 in
theorem sL_ahead_375 {X : Xt} {n : Nat} {h : HP} {a0 : Nat} {x1 : Int} {a2 : Nat} {a3 : Nat} {a4 : Nat} {a5 : Nat} {a6 : Nat} {a7 : Nat} {x8 : Int} {x9 : Int} {x10 : Int} {x11 : Int} {t0 : Int} {bb : Nat} {sb9 : Nat} (hc : Cx X cL_ahead RL 12 9 165) {K : KT} (hr : CxR X (some .boolean) K) 
    (P : (R3 t0) ∧ (R3 x10) ∧ (¬ t0 = x10 → K (.inl (some (.int (i3 0)))) n h) ∧ (t0 = x10 → K (.inl (some (.int (i3 1)))) n h)) :
    Ok X bb sb9 375 [(0, .ref a0), (1, .int (i3 x1)), (2, .ref a2), (3, .ref a3), (4, .ref a4), (5, .ref a5), (6, .ref a6), (7, .ref a7), (8, .int (i3 x8)), (9, .int (i3 x9)), (10, .int (i3 x10)), (11, .int (i3 x11))] [.int (i3 t0)] n h := by
  refine ok_iload (pc := 375) hc dL_ahead_375 10 rfl ?_
  obtain ⟨r1, P⟩ := P
  obtain ⟨r2, P⟩ := P
  refine zk_icmp_ne (pc := 377) (tgt := 384) hc dL_ahead_377 (by decide) r1 r2 (fun c => ?_) (fun c => ?_)
  · have P := P.1 c
    refine ok_iconst (pc := 384) hc (v := i3 0) dL_ahead_384 (by decide) ?_
    exact ok_zret (st := []) (pc := 385) hc (nar_z (by decide)) hr dL_ahead_385 P
  · have P := P.2 c
    refine ok_iconst (pc := 380) hc (v := i3 1) dL_ahead_380 (by decide) ?_
    refine ok_goto (pc := 381) (tgt := 385) hc dL_ahead_381 (by decide) ?_
    exact ok_zret (st := []) (pc := 385) hc (nar_z (by decide)) hr dL_ahead_385 P

theorem PaF.cong {F G : Nat → Int} {ps : List Part} (h : PaF F ps) (e : ∀ j, j < 48 → G j = F j) (r : ∀ j, R3 (G j)) : PaF G ps := by
  obtain ⟨h1, h2, h3, h4⟩ := h
  refine ⟨h1, fun i p hp => ?_, h3, r⟩
  have hi := (List.getElem?_eq_some_iff.mp hp).1
  rw [e _ (by omega), e _ (by omega), e _ (by omega), e _ (by omega)]
  exact h2 i p hp
theorem PaF.set {F : Nat → Int} {ps : List Part} {i : Nat} {p : Part} {v : Int} (h : PaF F ps) (hp : ps[i]? = some p) (hv : PW (valP p v)) (rv : R3 v) : PaF (va_up F (4 * (i : Int) + 3 : Int).toNat v) (ps.set i (valP p v)) := by
  obtain ⟨h1, h2, h3, h4⟩ := h
  have hi := (List.getElem?_eq_some_iff.mp hp).1
  rw [show (4 * (i : Int) + 3 : Int).toNat = 4 * i + 3 by omega]
  refine ⟨by rw [List.length_set]; exact h1, fun j r hr => ?_, fun r hr => ?_, fun j => ?_⟩
  · by_cases z : j = i
    · subst z
      rw [List.getElem?_set_self hi] at hr
      obtain rfl := Option.some.inj hr
      obtain ⟨a1, a2, a3, a4⟩ := h2 j p hp
      rw [up_ne (by omega), up_ne (by omega), up_ne (by omega), up_self]
      exact ⟨a1, a2, a3, rfl⟩
    · rw [List.getElem?_set_ne (by omega)] at hr
      rw [up_ne (by omega), up_ne (by omega), up_ne (by omega), up_ne (by omega)]
      exact h2 j r hr
  · rcases List.mem_or_eq_of_mem_set hr with y | y
    · exact h3 r y
    · rw [y]; exact hv
  · by_cases z : j = 4 * i + 3
    · subst z
      rw [up_self]
      exact rv
    · rw [up_ne z]
      exact h4 j
theorem DFS.cong {F G : Nat → Int} {S : Stt} (h : DFS F S) (e : ∀ j, j < 4 → G j = F j) : DFS G S := by
  unfold DFS
  rw [e 0 (by omega), e 1 (by omega), e 2 (by omega), e 3 (by omega)]
  exact h
theorem DFS.set {F : Nat → Int} {S : Stt} {ps : List Part} (h : DFS F S) (e : ps.length = S.1.length) : DFS F (ps, S.2) := by
  obtain ⟨h1, h2⟩ := h
  exact ⟨by rw [h1, e], h2⟩
/-- while it looks ahead -/
def AW (h : HP) (b n : Nat) (q : Dsk) (D G : Nat → Int) (hh : HP) : Prop := DkA hh n q ∧ (∀ x, 127 < x → x < b → hh x = h x) ∧ (∃ E, At hh n b (al 56 E)) ∧ (∃ E, At hh n (b + 1) (al 56 E)) ∧ At hh n (b + 2) (ai 4 D) ∧ At hh n (b + 3) (ai 48 G)
theorem AW.at {h hh : HP} {b n x : Nat} {q : Dsk} {D G : Nat → Int} {c : AE} (w : AW h b n q D G hh) (p : At h n x c) (h1 : 127 < x) (h2 : x < b) : At hh n x c := ⟨p.1, (w.2.1 x h1 h2).trans p.2⟩
theorem AW.fr {h hh h' : HP} {b n : Nat} {q : Dsk} {D G : Nat → Int} (w : AW h b n q D G hh) (hb : 127 < b) (p : DkA h' n q) (g : Fr hh h' 0 127) : AW h b n q D G h' := by
  obtain ⟨w1, w2, ⟨E, w3⟩, ⟨E', w4⟩, w5, w6⟩ := w
  exact ⟨p, fun x a b => (g x (by omega)).trans (w2 x a b), ⟨E, w3.fr g (by omega)⟩, ⟨E', w4.fr g (by omega)⟩, w5.fr g (by omega), w6.fr g (by omega)⟩
theorem AW.d {h hh : HP} {b n : Nat} {q : Dsk} {D G D' : Nat → Int} (w : AW h b n q D G hh) (hb : 127 < b) : AW h b n q D' G (va_up hh (b + 2) (ai 4 D')) := by
  obtain ⟨w1, w2, ⟨E, w3⟩, ⟨E', w4⟩, w5, w6⟩ := w
  exact ⟨w1.out (lo := b) (hi := b + 2) (Fr.rf.up (by omega)) hb, fun x a b => (up_ne (by omega)).trans (w2 x a b), ⟨E, w3.up (by omega)⟩, ⟨E', w4.up (by omega)⟩, w5.it, w6.up (by omega)⟩
theorem AW.g {h hh : HP} {b n : Nat} {q : Dsk} {D G G' : Nat → Int} (w : AW h b n q D G hh) (hb : 127 < b) : AW h b n q D G' (va_up hh (b + 3) (ai 48 G')) := by
  obtain ⟨w1, w2, ⟨E, w3⟩, ⟨E', w4⟩, w5, w6⟩ := w
  exact ⟨w1.out (lo := b) (hi := b + 3) (Fr.rf.up (by omega)) hb, fun x a b => (up_ne (by omega)).trans (w2 x a b), ⟨E, w3.up (by omega)⟩, ⟨E', w4.up (by omega)⟩, w5.up (by omega), w6.it⟩
theorem AW.st {h hh : HP} {b n : Nat} {q : Dsk} {D G D' E1 E2 : Nat → Int} (w : AW h b n q D G hh) (hb : 127 < b) : AW h b n q D' G (va_up (va_up (va_up hh b (al 56 E1)) (b + 1) (al 56 E2)) (b + 2) (ai 4 D')) := by
  obtain ⟨w1, w2, ⟨E, w3⟩, ⟨E', w4⟩, w5, w6⟩ := w
  exact ⟨w1.out (lo := b) (hi := b + 2) (((Fr.rf.up (by omega)).up (by omega)).up (by omega)) hb, fun x a b => by rw [up_ne (by omega), up_ne (by omega), up_ne (by omega)]; exact w2 x a b, ⟨E1, (w3.it.up (by omega)).up (by omega)⟩, ⟨E2, (w4.up (by omega)).it.up (by omega)⟩, ((w5.up (by omega)).up (by omega)).it, ((w6.up (by omega)).up (by omega)).up (by omega)⟩
def AC (h : HP) (b n d a : Nat) (Fd F : Nat → Int) (q : Dsk) : Prop := (127 < b ∧ (127 < d ∧ d < b) ∧ 127 < a ∧ a < b) ∧ At h n d (ai 4 Fd) ∧ At h n a (ai 48 F) ∧ DFS Fd q.1 ∧ PaF F q.1.1
set_option maxHeartbeats 4000000 in
theorem ah_1 {X : Xt} {n b d a : Nat} {h : HP} {Fd F : Nat → Int} {q : Dsk} {x1 x8 : Int} {G : Nat → Int} {bb sb9 : Nat} (hc : Cx X cL_ahead RL 12 9 165) {K : KT} (hr : CxR X (some .boolean) K) (hT : AC h b n d a Fd F q) (k : ∀ hh D x9, AW h b n q D G hh → (∀ j, j < 4 → D j = Fd j) → Ok X bb sb9 83 [(0, .ref 0), (1, .int (i3 x1)), (2, .ref d), (3, .ref a), (4, .ref b), (5, .ref (b + 1)), (6, .ref (b + 2)), (7, .ref (b + 3)), (8, .int (i3 x8)), (9, .int (i3 x9))] [] n hh) : ∀ (j i : Nat), i + j = 4 → ∀ hh D, AW h b n q D G hh → (∀ j, j < i → D j = Fd j) → Ok X bb sb9 62 [(0, .ref 0), (1, .int (i3 x1)), (2, .ref d), (3, .ref a), (4, .ref b), (5, .ref (b + 1)), (6, .ref (b + 2)), (7, .ref (b + 3)), (8, .int (i3 x8)), (9, .int (i3 (i : Int)))] [] n hh := by
  obtain ⟨⟨lb, ⟨l1, l2⟩, l3, l4⟩, ed, ea, hD, hP⟩ := hT
  intro j
  induction j with
  | zero =>
    intro i hi hh D hw hd
    exact sL_ahead_62 hc hr ⟨R3_s (by omega), fun _ => k hh D _ hw (fun j hj => hd j (by omega)), fun z => absurd (by omega) z⟩
  | succ j ih =>
    intro i hi hh D hw hd
    have xi : Ix (i : Int) 4 := ⟨by omega, by omega, by omega⟩
    refine sL_ahead_62 hc hr ⟨R3_s (by omega), fun z => absurd z (by omega), fun _ => sL_ahead_68 hc hr (hw.at ed l1 l2) hw.2.2.2.2.1 ⟨xi, xi, ?_⟩⟩
    rw [show (i : Int).toNat = i by omega]
    refine ih (i + 1) (by omega) _ _ (hw.d lb) (fun k hk => ?_)
    by_cases z : k = i
    · subst z
      exact up_self
    · rw [up_ne z]
      exact hd k (by omega)
set_option maxHeartbeats 4000000 in
theorem ah_3 {X : Xt} {n b d a : Nat} {h : HP} {Fd F : Nat → Int} {q : Dsk} {x1 x8 x9 x10 : Int} {G : Nat → Int} {bb sb9 : Nat} (hc : Cx X cL_ahead RL 12 9 165) {K : KT} (hr : CxR X (some .boolean) K) (hT : AC h b n d a Fd F q) (k : ∀ hh D x11, AW h b n q D G hh → (∀ j, j < 4 → D j = Fd j) → Ok X bb sb9 254 [(0, .ref 0), (1, .int (i3 x1)), (2, .ref d), (3, .ref a), (4, .ref b), (5, .ref (b + 1)), (6, .ref (b + 2)), (7, .ref (b + 3)), (8, .int (i3 x8)), (9, .int (i3 x9)), (10, .int (i3 x10)), (11, .int (i3 x11))] [] n hh) : ∀ (j i : Nat), i + j = 4 → ∀ hh D, AW h b n q D G hh → (∀ j, j < i → D j = Fd j) → Ok X bb sb9 233 [(0, .ref 0), (1, .int (i3 x1)), (2, .ref d), (3, .ref a), (4, .ref b), (5, .ref (b + 1)), (6, .ref (b + 2)), (7, .ref (b + 3)), (8, .int (i3 x8)), (9, .int (i3 x9)), (10, .int (i3 x10)), (11, .int (i3 (i : Int)))] [] n hh := by
  obtain ⟨⟨lb, ⟨l1, l2⟩, l3, l4⟩, ed, ea, hD, hP⟩ := hT
  intro j
  induction j with
  | zero =>
    intro i hi hh D hw hd
    exact sL_ahead_233 hc hr ⟨R3_s (by omega), fun _ => k hh D _ hw (fun j hj => hd j (by omega)), fun z => absurd (by omega) z⟩
  | succ j ih =>
    intro i hi hh D hw hd
    have xi : Ix (i : Int) 4 := ⟨by omega, by omega, by omega⟩
    refine sL_ahead_233 hc hr ⟨R3_s (by omega), fun z => absurd z (by omega), fun _ => sL_ahead_239 hc hr (hw.at ed l1 l2) hw.2.2.2.2.1 ⟨xi, xi, ?_⟩⟩
    rw [show (i : Int).toNat = i by omega]
    refine ih (i + 1) (by omega) _ _ (hw.d lb) (fun k hk => ?_)
    by_cases z : k = i
    · subst z
      exact up_self
    · rw [up_ne z]
      exact hd k (by omega)
set_option maxHeartbeats 4000000 in
theorem ah_2 {X : Xt} {n b d a : Nat} {h : HP} {Fd F : Nat → Int} {q : Dsk} {x1 x8 : Int} {D : Nat → Int} {bb sb9 : Nat} (hc : Cx X cL_ahead RL 12 9 165) {K : KT} (hr : CxR X (some .boolean) K) (hT : AC h b n d a Fd F q) (k : ∀ hh G x9, AW h b n q D G hh → (∀ j, j < 48 → G j = F j) → (∀ j, R3 (G j)) → Ok X bb sb9 108 [(0, .ref 0), (1, .int (i3 x1)), (2, .ref d), (3, .ref a), (4, .ref b), (5, .ref (b + 1)), (6, .ref (b + 2)), (7, .ref (b + 3)), (8, .int (i3 x8)), (9, .int (i3 x9))] [] n hh) : ∀ (j i : Nat), i + j = 48 → ∀ hh G, AW h b n q D G hh → (∀ j, j < i → G j = F j) → (∀ j, R3 (G j)) → Ok X bb sb9 86 [(0, .ref 0), (1, .int (i3 x1)), (2, .ref d), (3, .ref a), (4, .ref b), (5, .ref (b + 1)), (6, .ref (b + 2)), (7, .ref (b + 3)), (8, .int (i3 x8)), (9, .int (i3 (i : Int)))] [] n hh := by
  obtain ⟨⟨lb, ⟨l1, l2⟩, l3, l4⟩, ed, ea, hD, hP⟩ := hT
  intro j
  induction j with
  | zero =>
    intro i hi hh G hw hd hg
    exact sL_ahead_86 hc hr ⟨R3_s (by omega), fun _ => k hh G _ hw (fun j hj => hd j (by omega)) hg, fun z => absurd (by omega) z⟩
  | succ j ih =>
    intro i hi hh G hw hd hg
    have xi : Ix (i : Int) 48 := ⟨by omega, by omega, by omega⟩
    refine sL_ahead_86 hc hr ⟨R3_s (by omega), fun z => absurd z (by omega), fun _ => sL_ahead_93 hc hr (hw.at ea l3 l4) hw.2.2.2.2.2 ⟨xi, xi, ?_⟩⟩
    rw [show (i : Int).toNat = i by omega]
    refine ih (i + 1) (by omega) _ _ (hw.g lb) (fun k hk => ?_) (fun k => ?_)
    · by_cases z : k = i
      · subst z
        exact up_self
      · rw [up_ne z]
        exact hd k (by omega)
    · by_cases z : k = i
      · subst z
        rw [up_self]
        exact hP.2.2.2 k
      · rw [up_ne z]
        exact hg k
theorem addV_eq {ps : List Part} {i : Nat} {p : Part} {d : Int} (hp : ps[i]? = some p) : addV ps i d = ps.set i (valP p (p.2.2.2 + d)) := by
  unfold addV
  rw [hp]
theorem GdS.val {S : Stt} {i : Nat} {p : Part} {v : Int} (hG : GdS S) (hp : S.1[i]? = some p) (h2 : p.1 ≠ 2) (hv : PW (valP p v)) : GdS (S.1.set i (valP p v), S.2) := by
  obtain ⟨g, e⟩ := hG.1.val hp h2 hv
  refine ⟨g, hG.2.1, ?_, hG.2.2.2⟩
  show 0 ≤ S.2.2.1 ∧ S.2.2.1 < 3 ^ nA (S.1.set i (valP p v))
  rw [e]
  exact hG.2.2.1
theorem pw_src {p : Part} {v : Int} (hw : PW p) (h1 : p.1 = 1) (hv : -200 ≤ v ∧ v ≤ 200) : PW (valP p v) := by
  unfold PW at hw ⊢
  unfold valP
  right; left
  show p.1 = 1 ∧ 0 ≤ p.2.1 ∧ p.2.1 ≤ 6 ∧ p.2.2.1 = -1 ∧ -200 ≤ v ∧ v ≤ 200
  omega
theorem pw_res {p : Part} {v : Int} (hw : PW p) (h1 : p.1 = 0) (hv : 1 ≤ v ∧ v ≤ 4) : PW (valP p v) := by
  unfold PW at hw ⊢
  unfold valP
  left
  show p.1 = 0 ∧ 0 ≤ p.2.1 ∧ p.2.1 ≤ 6 ∧ 0 ≤ p.2.2.1 ∧ p.2.2.1 ≤ 6 ∧ 1 ≤ v ∧ v ≤ 4
  omega
theorem tripL_r {i : Nat} {d o : Int} (hd : d = 1 ∨ d = -1) : ∀ (f : Nat) (S : Stt) (v : Int), -1000 ≤ v - f ∧ v + f ≤ 1000 → R3 (tripL i d o f S v)
  | 0, _, _, _ => R3_s (x := -1) (by decide)
  | f + 1, S, v, h => by
    show R3 (if (setS (addV S.1 i d, S.2)).2.2.1 = o then tripL i d o f (setS (addV S.1 i d, S.2)) (v + d) else v + d + 1000)
    by_cases z : (setS (addV S.1 i d, S.2)).2.2.1 = o
    · rw [if_pos z]
      exact tripL_r hd f _ _ (by omega)
    · rw [if_neg z]
      exact R3_s (by omega)
set_option maxHeartbeats 8000000 in
theorem ah_4 {X : Xt} {n b d a i : Nat} {h : HP} {Fd F : Nat → Int} {q : Dsk} {x1 x11 by9 o T : Int} {bb sb9 : Nat} (hc : Cx X cL_ahead RL 12 9 165) {K : KT} (hr : CxR X (some .boolean) K) (hT : AC h b n d a Fd F q) (hby : by9 = 1 ∨ by9 = -1) (rT : R3 T) (k : ∀ hh D G, AW h b n q D G hh → Ok X bb sb9 359 [(0, .ref 0), (1, .int (i3 x1)), (2, .ref d), (3, .ref a), (4, .ref b), (5, .ref (b + 1)), (6, .ref (b + 2)), (7, .ref (b + 3)), (8, .int (i3 (i : Int))), (9, .int (i3 by9)), (10, .int (i3 T)), (11, .int (i3 x11))] [] n hh) : ∀ (j : Nat) (S : Stt) (p : Part) (hh : HP) (D G : Nat → Int), (200 - by9 * p.2.2.2).toNat = j → AW h b n q D G hh → GdS S → DFS D S → PaF G S.1 → S.1[i]? = some p → p.1 = 1 → S.2.2.1 = o → tripL i by9 o j S p.2.2.2 = T → Ok X bb sb9 271 [(0, .ref 0), (1, .int (i3 x1)), (2, .ref d), (3, .ref a), (4, .ref b), (5, .ref (b + 1)), (6, .ref (b + 2)), (7, .ref (b + 3)), (8, .int (i3 (i : Int))), (9, .int (i3 by9)), (10, .int (i3 (-1))), (11, .int (i3 x11))] [] n hh := by
  obtain ⟨⟨lb, ⟨l1, l2⟩, l3, l4⟩, ed, ea, hD, hP⟩ := hT
  intro j
  induction j with
  | zero =>
    intro S p hh D G hj hw hG hDS hPS hp h1 ho hTt
    obtain ⟨g0, g1, g2, g3, hi', hl', hpw⟩ := hPS.g hp
    have hs := told_src (hG.1.2.2.1 p (List.mem_of_getElem? hp)) h1
    have x3 : Ix (4 * (i : Int) + 3) 48 := ⟨by omega, by omega, by omega⟩
    have hT9 : T = -1 := hTt.symm
    have k9 := k hh D G hw
    rw [hT9] at k9
    refine sL_ahead_271 hc hr hw.2.2.2.2.2 ⟨⟨by decide, by decide⟩, fun z => absurd z (by decide), fun _ => ?_⟩
    rw [g3]
    rcases hby with e | e <;> subst e
    · exact ⟨x3, R3_s (by omega), fun _ => k9, fun z => absurd (by omega) z⟩
    · exact ⟨x3, R3_s (by omega), fun _ => k9, fun z => ⟨x3, R3_s (by omega), fun _ => k9, fun y => absurd (by omega) y⟩⟩
  | succ j ih =>
    intro S p hh D G hj hw hG hDS hPS hp h1 ho hTt
    obtain ⟨g0, g1, g2, g3, hi', hl', hpw⟩ := hPS.g hp
    have hs := told_src (hG.1.2.2.1 p (List.mem_of_getElem? hp)) h1
    have x3 : Ix (4 * (i : Int) + 3) 48 := ⟨by omega, by omega, by omega⟩
    have hv : -200 ≤ p.2.2.2 + by9 ∧ p.2.2.2 + by9 ≤ 200 := by rcases hby with e | e <;> subst e <;> omega
    have r1 : R3 (p.2.2.2 + by9) := R3_s (by omega)
    have hPv := pw_src hpw h1 hv
    have hG2 := hG.val hp (by rw [h1]; decide) hPv
    have hP2 := hPS.set hp hPv r1
    have eA := addV_eq (d := by9) hp
    have e1 := setS_1 (S.1.set i (valP p (p.2.2.2 + by9)), S.2)
    refine sL_ahead_271 hc hr hw.2.2.2.2.2 ⟨⟨by decide, by decide⟩, fun z => absurd z (by decide), fun _ => ?_⟩
    rw [g3]
    refine ⟨x3, r1, fun z => absurd z (by omega), fun _ => ⟨x3, r1, fun z => absurd z (by omega), fun _ => ?_⟩⟩
    refine sL_ahead_312 hc hr hw.2.2.2.2.2 ?_
    rw [g3]
    have hw2 := hw.g (G' := va_up G (4 * (i : Int) + 3 : Int).toNat (p.2.2.2 + by9)) lb
    generalize hG9 : va_up G (4 * (i : Int) + 3 : Int).toNat (p.2.2.2 + by9) = G' at hP2 hw2
    have g9 : G' (4 * (i : Int) + 3 : Int).toNat = p.2.2.2 + by9 := by rw [← hG9]; exact up_self
    generalize va_up hh (b + 3) (ai 48 G') = h2 at hw2
    obtain ⟨E, ee⟩ := hw2.2.2.1
    obtain ⟨E', ef⟩ := hw2.2.2.2.1
    refine ⟨x3, x3, b + 2, b + 3, b, b + 1, D, G', E, E', (S.1.set i (valP p (p.2.2.2 + by9)), S.2), rfl, hw2.2.2.2.2.1, hw2.2.2.2.2.2, ee, ef, ⟨by omega, by omega⟩, hDS.set (List.length_set ..), hP2, hG2, fun E1 E2 D' hD' => ⟨rfl, ?_⟩⟩
    have hw3 := hw2.st (E1 := E1) (E2 := E2) (D' := D') lb
    generalize va_up (va_up (va_up h2 b (al 56 E1)) (b + 1) (al 56 E2)) (b + 2) (ai 4 D') = h3 at hw3
    have hTt : (if (setS (addV S.1 i by9, S.2)).2.2.1 = o then tripL i by9 o j (setS (addV S.1 i by9, S.2)) (p.2.2.2 + by9) else p.2.2.2 + by9 + 1000) = T := hTt
    rw [eA] at hTt
    by_cases z : (setS (S.1.set i (valP p (p.2.2.2 + by9)), S.2)).2.2.1 = S.2.2.1
    · rw [if_pos (by rw [z, ho])] at hTt
      refine sL_ahead_337 (t0 := if (setS (S.1.set i (valP p (p.2.2.2 + by9)), S.2)).2.2.1 = S.2.2.1 then 0 else 1) hc hr hw3.2.2.2.2.2 ?_
      rw [if_pos z]
      refine ⟨R3_0, fun _ => ?_, fun y => absurd y (by decide)⟩
      refine ih _ (valP p (p.2.2.2 + by9)) h3 D' G' ?_ hw3 hG2.set hD' (by rw [e1]; exact hP2) (by rw [e1]; exact List.getElem?_set_self hi') h1 (by rw [z, ho]) hTt
      show (200 - by9 * (p.2.2.2 + by9)).toNat = j
      rcases hby with e | e <;> subst e <;> omega
    · rw [if_neg (by rw [← ho]; exact z)] at hTt
      refine sL_ahead_337 (t0 := if (setS (S.1.set i (valP p (p.2.2.2 + by9)), S.2)).2.2.1 = S.2.2.1 then 0 else 1) hc hr hw3.2.2.2.2.2 ?_
      rw [if_neg z, g9, hTt]
      refine ⟨R3_s (by decide), fun y => absurd rfl y, fun _ => ⟨x3, ?_⟩⟩
      refine sL_ahead_271 hc hr hw3.2.2.2.2.2 ⟨rT, fun _ => k h3 D' G' hw3, fun y => absurd (by omega) y⟩
