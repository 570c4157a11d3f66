/-! part 84: the reference: sweep, undo, keep, back, append, clearInput -/
set_option maxHeartbeats 4000000 in
set_option maxRecDepth 100000 in
theorem sX7_sweep_0 {X : Xt} {n : Nat} {h : HP} {a0 : Nat} {x1 : Int} {x2 : Int} {fs1 : List Value} {q2 : Nat} {f3 : Nat → Int} {ps4 : List Part} (hc : Cx X cX7_sweep RX7 5 11 256) {K : KT} (hr : CxR X (some .int) K) (e1 : At h n a0 (.inl (7, fs1))) (z1 : fs1.length = 24) (v1_1 : fs1[1]? = some (.ref q2)) (e3 : At h n q2 (ai 52 f3)) (hP4 : ZPs f3 ps4)
    (P : (R3 x1) ∧ ((decide (0 ≤ x1 ∧ x1 < ps4.length)) = true → ((0 ≤ (4 : Int) * x1 ∧ (4 : Int) * x1 < 52) ∧ R3 1 ∧ R3 (f3 (4 * x1 : Int).toNat)) ∧ (f3 (4 * x1 : Int).toNat = 1 → (R3 x2 ∧ R3 (-200) ∧ R3 200) ∧ (¬ ((-200) ≤ x2 ∧ x2 ≤ 200) → K (.inl (some (.int (i3 0)))) n (va_up h a0 (.inl (7, (fs1.set 0 (.int (i3 3))))))) ∧ (((-200) ≤ x2 ∧ x2 ≤ 200) → spec_X7_record [.ref a0] n (va_up h a0 (.inl (7, (fs1.set 0 (.int (i3 0)))))) (kc X 0 0 57 [(0, .ref a0), (1, .int (i3 x1)), (2, .int (i3 x2))] [] n))) ∧ (¬ f3 (4 * x1 : Int).toNat = 1 → K (.inl (some (.int (i3 0)))) n (va_up h a0 (.inl (7, (fs1.set 0 (.int (i3 2)))))))) ∧ ((decide (0 ≤ x1 ∧ x1 < ps4.length)) = false → K (.inl (some (.int (i3 0)))) n (va_up h a0 (.inl (7, (fs1.set 0 (.int (i3 1)))))))) :
    Ok X 0 0 0 [(0, .ref a0), (1, .int (i3 x1)), (2, .int (i3 x2))] [] n h := by
  refine ok_aload_n (pc := 0) hc dX7_sweep_0 rfl 0 rfl ?_
  refine ok_aload_n (pc := 1) hc dX7_sweep_1 rfl 0 rfl ?_
  refine ok_iload_n (pc := 2) hc dX7_sweep_2 rfl 1 rfl ?_
  obtain ⟨r0, P⟩ := P
  refine ok_callV (pc := 3) (a := a0) (cb := 0) (sb := 0) (st := [.ref a0]) hc [.int (i3 x1)] cv_X7_153 sp_X7_isPartB (by decide) dX7_sweep_3 rfl e1.1 e1.2 rfl rfl rfl (Nat.le_of_ble_eq_true rfl) (⟨_, _, _, _, rfl, ⟨_, _, ⟨e1.1, e1.2⟩, z1, v1_1, ⟨e3.1, e3.2⟩⟩, hP4, r0, rfl, ?_⟩)
  show Ok X 0 0 (3 + 3) [(0, .ref a0), (1, .int (i3 x1)), (2, .int (i3 x2))] [.int (i3 (bz (decide (0 ≤ x1 ∧ x1 < ps4.length)))), .ref a0] n h
  refine zk_if_ne (pc := 6) (tgt := 13) hc dX7_sweep_6 (by decide) R3_bz (fun c => ?_) (fun c => ?_)
  · have P := P.1 (bz_1.mp c)
    refine ok_aload_n (pc := 13) hc dX7_sweep_13 rfl 0 rfl ?_
    refine ok_iload_n (pc := 14) hc dX7_sweep_14 rfl 1 rfl ?_
    refine ok_iconst (pc := 15) hc (v := i3 1) dX7_sweep_15 (by decide) ?_
    obtain ⟨r0, P⟩ := P
    refine ok_callV (pc := 16) (a := a0) (cb := 0) (sb := 0) (st := [.ref a0]) hc [.int (i3 x1), .int (i3 1)] cv_X7_60 sp_X7_is (by decide) dX7_sweep_16 rfl e1.1 e1.2 rfl rfl rfl (Nat.le_of_ble_eq_true rfl) (⟨_, _, _, _, rfl, ⟨_, _, ⟨e1.1, e1.2⟩, z1, v1_1, ⟨e3.1, e3.2⟩⟩, r0.1, r0.2.1, r0.2.2, rfl, ?_⟩)
    show Ok X 0 0 (16 + 3) [(0, .ref a0), (1, .int (i3 x1)), (2, .int (i3 x2))] [.int (i3 (isZ f3 x1 1)), .ref a0] n h
    refine zk_if_ne (pc := 19) (tgt := 26) hc dX7_sweep_19 (by decide) R3_isZ (fun c => ?_) (fun c => ?_)
    · have P := P.1 (isZ_1.mp c)
      refine ok_iload_n (pc := 26) hc dX7_sweep_26 rfl 2 rfl ?_
      refine ok_sipush (pc := 27) hc (v := i3 (-200)) dX7_sweep_27 (by decide) ?_
      refine ok_sipush (pc := 30) hc (v := i3 200) dX7_sweep_30 (by decide) ?_
      obtain ⟨r0, P⟩ := P
      refine ok_callS (pc := 33) (cb := 0) (sb := 0) (st := [.ref a0]) hc [.int (i3 x2), .int (i3 (-200)), .int (i3 200)] cs_X7_45 sp_X7_within (by decide) dX7_sweep_33 rfl rfl rfl rfl (Nat.le_of_ble_eq_true rfl) (⟨_, _, _, rfl, r0, rfl, ?_⟩)
      show Ok X 0 0 (33 + 3) [(0, .ref a0), (1, .int (i3 x1)), (2, .int (i3 x2))] [.int (i3 (inZ x2 (-200) 200)), .ref a0] n h
      refine zk_if_eq (pc := 36) (tgt := 43) hc dX7_sweep_36 (by decide) R3_inZ (fun c => ?_) (fun c => ?_)
      · have P := P.1 (inZ_0.mp c)
        refine ok_iconst (pc := 43) hc (v := i3 3) dX7_sweep_43 (by decide) ?_
        refine ok_put (pc := 44) hc fl_X7_41 dX7_sweep_44 e1.1 e1.2 (by simp [List.length_set, z1]) (fun _ => rfl) (fun _ => rfl) ?_
        refine ok_aload_n (pc := 47) hc dX7_sweep_47 rfl 0 rfl ?_
        refine ok_get (pc := 48) hc fl_X7_41 dX7_sweep_48 e1.1 up_self (set_self (by simp [List.length_set, z1])) ?_
        refine zk_if_le (pc := 51) (tgt := 56) hc dX7_sweep_51 (by decide) ⟨by decide, by decide⟩ (fun c => absurd c (by decide)) (fun _ => ?_)
        refine ok_iconst (pc := 54) hc (v := i3 0) dX7_sweep_54 (by decide) ?_
        exact ok_iret (st := []) (pc := 55) hc hr dX7_sweep_55 P
      · have P := P.2 (inZ_1.mp c)
        refine ok_iconst (pc := 39) hc (v := i3 0) dX7_sweep_39 (by decide) ?_
        refine ok_goto (pc := 40) (tgt := 44) hc dX7_sweep_40 (by decide) ?_
        refine ok_put (pc := 44) hc fl_X7_41 dX7_sweep_44 e1.1 e1.2 (by simp [List.length_set, z1]) (fun _ => rfl) (fun _ => rfl) ?_
        refine ok_aload_n (pc := 47) hc dX7_sweep_47 rfl 0 rfl ?_
        refine ok_get (pc := 48) hc fl_X7_41 dX7_sweep_48 e1.1 up_self (set_self (by simp [List.length_set, z1])) ?_
        refine zk_if_le (pc := 51) (tgt := 56) hc dX7_sweep_51 (by decide) ⟨by decide, by decide⟩ (fun _ => ?_) (fun c => absurd c (by decide))
        refine ok_aload_n (pc := 56) hc dX7_sweep_56 rfl 0 rfl ?_
        exact ok_callV (pc := 57) (a := a0) (cb := 0) (sb := 0) (st := []) hc [] cv_X7_147 sp_X7_record (by decide) dX7_sweep_57 rfl e1.1 up_self rfl rfl rfl (Nat.le_of_ble_eq_true rfl) P
    · have P := P.2 (isZ_0.mp c)
      refine ok_iconst (pc := 22) hc (v := i3 2) dX7_sweep_22 (by decide) ?_
      refine ok_goto (pc := 23) (tgt := 44) hc dX7_sweep_23 (by decide) ?_
      refine ok_put (pc := 44) hc fl_X7_41 dX7_sweep_44 e1.1 e1.2 (by simp [List.length_set, z1]) (fun _ => rfl) (fun _ => rfl) ?_
      refine ok_aload_n (pc := 47) hc dX7_sweep_47 rfl 0 rfl ?_
      refine ok_get (pc := 48) hc fl_X7_41 dX7_sweep_48 e1.1 up_self (set_self (by simp [List.length_set, z1])) ?_
      refine zk_if_le (pc := 51) (tgt := 56) hc dX7_sweep_51 (by decide) ⟨by decide, by decide⟩ (fun c => absurd c (by decide)) (fun _ => ?_)
      refine ok_iconst (pc := 54) hc (v := i3 0) dX7_sweep_54 (by decide) ?_
      exact ok_iret (st := []) (pc := 55) hc hr dX7_sweep_55 P
  · have P := P.2 (bz_0.mp c)
    refine ok_iconst (pc := 9) hc (v := i3 1) dX7_sweep_9 (by decide) ?_
    refine ok_goto (pc := 10) (tgt := 44) hc dX7_sweep_10 (by decide) ?_
    refine ok_put (pc := 44) hc fl_X7_41 dX7_sweep_44 e1.1 e1.2 (by simp [List.length_set, z1]) (fun _ => rfl) (fun _ => rfl) ?_
    refine ok_aload_n (pc := 47) hc dX7_sweep_47 rfl 0 rfl ?_
    refine ok_get (pc := 48) hc fl_X7_41 dX7_sweep_48 e1.1 up_self (set_self (by simp [List.length_set, z1])) ?_
    refine zk_if_le (pc := 51) (tgt := 56) hc dX7_sweep_51 (by decide) ⟨by decide, by decide⟩ (fun c => absurd c (by decide)) (fun _ => ?_)
    refine ok_iconst (pc := 54) hc (v := i3 0) dX7_sweep_54 (by decide) ?_
    exact ok_iret (st := []) (pc := 55) hc hr dX7_sweep_55 P

set_option maxHeartbeats 4000000 in
set_option maxRecDepth 100000 in
theorem sX7_sweep_60 {X : Xt} {n : Nat} {h : HP} {a0 : Nat} {x1 : Int} {x2 : Int} (hc : Cx X cX7_sweep RX7 5 11 256) {K : KT} (hr : CxR X (some .int) K) 
    (P : Ok X 0 0 62 [(0, .ref a0), (1, .int (i3 x1)), (2, .int (i3 x2)), (3, .int (i3 0))] [] n h) :
    Ok X 0 0 60 [(0, .ref a0), (1, .int (i3 x1)), (2, .int (i3 x2))] [] n h := by
  refine ok_iconst (pc := 60) hc (v := i3 0) dX7_sweep_60 (by decide) ?_
  refine ok_istore_n (pc := 61) hc (lv' := [(3, .int (i3 0)), (0, .ref a0), (1, .int (i3 x1)), (2, .int (i3 x2))]) dX7_sweep_61 rfl (by decide) rfl ?_
  refine ok_lv [1, 2, 3, 0] rfl ?_
  exact P

set_option maxHeartbeats 4000000 in
set_option maxRecDepth 100000 in
theorem sX7_sweep_62 {X : Xt} {n : Nat} {h : HP} {a0 : Nat} {x1 : Int} {x2 : Int} {x3 : Int} {fs1 : List Value} {q2 : Nat} {f3 : Nat → Int} (hc : Cx X cX7_sweep RX7 5 11 256) {K : KT} (hr : CxR X (some .int) K) (e1 : At h n a0 (.inl (7, fs1))) (z1 : fs1.length = 24) (v1_1 : fs1[1]? = some (.ref q2)) (e3 : At h n q2 (ai 52 f3))
    (P : (0 ≤ (4 : Int) * x1 + 3 ∧ (4 : Int) * x1 + 3 < 52) ∧ (R3 (f3 (4 * x1 + 3 : Int).toNat)) ∧ (R3 x2) ∧ ((f3 (4 * x1 + 3 : Int).toNat) = x2 → Ok X 0 0 136 [(0, .ref a0), (1, .int (i3 x1)), (2, .int (i3 x2)), (3, .int (i3 x3))] [] n h) ∧ (¬ (f3 (4 * x1 + 3 : Int).toNat) = x2 → (Ix 50 52) ∧ (Ix ((4 * x1) + 3) 52) ∧ (0 ≤ (4 : Int) * x1 + 3 ∧ (4 : Int) * x1 + 3 < 52) ∧ (R3 (f3 (4 * x1 + 3 : Int).toNat)) ∧ (R3 x2) ∧ (x2 ≤ (f3 (4 * x1 + 3 : Int).toNat) → (Ix ((4 * x1) + 3) 52) ∧ spec_X7_settle [.ref a0] n (va_up h q2 (ai 52 (va_up f3 (((4 * x1) + 3) : Int).toNat ((f3 (((4 * x1) + 3) : Int).toNat) + (-1))))) (kc X 0 0 110 [(0, .ref a0), (1, .int (i3 x1)), (2, .int (i3 x2)), (3, .int (i3 x3)), (4, .int (i3 (f3 (50 : Int).toNat)))] [] n)) ∧ (¬ x2 ≤ (f3 (4 * x1 + 3 : Int).toNat) → (Ix ((4 * x1) + 3) 52) ∧ spec_X7_settle [.ref a0] n (va_up h q2 (ai 52 (va_up f3 (((4 * x1) + 3) : Int).toNat ((f3 (((4 * x1) + 3) : Int).toNat) + 1)))) (kc X 0 0 110 [(0, .ref a0), (1, .int (i3 x1)), (2, .int (i3 x2)), (3, .int (i3 x3)), (4, .int (i3 (f3 (50 : Int).toNat)))] [] n)))) :
    Ok X 0 0 62 [(0, .ref a0), (1, .int (i3 x1)), (2, .int (i3 x2)), (3, .int (i3 x3))] [] n h := by
  refine ok_aload_n (pc := 62) hc dX7_sweep_62 rfl 0 rfl ?_
  refine ok_iload_n (pc := 63) hc dX7_sweep_63 rfl 1 rfl ?_
  refine ok_iconst (pc := 64) hc (v := i3 3) dX7_sweep_64 (by decide) ?_
  obtain ⟨r0, P⟩ := P
  refine ok_callV (pc := 65) (a := a0) (cb := 0) (sb := 0) (st := []) hc [.int (i3 x1), .int (i3 3)] cv_X7_49 sp_X7_of (by decide) dX7_sweep_65 rfl e1.1 e1.2 rfl rfl rfl (Nat.le_of_ble_eq_true rfl) (⟨_, _, _, _, rfl, ⟨_, _, ⟨e1.1, e1.2⟩, z1, v1_1, ⟨e3.1, e3.2⟩⟩, r0, rfl, ?_⟩)
  show Ok X 0 0 (65 + 3) [(0, .ref a0), (1, .int (i3 x1)), (2, .int (i3 x2)), (3, .int (i3 x3))] [.int (i3 (f3 (4 * x1 + 3 : Int).toNat))] n h
  refine ok_iload_n (pc := 68) hc dX7_sweep_68 rfl 2 rfl ?_
  obtain ⟨r4, P⟩ := P
  obtain ⟨r5, P⟩ := P
  refine zk_icmp_eq (pc := 69) (tgt := 136) hc dX7_sweep_69 (by decide) r4 r5 (fun c => ?_) (fun c => ?_)
  · have P := P.1 c
    exact P
  · have P := P.2 c
    refine ok_aload_n (pc := 72) hc dX7_sweep_72 rfl 0 rfl ?_
    refine ok_get (pc := 73) hc fl_X7_7 dX7_sweep_73 e1.1 e1.2 v1_1 ?_
    refine ok_bipush (pc := 76) hc (v := i3 50) dX7_sweep_76 (by decide) ?_
    obtain ⟨r, P⟩ := P
    refine zk_iald (pc := 78) hc dX7_sweep_78 e3.1 e3.2 r ?_
    refine ok_istore (pc := 79) hc (lv' := [(4, .int (i3 (f3 (50 : Int).toNat))), (0, .ref a0), (1, .int (i3 x1)), (2, .int (i3 x2)), (3, .int (i3 x3))]) dX7_sweep_79 (by decide) rfl ?_
    refine ok_aload_n (pc := 81) hc dX7_sweep_81 rfl 1 rfl ?_
    refine ok_get (pc := 82) hc fl_X7_7 dX7_sweep_82 e1.1 e1.2 v1_1 ?_
    refine ok_iconst (pc := 85) hc (v := i3 4) dX7_sweep_85 (by decide) ?_
    refine ok_iload_n (pc := 86) hc dX7_sweep_86 rfl 2 rfl ?_
    refine zk_imul (pc := 87) hc dX7_sweep_87 ?_
    refine ok_iconst (pc := 88) hc (v := i3 3) dX7_sweep_88 (by decide) ?_
    refine zk_iadd (pc := 89) hc dX7_sweep_89 ?_
    refine ok_dup2_11 (pc := 90) hc dX7_sweep_90 rfl rfl ?_
    obtain ⟨r, P⟩ := P
    refine zk_iald (pc := 91) hc dX7_sweep_91 e3.1 e3.2 r ?_
    refine ok_aload_n (pc := 92) hc dX7_sweep_92 rfl 1 rfl ?_
    refine ok_iload_n (pc := 93) hc dX7_sweep_93 rfl 2 rfl ?_
    refine ok_iconst (pc := 94) hc (v := i3 3) dX7_sweep_94 (by decide) ?_
    obtain ⟨r0, P⟩ := P
    refine ok_callV (pc := 95) (a := a0) (cb := 0) (sb := 0) (st := [.int (i3 (f3 (((4 * x1) + 3) : Int).toNat)), .int (i3 ((4 * x1) + 3)), .ref q2]) hc [.int (i3 x1), .int (i3 3)] cv_X7_49 sp_X7_of (by decide) dX7_sweep_95 rfl e1.1 e1.2 rfl rfl rfl (Nat.le_of_ble_eq_true rfl) (⟨_, _, _, _, rfl, ⟨_, _, ⟨e1.1, e1.2⟩, z1, v1_1, ⟨e3.1, e3.2⟩⟩, r0, rfl, ?_⟩)
    show Ok X 0 0 (95 + 3) [(4, .int (i3 (f3 (50 : Int).toNat))), (0, .ref a0), (1, .int (i3 x1)), (2, .int (i3 x2)), (3, .int (i3 x3))] [.int (i3 (f3 (4 * x1 + 3 : Int).toNat)), .int (i3 (f3 (((4 * x1) + 3) : Int).toNat)), .int (i3 ((4 * x1) + 3)), .ref q2] n h
    refine ok_iload_n (pc := 98) hc dX7_sweep_98 rfl 3 rfl ?_
    obtain ⟨r6, P⟩ := P
    obtain ⟨r7, P⟩ := P
    refine zk_icmp_ge (pc := 99) (tgt := 106) hc dX7_sweep_99 (by decide) r6 r7 (fun c => ?_) (fun c => ?_)
    · have P := P.1 c
      refine ok_iconst (pc := 106) hc (v := i3 (-1)) dX7_sweep_106 (by decide) ?_
      refine zk_iadd (pc := 107) hc dX7_sweep_107 ?_
      obtain ⟨r, P⟩ := P
      refine zk_iast (pc := 108) hc dX7_sweep_108 e3.1 e3.2 r ?_
      refine ok_aload_n (pc := 109) hc dX7_sweep_109 rfl 1 rfl ?_
      refine ok_lv [1, 2, 3, 4, 0] rfl ?_
      exact ok_callV (pc := 110) (a := a0) (cb := 0) (sb := 0) (st := []) hc [] cv_X7_150 sp_X7_settle (by decide) dX7_sweep_110 rfl e1.1 ((up_ne (ne_oa e1.2 e3.2)).trans e1.2) rfl rfl rfl (Nat.le_of_ble_eq_true rfl) P
    · have P := P.2 c
      refine ok_iconst (pc := 102) hc (v := i3 1) dX7_sweep_102 (by decide) ?_
      refine ok_goto (pc := 103) (tgt := 107) hc dX7_sweep_103 (by decide) ?_
      refine zk_iadd (pc := 107) hc dX7_sweep_107 ?_
      obtain ⟨r, P⟩ := P
      refine zk_iast (pc := 108) hc dX7_sweep_108 e3.1 e3.2 r ?_
      refine ok_aload_n (pc := 109) hc dX7_sweep_109 rfl 1 rfl ?_
      refine ok_lv [1, 2, 3, 4, 0] rfl ?_
      exact ok_callV (pc := 110) (a := a0) (cb := 0) (sb := 0) (st := []) hc [] cv_X7_150 sp_X7_settle (by decide) dX7_sweep_110 rfl e1.1 ((up_ne (ne_oa e1.2 e3.2)).trans e1.2) rfl rfl rfl (Nat.le_of_ble_eq_true rfl) P

set_option maxHeartbeats 4000000 in
set_option maxRecDepth 100000 in
theorem sX7_sweep_113 {X : Xt} {n : Nat} {h : HP} {a0 : Nat} {x1 : Int} {x2 : Int} {x3 : Int} {x4 : Int} {fs1 : List Value} {q2 : Nat} {len3 : Nat} {f3 : Nat → Int} (hc : Cx X cX7_sweep RX7 5 11 256) {K : KT} (hr : CxR X (some .int) K) (e1 : At h n a0 (.inl (7, fs1))) (z1 : fs1.length = 24) (v1_1 : fs1[1]? = some (.ref q2)) (e3 : At h n q2 (ai len3 f3))
    (P : (Ix 50 len3) ∧ (R3 (f3 (50 : Int).toNat)) ∧ (R3 x4) ∧ (¬ (f3 (50 : Int).toNat) = x4 → Ok X 0 0 62 [(0, .ref a0), (1, .int (i3 x1)), (2, .int (i3 x2)), (3, .int (i3 (x3 + 1)))] [] n h) ∧ ((f3 (50 : Int).toNat) = x4 → Ok X 0 0 62 [(0, .ref a0), (1, .int (i3 x1)), (2, .int (i3 x2)), (3, .int (i3 (x3 + 0)))] [] n h)) :
    Ok X 0 0 113 [(0, .ref a0), (1, .int (i3 x1)), (2, .int (i3 x2)), (3, .int (i3 x3)), (4, .int (i3 x4))] [] n h := by
  refine ok_iload_n (pc := 113) hc dX7_sweep_113 rfl 3 rfl ?_
  refine ok_aload_n (pc := 114) hc dX7_sweep_114 rfl 0 rfl ?_
  refine ok_get (pc := 115) hc fl_X7_7 dX7_sweep_115 e1.1 e1.2 v1_1 ?_
  refine ok_bipush (pc := 118) hc (v := i3 50) dX7_sweep_118 (by decide) ?_
  obtain ⟨r, P⟩ := P
  refine zk_iald (pc := 120) hc dX7_sweep_120 e3.1 e3.2 r ?_
  refine ok_iload (pc := 121) hc dX7_sweep_121 4 rfl ?_
  obtain ⟨r4, P⟩ := P
  obtain ⟨r5, P⟩ := P
  refine zk_icmp_ne (pc := 123) (tgt := 130) hc dX7_sweep_123 (by decide) r4 r5 (fun c => ?_) (fun c => ?_)
  · have P := P.1 c
    refine ok_iconst (pc := 130) hc (v := i3 1) dX7_sweep_130 (by decide) ?_
    refine zk_iadd (pc := 131) hc dX7_sweep_131 ?_
    refine ok_istore_n (pc := 132) hc (lv' := [(3, .int (i3 (x3 + 1))), (0, .ref a0), (1, .int (i3 x1)), (2, .int (i3 x2)), (4, .int (i3 x4))]) dX7_sweep_132 rfl (by decide) rfl ?_
    refine ok_goto (pc := 133) (tgt := 62) hc dX7_sweep_133 (by decide) ?_
    refine ok_lv [1, 2, 3, 0] rfl ?_
    exact P
  · have P := P.2 c
    refine ok_iconst (pc := 126) hc (v := i3 0) dX7_sweep_126 (by decide) ?_
    refine ok_goto (pc := 127) (tgt := 131) hc dX7_sweep_127 (by decide) ?_
    refine zk_iadd (pc := 131) hc dX7_sweep_131 ?_
    refine ok_istore_n (pc := 132) hc (lv' := [(3, .int (i3 (x3 + 0))), (0, .ref a0), (1, .int (i3 x1)), (2, .int (i3 x2)), (4, .int (i3 x4))]) dX7_sweep_132 rfl (by decide) rfl ?_
    refine ok_goto (pc := 133) (tgt := 62) hc dX7_sweep_133 (by decide) ?_
    refine ok_lv [1, 2, 3, 0] rfl ?_
    exact P

set_option maxHeartbeats 4000000 in
set_option maxRecDepth 100000 in
theorem sX7_sweep_136 {X : Xt} {n : Nat} {h : HP} {a0 : Nat} {x1 : Int} {x2 : Int} {x3 : Int} (hc : Cx X cX7_sweep RX7 5 11 256) {K : KT} (hr : CxR X (some .int) K) 
    (P : K (.inl (some (.int (i3 x3)))) n h) :
    Ok X 0 0 136 [(0, .ref a0), (1, .int (i3 x1)), (2, .int (i3 x2)), (3, .int (i3 x3))] [] n h := by
  refine ok_iload_n (pc := 136) hc dX7_sweep_136 rfl 3 rfl ?_
  exact ok_iret (st := []) (pc := 137) hc hr dX7_sweep_137 P

theorem addV_val {T : Stt} {i : Nat} {p : Part} {w d : Int} (h : T.1[i]? = some (valP p w)) : addV T.1 i d = T.1.set i (valP p (w + d)) := by
  unfold addV
  rw [h]
  rfl
def spec_X7_sweep (args : List Value) (n : Nat) (h : HP) (K : KT) : Prop := ∃ (q : Dsk) (t x v : Int), args = [.ref 128, .int (i3 x), .int (i3 v)] ∧ R3 x ∧ R3 v ∧ MdA h n q t ∧ ∀ h', MdA h' n (opSweep q x v).1 (cdL [eIO, eIS, eIA] (opSweep q x v).2) → Fr h h' 128 138 → K (.inl (some (.int (i3 (rvI (opSweep q x v).2))))) n h'
theorem sp_X7_sweep : Sp yX7_sweep cX7_sweep 5 (some .int) 11 256 0 0 spec_X7_sweep := by
  refine sp_intro (by decide) (by rintro args n h K ⟨q, t, x, v, rfl, -⟩; exact Nat.le_of_ble_eq_true rfl) ?_
  rintro X args n h K hc hr ⟨q, t, x, v, rfl, hx, hv, ⟨I, F, hM0, hF, -, hGq, hOq⟩, kk⟩
  have hP := hF.1.1
  have hl := hP.2.1
  unfold opSweep at kk
  have ret : ∀ tt : Int, MdA (va_up h 128 (.inl (7, mf (va_up I 0 tt)))) n q tt := fun tt => ⟨va_up I 0 tt, F, hM0.uo _, hF.thr tt, up_self, hGq, hOq⟩
  refine sX7_sweep_0 hc hr hM0.o rfl rfl hM0.z hP ⟨hx, fun c => ?_, fun c => ?_⟩
  · have hxr := of_decide_eq_true c
    have hp := pAt_some hxr
    rw [prt_in hxr] at kk
    obtain ⟨i, rfl⟩ : ∃ i : Nat, x = i := ⟨x.toNat, by omega⟩
    have ein : (i : Int).toNat = i := by omega
    rw [ein] at hp kk
    generalize pAt q.1.1 i = p at hp kk
    simp only at kk
    have hz := hP.of hp
    have hpw := hP.2.2.2 p (List.mem_of_getElem? hp)
    have hb := hpw.b
    have e0 : F 1 (4 * (i : Int)).toNat = p.1 := by rw [show (4 * (i : Int)).toNat = 4 * i by omega, hz.1]
    rw [e0]
    refine ⟨⟨by omega, ⟨by decide, by decide⟩, R3_s (by omega)⟩, fun c1 => ⟨⟨hv, ⟨by decide, by decide⟩, ⟨by decide, by decide⟩⟩, fun cv => ?_, fun cv => ?_⟩, fun c1 => ?_⟩
    · rw [if_pos c1, if_neg cv, cd_3 _ ne_OA ne_AS.symm] at kk
      exact kk _ (ret 3) (Fr.rf.up (by omega))
    · rw [if_pos c1, if_pos cv] at kk
      refine ⟨va_up I 0 0, F, q.1, q.2.1, rfl, hM0.uo (va_up I 0 0), hF.1, hF.2.1.1, hF.2.1.2, fun h1 H hM1 hH f1 => ⟨rfl, ?_⟩⟩
      generalize hd : (if v ≤ p.2.2.2 then (-1 : Int) else 1) = d at kk
      generalize hfn : (absZ (v - p.2.2.2)).toNat = fn at kk
      have hdn : p.2.2.2 + d * fn = v := by
        unfold absZ at hfn
        subst hd
        subst hfn
        split <;> split <;> omega
      have hd1 : d = 1 ∨ d = -1 := by
        subst hd
        split <;> omega
      have ps200 : -200 ≤ p.2.2.2 ∧ p.2.2.2 ≤ 200 := by
        unfold PW at hpw
        omega
      have e3 : (4 * (i : Int) + 3).toNat = 4 * i + 3 := by omega
      have hil := (List.getElem?_eq_some_iff.mp hp).1
      have L : ∀ (f : Nat) (T : Stt) (w k : Int) (hh : HP) (I2 : Nat → Int) (F2 : Nat → Nat → Int), w + d * f = v → (-200 ≤ w ∧ w ≤ 200) → swpL i d fn q.1 0 = swpL i d f T k → MAt hh n I2 F2 → ZSt (F2 1) T → GdS T → StOk T → T.1[i]? = some (valP p w) → KpR (va_up (va_up I 0 0) 3 ((pushH q.2.1 q.1).length : Int)) I2 → KpZ (va_up F 3 H) F2 → Fr h hh 128 138 → Ok X 0 0 62 [(0, .ref 128), (1, .int (i3 i)), (2, .int (i3 v)), (3, .int (i3 k))] [] n hh := by
        intro f
        induction f with
        | zero =>
          intro T w k hh I2 F2 hw hwr hsw hM hZ hG hO hTi kI kZ hf
          have hwv : w = v := by omega
          have hzT := hZ.1.of hTi
          have ev : F2 1 (4 * (i : Int) + 3).toNat = v := by rw [e3, hzT.2.2.2]; exact hwv
          refine sX7_sweep_62 hc hr hM.o rfl rfl hM.z ⟨by omega, by rw [ev]; exact hv, hv, fun _ => sX7_sweep_136 hc hr ?_, fun z => absurd ev z⟩
          have es : swpL i d fn q.1 0 = (T, k) := hsw
          rw [es] at kk
          exact kk hh (rec_set (t := 0) hF rfl (fun j hj => by rcases hj with e | e | e <;> subst e <;> rfl) hH hM hZ kI kZ hGq hOq hG hO) hf
        | succ f ih =>
          intro T w k hh I2 F2 hw hwr hsw hM hZ hG hO hTi kI kZ hf
          have hzT := hZ.1.of hTi
          have hlT := hZ.1.2.1
          have hiT := (List.getElem?_eq_some_iff.mp hTi).1
          have hwv : w ≠ v := by
            rcases hd1 with e | e <;> subst e <;> omega
          have hwr' : -200 ≤ w + d ∧ w + d ≤ 200 := by
            rcases hd1 with e | e <;> subst e <;> omega
          have ev : F2 1 (4 * (i : Int) + 3).toNat = w := by rw [e3, hzT.2.2.2]; rfl
          have e50 : F2 1 (50 : Int).toNat = T.2.2.1 := hZ.2.2.1
          have hcT := hG.2.2.1
          have h27 := ref_27 hG
          have hpv : (valP p w).1 ≠ 2 := by
            show p.1 ≠ 2
            omega
          have hst : stlB (valP p w) (w + d) = true := by
            unfold stlB
            show (if p.1 = 0 then _ else _) = true
            rw [if_neg (by omega)]
            exact decide_eq_true hwr'
          have g2 : GdS (addV T.1 i d, T.2) := by
            rw [addV_val hTi]
            exact gdS_val (p := valP p w) hG hTi hpv hst
          have hPW2 : PW (valP (valP p w) (w + d)) := val_pw (hZ.1.2.2.2 _ (List.mem_of_getElem? hTi)) hpv hst
          have go : spec_X7_settle [.ref 128] n (va_up hh 129 (ai 52 (va_up (F2 1) (4 * i + 3) (w + d)))) (kc X 0 0 110 [(0, .ref 128), (1, .int (i3 i)), (2, .int (i3 v)), (3, .int (i3 k)), (4, .int (i3 T.2.2.1))] [] n) := by
            have hM2 := hM.ua (j := 1) (by omega) (va_up (F2 1) (4 * i + 3) (w + d))
            refine ⟨_, _, (addV T.1 i d, T.2), rfl, hM2, ?_, g2, fun h3 I3 F3 hM3 hZ3 kI3 kZ3 f3 => ⟨rfl, ?_⟩⟩
            · rw [up_self, addV_val hTi]
              exact ZSt.val (p := valP p w) hZ hTi hPW2
            · have hT3 : (setS (addV T.1 i d, T.2)).1[i]? = some (valP p (w + d)) := by
                rw [setS_1, addV_val hTi]
                show (T.1.set i _)[i]? = _
                rw [List.getElem?_set_self hiT]
              have e53 : F3 1 (50 : Int).toNat = (setS (addV T.1 i d, T.2)).2.2.1 := hZ3.2.2.1
              have c3 := g2.set.2.2.1
              have h273 := ref_27 g2.set
              have kI' : KpR (va_up (va_up I 0 0) 3 ((pushH q.2.1 q.1).length : Int)) I3 := fun k a b c e => (kI3 k a b c e).trans (kI k a b c e)
              have kZ' : KpZ (va_up F 3 H) F3 := fun j hj => (kZ3 j hj).trans ((up_ne (by omega)).trans (kZ j hj))
              have hf3 : Fr h h3 128 138 := (hf.up (by omega)).tr f3
              have hsw2 : swpL i d fn q.1 0 = swpL i d f (setS (addV T.1 i d, T.2)) (if (setS (addV T.1 i d, T.2)).2.2.1 = T.2.2.1 then k else k + 1) := hsw
              have nx := fun k' (e : swpL i d fn q.1 0 = swpL i d f (setS (addV T.1 i d, T.2)) k') => ih (setS (addV T.1 i d, T.2)) (w + d) k' h3 I3 F3 (by rcases hd1 with e | e <;> subst e <;> omega) hwr' e hM3 hZ3 g2.set (setS_ok g2) hT3 kI' kZ' hf3
              refine sX7_sweep_113 hc hr hM3.o rfl rfl hM3.z ⟨⟨by decide, by decide, by decide⟩, ?_⟩
              rw [e53]
              refine ⟨R3_s (by omega), R3_s (by omega), fun z => ?_, fun z => ?_⟩
              · rw [if_neg z] at hsw2
                exact nx _ hsw2
              · rw [if_pos z] at hsw2
                rw [Int.add_zero]
                exact nx _ hsw2
          refine sX7_sweep_62 hc hr hM.o rfl rfl hM.z ⟨by omega, by rw [ev]; exact R3_s (by omega), hv, fun z => absurd (ev.symm.trans z) hwv, fun _ => ⟨⟨by decide, by decide, by decide⟩, ⟨by omega, by omega, by omega⟩, by omega, by rw [ev]; exact R3_s (by omega), hv, fun z => ⟨⟨by omega, by omega, by omega⟩, ?_⟩, fun z => ⟨⟨by omega, by omega, by omega⟩, ?_⟩⟩⟩
          · rw [ev] at z
            rw [ev, e3, e50]
            have : d = -1 := by rcases hd1 with e | e <;> subst e <;> omega
            rw [this] at go
            exact go
          · rw [ev] at z
            rw [ev, e3, e50]
            have : d = 1 := by rcases hd1 with e | e <;> subst e <;> omega
            rw [this] at go
            exact go
      refine sX7_sweep_60 hc hr (L fn q.1 p.2.2.2 0 h1 _ _ hdn ps200 rfl hM1 hF.1 hGq.1 hOq.1 ?_ (fun _ _ _ _ _ => rfl) (fun _ _ => rfl) ((Fr.rf.up (by omega)).tr f1))
      rw [hp]
      rfl
    · rw [if_neg c1, cd_2 _ ne_OS] at kk
      exact kk _ (ret 2) (Fr.rf.up (by omega))
  · rw [prt_out (of_decide_eq_false c)] at kk
    simp only [cd_1] at kk
    exact kk _ (ret 1) (Fr.rf.up (by omega))
set_option maxHeartbeats 4000000 in
set_option maxRecDepth 100000 in
theorem sX7_undo_0 {X : Xt} {n : Nat} {h : HP} {a0 : Nat} {fs1 : List Value} {iv2 : Int} {q4 : Nat} {q5 : Nat} (hc : Cx X cX7_undo RX7 1 1 25) {K : KT} (hr : CxR X (some .int) K) (e1 : At h n a0 (.inl (7, fs1))) (z1 : fs1.length = 24) (v1_3 : fs1[3]? = some (.int (i3 iv2))) (v1_4 : fs1[4]? = some (.ref q4)) (v1_1 : fs1[1]? = some (.ref q5))
    (P : (R3 iv2) ∧ (iv2 ≤ 0 → K (.inl (some (.int (i3 0)))) n (va_up h a0 (.inl (7, (fs1.set 0 (.int (i3 1))))))) ∧ (¬ iv2 ≤ 0 → spec_X7_copy [.ref a0, .ref q4, .int (i3 (52 * (iv2 - 1))), .ref q5, .int (i3 0)] n (va_up (va_up h a0 (.inl (7, (fs1.set 0 (.int (i3 0)))))) a0 (.inl (7, ((fs1.set 0 (.int (i3 0))).set 3 (.int (i3 (iv2 - 1))))))) (kc X 0 0 52 [(0, .ref a0)] [] n))) :
    Ok X 0 0 0 [(0, .ref a0)] [] n h := by
  refine ok_aload_n (pc := 0) hc dX7_undo_0 rfl 0 rfl ?_
  refine ok_aload_n (pc := 1) hc dX7_undo_1 rfl 0 rfl ?_
  refine ok_get (pc := 2) hc fl_X7_53 dX7_undo_2 e1.1 e1.2 v1_3 ?_
  obtain ⟨r3, P⟩ := P
  refine zk_if_le (pc := 5) (tgt := 12) hc dX7_undo_5 (by decide) r3 (fun c => ?_) (fun c => ?_)
  · have P := P.1 c
    refine ok_iconst (pc := 12) hc (v := i3 1) dX7_undo_12 (by decide) ?_
    refine ok_put (pc := 13) hc fl_X7_41 dX7_undo_13 e1.1 e1.2 (by simp [List.length_set, z1]) (fun _ => rfl) (fun _ => rfl) ?_
    refine ok_aload_n (pc := 16) hc dX7_undo_16 rfl 0 rfl ?_
    refine ok_get (pc := 17) hc fl_X7_41 dX7_undo_17 e1.1 up_self (set_self (by simp [List.length_set, z1])) ?_
    refine zk_if_le (pc := 20) (tgt := 25) hc dX7_undo_20 (by decide) ⟨by decide, by decide⟩ (fun c => absurd c (by decide)) (fun _ => ?_)
    refine ok_iconst (pc := 23) hc (v := i3 0) dX7_undo_23 (by decide) ?_
    exact ok_iret (st := []) (pc := 24) hc hr dX7_undo_24 P
  · have P := P.2 c
    refine ok_iconst (pc := 8) hc (v := i3 0) dX7_undo_8 (by decide) ?_
    refine ok_goto (pc := 9) (tgt := 13) hc dX7_undo_9 (by decide) ?_
    refine ok_put (pc := 13) hc fl_X7_41 dX7_undo_13 e1.1 e1.2 (by simp [List.length_set, z1]) (fun _ => rfl) (fun _ => rfl) ?_
    refine ok_aload_n (pc := 16) hc dX7_undo_16 rfl 0 rfl ?_
    refine ok_get (pc := 17) hc fl_X7_41 dX7_undo_17 e1.1 up_self (set_self (by simp [List.length_set, z1])) ?_
    refine zk_if_le (pc := 20) (tgt := 25) hc dX7_undo_20 (by decide) ⟨by decide, by decide⟩ (fun _ => ?_) (fun c => absurd c (by decide))
    refine ok_aload_n (pc := 25) hc dX7_undo_25 rfl 0 rfl ?_
    refine ok_dup (pc := 26) hc dX7_undo_26 rfl ?_
    refine ok_get (pc := 27) hc fl_X7_53 dX7_undo_27 e1.1 up_self ((set_ne (by decide)).trans v1_3) ?_
    refine ok_iconst (pc := 30) hc (v := i3 1) dX7_undo_30 (by decide) ?_
    refine zk_isub (pc := 31) hc dX7_undo_31 ?_
    refine ok_put (pc := 32) hc fl_X7_53 dX7_undo_32 e1.1 up_self (by simp [List.length_set, z1]) (fun _ => rfl) (fun _ => rfl) ?_
    refine ok_aload_n (pc := 35) hc dX7_undo_35 rfl 0 rfl ?_
    refine ok_aload_n (pc := 36) hc dX7_undo_36 rfl 0 rfl ?_
    refine ok_get (pc := 37) hc fl_X7_16 dX7_undo_37 e1.1 up_self ((set_ne (by decide)).trans ((set_ne (by decide)).trans v1_4)) ?_
    refine ok_bipush (pc := 40) hc (v := i3 52) dX7_undo_40 (by decide) ?_
    refine ok_aload_n (pc := 42) hc dX7_undo_42 rfl 0 rfl ?_
    refine ok_get (pc := 43) hc fl_X7_53 dX7_undo_43 e1.1 up_self (set_self (by simp [List.length_set, z1])) ?_
    refine zk_imul (pc := 46) hc dX7_undo_46 ?_
    refine ok_aload_n (pc := 47) hc dX7_undo_47 rfl 0 rfl ?_
    refine ok_get (pc := 48) hc fl_X7_7 dX7_undo_48 e1.1 up_self ((set_ne (by decide)).trans ((set_ne (by decide)).trans v1_1)) ?_
    refine ok_iconst (pc := 51) hc (v := i3 0) dX7_undo_51 (by decide) ?_
    exact ok_callV (pc := 52) (a := a0) (cb := 0) (sb := 0) (st := []) hc [.ref q4, .int (i3 (52 * (iv2 - 1))), .ref q5, .int (i3 0)] cv_X7_56 sp_X7_copy (by decide) dX7_undo_52 rfl e1.1 up_self rfl rfl rfl (Nat.le_of_ble_eq_true rfl) P

set_option maxHeartbeats 4000000 in
set_option maxRecDepth 100000 in
theorem sX7_undo_55 {X : Xt} {n : Nat} {h : HP} {a0 : Nat} {fs1 : List Value} {iv2 : Int} (hc : Cx X cX7_undo RX7 1 1 25) {K : KT} (hr : CxR X (some .int) K) (e1 : At h n a0 (.inl (7, fs1))) (z1 : fs1.length = 24) (v1_3 : fs1[3]? = some (.int (i3 iv2)))
    (P : K (.inl (some (.int (i3 iv2)))) n h) :
    Ok X 0 0 55 [(0, .ref a0)] [] n h := by
  refine ok_aload_n (pc := 55) hc dX7_undo_55 rfl 0 rfl ?_
  refine ok_get (pc := 56) hc fl_X7_53 dX7_undo_56 e1.1 e1.2 v1_3 ?_
  exact ok_iret (st := []) (pc := 59) hc hr dX7_undo_59 P

def spec_X7_undo (args : List Value) (n : Nat) (h : HP) (K : KT) : Prop := ∃ (q : Dsk) (t : Int), args = [.ref 128] ∧ MdA h n q t ∧ ∀ h', MdA h' n (opUndo q).1 (cdL [eIS] (opUndo q).2) → Fr h h' 128 138 → K (.inl (some (.int (i3 (rvI (opUndo q).2))))) n h'
theorem sp_X7_undo : Sp yX7_undo cX7_undo 1 (some .int) 1 25 0 0 spec_X7_undo := by
  refine sp_intro (by decide) (by rintro args n h K ⟨q, t, rfl, -⟩; exact Nat.le_of_ble_eq_true rfl) ?_
  rintro X args n h K hc hr ⟨q, t, rfl, ⟨I, F, hM0, hF, -, hGq, hOq⟩, kk⟩
  have h3 := hF.2.1.2
  have hl8 := hF.2.1.1.1
  unfold opUndo at kk
  refine sX7_undo_0 hc hr hM0.o rfl rfl rfl rfl ⟨by rw [h3]; exact R3_s (by omega), fun z => ?_, fun z => ?_⟩
  · have : q.2.1 = [] := List.length_eq_zero_iff.mp (by omega)
    rw [this] at kk
    simp only [List.getLast?_nil, cd_1] at kk
    exact kk _ ⟨va_up I 0 1, F, hM0.uo (va_up I 0 1), hF.thr 1, up_self, hGq, hOq⟩ (Fr.rf.up (by omega))
  · have hpos : 0 < q.2.1.length := by omega
    have hlast : q.2.1.getLast? = q.2.1[q.2.1.length - 1]? := List.getLast?_eq_getElem?
    have hS : q.2.1[q.2.1.length - 1]? = some q.2.1[q.2.1.length - 1] := List.getElem?_eq_getElem (by omega)
    generalize q.2.1[q.2.1.length - 1] = S at hS
    rw [hlast, hS] at kk
    simp only at kk
    have hZS := hF.2.1.1.2 _ S hS
    have hM1 := (hM0.uo (va_up I 0 0)).uo (va_up (va_up I 0 0) 3 (I 3 - 1))
    refine ⟨128, 131, 129, 416, 52, 52 * (q.2.1.length - 1), 0, F 3, F 1, by rw [h3, show (52 * ((q.2.1.length : Int) - 1)) = ((52 * (q.2.1.length - 1) : Nat) : Int) by omega]; rfl, hM1.hs, hM1.z, by decide, by omega, ⟨rfl, ?_⟩⟩
    have hM2 := hM1.ua (j := 1) (by omega) (cpF (F 3) (F 1) (52 * (q.2.1.length - 1)) 0 52)
    refine sX7_undo_55 hc hr hM2.o rfl rfl ?_
    have e3 : va_up (va_up I 0 0) 3 (I 3 - 1) 3 = (q.2.1.length : Int) - 1 := by rw [up_self, h3]
    rw [e3]
    have hmem : S ∈ q.2.1 := List.mem_of_getElem? hS
    refine kk _ ⟨_, _, hM2, ⟨?_, ⟨⟨?_, fun i T hi => ?_⟩, ?_⟩, hF.2.2.1, hF.2.2.2⟩, rfl, ⟨hGq.2.1 S hmem, fun T hT => hGq.2.1 T ((List.dropLast_sublist _).subset hT), hGq.2.2⟩, ⟨hOq.2.1 S hmem, fun T hT => hOq.2.1 T ((List.dropLast_sublist _).subset hT), hOq.2.2⟩⟩ (((Fr.rf.up (by omega)).up (by omega)).up (by omega))
    · rw [up_self]
      refine hZS.eq fun k hk => ?_
      show (if _ then _ else _) = _
      rw [if_pos (by omega), Nat.sub_zero]
    · show q.2.1.dropLast.length ≤ 8
      rw [List.length_dropLast]
      omega
    · have hi' : q.2.1.dropLast[i]? = some T := hi
      have hil := (List.getElem?_eq_some_iff.mp hi').1
      rw [List.getElem?_dropLast] at hi'
      rw [List.length_dropLast] at hil
      rw [if_pos (by omega)] at hi'
      exact hF.2.1.1.2 i T hi'
    · show _ = ((q.2.1.dropLast.length : Nat) : Int)
      rw [e3, List.length_dropLast]
      omega
set_option maxHeartbeats 4000000 in
set_option maxRecDepth 100000 in
theorem sX7_keep_0 {X : Xt} {n : Nat} {h : HP} {a0 : Nat} {x1 : Int} {fs1 : List Value} {q2 : Nat} {q3 : Nat} (hc : Cx X cX7_keep RX7 2 1 25) {K : KT} (hr : CxR X (some .int) K) (e1 : At h n a0 (.inl (7, fs1))) (z1 : fs1.length = 24) (v1_1 : fs1[1]? = some (.ref q2)) (v1_6 : fs1[6]? = some (.ref q3))
    (P : (R3 x1 ∧ R3 0 ∧ R3 1) ∧ (¬ (0 ≤ x1 ∧ x1 ≤ 1) → K (.inl (some (.int (i3 0)))) n (va_up h a0 (.inl (7, (fs1.set 0 (.int (i3 1))))))) ∧ ((0 ≤ x1 ∧ x1 ≤ 1) → spec_X7_copy [.ref a0, .ref q2, .int (i3 0), .ref q3, .int (i3 (52 * x1))] n (va_up h a0 (.inl (7, (fs1.set 0 (.int (i3 0)))))) (kc X 0 0 41 [(0, .ref a0), (1, .int (i3 x1))] [] n))) :
    Ok X 0 0 0 [(0, .ref a0), (1, .int (i3 x1))] [] n h := by
  refine ok_aload_n (pc := 0) hc dX7_keep_0 rfl 0 rfl ?_
  refine ok_iload_n (pc := 1) hc dX7_keep_1 rfl 1 rfl ?_
  refine ok_iconst (pc := 2) hc (v := i3 0) dX7_keep_2 (by decide) ?_
  refine ok_iconst (pc := 3) hc (v := i3 1) dX7_keep_3 (by decide) ?_
  obtain ⟨r0, P⟩ := P
  refine ok_callS (pc := 4) (cb := 0) (sb := 0) (st := [.ref a0]) hc [.int (i3 x1), .int (i3 0), .int (i3 1)] cs_X7_45 sp_X7_within (by decide) dX7_keep_4 rfl rfl rfl rfl (Nat.le_of_ble_eq_true rfl) (⟨_, _, _, rfl, r0, rfl, ?_⟩)
  show Ok X 0 0 (4 + 3) [(0, .ref a0), (1, .int (i3 x1))] [.int (i3 (inZ x1 0 1)), .ref a0] n h
  refine zk_if_eq (pc := 7) (tgt := 14) hc dX7_keep_7 (by decide) R3_inZ (fun c => ?_) (fun c => ?_)
  · have P := P.1 (inZ_0.mp c)
    refine ok_iconst (pc := 14) hc (v := i3 1) dX7_keep_14 (by decide) ?_
    refine ok_put (pc := 15) hc fl_X7_41 dX7_keep_15 e1.1 e1.2 (by simp [List.length_set, z1]) (fun _ => rfl) (fun _ => rfl) ?_
    refine ok_aload_n (pc := 18) hc dX7_keep_18 rfl 0 rfl ?_
    refine ok_get (pc := 19) hc fl_X7_41 dX7_keep_19 e1.1 up_self (set_self (by simp [List.length_set, z1])) ?_
    refine zk_if_le (pc := 22) (tgt := 27) hc dX7_keep_22 (by decide) ⟨by decide, by decide⟩ (fun c => absurd c (by decide)) (fun _ => ?_)
    refine ok_iconst (pc := 25) hc (v := i3 0) dX7_keep_25 (by decide) ?_
    exact ok_iret (st := []) (pc := 26) hc hr dX7_keep_26 P
  · have P := P.2 (inZ_1.mp c)
    refine ok_iconst (pc := 10) hc (v := i3 0) dX7_keep_10 (by decide) ?_
    refine ok_goto (pc := 11) (tgt := 15) hc dX7_keep_11 (by decide) ?_
    refine ok_put (pc := 15) hc fl_X7_41 dX7_keep_15 e1.1 e1.2 (by simp [List.length_set, z1]) (fun _ => rfl) (fun _ => rfl) ?_
    refine ok_aload_n (pc := 18) hc dX7_keep_18 rfl 0 rfl ?_
    refine ok_get (pc := 19) hc fl_X7_41 dX7_keep_19 e1.1 up_self (set_self (by simp [List.length_set, z1])) ?_
    refine zk_if_le (pc := 22) (tgt := 27) hc dX7_keep_22 (by decide) ⟨by decide, by decide⟩ (fun _ => ?_) (fun c => absurd c (by decide))
    refine ok_aload_n (pc := 27) hc dX7_keep_27 rfl 0 rfl ?_
    refine ok_aload_n (pc := 28) hc dX7_keep_28 rfl 0 rfl ?_
    refine ok_get (pc := 29) hc fl_X7_7 dX7_keep_29 e1.1 up_self ((set_ne (by decide)).trans v1_1) ?_
    refine ok_iconst (pc := 32) hc (v := i3 0) dX7_keep_32 (by decide) ?_
    refine ok_aload_n (pc := 33) hc dX7_keep_33 rfl 0 rfl ?_
    refine ok_get (pc := 34) hc fl_X7_19 dX7_keep_34 e1.1 up_self ((set_ne (by decide)).trans v1_6) ?_
    refine ok_bipush (pc := 37) hc (v := i3 52) dX7_keep_37 (by decide) ?_
    refine ok_iload_n (pc := 39) hc dX7_keep_39 rfl 1 rfl ?_
    refine zk_imul (pc := 40) hc dX7_keep_40 ?_
    exact ok_callV (pc := 41) (a := a0) (cb := 0) (sb := 0) (st := []) hc [.ref q2, .int (i3 0), .ref q3, .int (i3 (52 * x1))] cv_X7_56 sp_X7_copy (by decide) dX7_keep_41 rfl e1.1 up_self rfl rfl rfl (Nat.le_of_ble_eq_true rfl) P

set_option maxHeartbeats 4000000 in
set_option maxRecDepth 100000 in
theorem sX7_keep_44 {X : Xt} {n : Nat} {h : HP} {a0 : Nat} {x1 : Int} {fs1 : List Value} {iv2 : Int} {q3 : Nat} {len4 : Nat} {f4 : Nat → Int} (hc : Cx X cX7_keep RX7 2 1 25) {K : KT} (hr : CxR X (some .int) K) (e1 : At h n a0 (.inl (7, fs1))) (z1 : fs1.length = 24) (v1_5 : fs1[5]? = some (.int (i3 iv2))) (v1_1 : fs1[1]? = some (.ref q3)) (e4 : At h n q3 (ai len4 f4))
    (P : (Ix 48 len4) ∧ K (.inl (some (.int (i3 (f4 (48 : Int).toNat))))) n (va_up h a0 (.inl (7, (fs1.set 5 (.int (i3 (bor iv2 (bshl 1 x1))))))))) :
    Ok X 0 0 44 [(0, .ref a0), (1, .int (i3 x1))] [] n h := by
  refine ok_aload_n (pc := 44) hc dX7_keep_44 rfl 0 rfl ?_
  refine ok_dup (pc := 45) hc dX7_keep_45 rfl ?_
  refine ok_get (pc := 46) hc fl_X7_163 dX7_keep_46 e1.1 e1.2 v1_5 ?_
  refine ok_iconst (pc := 49) hc (v := i3 1) dX7_keep_49 (by decide) ?_
  refine ok_iload_n (pc := 50) hc dX7_keep_50 rfl 1 rfl ?_
  refine zk_ishl (pc := 51) hc dX7_keep_51 ?_
  refine zk_ior (pc := 52) hc dX7_keep_52 ?_
  refine ok_put (pc := 53) hc fl_X7_163 dX7_keep_53 e1.1 e1.2 (by simp [List.length_set, z1]) (fun _ => rfl) (fun _ => rfl) ?_
  refine ok_aload_n (pc := 56) hc dX7_keep_56 rfl 0 rfl ?_
  refine ok_get (pc := 57) hc fl_X7_7 dX7_keep_57 e1.1 up_self ((set_ne (by decide)).trans v1_1) ?_
  refine ok_bipush (pc := 60) hc (v := i3 48) dX7_keep_60 (by decide) ?_
  obtain ⟨r, P⟩ := P
  refine zk_iald (pc := 62) hc dX7_keep_62 e4.1 ((up_ne (ne_oa e1.2 e4.2).symm).trans e4.2) r ?_
  exact ok_iret (st := []) (pc := 63) hc hr dX7_keep_63 P

theorem kept_bit : ∀ m < 4, ∀ x < 2, 0 ≤ bor (m : Nat) (bshl 1 (x : Nat)) ∧ bor (m : Nat) (bshl 1 (x : Nat)) ≤ 3 := by decide +kernel
theorem back_bit : ∀ m < 4, ∀ x < 2, band (bshr (m : Nat) (x : Nat)) 1 = bcon (m : Nat) (x : Nat) := by decide +kernel
def spec_X7_keep (args : List Value) (n : Nat) (h : HP) (K : KT) : Prop := ∃ (q : Dsk) (t x : Int), args = [.ref 128, .int (i3 x)] ∧ R3 x ∧ MdA h n q t ∧ ∀ h', MdA h' n (opKeep q x).1 (cdL [eIO] (opKeep q x).2) → Fr h h' 128 138 → K (.inl (some (.int (i3 (rvI (opKeep q x).2))))) n h'
theorem sp_X7_keep : Sp yX7_keep cX7_keep 2 (some .int) 1 25 0 0 spec_X7_keep := by
  refine sp_intro (by decide) (by rintro args n h K ⟨q, t, x, rfl, -⟩; exact Nat.le_of_ble_eq_true rfl) ?_
  rintro X args n h K hc hr ⟨q, t, x, rfl, hx, ⟨I, F, hM0, hF, -, hGq, hOq⟩, kk⟩
  unfold opKeep at kk
  refine sX7_keep_0 hc hr hM0.o rfl rfl rfl ⟨⟨hx, R3_0, ⟨by decide, by decide⟩⟩, fun c => ?_, fun c => ?_⟩
  · rw [if_neg (by omega), cd_1] at kk
    exact kk _ ⟨va_up I 0 1, F, hM0.uo (va_up I 0 1), hF.thr 1, up_self, hGq, hOq⟩ (Fr.rf.up (by omega))
  · rw [if_pos (by omega)] at kk
    obtain ⟨j, rfl⟩ : ∃ j : Nat, x = j := ⟨x.toNat, by omega⟩
    have ej : (j : Int).toNat = j := by omega
    rw [ej] at kk
    have hM1 := hM0.uo (va_up I 0 0)
    refine ⟨128, 129, 132, 52, 104, 0, 52 * j, F 1, F 4, rfl, hM1.z, hM1.im, by decide, by omega, ⟨rfl, ?_⟩⟩
    have hM2 := hM1.ua (j := 4) (by omega) (cpF (F 1) (F 4) 0 (52 * j) 52)
    have e48 : F 1 48 = q.1.1.length := hF.1.1.1
    have hM3 := hM2.uo (va_up (va_up I 0 0) 5 (bor (I 5) (bshl 1 j)))
    refine sX7_keep_44 hc hr hM2.o rfl rfl rfl hM2.z ⟨⟨by decide, by decide, by decide⟩, ?_⟩
    have r3 : (va_up F 4 (cpF (F 1) (F 4) 0 (52 * j) 52)) 1 (48 : Int).toNat = q.1.1.length := e48
    rw [r3]
    have h5 := hF.2.2.1.1
    have hk3 := hGq.2.2.2
    obtain ⟨m, hm⟩ : ∃ m : Nat, q.2.2.2.1 = m := ⟨q.2.2.2.1.toNat, by omega⟩
    have hMk : Mk q.2.2.2.1 := ⟨hk3.1, by omega⟩
    have kb := kept_bit m (by omega) j (by omega)
    refine kk _ ⟨_, _, hM3, ⟨hF.1, hF.2.1, ⟨?_, fun y hy hb => ?_⟩, hF.2.2.2⟩, rfl, ⟨hGq.1, hGq.2.1, fun y hy => ?_, ?_⟩, ⟨hOq.1, hOq.2.1, fun y hy => ?_⟩⟩ (((Fr.rf.up (by omega)).up (by omega)).up (by omega))
    · show bor (I 5) _ = bor q.2.2.2.1 _
      rw [h5]
    · have hb' : bcon (bor q.2.2.2.1 (bshl 1 j)) y ≠ 0 := hb
      rw [hMk.con (by omega) (by omega)] at hb'
      show ZSt (fun k => cpF (F 1) (F 4) 0 (52 * j) 52 (52 * y + k)) (va_up q.2.2.1 j q.1 y)
      by_cases e : y = j
      · subst e
        rw [up_self]
        refine hF.1.eq fun k hk => ?_
        show (if _ then F 1 (0 + (52 * y + k - 52 * y)) else _) = _
        rw [if_pos (by omega), Nat.add_sub_cancel_left, Nat.zero_add]
      · rw [up_ne e]
        rw [if_neg (by omega)] at hb'
        refine (hF.2.2.1.2 y hy hb').eq fun k hk => ?_
        show (if _ then _ else F 4 (52 * y + k)) = _
        rw [if_neg (by omega)]
    · show GdS (va_up q.2.2.1 j q.1 y)
      by_cases e : y = j
      · subst e
        rw [up_self]
        exact hGq.1
      · rw [up_ne e]
        exact hGq.2.2.1 y hy
    · show 0 ≤ bor q.2.2.2.1 _ ∧ bor q.2.2.2.1 _ ≤ 3
      rw [hm]
      exact kb
    · show StOk (va_up q.2.2.1 j q.1 y)
      by_cases e : y = j
      · subst e
        rw [up_self]
        exact hOq.1
      · rw [up_ne e]
        exact hOq.2.2 y hy
set_option maxHeartbeats 4000000 in
set_option maxRecDepth 100000 in
theorem sX7_back_0 {X : Xt} {n : Nat} {h : HP} {a0 : Nat} {x1 : Int} {fs1 : List Value} {iv2 : Int} (hc : Cx X cX7_back RX7 2 2 46) {K : KT} (hr : CxR X (some .int) K) (e1 : At h n a0 (.inl (7, fs1))) (z1 : fs1.length = 24) (v1_5 : fs1[5]? = some (.int (i3 iv2)))
    (P : (R3 x1 ∧ R3 0 ∧ R3 1) ∧ ((0 ≤ x1 ∧ x1 ≤ 1) → (R3 (band (bshr iv2 x1) 1)) ∧ (¬ (band (bshr iv2 x1) 1) = 1 → K (.inl (some (.int (i3 0)))) n (va_up h a0 (.inl (7, (fs1.set 0 (.int (i3 2))))))) ∧ ((band (bshr iv2 x1) 1) = 1 → spec_X7_record [.ref a0] n (va_up h a0 (.inl (7, (fs1.set 0 (.int (i3 0)))))) (kc X 0 0 44 [(0, .ref a0), (1, .int (i3 x1))] [] n))) ∧ (¬ (0 ≤ x1 ∧ x1 ≤ 1) → K (.inl (some (.int (i3 0)))) n (va_up h a0 (.inl (7, (fs1.set 0 (.int (i3 1)))))))) :
    Ok X 0 0 0 [(0, .ref a0), (1, .int (i3 x1))] [] n h := by
  refine ok_aload_n (pc := 0) hc dX7_back_0 rfl 0 rfl ?_
  refine ok_iload_n (pc := 1) hc dX7_back_1 rfl 1 rfl ?_
  refine ok_iconst (pc := 2) hc (v := i3 0) dX7_back_2 (by decide) ?_
  refine ok_iconst (pc := 3) hc (v := i3 1) dX7_back_3 (by decide) ?_
  obtain ⟨r0, P⟩ := P
  refine ok_callS (pc := 4) (cb := 0) (sb := 0) (st := [.ref a0]) hc [.int (i3 x1), .int (i3 0), .int (i3 1)] cs_X7_45 sp_X7_within (by decide) dX7_back_4 rfl rfl rfl rfl (Nat.le_of_ble_eq_true rfl) (⟨_, _, _, rfl, r0, rfl, ?_⟩)
  show Ok X 0 0 (4 + 3) [(0, .ref a0), (1, .int (i3 x1))] [.int (i3 (inZ x1 0 1)), .ref a0] n h
  refine zk_if_ne (pc := 7) (tgt := 14) hc dX7_back_7 (by decide) R3_inZ (fun c => ?_) (fun c => ?_)
  · have P := P.1 (inZ_1.mp c)
    refine ok_aload_n (pc := 14) hc dX7_back_14 rfl 0 rfl ?_
    refine ok_get (pc := 15) hc fl_X7_163 dX7_back_15 e1.1 e1.2 v1_5 ?_
    refine ok_iload_n (pc := 18) hc dX7_back_18 rfl 1 rfl ?_
    refine zk_ishr (pc := 19) hc dX7_back_19 ?_
    refine ok_iconst (pc := 20) hc (v := i3 1) dX7_back_20 (by decide) ?_
    refine zk_iand (pc := 21) hc dX7_back_21 ?_
    refine ok_iconst (pc := 22) hc (v := i3 1) dX7_back_22 (by decide) ?_
    obtain ⟨r3, P⟩ := P
    refine zk_icmp_ne (pc := 23) (tgt := 30) hc dX7_back_23 (by decide) r3 ⟨by decide, by decide⟩ (fun c => ?_) (fun c => ?_)
    · have P := P.1 c
      refine ok_iconst (pc := 30) hc (v := i3 2) dX7_back_30 (by decide) ?_
      refine ok_put (pc := 31) hc fl_X7_41 dX7_back_31 e1.1 e1.2 (by simp [List.length_set, z1]) (fun _ => rfl) (fun _ => rfl) ?_
      refine ok_aload_n (pc := 34) hc dX7_back_34 rfl 0 rfl ?_
      refine ok_get (pc := 35) hc fl_X7_41 dX7_back_35 e1.1 up_self (set_self (by simp [List.length_set, z1])) ?_
      refine zk_if_le (pc := 38) (tgt := 43) hc dX7_back_38 (by decide) ⟨by decide, by decide⟩ (fun c => absurd c (by decide)) (fun _ => ?_)
      refine ok_iconst (pc := 41) hc (v := i3 0) dX7_back_41 (by decide) ?_
      exact ok_iret (st := []) (pc := 42) hc hr dX7_back_42 P
    · have P := P.2 c
      refine ok_iconst (pc := 26) hc (v := i3 0) dX7_back_26 (by decide) ?_
      refine ok_goto (pc := 27) (tgt := 31) hc dX7_back_27 (by decide) ?_
      refine ok_put (pc := 31) hc fl_X7_41 dX7_back_31 e1.1 e1.2 (by simp [List.length_set, z1]) (fun _ => rfl) (fun _ => rfl) ?_
      refine ok_aload_n (pc := 34) hc dX7_back_34 rfl 0 rfl ?_
      refine ok_get (pc := 35) hc fl_X7_41 dX7_back_35 e1.1 up_self (set_self (by simp [List.length_set, z1])) ?_
      refine zk_if_le (pc := 38) (tgt := 43) hc dX7_back_38 (by decide) ⟨by decide, by decide⟩ (fun _ => ?_) (fun c => absurd c (by decide))
      refine ok_aload_n (pc := 43) hc dX7_back_43 rfl 0 rfl ?_
      exact ok_callV (pc := 44) (a := a0) (cb := 0) (sb := 0) (st := []) hc [] cv_X7_147 sp_X7_record (by decide) dX7_back_44 rfl e1.1 up_self rfl rfl rfl (Nat.le_of_ble_eq_true rfl) P
  · have P := P.2 (inZ_0.mp c)
    refine ok_iconst (pc := 10) hc (v := i3 1) dX7_back_10 (by decide) ?_
    refine ok_goto (pc := 11) (tgt := 31) hc dX7_back_11 (by decide) ?_
    refine ok_put (pc := 31) hc fl_X7_41 dX7_back_31 e1.1 e1.2 (by simp [List.length_set, z1]) (fun _ => rfl) (fun _ => rfl) ?_
    refine ok_aload_n (pc := 34) hc dX7_back_34 rfl 0 rfl ?_
    refine ok_get (pc := 35) hc fl_X7_41 dX7_back_35 e1.1 up_self (set_self (by simp [List.length_set, z1])) ?_
    refine zk_if_le (pc := 38) (tgt := 43) hc dX7_back_38 (by decide) ⟨by decide, by decide⟩ (fun c => absurd c (by decide)) (fun _ => ?_)
    refine ok_iconst (pc := 41) hc (v := i3 0) dX7_back_41 (by decide) ?_
    exact ok_iret (st := []) (pc := 42) hc hr dX7_back_42 P

set_option maxHeartbeats 4000000 in
set_option maxRecDepth 100000 in
theorem sX7_back_47 {X : Xt} {n : Nat} {h : HP} {a0 : Nat} {x1 : Int} {fs1 : List Value} {q2 : Nat} {q3 : Nat} (hc : Cx X cX7_back RX7 2 2 46) {K : KT} (hr : CxR X (some .int) K) (e1 : At h n a0 (.inl (7, fs1))) (z1 : fs1.length = 24) (v1_6 : fs1[6]? = some (.ref q2)) (v1_1 : fs1[1]? = some (.ref q3))
    (P : spec_X7_copy [.ref a0, .ref q2, .int (i3 (52 * x1)), .ref q3, .int (i3 0)] n h (kc X 0 0 61 [(0, .ref a0), (1, .int (i3 x1))] [] n)) :
    Ok X 0 0 47 [(0, .ref a0), (1, .int (i3 x1))] [] n h := by
  refine ok_aload_n (pc := 47) hc dX7_back_47 rfl 0 rfl ?_
  refine ok_aload_n (pc := 48) hc dX7_back_48 rfl 0 rfl ?_
  refine ok_get (pc := 49) hc fl_X7_19 dX7_back_49 e1.1 e1.2 v1_6 ?_
  refine ok_bipush (pc := 52) hc (v := i3 52) dX7_back_52 (by decide) ?_
  refine ok_iload_n (pc := 54) hc dX7_back_54 rfl 1 rfl ?_
  refine zk_imul (pc := 55) hc dX7_back_55 ?_
  refine ok_aload_n (pc := 56) hc dX7_back_56 rfl 0 rfl ?_
  refine ok_get (pc := 57) hc fl_X7_7 dX7_back_57 e1.1 e1.2 v1_1 ?_
  refine ok_iconst (pc := 60) hc (v := i3 0) dX7_back_60 (by decide) ?_
  exact ok_callV (pc := 61) (a := a0) (cb := 0) (sb := 0) (st := []) hc [.ref q2, .int (i3 (52 * x1)), .ref q3, .int (i3 0)] cv_X7_56 sp_X7_copy (by decide) dX7_back_61 rfl e1.1 e1.2 rfl rfl rfl (Nat.le_of_ble_eq_true rfl) P

set_option maxHeartbeats 4000000 in
set_option maxRecDepth 100000 in
theorem sX7_back_64 {X : Xt} {n : Nat} {h : HP} {a0 : Nat} {x1 : Int} {fs1 : List Value} {q2 : Nat} {len3 : Nat} {f3 : Nat → Int} (hc : Cx X cX7_back RX7 2 2 46) {K : KT} (hr : CxR X (some .int) K) (e1 : At h n a0 (.inl (7, fs1))) (z1 : fs1.length = 24) (v1_1 : fs1[1]? = some (.ref q2)) (e3 : At h n q2 (ai len3 f3))
    (P : (Ix 48 len3) ∧ K (.inl (some (.int (i3 (f3 (48 : Int).toNat))))) n h) :
    Ok X 0 0 64 [(0, .ref a0), (1, .int (i3 x1))] [] n h := by
  refine ok_aload_n (pc := 64) hc dX7_back_64 rfl 0 rfl ?_
  refine ok_get (pc := 65) hc fl_X7_7 dX7_back_65 e1.1 e1.2 v1_1 ?_
  refine ok_bipush (pc := 68) hc (v := i3 48) dX7_back_68 (by decide) ?_
  obtain ⟨r, P⟩ := P
  refine zk_iald (pc := 70) hc dX7_back_70 e3.1 e3.2 r ?_
  exact ok_iret (st := []) (pc := 71) hc hr dX7_back_71 P

def spec_X7_back (args : List Value) (n : Nat) (h : HP) (K : KT) : Prop := ∃ (q : Dsk) (t x : Int), args = [.ref 128, .int (i3 x)] ∧ R3 x ∧ MdA h n q t ∧ ∀ h', MdA h' n (opBack q x).1 (cdL [eIO, eIS] (opBack q x).2) → Fr h h' 128 138 → K (.inl (some (.int (i3 (rvI (opBack q x).2))))) n h'
theorem sp_X7_back : Sp yX7_back cX7_back 2 (some .int) 2 46 0 0 spec_X7_back := by
  refine sp_intro (by decide) (by rintro args n h K ⟨q, t, x, rfl, -⟩; exact Nat.le_of_ble_eq_true rfl) ?_
  rintro X args n h K hc hr ⟨q, t, x, rfl, hx, ⟨I, F, hM0, hF, -, hGq, hOq⟩, kk⟩
  unfold opBack at kk
  have ret : ∀ tt : Int, MdA (va_up h 128 (.inl (7, mf (va_up I 0 tt)))) n q tt := fun tt => ⟨va_up I 0 tt, F, hM0.uo _, hF.thr tt, up_self, hGq, hOq⟩
  have h5 := hF.2.2.1.1
  refine sX7_back_0 hc hr hM0.o rfl rfl ⟨⟨hx, R3_0, ⟨by decide, by decide⟩⟩, fun c => ?_, fun c => ?_⟩
  · rw [if_pos (by omega)] at kk
    obtain ⟨j, rfl⟩ : ∃ j : Nat, x = j := ⟨x.toNat, by omega⟩
    have ej : (j : Int).toNat = j := by omega
    rw [ej] at kk
    have hk3 := hGq.2.2.2
    obtain ⟨m, hm⟩ : ∃ m : Nat, q.2.2.2.1 = m := ⟨q.2.2.2.1.toNat, by omega⟩
    have hbb : band (bshr (I 5) j) 1 = bcon q.2.2.2.1 j := by
      rw [h5, hm]
      exact back_bit m (by omega) j (by omega)
    rw [hbb]
    have h01 := bcon01 q.2.2.2.1 j
    refine ⟨R3_s (by omega), fun z => ?_, fun z => ?_⟩
    · rw [if_pos (by omega), cd_2 _ ne_OS] at kk
      exact kk _ (ret 2) (Fr.rf.up (by omega))
    · rw [if_neg (by omega)] at kk
      have hZj := hF.2.2.1.2 j (by omega) (by omega)
      refine ⟨va_up I 0 0, F, q.1, q.2.1, rfl, hM0.uo (va_up I 0 0), hF.1, hF.2.1.1, hF.2.1.2, fun h1 H hM1 hH f1 => ⟨rfl, ?_⟩⟩
      refine sX7_back_47 hc hr hM1.o rfl rfl rfl ⟨128, 132, 129, 104, 52, 52 * j, 0, F 4, F 1, rfl, hM1.im, hM1.z, by decide, by omega, ⟨rfl, ?_⟩⟩
      have hM2 := hM1.ua (j := 1) (by omega) (cpF (F 4) (F 1) (52 * j) 0 52)
      have hZ2 : ZSt (cpF (F 4) (F 1) (52 * j) 0 52) (q.2.2.1 j) := hZj.eq fun k hk => by
        show (if _ then _ else _) = _
        rw [if_pos (by omega), Nat.sub_zero]
      refine sX7_back_64 hc hr hM2.o rfl rfl hM2.z ⟨⟨by decide, by decide, by decide⟩, ?_⟩
      have r3 : (va_up (va_up F 3 H) 1 (cpF (F 4) (F 1) (52 * j) 0 52)) 1 (48 : Int).toNat = (q.2.2.1 j).1.length := hZ2.1.1
      rw [r3]
      refine kk _ ?_ (((Fr.rf.up (by omega)).tr f1).up (by omega))
      exact rec_set (t := 0) hF rfl (fun y hy => by rcases hy with e | e | e <;> subst e <;> rfl) hH hM2 (by rw [up_self]; exact hZ2) (fun _ _ _ _ _ => rfl) (fun y hy => up_ne (by omega)) hGq hOq (hGq.2.2.1 j (by omega)) (hOq.2.2 j (by omega))
  · rw [if_neg (by omega), cd_1] at kk
    exact kk _ (ret 1) (Fr.rf.up (by omega))
set_option maxHeartbeats 4000000 in
set_option maxRecDepth 100000 in
theorem sX7_append_0 {X : Xt} {n : Nat} {h : HP} {a0 : Nat} {x1 : Int} {fs1 : List Value} {iv2 : Int} {q4 : Nat} {len5 : Nat} {f5 : Nat → Int} (hc : Cx X cX7_append RX7 2 1 22) {K : KT} (hr : CxR X (some .int) K) (e1 : At h n a0 (.inl (7, fs1))) (z1 : fs1.length = 24) (v1_7 : fs1[7]? = some (.int (i3 iv2))) (v1_8 : fs1[8]? = some (.ref q4)) (e5 : At h n q4 (ai len5 f5))
    (P : (R3 x1 ∧ R3 32 ∧ R3 126) ∧ ((32 ≤ x1 ∧ x1 ≤ 126) → (R3 iv2) ∧ (¬ iv2 = 60 → (Ix iv2 len5) ∧ K (.inl (some (.int (i3 (iv2 + 1))))) n (va_up (va_up (va_up h a0 (.inl (7, (fs1.set 0 (.int (i3 0)))))) q4 (ai len5 (va_up f5 (iv2 : Int).toNat x1))) a0 (.inl (7, ((fs1.set 0 (.int (i3 0))).set 7 (.int (i3 (iv2 + 1)))))))) ∧ (iv2 = 60 → K (.inl (some (.int (i3 0)))) n (va_up h a0 (.inl (7, (fs1.set 0 (.int (i3 2)))))))) ∧ (¬ (32 ≤ x1 ∧ x1 ≤ 126) → K (.inl (some (.int (i3 0)))) n (va_up h a0 (.inl (7, (fs1.set 0 (.int (i3 1)))))))) :
    Ok X 0 0 0 [(0, .ref a0), (1, .int (i3 x1))] [] n h := by
  refine ok_aload_n (pc := 0) hc dX7_append_0 rfl 0 rfl ?_
  refine ok_iload_n (pc := 1) hc dX7_append_1 rfl 1 rfl ?_
  refine ok_bipush (pc := 2) hc (v := i3 32) dX7_append_2 (by decide) ?_
  refine ok_bipush (pc := 4) hc (v := i3 126) dX7_append_4 (by decide) ?_
  obtain ⟨r0, P⟩ := P
  refine ok_callS (pc := 6) (cb := 0) (sb := 0) (st := [.ref a0]) hc [.int (i3 x1), .int (i3 32), .int (i3 126)] cs_X7_45 sp_X7_within (by decide) dX7_append_6 rfl rfl rfl rfl (Nat.le_of_ble_eq_true rfl) (⟨_, _, _, rfl, r0, rfl, ?_⟩)
  show Ok X 0 0 (6 + 3) [(0, .ref a0), (1, .int (i3 x1))] [.int (i3 (inZ x1 32 126)), .ref a0] n h
  refine zk_if_ne (pc := 9) (tgt := 16) hc dX7_append_9 (by decide) R3_inZ (fun c => ?_) (fun c => ?_)
  · have P := P.1 (inZ_1.mp c)
    refine ok_aload_n (pc := 16) hc dX7_append_16 rfl 0 rfl ?_
    refine ok_get (pc := 17) hc fl_X7_166 dX7_append_17 e1.1 e1.2 v1_7 ?_
    refine ok_bipush (pc := 20) hc (v := i3 60) dX7_append_20 (by decide) ?_
    obtain ⟨r3, P⟩ := P
    refine zk_icmp_ne (pc := 22) (tgt := 29) hc dX7_append_22 (by decide) r3 ⟨by decide, by decide⟩ (fun c => ?_) (fun c => ?_)
    · have P := P.1 c
      refine ok_iconst (pc := 29) hc (v := i3 0) dX7_append_29 (by decide) ?_
      refine ok_put (pc := 30) hc fl_X7_41 dX7_append_30 e1.1 e1.2 (by simp [List.length_set, z1]) (fun _ => rfl) (fun _ => rfl) ?_
      refine ok_aload_n (pc := 33) hc dX7_append_33 rfl 0 rfl ?_
      refine ok_get (pc := 34) hc fl_X7_41 dX7_append_34 e1.1 up_self (set_self (by simp [List.length_set, z1])) ?_
      refine zk_if_le (pc := 37) (tgt := 42) hc dX7_append_37 (by decide) ⟨by decide, by decide⟩ (fun _ => ?_) (fun c => absurd c (by decide))
      refine ok_aload_n (pc := 42) hc dX7_append_42 rfl 0 rfl ?_
      refine ok_get (pc := 43) hc fl_X7_22 dX7_append_43 e1.1 up_self ((set_ne (by decide)).trans v1_8) ?_
      refine ok_aload_n (pc := 46) hc dX7_append_46 rfl 0 rfl ?_
      refine ok_get (pc := 47) hc fl_X7_166 dX7_append_47 e1.1 up_self ((set_ne (by decide)).trans v1_7) ?_
      refine ok_iload_n (pc := 50) hc dX7_append_50 rfl 1 rfl ?_
      obtain ⟨r, P⟩ := P
      refine zk_iast (pc := 51) hc dX7_append_51 e5.1 ((up_ne (ne_oa e1.2 e5.2).symm).trans e5.2) r ?_
      refine ok_aload_n (pc := 52) hc dX7_append_52 rfl 0 rfl ?_
      refine ok_dup (pc := 53) hc dX7_append_53 rfl ?_
      refine ok_get (pc := 54) hc fl_X7_166 dX7_append_54 e1.1 ((up_ne (ne_oa e1.2 e5.2)).trans up_self) ((set_ne (by decide)).trans v1_7) ?_
      refine ok_iconst (pc := 57) hc (v := i3 1) dX7_append_57 (by decide) ?_
      refine zk_iadd (pc := 58) hc dX7_append_58 ?_
      refine ok_put (pc := 59) hc fl_X7_166 dX7_append_59 e1.1 ((up_ne (ne_oa e1.2 e5.2)).trans up_self) (by simp [List.length_set, z1]) (fun _ => rfl) (fun _ => rfl) ?_
      refine ok_aload_n (pc := 62) hc dX7_append_62 rfl 0 rfl ?_
      refine ok_get (pc := 63) hc fl_X7_166 dX7_append_63 e1.1 up_self (set_self (by simp [List.length_set, z1])) ?_
      exact ok_iret (st := []) (pc := 66) hc hr dX7_append_66 P
    · have P := P.2 c
      refine ok_iconst (pc := 25) hc (v := i3 2) dX7_append_25 (by decide) ?_
      refine ok_goto (pc := 26) (tgt := 30) hc dX7_append_26 (by decide) ?_
      refine ok_put (pc := 30) hc fl_X7_41 dX7_append_30 e1.1 e1.2 (by simp [List.length_set, z1]) (fun _ => rfl) (fun _ => rfl) ?_
      refine ok_aload_n (pc := 33) hc dX7_append_33 rfl 0 rfl ?_
      refine ok_get (pc := 34) hc fl_X7_41 dX7_append_34 e1.1 up_self (set_self (by simp [List.length_set, z1])) ?_
      refine zk_if_le (pc := 37) (tgt := 42) hc dX7_append_37 (by decide) ⟨by decide, by decide⟩ (fun c => absurd c (by decide)) (fun _ => ?_)
      refine ok_iconst (pc := 40) hc (v := i3 0) dX7_append_40 (by decide) ?_
      exact ok_iret (st := []) (pc := 41) hc hr dX7_append_41 P
  · have P := P.2 (inZ_0.mp c)
    refine ok_iconst (pc := 12) hc (v := i3 1) dX7_append_12 (by decide) ?_
    refine ok_goto (pc := 13) (tgt := 30) hc dX7_append_13 (by decide) ?_
    refine ok_put (pc := 30) hc fl_X7_41 dX7_append_30 e1.1 e1.2 (by simp [List.length_set, z1]) (fun _ => rfl) (fun _ => rfl) ?_
    refine ok_aload_n (pc := 33) hc dX7_append_33 rfl 0 rfl ?_
    refine ok_get (pc := 34) hc fl_X7_41 dX7_append_34 e1.1 up_self (set_self (by simp [List.length_set, z1])) ?_
    refine zk_if_le (pc := 37) (tgt := 42) hc dX7_append_37 (by decide) ⟨by decide, by decide⟩ (fun c => absurd c (by decide)) (fun _ => ?_)
    refine ok_iconst (pc := 40) hc (v := i3 0) dX7_append_40 (by decide) ?_
    exact ok_iret (st := []) (pc := 41) hc hr dX7_append_41 P

def spec_X7_append (args : List Value) (n : Nat) (h : HP) (K : KT) : Prop := ∃ (q : Dsk) (t x : Int), args = [.ref 128, .int (i3 x)] ∧ R3 x ∧ MdA h n q t ∧ ∀ h', MdA h' n (opAppend q x).1 (cdL [eIA, eIS] (opAppend q x).2) → Fr h h' 128 138 → K (.inl (some (.int (i3 (rvI (opAppend q x).2))))) n h'
theorem sp_X7_append : Sp yX7_append cX7_append 2 (some .int) 1 22 0 0 spec_X7_append := by
  refine sp_intro (by decide) (by rintro args n h K ⟨q, t, x, rfl, -⟩; exact Nat.le_of_ble_eq_true rfl) ?_
  rintro X args n h K hc hr ⟨q, t, x, rfl, hx, ⟨I, F, hM0, hF, -, hGq, hOq⟩, kk⟩
  unfold opAppend at kk
  have h7 := hF.2.2.2.2
  have hB := hF.2.2.2.1
  have hB60 := hB.1
  have ret : ∀ tt : Int, MdA (va_up h 128 (.inl (7, mf (va_up I 0 tt)))) n q tt := fun tt => ⟨va_up I 0 tt, F, hM0.uo _, hF.thr tt, up_self, hGq, hOq⟩
  refine sX7_append_0 hc hr hM0.o rfl rfl rfl hM0.b ⟨⟨hx, ⟨by decide, by decide⟩, ⟨by decide, by decide⟩⟩, fun c => ⟨by rw [h7]; exact R3_s (by omega), fun z => ?_, fun z => ?_⟩, fun c => ?_⟩
  · rw [if_neg (by omega), if_pos (by omega)] at kk
    have e7 : (I 7).toNat = q.2.2.2.2.length := by omega
    rw [e7]
    have hM1 := ((hM0.uo (va_up I 0 0)).ua (j := 5) (by omega) (va_up (F 5) q.2.2.2.2.length x)).uo (va_up (va_up I 0 0) 7 (I 7 + 1))
    rw [show (I 7 + 1) = (q.2.2.2.2.length : Int) + 1 by omega] at hM1 ⊢
    refine ⟨⟨by omega, by omega, by omega⟩, kk _ ⟨_, _, hM1, ⟨hF.1, hF.2.1, hF.2.2.1, ⟨?_, fun i hi => ?_⟩, ?_⟩, rfl, hGq, hOq⟩ (((Fr.rf.up (by omega)).up (by omega)).up (by omega))⟩
    · show (q.2.2.2.2 ++ [x]).length ≤ 60
      rw [List.length_append, List.length_singleton]
      omega
    · have hi' : i < (q.2.2.2.2 ++ [x]).length := hi
      rw [List.length_append, List.length_singleton] at hi'
      show (q.2.2.2.2 ++ [x])[i]? = some (va_up (F 5) q.2.2.2.2.length x i) ∧ 32 ≤ va_up (F 5) q.2.2.2.2.length x i ∧ va_up (F 5) q.2.2.2.2.length x i ≤ 126
      by_cases e : i = q.2.2.2.2.length
      · subst e
        rw [up_self, List.getElem?_append, if_neg (by omega), Nat.sub_self]
        exact ⟨rfl, c⟩
      · rw [up_ne e, List.getElem?_append, if_pos (by omega)]
        exact hB.2 i (by omega)
    · show va_up _ 7 _ 7 = (((q.2.2.2.2 ++ [x]).length : Nat) : Int)
      rw [up_self, List.length_append]
      rfl
  · rw [if_neg (by omega), if_neg (by omega), cd_2 _ ne_AS] at kk
    exact kk _ (ret 2) (Fr.rf.up (by omega))
  · rw [if_pos (by omega), cd_1] at kk
    exact kk _ (ret 1) (Fr.rf.up (by omega))
set_option maxHeartbeats 4000000 in
set_option maxRecDepth 100000 in
theorem sX7_clearInput_0 {X : Xt} {n : Nat} {h : HP} {a0 : Nat} {fs1 : List Value} {iv2 : Int} (hc : Cx X cX7_clearInput RX7 2 0 0) {K : KT} (hr : CxR X (some .int) K) (e1 : At h n a0 (.inl (7, fs1))) (z1 : fs1.length = 24) (v1_7 : fs1[7]? = some (.int (i3 iv2)))
    (P : K (.inl (some (.int (i3 iv2)))) n (va_up (va_up h a0 (.inl (7, (fs1.set 0 (.int (i3 0)))))) a0 (.inl (7, ((fs1.set 0 (.int (i3 0))).set 7 (.int (i3 0))))))) :
    Ok X 0 0 0 [(0, .ref a0)] [] n h := by
  refine ok_aload_n (pc := 0) hc dX7_clearInput_0 rfl 0 rfl ?_
  refine ok_iconst (pc := 1) hc (v := i3 0) dX7_clearInput_1 (by decide) ?_
  refine ok_put (pc := 2) hc fl_X7_41 dX7_clearInput_2 e1.1 e1.2 (by simp [List.length_set, z1]) (fun _ => rfl) (fun _ => rfl) ?_
  refine ok_aload_n (pc := 5) hc dX7_clearInput_5 rfl 0 rfl ?_
  refine ok_get (pc := 6) hc fl_X7_166 dX7_clearInput_6 e1.1 up_self ((set_ne (by decide)).trans v1_7) ?_
  refine ok_istore_n (pc := 9) hc (lv' := [(1, .int (i3 iv2)), (0, .ref a0)]) dX7_clearInput_9 rfl (by decide) rfl ?_
  refine ok_aload_n (pc := 10) hc dX7_clearInput_10 rfl 1 rfl ?_
  refine ok_iconst (pc := 11) hc (v := i3 0) dX7_clearInput_11 (by decide) ?_
  refine ok_put (pc := 12) hc fl_X7_166 dX7_clearInput_12 e1.1 up_self (by simp [List.length_set, z1]) (fun _ => rfl) (fun _ => rfl) ?_
  refine ok_iload_n (pc := 15) hc dX7_clearInput_15 rfl 0 rfl ?_
  exact ok_iret (st := []) (pc := 16) hc hr dX7_clearInput_16 P

def spec_X7_clearInput (args : List Value) (n : Nat) (h : HP) (K : KT) : Prop := ∃ (q : Dsk) (t : Int), args = [.ref 128] ∧ MdA h n q t ∧ ∀ h', MdA h' n (opClear q) 0 → Fr h h' 128 138 → K (.inl (some (.int (i3 q.2.2.2.2.length)))) n h'
theorem sp_X7_clearInput : Sp yX7_clearInput cX7_clearInput 2 (some .int) 0 0 0 0 spec_X7_clearInput := by
  refine sp_intro (by decide) (by rintro args n h K ⟨q, t, rfl, -⟩; exact Nat.le_of_ble_eq_true rfl) ?_
  rintro X args n h K hc hr ⟨q, t, rfl, ⟨I, F, hM0, hF, -, hGq, hOq⟩, kk⟩
  have h7 := hF.2.2.2.2
  have hM1 := (hM0.uo (va_up I 0 0)).uo (va_up (va_up I 0 0) 7 0)
  refine sX7_clearInput_0 hc hr hM0.o rfl rfl ?_
  rw [h7]
  exact kk _ ⟨_, _, hM1, ⟨hF.1, hF.2.1, hF.2.2.1, ⟨Nat.zero_le _, fun i hi => absurd hi (Nat.not_lt_zero i)⟩, rfl⟩, rfl, hGq, hOq⟩ ((Fr.rf.up (by omega)).up (by omega))
