/-! part 88: the reference: load -/
set_option maxHeartbeats 4000000 in
set_option maxRecDepth 100000 in
theorem sX7_load_0 {X : Xt} {n : Nat} {h : HP} {a0 : Nat} {fs1 : List Value} (hc : Cx X cX7_load RX7 4 11 256) {K : KT} (hr : CxR X (some .int) K) (e1 : At h n a0 (.inl (7, fs1))) (z1 : fs1.length = 24)
    (P : spec_X7_rightLength [.ref a0] n h (kc X 0 0 1 [(0, .ref a0)] [] n)) :
    Ok X 0 0 0 [(0, .ref a0)] [] n h := by
  refine ok_aload_n (pc := 0) hc dX7_load_0 rfl 0 rfl ?_
  exact ok_callV (pc := 1) (a := a0) (cb := 0) (sb := 0) (st := []) hc [] cv_X7_207 sp_X7_rightLength (by decide) dX7_load_1 rfl e1.1 e1.2 rfl rfl rfl (Nat.le_of_ble_eq_true rfl) P

set_option maxHeartbeats 4000000 in
set_option maxRecDepth 100000 in
theorem sX7_load_4 {X : Xt} {n : Nat} {h : HP} {a0 : Nat} {t0 : Int} {fs1 : List Value} {iv2 : Int} {iv5 : Int} {iv6 : Int} (hc : Cx X cX7_load RX7 4 11 256) {K : KT} (hr : CxR X (some .int) K) (e1 : At h n a0 (.inl (7, fs1))) (z1 : fs1.length = 24) (v1_7 : fs1[7]? = some (.int (i3 iv2))) (v1_17 : fs1[17]? = some (.int (i3 iv5))) (v1_19 : fs1[19]? = some (.int (i3 iv6)))
    (P : (R3 t0) ∧ (R3 iv2) ∧ (¬ t0 = iv2 → Ok X 0 0 44 [(0, .ref a0), (1, .int (i3 0)), (2, .int (i3 0))] [] n (va_up h a0 (.inl (7, (fs1.set 17 (.int (i3 (iv5 + 0)))))))) ∧ (t0 = iv2 → (R3 iv6) ∧ ((decide (iv6 = 7 ∨ iv6 = 8)) = false → Ok X 0 0 44 [(0, .ref a0), (1, .int (i3 0)), (2, .int (i3 0))] [] n (va_up h a0 (.inl (7, (fs1.set 17 (.int (i3 (iv5 + 0)))))))) ∧ ((decide (iv6 = 7 ∨ iv6 = 8)) = true → Ok X 0 0 44 [(0, .ref a0), (1, .int (i3 1)), (2, .int (i3 0))] [] n (va_up h a0 (.inl (7, (fs1.set 17 (.int (i3 (iv5 + 1)))))))))) :
    Ok X 0 0 4 [(0, .ref a0)] [.int (i3 t0)] n h := by
  refine ok_aload_n (pc := 4) hc dX7_load_4 rfl 0 rfl ?_
  refine ok_get (pc := 5) hc fl_X7_166 dX7_load_5 e1.1 e1.2 v1_7 ?_
  obtain ⟨r3, P⟩ := P
  obtain ⟨r4, P⟩ := P
  refine zk_icmp_ne (pc := 8) (tgt := 22) hc dX7_load_8 (by decide) r3 r4 (fun c => ?_) (fun c => ?_)
  · have P := P.1 c
    refine ok_iconst (pc := 22) hc (v := i3 0) dX7_load_22 (by decide) ?_
    refine ok_istore_n (pc := 23) hc (lv' := [(1, .int (i3 0)), (0, .ref a0)]) dX7_load_23 rfl (by decide) rfl ?_
    refine ok_aload_n (pc := 24) hc dX7_load_24 rfl 1 rfl ?_
    refine ok_dup (pc := 25) hc dX7_load_25 rfl ?_
    refine ok_get (pc := 26) hc fl_X7_169 dX7_load_26 e1.1 e1.2 v1_17 ?_
    refine ok_iload_n (pc := 29) hc dX7_load_29 rfl 0 rfl ?_
    refine zk_if_eq (pc := 30) (tgt := 37) hc dX7_load_30 (by decide) ⟨by decide, by decide⟩ (fun _ => ?_) (fun c => absurd c (by decide))
    refine ok_iconst (pc := 37) hc (v := i3 0) dX7_load_37 (by decide) ?_
    refine zk_iadd (pc := 38) hc dX7_load_38 ?_
    refine ok_put (pc := 39) hc fl_X7_169 dX7_load_39 e1.1 e1.2 (by simp [List.length_set, z1]) (fun _ => rfl) (fun _ => rfl) ?_
    refine ok_iconst (pc := 42) hc (v := i3 0) dX7_load_42 (by decide) ?_
    refine ok_istore_n (pc := 43) hc (lv' := [(2, .int (i3 0)), (1, .int (i3 0)), (0, .ref a0)]) dX7_load_43 rfl (by decide) rfl ?_
    refine ok_lv [2, 1, 0] rfl ?_
    exact P
  · have P := P.2 c
    refine ok_aload_n (pc := 11) hc dX7_load_11 rfl 0 rfl ?_
    obtain ⟨r0, P⟩ := P
    refine ok_callV (pc := 12) (a := a0) (cb := 0) (sb := 0) (st := []) hc [] cv_X7_188 sp_X7_isOver (by decide) dX7_load_12 rfl e1.1 e1.2 rfl rfl rfl (Nat.le_of_ble_eq_true rfl) (⟨_, _, _, rfl, ⟨e1.1, e1.2⟩, z1, v1_19, r0, rfl, ?_⟩)
    show Ok X 0 0 (12 + 3) [(0, .ref a0)] [.int (i3 (bz (decide (iv6 = 7 ∨ iv6 = 8))))] n h
    refine zk_if_eq (pc := 15) (tgt := 22) hc dX7_load_15 (by decide) R3_bz (fun c => ?_) (fun c => ?_)
    · have P := P.1 (bz_0.mp c)
      refine ok_iconst (pc := 22) hc (v := i3 0) dX7_load_22 (by decide) ?_
      refine ok_istore_n (pc := 23) hc (lv' := [(1, .int (i3 0)), (0, .ref a0)]) dX7_load_23 rfl (by decide) rfl ?_
      refine ok_aload_n (pc := 24) hc dX7_load_24 rfl 1 rfl ?_
      refine ok_dup (pc := 25) hc dX7_load_25 rfl ?_
      refine ok_get (pc := 26) hc fl_X7_169 dX7_load_26 e1.1 e1.2 v1_17 ?_
      refine ok_iload_n (pc := 29) hc dX7_load_29 rfl 0 rfl ?_
      refine zk_if_eq (pc := 30) (tgt := 37) hc dX7_load_30 (by decide) ⟨by decide, by decide⟩ (fun _ => ?_) (fun c => absurd c (by decide))
      refine ok_iconst (pc := 37) hc (v := i3 0) dX7_load_37 (by decide) ?_
      refine zk_iadd (pc := 38) hc dX7_load_38 ?_
      refine ok_put (pc := 39) hc fl_X7_169 dX7_load_39 e1.1 e1.2 (by simp [List.length_set, z1]) (fun _ => rfl) (fun _ => rfl) ?_
      refine ok_iconst (pc := 42) hc (v := i3 0) dX7_load_42 (by decide) ?_
      refine ok_istore_n (pc := 43) hc (lv' := [(2, .int (i3 0)), (1, .int (i3 0)), (0, .ref a0)]) dX7_load_43 rfl (by decide) rfl ?_
      refine ok_lv [2, 1, 0] rfl ?_
      exact P
    · have P := P.2 (bz_1.mp c)
      refine ok_iconst (pc := 18) hc (v := i3 1) dX7_load_18 (by decide) ?_
      refine ok_goto (pc := 19) (tgt := 23) hc dX7_load_19 (by decide) ?_
      refine ok_istore_n (pc := 23) hc (lv' := [(1, .int (i3 1)), (0, .ref a0)]) dX7_load_23 rfl (by decide) rfl ?_
      refine ok_aload_n (pc := 24) hc dX7_load_24 rfl 1 rfl ?_
      refine ok_dup (pc := 25) hc dX7_load_25 rfl ?_
      refine ok_get (pc := 26) hc fl_X7_169 dX7_load_26 e1.1 e1.2 v1_17 ?_
      refine ok_iload_n (pc := 29) hc dX7_load_29 rfl 0 rfl ?_
      refine zk_if_eq (pc := 30) (tgt := 37) hc dX7_load_30 (by decide) ⟨by decide, by decide⟩ (fun c => absurd c (by decide)) (fun _ => ?_)
      refine ok_iconst (pc := 33) hc (v := i3 1) dX7_load_33 (by decide) ?_
      refine ok_goto (pc := 34) (tgt := 38) hc dX7_load_34 (by decide) ?_
      refine zk_iadd (pc := 38) hc dX7_load_38 ?_
      refine ok_put (pc := 39) hc fl_X7_169 dX7_load_39 e1.1 e1.2 (by simp [List.length_set, z1]) (fun _ => rfl) (fun _ => rfl) ?_
      refine ok_iconst (pc := 42) hc (v := i3 0) dX7_load_42 (by decide) ?_
      refine ok_istore_n (pc := 43) hc (lv' := [(2, .int (i3 0)), (1, .int (i3 1)), (0, .ref a0)]) dX7_load_43 rfl (by decide) rfl ?_
      refine ok_lv [2, 1, 0] rfl ?_
      exact P

set_option maxHeartbeats 4000000 in
set_option maxRecDepth 100000 in
theorem sX7_load_44 {X : Xt} {n : Nat} {h : HP} {a0 : Nat} {x1 : Int} {x2 : Int} {fs1 : List Value} {iv2 : Int} (hc : Cx X cX7_load RX7 4 11 256) {K : KT} (hr : CxR X (some .int) K) (e1 : At h n a0 (.inl (7, fs1))) (z1 : fs1.length = 24) (v1_17 : fs1[17]? = some (.int (i3 iv2)))
    (P : (R3 x2) ∧ (R3 iv2) ∧ (iv2 ≤ x2 → Ok X 0 0 68 [(0, .ref a0), (1, .int (i3 x1)), (2, .int (i3 x2))] [] n h) ∧ (¬ iv2 ≤ x2 → (R3 x1) ∧ (x1 = 0 → Ok X 0 0 68 [(0, .ref a0), (1, .int (i3 x1)), (2, .int (i3 x2))] [] n h) ∧ (¬ x1 = 0 → spec_X7_canBe [.ref a0, .int (i3 x2)] n h (kc X 0 0 58 [(0, .ref a0), (1, .int (i3 x1)), (2, .int (i3 x2))] [] n)))) :
    Ok X 0 0 44 [(0, .ref a0), (1, .int (i3 x1)), (2, .int (i3 x2))] [] n h := by
  refine ok_iload_n (pc := 44) hc dX7_load_44 rfl 2 rfl ?_
  refine ok_aload_n (pc := 45) hc dX7_load_45 rfl 0 rfl ?_
  refine ok_get (pc := 46) hc fl_X7_169 dX7_load_46 e1.1 e1.2 v1_17 ?_
  obtain ⟨r3, P⟩ := P
  obtain ⟨r4, P⟩ := P
  refine zk_icmp_ge (pc := 49) (tgt := 68) hc dX7_load_49 (by decide) r3 r4 (fun c => ?_) (fun c => ?_)
  · have P := P.1 c
    exact P
  · have P := P.2 c
    refine ok_iload_n (pc := 52) hc dX7_load_52 rfl 1 rfl ?_
    obtain ⟨r5, P⟩ := P
    refine zk_if_eq (pc := 53) (tgt := 68) hc dX7_load_53 (by decide) r5 (fun c => ?_) (fun c => ?_)
    · have P := P.1 c
      exact P
    · have P := P.2 c
      refine ok_aload_n (pc := 56) hc dX7_load_56 rfl 0 rfl ?_
      refine ok_iload_n (pc := 57) hc dX7_load_57 rfl 2 rfl ?_
      exact ok_callV (pc := 58) (a := a0) (cb := 0) (sb := 0) (st := []) hc [.int (i3 x2)] cv_X7_210 sp_X7_canBe (by decide) dX7_load_58 rfl e1.1 e1.2 rfl rfl rfl (Nat.le_of_ble_eq_true rfl) P

set_option maxHeartbeats 4000000 in
set_option maxRecDepth 100000 in
theorem sX7_load_61 {X : Xt} {n : Nat} {h : HP} {a0 : Nat} {x1 : Int} {x2 : Int} {t0 : Int} (hc : Cx X cX7_load RX7 4 11 256) {K : KT} (hr : CxR X (some .int) K) 
    (P : Ok X 0 0 44 [(0, .ref a0), (1, .int (i3 t0)), (2, .int (i3 (x2 + 1)))] [] n h) :
    Ok X 0 0 61 [(0, .ref a0), (1, .int (i3 x1)), (2, .int (i3 x2))] [.int (i3 t0)] n h := by
  refine ok_istore_n (pc := 61) hc (lv' := [(1, .int (i3 t0)), (0, .ref a0), (2, .int (i3 x2))]) dX7_load_61 rfl (by decide) rfl ?_
  refine zk_iinc (pc := 62) hc (q := 2) (x := x2) (lv' := [(2, .int (i3 (x2 + 1))), (1, .int (i3 t0)), (0, .ref a0)]) dX7_load_62 rfl (by decide) rfl ?_
  refine ok_goto (pc := 65) (tgt := 44) hc dX7_load_65 (by decide) ?_
  refine ok_lv [2, 1, 0] rfl ?_
  exact P

set_option maxHeartbeats 4000000 in
set_option maxRecDepth 100000 in
theorem sX7_load_68 {X : Xt} {n : Nat} {h : HP} {a0 : Nat} {x1 : Int} {x2 : Int} {fs2 : List Value} {q3 : Nat} {q4 : Nat} (hc : Cx X cX7_load RX7 4 11 256) {K : KT} (hr : CxR X (some .int) K) (e2 : At h n a0 (.inl (7, fs2))) (z2 : fs2.length = 24) (v2_1 : fs2[1]? = some (.ref q3)) (v2_2 : fs2[2]? = some (.ref q4))
    (P : (R3 x1) ∧ (¬ x1 = 0 → spec_X7_copy [.ref a0, .ref q3, .int (i3 0), .ref q4, .int (i3 0)] n h (kc X 0 0 90 [(0, .ref a0), (1, .int (i3 x1)), (2, .int (i3 x2))] [] n)) ∧ (x1 = 0 → K (.inl (some (.int (i3 0)))) n (va_up h a0 (.inl (7, (fs2.set 0 (.int (i3 1)))))))) :
    Ok X 0 0 68 [(0, .ref a0), (1, .int (i3 x1)), (2, .int (i3 x2))] [] n h := by
  refine ok_iload_n (pc := 68) hc dX7_load_68 rfl 1 rfl ?_
  obtain ⟨r1, P⟩ := P
  refine zk_if_ne (pc := 69) (tgt := 79) hc dX7_load_69 (by decide) r1 (fun c => ?_) (fun c => ?_)
  · have P := P.1 c
    refine ok_aload_n (pc := 79) hc dX7_load_79 rfl 0 rfl ?_
    refine ok_aload_n (pc := 80) hc dX7_load_80 rfl 0 rfl ?_
    refine ok_get (pc := 81) hc fl_X7_7 dX7_load_81 e2.1 e2.2 v2_1 ?_
    refine ok_iconst (pc := 84) hc (v := i3 0) dX7_load_84 (by decide) ?_
    refine ok_aload_n (pc := 85) hc dX7_load_85 rfl 0 rfl ?_
    refine ok_get (pc := 86) hc fl_X7_13 dX7_load_86 e2.1 e2.2 v2_2 ?_
    refine ok_iconst (pc := 89) hc (v := i3 0) dX7_load_89 (by decide) ?_
    exact ok_callV (pc := 90) (a := a0) (cb := 0) (sb := 0) (st := []) hc [.ref q3, .int (i3 0), .ref q4, .int (i3 0)] cv_X7_56 sp_X7_copy (by decide) dX7_load_90 rfl e2.1 e2.2 rfl rfl rfl (Nat.le_of_ble_eq_true rfl) P
  · have P := P.2 c
    refine ok_aload_n (pc := 72) hc dX7_load_72 rfl 0 rfl ?_
    refine ok_iconst (pc := 73) hc (v := i3 1) dX7_load_73 (by decide) ?_
    refine ok_put (pc := 74) hc fl_X7_41 dX7_load_74 e2.1 e2.2 (by simp [List.length_set, z2]) (fun _ => rfl) (fun _ => rfl) ?_
    refine ok_iconst (pc := 77) hc (v := i3 0) dX7_load_77 (by decide) ?_
    exact ok_iret (st := []) (pc := 78) hc hr dX7_load_78 P

set_option maxHeartbeats 4000000 in
set_option maxRecDepth 100000 in
theorem sX7_load_93 {X : Xt} {n : Nat} {h : HP} {a0 : Nat} {x1 : Int} {x2 : Int} {fs1 : List Value} (hc : Cx X cX7_load RX7 4 11 256) {K : KT} (hr : CxR X (some .int) K) (e1 : At h n a0 (.inl (7, fs1))) (z1 : fs1.length = 24)
    (P : spec_X7_fits [.ref a0] n h (kc X 0 0 94 [(0, .ref a0), (1, .int (i3 x1)), (2, .int (i3 x2))] [] n)) :
    Ok X 0 0 93 [(0, .ref a0), (1, .int (i3 x1)), (2, .int (i3 x2))] [] n h := by
  refine ok_aload_n (pc := 93) hc dX7_load_93 rfl 0 rfl ?_
  exact ok_callV (pc := 94) (a := a0) (cb := 0) (sb := 0) (st := []) hc [] cv_X7_213 sp_X7_fits (by decide) dX7_load_94 rfl e1.1 e1.2 rfl rfl rfl (Nat.le_of_ble_eq_true rfl) P

set_option maxHeartbeats 4000000 in
set_option maxRecDepth 100000 in
theorem sX7_load_97 {X : Xt} {n : Nat} {h : HP} {a0 : Nat} {x1 : Int} {x2 : Int} {t0 : Int} {fs2 : List Value} {q4 : Nat} {len5 : Nat} {f5 : Nat → Int} {q6 : Nat} {len7 : Nat} {f7 : Nat → Int} (hc : Cx X cX7_load RX7 4 11 256) {K : KT} (hr : CxR X (some .int) K) (e2 : At h n a0 (.inl (7, fs2))) (z2 : fs2.length = 24) (v2_1 : fs2[1]? = some (.ref q4)) (e5 : At h n q4 (ai len5 f5)) (v2_2 : fs2[2]? = some (.ref q6)) (e7 : At h n q6 (ai len7 f7))
    (P : (R3 t0) ∧ (t0 = 0 → (R3 t0) ∧ (¬ t0 = 0 → (Ix 48 len5) ∧ (Ix 48 len7) ∧ (Ix 48 len5) ∧ spec_X7_record [.ref a0] n (va_up (va_up h a0 (.inl (7, (fs2.set 0 (.int (i3 2)))))) q4 (ai len5 (va_up f5 (48 : Int).toNat (f7 (48 : Int).toNat)))) (kc X 0 0 154 [(0, .ref a0), (1, .int (i3 x1)), (2, .int (i3 t0)), (3, .int (i3 (f5 (48 : Int).toNat)))] [] n)) ∧ (t0 = 0 → spec_X7_copy [.ref a0, .ref q6, .int (i3 0), .ref q4, .int (i3 0)] n (va_up h a0 (.inl (7, (fs2.set 0 (.int (i3 2)))))) (kc X 0 0 126 [(0, .ref a0), (1, .int (i3 x1)), (2, .int (i3 t0))] [] n))) ∧ (¬ t0 = 0 → (R3 t0) ∧ (¬ t0 = 0 → (Ix 48 len5) ∧ (Ix 48 len7) ∧ (Ix 48 len5) ∧ spec_X7_record [.ref a0] n (va_up (va_up h a0 (.inl (7, (fs2.set 0 (.int (i3 0)))))) q4 (ai len5 (va_up f5 (48 : Int).toNat (f7 (48 : Int).toNat)))) (kc X 0 0 154 [(0, .ref a0), (1, .int (i3 x1)), (2, .int (i3 t0)), (3, .int (i3 (f5 (48 : Int).toNat)))] [] n)) ∧ (t0 = 0 → spec_X7_copy [.ref a0, .ref q6, .int (i3 0), .ref q4, .int (i3 0)] n (va_up h a0 (.inl (7, (fs2.set 0 (.int (i3 0)))))) (kc X 0 0 126 [(0, .ref a0), (1, .int (i3 x1)), (2, .int (i3 t0))] [] n)))) :
    Ok X 0 0 97 [(0, .ref a0), (1, .int (i3 x1)), (2, .int (i3 x2))] [.int (i3 t0)] n h := by
  refine ok_istore_n (pc := 97) hc (lv' := [(2, .int (i3 t0)), (0, .ref a0), (1, .int (i3 x1))]) dX7_load_97 rfl (by decide) rfl ?_
  refine ok_aload_n (pc := 98) hc dX7_load_98 rfl 1 rfl ?_
  refine ok_iload_n (pc := 99) hc dX7_load_99 rfl 0 rfl ?_
  obtain ⟨r1, P⟩ := P
  refine zk_if_eq (pc := 100) (tgt := 107) hc dX7_load_100 (by decide) r1 (fun c => ?_) (fun c => ?_)
  · have P := P.1 c
    refine ok_iconst (pc := 107) hc (v := i3 2) dX7_load_107 (by decide) ?_
    refine ok_put (pc := 108) hc fl_X7_41 dX7_load_108 e2.1 e2.2 (by simp [List.length_set, z2]) (fun _ => rfl) (fun _ => rfl) ?_
    refine ok_iload_n (pc := 111) hc dX7_load_111 rfl 0 rfl ?_
    obtain ⟨r3, P⟩ := P
    refine zk_if_ne (pc := 112) (tgt := 131) hc dX7_load_112 (by decide) r3 (fun c => ?_) (fun c => ?_)
    · have P := P.1 c
      refine ok_aload_n (pc := 131) hc dX7_load_131 rfl 1 rfl ?_
      refine ok_get (pc := 132) hc fl_X7_7 dX7_load_132 e2.1 up_self ((set_ne (by decide)).trans v2_1) ?_
      refine ok_bipush (pc := 135) hc (v := i3 48) dX7_load_135 (by decide) ?_
      obtain ⟨r, P⟩ := P
      refine zk_iald (pc := 137) hc dX7_load_137 e5.1 ((up_ne (ne_oa e2.2 e5.2).symm).trans e5.2) r ?_
      refine ok_istore_n (pc := 138) hc (lv' := [(3, .int (i3 (f5 (48 : Int).toNat))), (2, .int (i3 t0)), (0, .ref a0), (1, .int (i3 x1))]) dX7_load_138 rfl (by decide) rfl ?_
      refine ok_aload_n (pc := 139) hc dX7_load_139 rfl 2 rfl ?_
      refine ok_get (pc := 140) hc fl_X7_7 dX7_load_140 e2.1 up_self ((set_ne (by decide)).trans v2_1) ?_
      refine ok_bipush (pc := 143) hc (v := i3 48) dX7_load_143 (by decide) ?_
      refine ok_aload_n (pc := 145) hc dX7_load_145 rfl 2 rfl ?_
      refine ok_get (pc := 146) hc fl_X7_13 dX7_load_146 e2.1 up_self ((set_ne (by decide)).trans v2_2) ?_
      refine ok_bipush (pc := 149) hc (v := i3 48) dX7_load_149 (by decide) ?_
      obtain ⟨r, P⟩ := P
      refine zk_iald (pc := 151) hc dX7_load_151 e7.1 ((up_ne (ne_oa e2.2 e7.2).symm).trans e7.2) r ?_
      obtain ⟨r, P⟩ := P
      refine zk_iast (pc := 152) hc dX7_load_152 e5.1 ((up_ne (ne_oa e2.2 e5.2).symm).trans e5.2) r ?_
      refine ok_aload_n (pc := 153) hc dX7_load_153 rfl 2 rfl ?_
      refine ok_lv [2, 3, 1, 0] rfl ?_
      exact ok_callV (pc := 154) (a := a0) (cb := 0) (sb := 0) (st := []) hc [] cv_X7_147 sp_X7_record (by decide) dX7_load_154 rfl e2.1 ((up_ne (ne_oa e2.2 e5.2)).trans up_self) rfl rfl rfl (Nat.le_of_ble_eq_true rfl) P
    · have P := P.2 c
      refine ok_aload_n (pc := 115) hc dX7_load_115 rfl 1 rfl ?_
      refine ok_aload_n (pc := 116) hc dX7_load_116 rfl 1 rfl ?_
      refine ok_get (pc := 117) hc fl_X7_13 dX7_load_117 e2.1 up_self ((set_ne (by decide)).trans v2_2) ?_
      refine ok_iconst (pc := 120) hc (v := i3 0) dX7_load_120 (by decide) ?_
      refine ok_aload_n (pc := 121) hc dX7_load_121 rfl 1 rfl ?_
      refine ok_get (pc := 122) hc fl_X7_7 dX7_load_122 e2.1 up_self ((set_ne (by decide)).trans v2_1) ?_
      refine ok_iconst (pc := 125) hc (v := i3 0) dX7_load_125 (by decide) ?_
      refine ok_lv [1, 2, 0] rfl ?_
      exact ok_callV (pc := 126) (a := a0) (cb := 0) (sb := 0) (st := []) hc [.ref q6, .int (i3 0), .ref q4, .int (i3 0)] cv_X7_56 sp_X7_copy (by decide) dX7_load_126 rfl e2.1 up_self rfl rfl rfl (Nat.le_of_ble_eq_true rfl) P
  · have P := P.2 c
    refine ok_iconst (pc := 103) hc (v := i3 0) dX7_load_103 (by decide) ?_
    refine ok_goto (pc := 104) (tgt := 108) hc dX7_load_104 (by decide) ?_
    refine ok_put (pc := 108) hc fl_X7_41 dX7_load_108 e2.1 e2.2 (by simp [List.length_set, z2]) (fun _ => rfl) (fun _ => rfl) ?_
    refine ok_iload_n (pc := 111) hc dX7_load_111 rfl 0 rfl ?_
    obtain ⟨r8, P⟩ := P
    refine zk_if_ne (pc := 112) (tgt := 131) hc dX7_load_112 (by decide) r8 (fun c => ?_) (fun c => ?_)
    · have P := P.1 c
      refine ok_aload_n (pc := 131) hc dX7_load_131 rfl 1 rfl ?_
      refine ok_get (pc := 132) hc fl_X7_7 dX7_load_132 e2.1 up_self ((set_ne (by decide)).trans v2_1) ?_
      refine ok_bipush (pc := 135) hc (v := i3 48) dX7_load_135 (by decide) ?_
      obtain ⟨r, P⟩ := P
      refine zk_iald (pc := 137) hc dX7_load_137 e5.1 ((up_ne (ne_oa e2.2 e5.2).symm).trans e5.2) r ?_
      refine ok_istore_n (pc := 138) hc (lv' := [(3, .int (i3 (f5 (48 : Int).toNat))), (2, .int (i3 t0)), (0, .ref a0), (1, .int (i3 x1))]) dX7_load_138 rfl (by decide) rfl ?_
      refine ok_aload_n (pc := 139) hc dX7_load_139 rfl 2 rfl ?_
      refine ok_get (pc := 140) hc fl_X7_7 dX7_load_140 e2.1 up_self ((set_ne (by decide)).trans v2_1) ?_
      refine ok_bipush (pc := 143) hc (v := i3 48) dX7_load_143 (by decide) ?_
      refine ok_aload_n (pc := 145) hc dX7_load_145 rfl 2 rfl ?_
      refine ok_get (pc := 146) hc fl_X7_13 dX7_load_146 e2.1 up_self ((set_ne (by decide)).trans v2_2) ?_
      refine ok_bipush (pc := 149) hc (v := i3 48) dX7_load_149 (by decide) ?_
      obtain ⟨r, P⟩ := P
      refine zk_iald (pc := 151) hc dX7_load_151 e7.1 ((up_ne (ne_oa e2.2 e7.2).symm).trans e7.2) r ?_
      obtain ⟨r, P⟩ := P
      refine zk_iast (pc := 152) hc dX7_load_152 e5.1 ((up_ne (ne_oa e2.2 e5.2).symm).trans e5.2) r ?_
      refine ok_aload_n (pc := 153) hc dX7_load_153 rfl 2 rfl ?_
      refine ok_lv [2, 3, 1, 0] rfl ?_
      exact ok_callV (pc := 154) (a := a0) (cb := 0) (sb := 0) (st := []) hc [] cv_X7_147 sp_X7_record (by decide) dX7_load_154 rfl e2.1 ((up_ne (ne_oa e2.2 e5.2)).trans up_self) rfl rfl rfl (Nat.le_of_ble_eq_true rfl) P
    · have P := P.2 c
      refine ok_aload_n (pc := 115) hc dX7_load_115 rfl 1 rfl ?_
      refine ok_aload_n (pc := 116) hc dX7_load_116 rfl 1 rfl ?_
      refine ok_get (pc := 117) hc fl_X7_13 dX7_load_117 e2.1 up_self ((set_ne (by decide)).trans v2_2) ?_
      refine ok_iconst (pc := 120) hc (v := i3 0) dX7_load_120 (by decide) ?_
      refine ok_aload_n (pc := 121) hc dX7_load_121 rfl 1 rfl ?_
      refine ok_get (pc := 122) hc fl_X7_7 dX7_load_122 e2.1 up_self ((set_ne (by decide)).trans v2_1) ?_
      refine ok_iconst (pc := 125) hc (v := i3 0) dX7_load_125 (by decide) ?_
      refine ok_lv [1, 2, 0] rfl ?_
      exact ok_callV (pc := 126) (a := a0) (cb := 0) (sb := 0) (st := []) hc [.ref q6, .int (i3 0), .ref q4, .int (i3 0)] cv_X7_56 sp_X7_copy (by decide) dX7_load_126 rfl e2.1 up_self rfl rfl rfl (Nat.le_of_ble_eq_true rfl) P

set_option maxHeartbeats 4000000 in
set_option maxRecDepth 100000 in
theorem sX7_load_129 {X : Xt} {n : Nat} {h : HP} {a0 : Nat} {x1 : Int} {x2 : Int} (hc : Cx X cX7_load RX7 4 11 256) {K : KT} (hr : CxR X (some .int) K) 
    (P : K (.inl (some (.int (i3 0)))) n h) :
    Ok X 0 0 129 [(0, .ref a0), (1, .int (i3 x1)), (2, .int (i3 x2))] [] n h := by
  refine ok_iconst (pc := 129) hc (v := i3 0) dX7_load_129 (by decide) ?_
  exact ok_iret (st := []) (pc := 130) hc hr dX7_load_130 P

set_option maxHeartbeats 4000000 in
set_option maxRecDepth 100000 in
theorem sX7_load_157 {X : Xt} {n : Nat} {h : HP} {a0 : Nat} {x1 : Int} {x2 : Int} {x3 : Int} {fs1 : List Value} {q2 : Nat} {len3 : Nat} {f3 : Nat → Int} (hc : Cx X cX7_load RX7 4 11 256) {K : KT} (hr : CxR X (some .int) K) (e1 : At h n a0 (.inl (7, fs1))) (z1 : fs1.length = 24) (v1_1 : fs1[1]? = some (.ref q2)) (e3 : At h n q2 (ai len3 f3))
    (P : (Ix 48 len3) ∧ spec_X7_settle [.ref a0] n (va_up (va_up h q2 (ai len3 (va_up f3 (48 : Int).toNat x3))) a0 (.inl (7, (fs1.set 7 (.int (i3 0)))))) (kc X 0 0 171 [(0, .ref a0), (1, .int (i3 x1)), (2, .int (i3 x2)), (3, .int (i3 x3))] [] n)) :
    Ok X 0 0 157 [(0, .ref a0), (1, .int (i3 x1)), (2, .int (i3 x2)), (3, .int (i3 x3))] [] n h := by
  refine ok_aload_n (pc := 157) hc dX7_load_157 rfl 0 rfl ?_
  refine ok_get (pc := 158) hc fl_X7_7 dX7_load_158 e1.1 e1.2 v1_1 ?_
  refine ok_bipush (pc := 161) hc (v := i3 48) dX7_load_161 (by decide) ?_
  refine ok_iload_n (pc := 163) hc dX7_load_163 rfl 3 rfl ?_
  obtain ⟨r, P⟩ := P
  refine zk_iast (pc := 164) hc dX7_load_164 e3.1 e3.2 r ?_
  refine ok_aload_n (pc := 165) hc dX7_load_165 rfl 0 rfl ?_
  refine ok_iconst (pc := 166) hc (v := i3 0) dX7_load_166 (by decide) ?_
  refine ok_put (pc := 167) hc fl_X7_166 dX7_load_167 e1.1 ((up_ne (ne_oa e1.2 e3.2)).trans e1.2) (by simp [List.length_set, z1]) (fun _ => rfl) (fun _ => rfl) ?_
  refine ok_aload_n (pc := 170) hc dX7_load_170 rfl 0 rfl ?_
  exact ok_callV (pc := 171) (a := a0) (cb := 0) (sb := 0) (st := []) hc [] cv_X7_150 sp_X7_settle (by decide) dX7_load_171 rfl e1.1 up_self rfl rfl rfl (Nat.le_of_ble_eq_true rfl) P

set_option maxHeartbeats 4000000 in
set_option maxRecDepth 100000 in
theorem sX7_load_174 {X : Xt} {n : Nat} {h : HP} {a0 : Nat} {x1 : Int} {x2 : Int} {x3 : Int} (hc : Cx X cX7_load RX7 4 11 256) {K : KT} (hr : CxR X (some .int) K) 
    (P : K (.inl (some (.int (i3 x3)))) n h) :
    Ok X 0 0 174 [(0, .ref a0), (1, .int (i3 x1)), (2, .int (i3 x2)), (3, .int (i3 x3))] [] n h := by
  refine ok_iload_n (pc := 174) hc dX7_load_174 rfl 3 rfl ?_
  exact ok_iret (st := []) (pc := 175) hc hr dX7_load_175 P

theorem gdS_app {S : Stt} (hG : GdS S) {ps : List Part} (hw : ∀ p ∈ ps, PW p) (ht : ps.all toldB = true) (hr : roomB S.1 ps = true) : GdS (S.1 ++ ps, S.2) := by
  refine ⟨hG.1.app hw ht hr, hG.2.1, ⟨hG.2.2.1.1, ?_⟩, hG.2.2.2⟩
  show S.2.2.1 < 3 ^ nA (S.1 ++ ps)
  rw [nA_app]
  have h1 := hG.2.2.1.2
  have h2 : 3 ^ nA S.1 ≤ 3 ^ (nA S.1 + nA ps) := Nat.pow_le_pow_right (by decide) (by omega)
  rw [← pow_c] at h1 ⊢
  omega
def spec_X7_load (args : List Value) (n : Nat) (h : HP) (K : KT) : Prop := ∃ (q : Dsk) (t : Int), args = [.ref 128] ∧ MdA h n q t ∧ ∀ h', MdA h' n (opLoad q).1 (cdL [eIA, eIS] (opLoad q).2) → Fr h h' 128 138 → K (.inl (some (.int (i3 (rvI (opLoad q).2))))) n h'
theorem sp_X7_load : Sp yX7_load cX7_load 4 (some .int) 11 256 0 0 spec_X7_load := by
  refine sp_intro (by decide) (by rintro args n h K ⟨q, t, rfl, -⟩; exact Nat.le_of_ble_eq_true rfl) ?_
  rintro X args n h K hc hr ⟨q, t, rfl, ⟨I, F, hM0, hF, -, hGq, hOq⟩, kk⟩
  have hP0 := hF.1.1
  have hB := hF.2.2.2.1
  have hB60 := hB.1
  refine sX7_load_0 hc hr hM0.o rfl ⟨I, F, q.2.2.2.2, rfl, hM0, hB, hF.2.2.2.2, fun h1 I1 D1 hM1 hI1 h117 hrun f1 => ⟨rfl, ?_⟩⟩
  have hlen := rrun_len (B := q.2.2.2.2) (q := q0R (fun _ => 0) [] (-1))
  have e7 : I1 7 = q.2.2.2.2.length := (hI1 7 (by decide) (by decide) (by decide) (by decide) (by decide)).trans hF.2.2.2.2
  have hle : (rrun (q0R (fun _ => 0) [] (-1)) q.2.2.2.2).1 ≤ q.2.2.2.2.length := by
    have : ∀ (B : List Int) (r : RdQ), (rrun r B).1 ≤ B.length := by
      intro B
      induction B with
      | nil => exact fun _ => Nat.le_refl _
      | cons c B ih =>
        intro r
        show (match rstep r c with | none => ((0 : Nat), (none : Option RdQ)) | some q' => ((rrun q' B).1 + 1, (rrun q' B).2)).1 ≤ _
        cases rstep r c with
        | none => exact Nat.zero_le _
        | some q' =>
          have := ih q'
          show (rrun q' B).1 + 1 ≤ B.length + 1
          omega
    exact this _ _
  -- what a heap of the reference is after all that came till now: a refusal
  have bad : ∀ (hh : HP) (I2 D2 : Nat → Int) (x2 : Int), opLoad q = (q, .inr eIA) → MAt hh n I2 (va_up F 10 D2) → KpT I I2 → Fr h hh 128 138 → Ok X 0 0 68 [(0, .ref 128), (1, .int (i3 0)), (2, .int (i3 x2))] [] n hh := by
    intro hh I2 D2 x2 e m k f
    rw [e, cd_1] at kk
    refine sX7_load_68 hc hr m.o rfl rfl rfl ⟨R3_0, fun z => absurd rfl z, fun _ => ?_⟩
    exact kk _ ⟨va_up I2 0 1, va_up F 10 D2, m.uo (va_up I2 0 1), (hF.kt (fun j hj => k j (by omega) (by omega) (by omega) (by omega) (by omega)) (fun j hj => up_ne (by omega))).thr 1, up_self, hGq, hOq⟩ (f.up (by omega))
  have bad44 : ∀ (hh : HP) (I2 D2 : Nat → Int) (x2 : Int), opLoad q = (q, .inr eIA) → MAt hh n I2 (va_up F 10 D2) → KpT I I2 → (0 ≤ I2 17 ∧ I2 17 ≤ 17) → (0 ≤ x2 ∧ x2 ≤ 100) → Fr h hh 128 138 → Ok X 0 0 44 [(0, .ref 128), (1, .int (i3 0)), (2, .int (i3 x2))] [] n hh := by
    intro hh I2 D2 x2 e m k b bx f
    exact sX7_load_44 hc hr m.o rfl rfl ⟨R3_s (by omega), R3_s (by omega), fun _ => bad hh I2 D2 x2 e m k f, fun _ => ⟨R3_0, fun _ => bad hh I2 D2 x2 e m k f, fun z => absurd rfl z⟩⟩
  have kT : ∀ v, KpT I (va_up I1 17 v) := fun v k a b c d e => (up_ne a).trans (hI1 k a b c d e)
  refine sX7_load_4 hc hr hM1.o rfl rfl rfl rfl ⟨R3_s (by omega), by rw [e7]; exact R3_s (by omega), fun z => ?_, fun z => ⟨?_, fun w => ?_, fun w => ?_⟩⟩
  · -- not read to the end
    have hn : (rrun (q0R (fun _ => 0) [] (-1)) q.2.2.2.2).2 = none := by
      cases e : (rrun (q0R (fun _ => 0) [] (-1)) q.2.2.2.2).2 with
      | none => rfl
      | some q' =>
        rw [e] at hlen
        have := hlen.mpr rfl
        rw [e7] at z
        exact absurd (by omega) z
    have hno : opLoad q = (q, .inr eIA) := by
      unfold opLoad compl
      rw [hn]
      rfl
    rw [Int.add_zero]
    exact bad44 _ _ D1 0 hno (hM1.uo (va_up I1 17 (I1 17))) (kT _) (by rw [up_self]; omega) (by omega) (f1.up (by omega))
  · -- the place
    rw [e7] at z
    have hs := hlen.mp (by omega)
    cases e : (rrun (q0R (fun _ => 0) [] (-1)) q.2.2.2.2).2 with
    | none =>
      rw [e] at hs
      cases hs
    | some q' =>
      obtain ⟨hR, hRI⟩ := hrun q' e
      rcases hR.2.2 with ⟨_, y⟩ | ⟨_, z1, z2, _⟩ | ⟨_, _, _, _, _, _, _, _, ⟨_, _, _, y⟩ | ⟨_, _, ⟨_, _, y⟩ | ⟨_, _, y⟩ | ⟨_, y, _⟩⟩⟩
      · exact R3_s (by omega)
      · split at z2 <;> exact R3_s (by omega)
      all_goals exact R3_s (by omega)
  · -- not at the end of a part
    have w' := of_decide_eq_false w
    have hno : opLoad q = (q, .inr eIA) := by
      rw [e7] at z
      have hs := hlen.mp (by omega)
      unfold opLoad compl
      cases e : (rrun (q0R (fun _ => 0) [] (-1)) q.2.2.2.2).2 with
      | none => rfl
      | some q' =>
        obtain ⟨hR, hRI⟩ := hrun q' e
        have hE := hR.endP.1
        show (match endP q' with | none => (q, Sum.inr eIA) | some ps => _) = _
        cases ee : endP q' with
        | none => rfl
        | some ps =>
          rw [ee] at hE
          exact absurd (hE.mpr rfl) w'
    rw [Int.add_zero]
    exact bad44 _ _ D1 0 hno (hM1.uo (va_up I1 17 (I1 17))) (kT _) (by rw [up_self]; omega) (by omega) (f1.up (by omega))
  · -- complete
    have w' := of_decide_eq_true w
    rw [e7] at z
    have hs := hlen.mp (by omega)
    cases e : (rrun (q0R (fun _ => 0) [] (-1)) q.2.2.2.2).2 with
    | none =>
      rw [e] at hs
      cases hs
    | some q' =>
      obtain ⟨hR, hRI⟩ := hrun q' e
      have hE := hR.endP
      have hq17 := hR.1
      have hRI0 : RI (q0R (fun _ => 0) [] (-1)) 0 := Or.inl ⟨rfl, by show 4 * ((0 : Nat) : Int) ≤ ((0 : Nat) : Int); omega⟩
      have hpw' := rrun_pw (i := 0) hRI0 (by omega) (fun p hp => absurd hp List.not_mem_nil) e
      have hso := hE.1.mp w'
      cases ee : endP q' with
      | none =>
        rw [ee] at hso
        cases hso
      | some ps =>
        obtain ⟨hpl, hD⟩ := hE.2 ps ee
        have hpw := endP_pw hRI ee hpw'
        have hcompl : compl q.2.2.2.2 = some ps := by
          unfold compl
          rw [e]
          exact ee
        have hl16 : ps.length ≤ 16 := by
          unfold RI at hRI
          omega
        have e17 : I1 17 + 1 = (ps.length : Int) := by
          rw [hq17, hpl]
          rfl
        have hM2 := hM1.uo (va_up I1 17 (I1 17 + 1))
        have hopl : opLoad q = if ps.all toldB = true then (if roomB q.1.1 ps = true then ((setS (q.1.1 ++ ps, q.1.2), pushH q.2.1 q.1, q.2.2.1, q.2.2.2.1, []), .inl ((q.1.1.length : Int) + ps.length)) else (q, .inr eIS)) else (q, .inr eIA) := by
          unfold opLoad
          rw [hcompl]
        have f2 : Fr h (va_up h1 128 (.inl (7, mf (va_up I1 17 (I1 17 + 1))))) 128 138 := f1.up (by omega)
        have kT2 := kT (I1 17 + 1)
        have e172 : va_up I1 17 (I1 17 + 1) 17 = (ps.length : Int) := by rw [up_self, e17]
        show Ok X 0 0 44 _ [] n (va_up h1 128 (.inl (7, mf (va_up I1 17 (I1 17 + 1)))))
        generalize va_up h1 128 (.inl (7, mf (va_up I1 17 (I1 17 + 1)))) = h2 at hM2 f2 ⊢
        generalize va_up I1 17 (I1 17 + 1) = I2 at hM2 kT2 e172
        -- all told: the parts are put
        have good : ps.all toldB = true → Ok X 0 0 68 [(0, .ref 128), (1, .int (i3 1)), (2, .int (i3 ps.length))] [] n h2 := by
          intro hall
          rw [if_pos hall] at hopl
          refine sX7_load_68 hc hr hM2.o rfl rfl rfl ⟨⟨by decide, by decide⟩, fun _ => ⟨128, 129, 130, 52, 52, 0, 0, F 1, F 2, rfl, hM2.z, hM2.a, by decide, by omega, ⟨rfl, ?_⟩⟩, fun y => absurd y (by decide)⟩
          have hM3 := hM2.ua (j := 2) (by omega) (cpF (F 1) (F 2) 0 0 52)
          have hcp : ∀ k, k < 52 → cpF (F 1) (F 2) 0 0 52 k = F 1 k := fun k hk => by
            show (if _ then F 1 (0 + (k - 0)) else _) = _
            rw [if_pos (by omega), Nat.zero_add, Nat.sub_zero]
          refine sX7_load_93 hc hr hM3.o rfl ⟨I2, va_up (va_up F 10 D1) 2 (cpF (F 1) (F 2) 0 0 52), q.1.1, ps, rfl, hM3, hP0, hD, e172, hl16, hpw, fun h4 Z4 hM4 hZ4 z49 z50 z51 f4 => ⟨rfl, ?_⟩⟩
          have z49' : Z4 49 = F 1 49 := z49
          have z50' : Z4 50 = F 1 50 := z50
          have z51' : Z4 51 = F 1 51 := z51
          have e48a : (va_up (va_up (va_up F 10 D1) 2 (cpF (F 1) (F 2) 0 0 52)) 1 Z4) 2 (48 : Int).toNat = F 1 48 := hcp 48 (by decide)
          have f34 : Fr h h4 128 138 := (f2.up (by omega)).tr f4
          cases hroom : roomB q.1.1 ps with
          | false =>
            rw [hroom, if_neg (by decide)] at hopl
            rw [hopl, cd_2 _ ne_AS] at kk
            refine sX7_load_97 hc hr hM4.o rfl rfl hM4.z rfl hM4.a ⟨R3_0, fun _ => ⟨R3_0, fun y => absurd rfl y, fun _ => ?_⟩, fun y => absurd rfl y⟩
            have hM5 := hM4.uo (va_up I2 0 2)
            refine ⟨128, 130, 129, 52, 52, 0, 0, cpF (F 1) (F 2) 0 0 52, Z4, rfl, hM5.a, hM5.z, by decide, by omega, ⟨rfl, ?_⟩⟩
            have hM6 := hM5.uu (j := 1) (by omega) (cpF (cpF (F 1) (F 2) 0 0 52) Z4 0 0 52)
            refine sX7_load_129 hc hr (kk _ ⟨_, _, hM6, ?_, up_self, hGq, hOq⟩ ((f34.up (by omega)).up (by omega)))
            have hback : ZSt (cpF (cpF (F 1) (F 2) 0 0 52) Z4 0 0 52) q.1 := hF.1.eq fun k hk => by
              show (if _ then cpF (F 1) (F 2) 0 0 52 (0 + (k - 0)) else _) = _
              rw [if_pos (by omega), Nat.zero_add, Nat.sub_zero, hcp k hk]
            exact (hF.chg (S := q.1) (hist := q.2.1) (by rw [up_self]; exact hback) hF.2.1.1 ((kT2 3 (by decide) (by decide) (by decide) (by decide) (by decide)).trans hF.2.1.2) (kT2 5 (by decide) (by decide) (by decide) (by decide) (by decide)) (kT2 7 (by decide) (by decide) (by decide) (by decide) (by decide)) rfl rfl)
          | true =>
            rw [hroom, if_pos rfl] at hopl
            rw [hopl] at kk
            have hZa := hZ4 hroom
            have e48z : (va_up (va_up (va_up F 10 D1) 2 (cpF (F 1) (F 2) 0 0 52)) 1 Z4) 1 (48 : Int).toNat = ((q.1.1.length : Int) + ps.length) := by
              show Z4 48 = _
              rw [hZa.1, List.length_append, Int.natCast_add]
            refine sX7_load_97 hc hr hM4.o rfl rfl hM4.z rfl hM4.a ⟨⟨by decide, by decide⟩, fun y => absurd y (by decide), fun _ => ⟨⟨by decide, by decide⟩, fun _ => ⟨⟨by decide, by decide, by decide⟩, ⟨by decide, by decide, by decide⟩, ⟨by decide, by decide, by decide⟩, ?_⟩, fun y => absurd y (by decide)⟩⟩
            rw [e48a, e48z]
            have hM5 := (hM4.uo (va_up I2 0 0)).uu (j := 1) (by omega) (va_up Z4 48 (F 1 48))
            have hZ5 : ZSt (va_up Z4 48 (F 1 48)) q.1 := by
              refine ⟨⟨up_self.trans hP0.1, hP0.2.1, fun i hi => ?_, hP0.2.2.2⟩, ?_, ?_, ?_⟩
              · have hl12 := hP0.2.1
                have := hZa.2.2.1 i (by rw [List.length_append]; omega)
                rw [List.getElem?_append, if_pos hi] at this
                rw [up_ne (by omega), up_ne (by omega), up_ne (by omega), up_ne (by omega)]
                exact this
              · exact ((up_ne (by decide)).trans z49').trans hF.1.2.1
              · exact ((up_ne (by decide)).trans z50').trans hF.1.2.2.1
              · exact ((up_ne (by decide)).trans z51').trans hF.1.2.2.2
            have hI23 : va_up I2 0 0 3 = (q.2.1.length : Int) := (kT2 3 (by decide) (by decide) (by decide) (by decide) (by decide)).trans hF.2.1.2
            refine ⟨va_up I2 0 0, _, q.1, q.2.1, rfl, hM5, by rw [up_self]; exact hZ5, hF.2.1.1, hI23, fun h6 H6 hM6 hH6 f6 => ⟨rfl, ?_⟩⟩
            have hM7 := (hM6.ua (j := 1) (by omega) (va_up (va_up Z4 48 (F 1 48)) 48 ((q.1.1.length : Int) + ps.length))).uo (va_up (va_up (va_up I2 0 0) 3 ((pushH q.2.1 q.1).length : Int)) 7 0)
            have g := gdS_app hGq.1 hpw hall hroom
            refine sX7_load_157 hc hr hM6.o rfl rfl hM6.z ⟨⟨by decide, by decide, by decide⟩, _, _, (q.1.1 ++ ps, q.1.2), rfl, hM7, ?_, g, fun h8 I8 F8 hM8 hZ8 kI kZ f8 => ⟨rfl, sX7_load_174 hc hr ?_⟩⟩
            · rw [up_self, up_up]
              refine ⟨hZa.eq fun k hk => ?_, ?_, ?_, ?_⟩
              · by_cases c : k = 48
                · subst c
                  rw [up_self, hZa.1, List.length_append, Int.natCast_add]
                · rw [up_ne c]
              · exact ((up_ne (by decide)).trans z49').trans hF.1.2.1
              · exact ((up_ne (by decide)).trans z50').trans hF.1.2.2.1
              · exact ((up_ne (by decide)).trans z51').trans hF.1.2.2.2
            · refine kk h8 ⟨I8, F8, hM8, ⟨hZ8, ⟨?_, ?_⟩, ⟨?_, fun j hj hb => ?_⟩, ⟨Nat.zero_le _, fun i hi => absurd hi (Nat.not_lt_zero i)⟩, ?_⟩, ?_, ⟨g.set, gd_push hGq.2.1 hGq.1, hGq.2.2⟩, (hOq.push (setS_ok g)).1, (hOq.push (setS_ok g)).2.1, hOq.2.2⟩ (((((f34.up (by omega)).up (by omega)).tr f6).up (by omega)).up (by omega) |>.tr f8)
              · have e3 : F8 3 = H6 := (kZ 3 (by omega)).trans rfl
                rw [e3]
                exact hH6
              · exact (kI 3 (by decide) (by decide) (by decide) (by decide)).trans rfl
              · exact (kI 5 (by decide) (by decide) (by decide) (by decide)).trans ((kT2 5 (by decide) (by decide) (by decide) (by decide) (by decide)).trans hF.2.2.1.1)
              · have e4 : F8 4 = F 4 := (kZ 4 (by omega)).trans rfl
                rw [e4]
                exact hF.2.2.1.2 j hj hb
              · exact (kI 7 (by decide) (by decide) (by decide) (by decide)).trans rfl
              · exact (kI 0 (by decide) (by decide) (by decide) (by decide)).trans rfl
        -- can the parts be
        have L : ∀ (d k : Nat), k + d = ps.length → (∀ i p, i < k → ps[i]? = some p → toldB p = true) → Ok X 0 0 44 [(0, .ref 128), (1, .int (i3 1)), (2, .int (i3 k))] [] n h2 := by
          intro d
          induction d with
          | zero =>
            intro k hk hok
            have : k = ps.length := by omega
            subst this
            have hall : ps.all toldB = true := List.all_eq_true.mpr fun p hp => by
              obtain ⟨i, hi, ei⟩ := List.mem_iff_getElem.mp hp
              exact hok i p hi (by rw [List.getElem?_eq_getElem hi, ei])
            exact sX7_load_44 hc hr hM2.o rfl rfl ⟨R3_s (by omega), by rw [e172]; exact R3_s (by omega), fun _ => good hall, fun y => absurd (by rw [e172]; exact Int.le_refl _) y⟩
          | succ d ih =>
            intro k hk hok
            have hkl : k < ps.length := by omega
            have hpk : ps[k]? = some ps[k] := List.getElem?_eq_getElem hkl
            have hDk := hD k hkl
            generalize ps[k] = p at hpk
            refine sX7_load_44 hc hr hM2.o rfl rfl ⟨R3_s (by omega), by rw [e172]; exact R3_s (by omega), fun y => absurd y (by rw [e172]; omega), fun _ => ⟨⟨by decide, by decide⟩, fun y => absurd y (by decide), fun _ => ?_⟩⟩
            refine ⟨I2, va_up F 10 D1, k, p, rfl, hM2, by omega, hpw p (List.mem_of_getElem? hpk), Option.some.inj (hpk.symm.trans hDk), ⟨rfl, sX7_load_61 hc hr ?_⟩⟩
            cases et : toldB p with
            | true =>
              exact ih (k + 1) (by omega) (fun i p' hi hp' => by
                by_cases c : i = k
                · subst c
                  rw [← Option.some.inj (hpk.symm.trans hp')]
                  exact et
                · exact hok i p' (by omega) hp')
            | false =>
              have hno : opLoad q = (q, .inr eIA) := by
                rw [hopl, if_neg]
                intro y
                have := List.all_eq_true.mp y p (List.mem_of_getElem? hpk)
                rw [et] at this
                cases this
              exact bad44 h2 I2 D1 _ hno hM2 kT2 (by rw [e172]; omega) (by omega) f2
        exact L ps.length 0 (by omega) (fun i p hi => absurd hi (Nat.not_lt_zero i))
