/-! part 86: the reference: takes, rightLength, firstError -/
set_option maxHeartbeats 4000000 in
set_option maxRecDepth 100000 in
theorem sX7_takes_0 {X : Xt} {n : Nat} {h : HP} {a0 : Nat} {x1 : Int} {fs2 : List Value} {iv3 : Int} {iv4 : Int} (hc : Cx X cX7_takes RX7 2 2 46) {K : KT} (hr : CxR X (some .boolean) K) (e2 : At h n a0 (.inl (7, fs2))) (z2 : fs2.length = 24) (v2_19 : fs2[19]? = some (.int (i3 iv3))) (v2_17 : fs2[17]? = some (.int (i3 iv4)))
    (P : (R3 x1) ∧ (¬ x1 = 59 → Ok X 0 0 30 [(0, .ref a0), (1, .int (i3 x1))] [] n h) ∧ (x1 = 59 → (R3 iv3) ∧ ((decide (iv3 = 7 ∨ iv3 = 8)) = false → Ok X 0 0 30 [(0, .ref a0), (1, .int (i3 x1))] [] n h) ∧ ((decide (iv3 = 7 ∨ iv3 = 8)) = true → K (.inl (some (.int (i3 1)))) n (va_up (va_up h a0 (.inl (7, (fs2.set 17 (.int (i3 (iv4 + 1))))))) a0 (.inl (7, ((fs2.set 17 (.int (i3 (iv4 + 1)))).set 19 (.int (i3 0))))))))) :
    Ok X 0 0 0 [(0, .ref a0), (1, .int (i3 x1))] [] n h := by
  refine ok_iload_n (pc := 0) hc dX7_takes_0 rfl 1 rfl ?_
  refine ok_bipush (pc := 1) hc (v := i3 59) dX7_takes_1 (by decide) ?_
  obtain ⟨r1, P⟩ := P
  refine zk_icmp_ne (pc := 3) (tgt := 30) hc dX7_takes_3 (by decide) r1 ⟨by decide, by decide⟩ (fun c => ?_) (fun c => ?_)
  · have P := P.1 c
    exact P
  · have P := P.2 c
    refine ok_aload_n (pc := 6) hc dX7_takes_6 rfl 0 rfl ?_
    obtain ⟨r0, P⟩ := P
    refine ok_callV (pc := 7) (a := a0) (cb := 0) (sb := 0) (st := []) hc [] cv_X7_188 sp_X7_isOver (by decide) dX7_takes_7 rfl e2.1 e2.2 rfl rfl rfl (Nat.le_of_ble_eq_true rfl) (⟨_, _, _, rfl, ⟨e2.1, e2.2⟩, z2, v2_19, r0, rfl, ?_⟩)
    show Ok X 0 0 (7 + 3) [(0, .ref a0), (1, .int (i3 x1))] [.int (i3 (bz (decide (iv3 = 7 ∨ iv3 = 8))))] n h
    refine zk_if_eq (pc := 10) (tgt := 30) hc dX7_takes_10 (by decide) R3_bz (fun c => ?_) (fun c => ?_)
    · have P := P.1 (bz_0.mp c)
      exact P
    · have P := P.2 (bz_1.mp c)
      refine ok_aload_n (pc := 13) hc dX7_takes_13 rfl 0 rfl ?_
      refine ok_dup (pc := 14) hc dX7_takes_14 rfl ?_
      refine ok_get (pc := 15) hc fl_X7_169 dX7_takes_15 e2.1 e2.2 v2_17 ?_
      refine ok_iconst (pc := 18) hc (v := i3 1) dX7_takes_18 (by decide) ?_
      refine zk_iadd (pc := 19) hc dX7_takes_19 ?_
      refine ok_put (pc := 20) hc fl_X7_169 dX7_takes_20 e2.1 e2.2 (by simp [List.length_set, z2]) (fun _ => rfl) (fun _ => rfl) ?_
      refine ok_aload_n (pc := 23) hc dX7_takes_23 rfl 0 rfl ?_
      refine ok_iconst (pc := 24) hc (v := i3 0) dX7_takes_24 (by decide) ?_
      refine ok_put (pc := 25) hc fl_X7_185 dX7_takes_25 e2.1 up_self (by simp [List.length_set, z2]) (fun _ => rfl) (fun _ => rfl) ?_
      refine ok_iconst (pc := 28) hc (v := i3 1) dX7_takes_28 (by decide) ?_
      exact ok_zret (st := []) (pc := 29) hc (nar_z (by decide)) hr dX7_takes_29 P

set_option maxHeartbeats 4000000 in
set_option maxRecDepth 100000 in
theorem sX7_takes_30 {X : Xt} {n : Nat} {h : HP} {a0 : Nat} {x1 : Int} {fs1 : List Value} {iv2 : Int} (hc : Cx X cX7_takes RX7 2 2 46) {K : KT} (hr : CxR X (some .boolean) K) (e1 : At h n a0 (.inl (7, fs1))) (z1 : fs1.length = 24) (v1_19 : fs1[19]? = some (.int (i3 iv2)))
    (P : (R3 iv2) ∧ (iv2 < 0 ∨ 8 < iv2 → spec_X7_takesValue [.ref a0, .int (i3 x1)] n h (kc X 0 0 124 [(0, .ref a0), (1, .int (i3 x1))] [] n)) ∧ (iv2 = 0 → spec_X7_takesLetter [.ref a0, .int (i3 x1)] n h (kc X 0 0 86 [(0, .ref a0), (1, .int (i3 x1))] [] n)) ∧ (iv2 = 1 → spec_X7_takesNode [.ref a0, .int (i3 x1), .int (i3 1), .int (i3 2)] n h (kc X 0 0 94 [(0, .ref a0), (1, .int (i3 x1))] [] n)) ∧ (iv2 = 2 → spec_X7_takesNode [.ref a0, .int (i3 x1), .int (i3 2), .int (i3 3)] n h (kc X 0 0 102 [(0, .ref a0), (1, .int (i3 x1))] [] n)) ∧ (iv2 = 3 → spec_X7_takesLast [.ref a0, .int (i3 x1)] n h (kc X 0 0 108 [(0, .ref a0), (1, .int (i3 x1))] [] n)) ∧ (iv2 = 4 → spec_X7_takesNode [.ref a0, .int (i3 x1), .int (i3 1), .int (i3 5)] n h (kc X 0 0 116 [(0, .ref a0), (1, .int (i3 x1))] [] n)) ∧ (iv2 = 5 → spec_X7_takesValue [.ref a0, .int (i3 x1)] n h (kc X 0 0 124 [(0, .ref a0), (1, .int (i3 x1))] [] n)) ∧ (iv2 = 6 → spec_X7_takesValue [.ref a0, .int (i3 x1)] n h (kc X 0 0 124 [(0, .ref a0), (1, .int (i3 x1))] [] n)) ∧ (iv2 = 7 → spec_X7_takesValue [.ref a0, .int (i3 x1)] n h (kc X 0 0 124 [(0, .ref a0), (1, .int (i3 x1))] [] n)) ∧ (iv2 = 8 → K (.inl (some (.int (i3 0)))) n h)) :
    Ok X 0 0 30 [(0, .ref a0), (1, .int (i3 x1))] [] n h := by
  refine ok_aload_n (pc := 30) hc dX7_takes_30 rfl 0 rfl ?_
  refine ok_get (pc := 31) hc fl_X7_185 dX7_takes_31 e1.1 e1.2 v1_19 ?_
  obtain ⟨r3, P⟩ := P
  rcases (show (iv2 < 0 ∨ 8 < iv2) ∨ iv2 = 0 ∨ iv2 = 1 ∨ iv2 = 2 ∨ iv2 = 3 ∨ iv2 = 4 ∨ iv2 = 5 ∨ iv2 = 6 ∨ iv2 = 7 ∨ iv2 = 8 by omega) with c | c | c | c | c | c | c | c | c | c
  · have P := P.1 c
    refine ok_tableOut (pc := 34) (tgt := 122) hc dX7_takes_34 (by rw [i3_toInt r3]; exact c) (by decide) ?_
    refine ok_aload_n (pc := 122) hc dX7_takes_122 rfl 0 rfl ?_
    refine ok_iload_n (pc := 123) hc dX7_takes_123 rfl 1 rfl ?_
    exact ok_callV (pc := 124) (a := a0) (cb := 0) (sb := 0) (st := []) hc [.int (i3 x1)] cv_X7_201 sp_X7_takesValue (by decide) dX7_takes_124 rfl e1.1 e1.2 rfl rfl rfl (Nat.le_of_ble_eq_true rfl) P
  · have P := P.2.1 c
    refine ok_tableIn (pc := 34) (off := 50) (tgt := 84) hc dX7_takes_34 (by rw [i3_toInt r3, c]; decide) (by rw [i3_toInt r3, c]; decide) (by rw [i3_toInt r3, c]; rfl) (by decide) ?_
    refine ok_aload_n (pc := 84) hc dX7_takes_84 rfl 0 rfl ?_
    refine ok_iload_n (pc := 85) hc dX7_takes_85 rfl 1 rfl ?_
    exact ok_callV (pc := 86) (a := a0) (cb := 0) (sb := 0) (st := []) hc [.int (i3 x1)] cv_X7_192 sp_X7_takesLetter (by decide) dX7_takes_86 rfl e1.1 e1.2 rfl rfl rfl (Nat.le_of_ble_eq_true rfl) P
  · have P := P.2.2.1 c
    refine ok_tableIn (pc := 34) (off := 56) (tgt := 90) hc dX7_takes_34 (by rw [i3_toInt r3, c]; decide) (by rw [i3_toInt r3, c]; decide) (by rw [i3_toInt r3, c]; rfl) (by decide) ?_
    refine ok_aload_n (pc := 90) hc dX7_takes_90 rfl 0 rfl ?_
    refine ok_iload_n (pc := 91) hc dX7_takes_91 rfl 1 rfl ?_
    refine ok_iconst (pc := 92) hc (v := i3 1) dX7_takes_92 (by decide) ?_
    refine ok_iconst (pc := 93) hc (v := i3 2) dX7_takes_93 (by decide) ?_
    exact ok_callV (pc := 94) (a := a0) (cb := 0) (sb := 0) (st := []) hc [.int (i3 x1), .int (i3 1), .int (i3 2)] cv_X7_195 sp_X7_takesNode (by decide) dX7_takes_94 rfl e1.1 e1.2 rfl rfl rfl (Nat.le_of_ble_eq_true rfl) P
  · have P := P.2.2.2.1 c
    refine ok_tableIn (pc := 34) (off := 64) (tgt := 98) hc dX7_takes_34 (by rw [i3_toInt r3, c]; decide) (by rw [i3_toInt r3, c]; decide) (by rw [i3_toInt r3, c]; rfl) (by decide) ?_
    refine ok_aload_n (pc := 98) hc dX7_takes_98 rfl 0 rfl ?_
    refine ok_iload_n (pc := 99) hc dX7_takes_99 rfl 1 rfl ?_
    refine ok_iconst (pc := 100) hc (v := i3 2) dX7_takes_100 (by decide) ?_
    refine ok_iconst (pc := 101) hc (v := i3 3) dX7_takes_101 (by decide) ?_
    exact ok_callV (pc := 102) (a := a0) (cb := 0) (sb := 0) (st := []) hc [.int (i3 x1), .int (i3 2), .int (i3 3)] cv_X7_195 sp_X7_takesNode (by decide) dX7_takes_102 rfl e1.1 e1.2 rfl rfl rfl (Nat.le_of_ble_eq_true rfl) P
  · have P := P.2.2.2.2.1 c
    refine ok_tableIn (pc := 34) (off := 72) (tgt := 106) hc dX7_takes_34 (by rw [i3_toInt r3, c]; decide) (by rw [i3_toInt r3, c]; decide) (by rw [i3_toInt r3, c]; rfl) (by decide) ?_
    refine ok_aload_n (pc := 106) hc dX7_takes_106 rfl 0 rfl ?_
    refine ok_iload_n (pc := 107) hc dX7_takes_107 rfl 1 rfl ?_
    exact ok_callV (pc := 108) (a := a0) (cb := 0) (sb := 0) (st := []) hc [.int (i3 x1)] cv_X7_198 sp_X7_takesLast (by decide) dX7_takes_108 rfl e1.1 e1.2 rfl rfl rfl (Nat.le_of_ble_eq_true rfl) P
  · have P := P.2.2.2.2.2.1 c
    refine ok_tableIn (pc := 34) (off := 78) (tgt := 112) hc dX7_takes_34 (by rw [i3_toInt r3, c]; decide) (by rw [i3_toInt r3, c]; decide) (by rw [i3_toInt r3, c]; rfl) (by decide) ?_
    refine ok_aload_n (pc := 112) hc dX7_takes_112 rfl 0 rfl ?_
    refine ok_iload_n (pc := 113) hc dX7_takes_113 rfl 1 rfl ?_
    refine ok_iconst (pc := 114) hc (v := i3 1) dX7_takes_114 (by decide) ?_
    refine ok_iconst (pc := 115) hc (v := i3 5) dX7_takes_115 (by decide) ?_
    exact ok_callV (pc := 116) (a := a0) (cb := 0) (sb := 0) (st := []) hc [.int (i3 x1), .int (i3 1), .int (i3 5)] cv_X7_195 sp_X7_takesNode (by decide) dX7_takes_116 rfl e1.1 e1.2 rfl rfl rfl (Nat.le_of_ble_eq_true rfl) P
  · have P := P.2.2.2.2.2.2.1 c
    refine ok_tableIn (pc := 34) (off := 88) (tgt := 122) hc dX7_takes_34 (by rw [i3_toInt r3, c]; decide) (by rw [i3_toInt r3, c]; decide) (by rw [i3_toInt r3, c]; rfl) (by decide) ?_
    refine ok_aload_n (pc := 122) hc dX7_takes_122 rfl 0 rfl ?_
    refine ok_iload_n (pc := 123) hc dX7_takes_123 rfl 1 rfl ?_
    exact ok_callV (pc := 124) (a := a0) (cb := 0) (sb := 0) (st := []) hc [.int (i3 x1)] cv_X7_201 sp_X7_takesValue (by decide) dX7_takes_124 rfl e1.1 e1.2 rfl rfl rfl (Nat.le_of_ble_eq_true rfl) P
  · have P := P.2.2.2.2.2.2.2.1 c
    refine ok_tableIn (pc := 34) (off := 88) (tgt := 122) hc dX7_takes_34 (by rw [i3_toInt r3, c]; decide) (by rw [i3_toInt r3, c]; decide) (by rw [i3_toInt r3, c]; rfl) (by decide) ?_
    refine ok_aload_n (pc := 122) hc dX7_takes_122 rfl 0 rfl ?_
    refine ok_iload_n (pc := 123) hc dX7_takes_123 rfl 1 rfl ?_
    exact ok_callV (pc := 124) (a := a0) (cb := 0) (sb := 0) (st := []) hc [.int (i3 x1)] cv_X7_201 sp_X7_takesValue (by decide) dX7_takes_124 rfl e1.1 e1.2 rfl rfl rfl (Nat.le_of_ble_eq_true rfl) P
  · have P := P.2.2.2.2.2.2.2.2.1 c
    refine ok_tableIn (pc := 34) (off := 88) (tgt := 122) hc dX7_takes_34 (by rw [i3_toInt r3, c]; decide) (by rw [i3_toInt r3, c]; decide) (by rw [i3_toInt r3, c]; rfl) (by decide) ?_
    refine ok_aload_n (pc := 122) hc dX7_takes_122 rfl 0 rfl ?_
    refine ok_iload_n (pc := 123) hc dX7_takes_123 rfl 1 rfl ?_
    exact ok_callV (pc := 124) (a := a0) (cb := 0) (sb := 0) (st := []) hc [.int (i3 x1)] cv_X7_201 sp_X7_takesValue (by decide) dX7_takes_124 rfl e1.1 e1.2 rfl rfl rfl (Nat.le_of_ble_eq_true rfl) P
  · have P := P.2.2.2.2.2.2.2.2.2 c
    refine ok_tableIn (pc := 34) (off := 86) (tgt := 120) hc dX7_takes_34 (by rw [i3_toInt r3, c]; decide) (by rw [i3_toInt r3, c]; decide) (by rw [i3_toInt r3, c]; rfl) (by decide) ?_
    refine ok_iconst (pc := 120) hc (v := i3 0) dX7_takes_120 (by decide) ?_
    exact ok_zret (st := []) (pc := 121) hc (nar_z (by decide)) hr dX7_takes_121 P

set_option maxHeartbeats 4000000 in
set_option maxRecDepth 100000 in
theorem sX7_takes_89 {X : Xt} {n : Nat} {h : HP} {a0 : Nat} {x1 : Int} {t0 : Int} (hc : Cx X cX7_takes RX7 2 2 46) {K : KT} (hr : CxR X (some .boolean) K) 
    (P : (t0 = 0 ∨ t0 = 1) ∧ K (.inl (some (.int (i3 t0)))) n h) :
    Ok X 0 0 89 [(0, .ref a0), (1, .int (i3 x1))] [.int (i3 t0)] n h := by
  obtain ⟨r, P⟩ := P
  exact ok_zret (st := []) (pc := 89) hc (nar_z r) hr dX7_takes_89 P

set_option maxHeartbeats 4000000 in
set_option maxRecDepth 100000 in
theorem sX7_takes_97 {X : Xt} {n : Nat} {h : HP} {a0 : Nat} {x1 : Int} {t0 : Int} (hc : Cx X cX7_takes RX7 2 2 46) {K : KT} (hr : CxR X (some .boolean) K) 
    (P : (t0 = 0 ∨ t0 = 1) ∧ K (.inl (some (.int (i3 t0)))) n h) :
    Ok X 0 0 97 [(0, .ref a0), (1, .int (i3 x1))] [.int (i3 t0)] n h := by
  obtain ⟨r, P⟩ := P
  exact ok_zret (st := []) (pc := 97) hc (nar_z r) hr dX7_takes_97 P

set_option maxHeartbeats 4000000 in
set_option maxRecDepth 100000 in
theorem sX7_takes_105 {X : Xt} {n : Nat} {h : HP} {a0 : Nat} {x1 : Int} {t0 : Int} (hc : Cx X cX7_takes RX7 2 2 46) {K : KT} (hr : CxR X (some .boolean) K) 
    (P : (t0 = 0 ∨ t0 = 1) ∧ K (.inl (some (.int (i3 t0)))) n h) :
    Ok X 0 0 105 [(0, .ref a0), (1, .int (i3 x1))] [.int (i3 t0)] n h := by
  obtain ⟨r, P⟩ := P
  exact ok_zret (st := []) (pc := 105) hc (nar_z r) hr dX7_takes_105 P

set_option maxHeartbeats 4000000 in
set_option maxRecDepth 100000 in
theorem sX7_takes_111 {X : Xt} {n : Nat} {h : HP} {a0 : Nat} {x1 : Int} {t0 : Int} (hc : Cx X cX7_takes RX7 2 2 46) {K : KT} (hr : CxR X (some .boolean) K) 
    (P : (t0 = 0 ∨ t0 = 1) ∧ K (.inl (some (.int (i3 t0)))) n h) :
    Ok X 0 0 111 [(0, .ref a0), (1, .int (i3 x1))] [.int (i3 t0)] n h := by
  obtain ⟨r, P⟩ := P
  exact ok_zret (st := []) (pc := 111) hc (nar_z r) hr dX7_takes_111 P

set_option maxHeartbeats 4000000 in
set_option maxRecDepth 100000 in
theorem sX7_takes_119 {X : Xt} {n : Nat} {h : HP} {a0 : Nat} {x1 : Int} {t0 : Int} (hc : Cx X cX7_takes RX7 2 2 46) {K : KT} (hr : CxR X (some .boolean) K) 
    (P : (t0 = 0 ∨ t0 = 1) ∧ K (.inl (some (.int (i3 t0)))) n h) :
    Ok X 0 0 119 [(0, .ref a0), (1, .int (i3 x1))] [.int (i3 t0)] n h := by
  obtain ⟨r, P⟩ := P
  exact ok_zret (st := []) (pc := 119) hc (nar_z r) hr dX7_takes_119 P

set_option maxHeartbeats 4000000 in
set_option maxRecDepth 100000 in
theorem sX7_takes_127 {X : Xt} {n : Nat} {h : HP} {a0 : Nat} {x1 : Int} {t0 : Int} (hc : Cx X cX7_takes RX7 2 2 46) {K : KT} (hr : CxR X (some .boolean) K) 
    (P : (t0 = 0 ∨ t0 = 1) ∧ K (.inl (some (.int (i3 t0)))) n h) :
    Ok X 0 0 127 [(0, .ref a0), (1, .int (i3 x1))] [.int (i3 t0)] n h := by
  obtain ⟨r, P⟩ := P
  exact ok_zret (st := []) (pc := 127) hc (nar_z r) hr dX7_takes_127 P

theorem KpT.rf {I : Nat → Int} : KpT I I := fun _ _ _ _ _ _ => rfl
theorem kl_r (c : Int) : kl c = -1 ∨ kl c = 0 ∨ kl c = 1 ∨ kl c = 2 := by
  unfold kl
  split
  · omega
  · split
    · omega
    · split <;> omega
def spec_X7_takes (args : List Value) (n : Nat) (h : HP) (K : KT) : Prop := ∃ (I : Nat → Int) (F : Nat → Nat → Int) (q : RdQ) (i : Nat) (c : Int), args = [.ref 128, .int (i3 c)] ∧ MAt h n I F ∧ RMR I (F 10) q ∧ RI q i ∧ i < 60 ∧ R3 c ∧ ∀ (h' : HP) (I' D' : Nat → Int), MAt h' n I' (va_up F 10 D') → KpT I I' → (0 ≤ I' 17 ∧ I' 17 ≤ 16) → (∀ q', rstep q c = some q' → RMR I' D' q') → Fr h h' 128 138 → K (.inl (some (.int (i3 (bz (rstep q c).isSome))))) n h'
theorem sp_X7_takes : Sp yX7_takes cX7_takes 2 (some .boolean) 2 46 0 0 spec_X7_takes := by
  refine sp_intro (by decide) (by rintro args n h K ⟨I, F, q, i, c, rfl, -⟩; exact Nat.le_of_ble_eq_true rfl) ?_
  rintro X args n h K hc hr ⟨I, F, q, i, c, rfl, hM, hR, hI, hi, hcr, kk⟩
  have hE := hR.endP
  obtain ⟨h17, hps, hk⟩ := id hR
  generalize hlen : q.2.2.2.2.2.2.length = r at h17
  have hr15 : r ≤ 15 := by
    unfold RI at hI
    omega
  have fl : rstep q c = none → ∀ (h' : HP) (I' D' : Nat → Int), MAt h' n I' (va_up F 10 D') → KpT I I' → (I' 17 = I 17 ∨ I' 17 = I 17 + 1) → Fr h h' 128 138 → K (.inl (some (.int (i3 0)))) n h' := by
    intro e h' I' D' m k e17 f
    have := kk h' I' D' m k (by omega) (fun q' z => by rw [e] at z; cases z) f
    rw [e] at this
    exact this
  have ok : ∀ q', rstep q c = some q' → ∀ (h' : HP) (I' D' : Nat → Int), MAt h' n I' (va_up F 10 D') → KpT I I' → (I' 17 = I 17 ∨ I' 17 = I 17 + 1) → RMR I' D' q' → Fr h h' 128 138 → K (.inl (some (.int (i3 1)))) n h' := by
    intro q' e h' I' D' m k e17 hr f
    have := kk h' I' D' m k (by omega) (fun q'' z => by rw [e] at z; rw [← Option.some.inj z]; exact hr) f
    rw [e] at this
    exact this
  have hM10 := hM.u1 (j := 10) (by omega)
  have h19r : 0 ≤ I 19 ∧ I 19 ≤ 8 := by
    rcases hk with ⟨_, z⟩ | ⟨_, z1, z2, _⟩ | ⟨_, _, _, _, _, _, _, _, ⟨_, _, _, z⟩ | ⟨_, _, ⟨_, _, z⟩ | ⟨_, _, z⟩ | ⟨_, z, _⟩⟩⟩
    · omega
    · split at z2 <;> omega
    all_goals omega
  have h30 : ¬ (c = 59 ∧ (I 19 = 7 ∨ I 19 = 8)) → Ok X 0 0 30 [(0, .ref 128), (1, .int (i3 c))] [] n h := by
    intro hno
    -- a ; that isn't at the end of a part
    have semi : c = 59 → rstep q c = none := by
      intro e
      subst e
      unfold rstep
      by_cases k1 : q.1 = -1
      · rw [if_pos k1]
        rfl
      · rw [if_neg k1, if_pos rfl]
        cases ee : endP q with
        | none => rfl
        | some ps =>
          refine absurd ⟨rfl, hE.1.mpr ?_⟩ hno
          rw [ee]
          rfl
    have tv : (5 ≤ I 19 ∧ I 19 ≤ 7) → spec_X7_takesValue [.ref 128, .int (i3 c)] n h (kc X 0 0 124 [(0, .ref 128), (1, .int (i3 c))] [] n) := by
      intro hz
      rcases hk with ⟨k1, y⟩ | ⟨_, z1, z2, _⟩ | ⟨k1, k2, k3, k4, k5, k6, k7, k8, ⟨_, _, _, y⟩ | ⟨nd, nD, pl⟩⟩
      · omega
      · split at z2 <;> omega
      · omega
      · rw [hlen] at k2 k3 nD
        have hnum := k8
        unfold numOk at hnum
        refine ⟨I, F, r, c, rfl, hM, h17, hr15, hcr, ⟨h19r, by omega, by omega, by omega⟩, fun w h' m f => ⟨rfl, sX7_takes_127 hc hr ⟨Or.inr rfl, ?_⟩⟩, fun w hv h' m f => ⟨rfl, sX7_takes_127 hc hr ⟨Or.inr rfl, ?_⟩⟩, fun w hv => ⟨rfl, sX7_takes_127 hc hr ⟨Or.inl rfl, ?_⟩⟩⟩
        · -- a minus
          obtain ⟨w1, w2⟩ := w
          have tn : q.2.1 = 0 ∧ q.2.2.2.1 = 0 := by omega
          have hstep : rstep q c = some (q.1, q.2.1, q.2.2.1, 1, q.2.2.2.2.1, q.2.2.2.2.2.1, q.2.2.2.2.2.2) := by
            unfold rstep stepS
            rw [if_neg (by omega), if_neg (by omega), if_pos k1, if_neg (by omega), if_pos w1, if_pos ⟨tn.2, tn.1⟩]
          refine ok _ hstep h' _ _ (m.u1 (j := 10) (by omega)) (fun k _ b e _ _ => by rw [up_ne b, up_ne e]) (Or.inl rfl) ⟨?_, hps, Or.inr (Or.inr ⟨k1, ?_, ?_, rfl, k5, k6, Or.inr rfl, k8, Or.inr ⟨nd, ?_, Or.inr (Or.inl ⟨tn.1, rfl, rfl⟩)⟩⟩)⟩ f
          · show I 17 = (q.2.2.2.2.2.2.length : Int)
            rw [hlen, h17]
          · show F 10 (4 * q.2.2.2.2.2.2.length) = 1
            rw [hlen, k2]
          · show F 10 (4 * q.2.2.2.2.2.2.length + 2) = -1
            rw [hlen, k3]
          · show F 10 (4 * q.2.2.2.2.2.2.length + 1) = q.2.2.1
            rw [hlen, nD]
        · -- a digit
          obtain ⟨v1, v2, v3, v4⟩ := hv
          have hstep : rstep q c = some (q.1, q.2.1 + 1, q.2.2.1, q.2.2.2.1, 10 * q.2.2.2.2.1 + (c - 48), q.2.2.2.2.2.1, q.2.2.2.2.2.2) := by
            unfold rstep stepS stepV
            rw [if_neg (by omega), if_neg (by omega), if_pos k1, if_neg (by omega), if_neg (by omega), if_pos ⟨v1.1, v1.2, by omega, by omega⟩]
          have hI22 : 10 * I 22 + c - 48 = 10 * q.2.2.2.2.1 + (c - 48) := by omega
          refine ok _ hstep h' _ _ m (fun k _ b _ d e => by rw [up_ne b, up_ne d, up_ne e]) (Or.inl rfl) ⟨?_, hps.up (fun x hx => up_ne (by omega)), Or.inr (Or.inr ⟨k1, ?_, ?_, k4, ?_, ?_, k7, ?_, Or.inr ⟨nd, ?_, Or.inr (Or.inr ⟨?_, rfl, ?_⟩)⟩⟩)⟩ f
          · show I 17 = (q.2.2.2.2.2.2.length : Int)
            rw [hlen, h17]
          · show va_up (F 10) (4 * r + 3) _ (4 * q.2.2.2.2.2.2.length) = 1
            rw [hlen, up_ne (by omega), k2]
          · show va_up (F 10) (4 * r + 3) _ (4 * q.2.2.2.2.2.2.length + 2) = -1
            rw [hlen, up_ne (by omega), k3]
          · show I 21 + 1 = q.2.1 + 1
            rw [k5]
          · show 10 * I 22 + c - 48 = 10 * q.2.2.2.2.1 + (c - 48)
            exact hI22
          · show numOk (q.2.1 + 1) (10 * q.2.2.2.2.1 + (c - 48))
            unfold numOk
            omega
          · show va_up (F 10) (4 * r + 3) _ (4 * q.2.2.2.2.2.2.length + 1) = q.2.2.1
            rw [hlen, up_ne (by omega), nD]
          · show 0 < q.2.1 + 1
            omega
          · show va_up (F 10) (4 * r + 3) _ (4 * q.2.2.2.2.2.2.length + 3) = if q.2.2.2.1 = 0 then 10 * q.2.2.2.2.1 + (c - 48) else -(10 * q.2.2.2.2.1 + (c - 48))
            rw [hlen, up_self, k4, hI22]
        · refine fl ?_ h I (F 10) hM10 KpT.rf (Or.inl rfl) Fr.rf
          by_cases c59 : c = 59
          · exact semi c59
          · unfold rstep stepS
            rw [if_neg (by omega), if_neg c59, if_pos k1, if_neg (by omega)]
            by_cases c45 : c = 45
            · rw [if_pos c45, if_neg (by omega)]
            · rw [if_neg c45]
              unfold stepV
              rw [if_neg ?_]
              rintro ⟨u1, u2, u3, u4⟩
              exact hv ⟨⟨u1, u2⟩, by omega, by omega, by omega⟩
    refine sX7_takes_30 hc hr hM.o rfl rfl ⟨R3_s (by omega), fun z => absurd z (by omega), fun z => ?_, fun z => ?_, fun z => ?_, fun z => ?_, fun z => ?_, fun z => ?_, fun z => ?_, fun z => ?_, fun z => ?_⟩
    · -- a letter
      have k1 : q.1 = -1 := by
        rcases hk with ⟨k1, _⟩ | ⟨_, z1, z2, _⟩ | ⟨_, _, _, _, _, _, _, _, ⟨_, _, _, y⟩ | ⟨_, _, ⟨_, _, y⟩ | ⟨_, _, y⟩ | ⟨_, y, _⟩⟩⟩
        · exact k1
        · split at z2 <;> omega
        all_goals omega
      refine ⟨I, F, r, c, rfl, hM, h17, hr15, z, hcr, fun h' I' D' m k e17 hkl hlow f => ⟨rfl, sX7_takes_89 hc hr ⟨by split <;> omega, ?_⟩⟩⟩
      have hkT : KpT I I' := k
      by_cases kc : kl c = -1
      · rw [if_pos kc]
        refine fl ?_ h' I' D' m hkT (Or.inl e17) f
        unfold rstep
        rw [if_pos k1, if_pos kc]
      · rw [if_neg kc]
        obtain ⟨d1, d2, d3, d4, d5, d6⟩ := hkl kc
        refine ok (q0R q.2.2.2.2.2.1 q.2.2.2.2.2.2 (kl c)) ?_ h' I' D' m hkT (Or.inl e17) ⟨?_, ?_, ?_⟩ f
        · unfold rstep
          rw [if_pos k1, if_neg kc]
        · show I' 17 = (q.2.2.2.2.2.2.length : Int)
          rw [hlen, e17, h17]
        · exact hps.up (fun x hx => hlow x (by omega))
        · have hr3 := kl_r c
          by_cases k3 : kl c = 1
          · refine Or.inr (Or.inr ⟨k3, ?_, ?_, d3, d4, d5, Or.inl rfl, Or.inl ⟨rfl, rfl⟩, Or.inl ⟨rfl, rfl, rfl, ?_⟩⟩)
            · show D' (4 * q.2.2.2.2.2.2.length) = 1
              rw [hlen, d1, k3]
            · show D' (4 * q.2.2.2.2.2.2.length + 2) = -1
              rw [hlen, d2]
            · rw [d6, if_pos k3]
          · refine Or.inr (Or.inl ⟨by show kl c = 0 ∨ kl c = 2; omega, ⟨(by decide : (0 : Int) ≤ 0), (by decide : (0 : Int) ≤ 3)⟩, ?_, ?_, fun j hj => absurd (show (j : Int) < 0 from hj) (by omega)⟩)
            · rw [d6, if_neg k3]
              rfl
            · show D' (4 * q.2.2.2.2.2.2.length) = kl c
              rw [hlen, d1]
    -- the first node, the second node
    · have kq : (q.1 = 0 ∨ q.1 = 2) ∧ q.2.1 = 0 := by
        rcases hk with ⟨k1, y⟩ | ⟨k1, z1, z2, _⟩ | ⟨_, _, _, _, _, _, _, _, ⟨_, _, _, y⟩ | ⟨_, _, ⟨_, _, y⟩ | ⟨_, _, y⟩ | ⟨_, y, _⟩⟩⟩
        · omega
        · refine ⟨k1, ?_⟩
          split at z2 <;> omega
        all_goals omega
      obtain ⟨kq1, kq2⟩ := kq
      rcases hk with ⟨k1, y⟩ | ⟨_, z1, z2, z3, z4⟩ | ⟨k1, _⟩
      · omega
      · refine ⟨I, F, r, 1, c, 2, rfl, hM, h17, hr15, by omega, hcr, fun h' m f => ⟨rfl, sX7_takes_97 hc hr ⟨inZ01 _ _ _, ?_⟩⟩⟩
        have kT : ∀ v, KpT I (va_up I 19 v) := fun v k a b _ _ _ => up_ne b
        by_cases cd : 48 ≤ c ∧ c ≤ 54
        · rw [if_pos cd] at m
          have e1 : inZ c 48 54 = 1 := if_pos cd
          rw [e1]
          have hstep : rstep q c = some (q.1, q.2.1 + 1, q.2.2.1, q.2.2.2.1, q.2.2.2.2.1, va_up q.2.2.2.2.2.1 q.2.1.toNat (c - 48), q.2.2.2.2.2.2) := by
            unfold rstep stepD digOk
            rw [if_neg (by omega), if_neg (by omega), if_neg (by omega), if_neg (show ¬ (q.1 = 0 ∧ q.2.1 = 2) by omega), decide_eq_true cd, if_pos ⟨by omega, rfl⟩]
          refine ok _ hstep h' _ _ m (kT 2) (Or.inl rfl) ⟨?_, ?_, Or.inr (Or.inl ⟨kq1, ⟨by show 0 ≤ q.2.1 + 1; omega, by show q.2.1 + 1 ≤ 3; omega⟩, ?_, ?_, fun j hj => ?_⟩)⟩ f
          · show I 17 = (q.2.2.2.2.2.2.length : Int)
            rw [hlen, h17]
          · exact hps.up (fun x hx => up_ne (by omega))
          · show va_up I 19 2 19 = if q.2.1 + 1 = 3 then 8 else q.2.1 + 1 + 1
            rw [up_self, if_neg (by omega), kq2]
            rfl
          · show va_up (F 10) (4 * r + 1) (c - 48) (4 * q.2.2.2.2.2.2.length) = q.1
            rw [hlen] at z3 ⊢
            rw [up_ne (by omega), z3]
          · have hj' : (j : Int) < q.2.1 + 1 := hj
            have : j = 0 := by omega
            subst this
            show va_up (F 10) (4 * r + 1) (c - 48) (4 * q.2.2.2.2.2.2.length + 1 + 0) = va_up q.2.2.2.2.2.1 q.2.1.toNat (c - 48) 0
            rw [hlen, Nat.add_zero, up_self, kq2]
            exact up_self.symm
        · rw [if_neg cd] at m
          have e1 : inZ c 48 54 = 0 := if_neg cd
          rw [e1]
          refine fl ?_ h' _ _ m (kT _) (Or.inl rfl) f
          by_cases c59 : c = 59
          · exact semi c59
          · unfold rstep stepD digOk
            rw [if_neg (by omega), if_neg c59, if_neg (by omega), if_neg (show ¬ (q.1 = 0 ∧ q.2.1 = 2) by omega), decide_eq_false cd, if_neg (fun y => by cases y.2)]
      · omega
    · have kq : (q.1 = 0 ∨ q.1 = 2) ∧ q.2.1 = 1 := by
        rcases hk with ⟨k1, y⟩ | ⟨k1, z1, z2, _⟩ | ⟨_, _, _, _, _, _, _, _, ⟨_, _, _, y⟩ | ⟨_, _, ⟨_, _, y⟩ | ⟨_, _, y⟩ | ⟨_, y, _⟩⟩⟩
        · omega
        · refine ⟨k1, ?_⟩
          split at z2 <;> omega
        all_goals omega
      obtain ⟨kq1, kq2⟩ := kq
      rcases hk with ⟨k1, y⟩ | ⟨_, z1, z2, z3, z4⟩ | ⟨k1, _⟩
      · omega
      · refine ⟨I, F, r, 2, c, 3, rfl, hM, h17, hr15, by omega, hcr, fun h' m f => ⟨rfl, sX7_takes_105 hc hr ⟨inZ01 _ _ _, ?_⟩⟩⟩
        have kT : ∀ v, KpT I (va_up I 19 v) := fun v k a b _ _ _ => up_ne b
        by_cases cd : 48 ≤ c ∧ c ≤ 54
        · rw [if_pos cd] at m
          have e1 : inZ c 48 54 = 1 := if_pos cd
          rw [e1]
          have hstep : rstep q c = some (q.1, q.2.1 + 1, q.2.2.1, q.2.2.2.1, q.2.2.2.2.1, va_up q.2.2.2.2.2.1 q.2.1.toNat (c - 48), q.2.2.2.2.2.2) := by
            unfold rstep stepD digOk
            rw [if_neg (by omega), if_neg (by omega), if_neg (by omega), if_neg (show ¬ (q.1 = 0 ∧ q.2.1 = 2) by omega), decide_eq_true cd, if_pos ⟨by omega, rfl⟩]
          refine ok _ hstep h' _ _ m (kT 3) (Or.inl rfl) ⟨?_, ?_, Or.inr (Or.inl ⟨kq1, ⟨by show 0 ≤ q.2.1 + 1; omega, by show q.2.1 + 1 ≤ 3; omega⟩, ?_, ?_, fun j hj => ?_⟩)⟩ f
          · show I 17 = (q.2.2.2.2.2.2.length : Int)
            rw [hlen, h17]
          · exact hps.up (fun x hx => up_ne (by omega))
          · show va_up I 19 3 19 = if q.2.1 + 1 = 3 then 8 else q.2.1 + 1 + 1
            rw [up_self, if_neg (by omega), kq2]
            rfl
          · show va_up (F 10) (4 * r + 2) (c - 48) (4 * q.2.2.2.2.2.2.length) = q.1
            rw [hlen] at z3 ⊢
            rw [up_ne (by omega), z3]
          · have hj' : (j : Int) < q.2.1 + 1 := hj
            show va_up (F 10) (4 * r + 2) (c - 48) (4 * q.2.2.2.2.2.2.length + 1 + j) = va_up q.2.2.2.2.2.1 q.2.1.toNat (c - 48) j
            rw [kq2]
            by_cases j1 : j = 1
            · subst j1
              rw [hlen, show 4 * r + 1 + 1 = 4 * r + 2 by omega, up_self]
              exact up_self.symm
            · have : j = 0 := by omega
              subst this
              have := z4 0 (by omega)
              rw [hlen] at this ⊢
              rw [up_ne (by omega), this]
              exact (up_ne (by decide)).symm
        · rw [if_neg cd] at m
          have e1 : inZ c 48 54 = 0 := if_neg cd
          rw [e1]
          refine fl ?_ h' _ _ m (kT _) (Or.inl rfl) f
          by_cases c59 : c = 59
          · exact semi c59
          · unfold rstep stepD digOk
            rw [if_neg (by omega), if_neg c59, if_neg (by omega), if_neg (show ¬ (q.1 = 0 ∧ q.2.1 = 2) by omega), decide_eq_false cd, if_neg (fun y => by cases y.2)]
      · omega
    · -- the last digit
      have kq : (q.1 = 0 ∨ q.1 = 2) ∧ q.2.1 = 2 := by
        rcases hk with ⟨k1, y⟩ | ⟨k1, z1, z2, _⟩ | ⟨_, _, _, _, _, _, _, _, ⟨_, _, _, y⟩ | ⟨_, _, ⟨_, _, y⟩ | ⟨_, _, y⟩ | ⟨_, y, _⟩⟩⟩
        · omega
        · refine ⟨k1, ?_⟩
          split at z2 <;> omega
        all_goals omega
      obtain ⟨kq1, kq2⟩ := kq
      rcases hk with ⟨k1, y⟩ | ⟨_, z1, z2, z3, z4⟩ | ⟨k1, _⟩
      · omega
      · rw [hlen] at z3 z4
        have kT : ∀ v, KpT I (va_up I 19 v) := fun v k a b _ _ _ => up_ne b
        have hdig : digOk q c = true ↔ lastOk q.1 c := by
          unfold digOk lastOk
          by_cases k0 : q.1 = 0
          · rw [if_pos ⟨k0, kq2⟩, if_pos k0, decide_eq_true_eq]
          · rw [if_neg (fun y => k0 y.1), if_neg k0, decide_eq_true_eq]
        refine ⟨I, F, r, c, q.1, rfl, hM, h17, hr15, z3, R3_s (by omega), hcr, fun hl h' m f => ⟨rfl, sX7_takes_111 hc hr ⟨Or.inr rfl, ?_⟩⟩, fun hl h' m f => ⟨rfl, sX7_takes_111 hc hr ⟨Or.inl rfl, ?_⟩⟩⟩
        · have c59 : c ≠ 59 := by
            unfold lastOk at hl
            split at hl <;> omega
          have hstep : rstep q c = some (q.1, q.2.1 + 1, q.2.2.1, q.2.2.2.1, q.2.2.2.2.1, va_up q.2.2.2.2.2.1 q.2.1.toNat (c - 48), q.2.2.2.2.2.2) := by
            unfold rstep stepD
            rw [if_neg (by omega), if_neg c59, if_neg (by omega), if_pos ⟨by omega, hdig.mpr hl⟩]
          refine ok _ hstep h' _ _ m (kT 8) (Or.inl rfl) ⟨?_, ?_, Or.inr (Or.inl ⟨kq1, ⟨by show 0 ≤ q.2.1 + 1; omega, by show q.2.1 + 1 ≤ 3; omega⟩, ?_, ?_, fun j hj => ?_⟩)⟩ f
          · show I 17 = (q.2.2.2.2.2.2.length : Int)
            rw [hlen, h17]
          · exact hps.up (fun x hx => up_ne (by omega))
          · show va_up I 19 8 19 = if q.2.1 + 1 = 3 then 8 else q.2.1 + 1 + 1
            rw [up_self, if_pos (by omega)]
          · show va_up (F 10) (4 * r + 3) (c - 48) (4 * q.2.2.2.2.2.2.length) = q.1
            rw [hlen, up_ne (by omega), z3]
          · have hj' : (j : Int) < q.2.1 + 1 := hj
            show va_up (F 10) (4 * r + 3) (c - 48) (4 * q.2.2.2.2.2.2.length + 1 + j) = va_up q.2.2.2.2.2.1 q.2.1.toNat (c - 48) j
            rw [kq2, hlen]
            by_cases j2 : j = 2
            · subst j2
              rw [show 4 * r + 1 + 2 = 4 * r + 3 by omega, up_self]
              exact up_self.symm
            · rw [up_ne (by omega), z4 j (by omega)]
              exact (up_ne (show j ≠ (2 : Int).toNat from fun y => j2 y)).symm
        · refine fl ?_ h' _ _ m (kT _) (Or.inl rfl) f
          by_cases c59 : c = 59
          · exact semi c59
          · unfold rstep stepD
            rw [if_neg (by omega), if_neg c59, if_neg (by omega), if_neg (fun y => hl (hdig.mp y.2))]
      · omega
    · -- the node of a source
      have kq : q.1 = 1 := by
        rcases hk with ⟨k1, y⟩ | ⟨k1, z1, z2, _⟩ | ⟨k1, _⟩
        · omega
        · split at z2 <;> omega
        · exact k1
      rcases hk with ⟨k1, y⟩ | ⟨_, z1, z2, _⟩ | ⟨k1, k2, k3, k4, k5, k6, k7, k8, ⟨n1, n2, n3, n4⟩ | ⟨_, _, ⟨_, _, y⟩ | ⟨_, _, y⟩ | ⟨_, y, _⟩⟩⟩
      · omega
      · split at z2 <;> omega
      · rw [hlen] at k2 k3
        refine ⟨I, F, r, 1, c, 5, rfl, hM, h17, hr15, by omega, hcr, fun h' m f => ⟨rfl, sX7_takes_119 hc hr ⟨inZ01 _ _ _, ?_⟩⟩⟩
        have kT : ∀ v, KpT I (va_up I 19 v) := fun v k a b _ _ _ => up_ne b
        by_cases cd : 48 ≤ c ∧ c ≤ 54
        · rw [if_pos cd] at m
          have e1 : inZ c 48 54 = 1 := if_pos cd
          rw [e1]
          have hstep : rstep q c = some (q.1, q.2.1, c - 48, q.2.2.2.1, q.2.2.2.2.1, q.2.2.2.2.2.1, q.2.2.2.2.2.2) := by
            unfold rstep stepS nodeC
            rw [if_neg (by omega), if_neg (by omega), if_pos k1, if_pos n1, if_pos cd, if_neg (by decide)]
          refine ok _ hstep h' _ _ m (kT 5) (Or.inl rfl) ⟨?_, ?_, Or.inr (Or.inr ⟨k1, ?_, ?_, k4, k5, k6, k7, k8, Or.inr ⟨⟨by show 0 ≤ c - 48; omega, by show c - 48 ≤ 6; omega⟩, ?_, Or.inl ⟨n2, n3, up_self⟩⟩⟩)⟩ f
          · show I 17 = (q.2.2.2.2.2.2.length : Int)
            rw [hlen, h17]
          · exact hps.up (fun x hx => up_ne (by omega))
          · show va_up (F 10) (4 * r + 1) (c - 48) (4 * q.2.2.2.2.2.2.length) = 1
            rw [hlen, up_ne (by omega), k2]
          · show va_up (F 10) (4 * r + 1) (c - 48) (4 * q.2.2.2.2.2.2.length + 2) = -1
            rw [hlen, up_ne (by omega), k3]
          · show va_up (F 10) (4 * r + 1) (c - 48) (4 * q.2.2.2.2.2.2.length + 1) = c - 48
            rw [hlen, up_self]
        · rw [if_neg cd] at m
          have e1 : inZ c 48 54 = 0 := if_neg cd
          rw [e1]
          refine fl ?_ h' _ _ m (kT _) (Or.inl rfl) f
          by_cases c59 : c = 59
          · exact semi c59
          · unfold rstep stepS nodeC
            rw [if_neg (by omega), if_neg c59, if_pos k1, if_pos n1, if_neg cd, if_pos rfl]
      all_goals omega
    -- the value of a source: three places
    all_goals first
      | exact (tv (by omega))
      | skip
    · refine fl ?_ h I (F 10) hM10 KpT.rf (Or.inl rfl) Fr.rf
      by_cases c59 : c = 59
      · exact absurd ⟨c59, Or.inr z⟩ hno
      · rcases hk with ⟨k1, y⟩ | ⟨k1, z1, z2, _⟩ | ⟨_, _, _, _, _, _, _, _, ⟨_, _, _, y⟩ | ⟨_, _, ⟨_, _, y⟩ | ⟨_, _, y⟩ | ⟨_, y, _⟩⟩⟩
        · omega
        · unfold rstep stepD
          rw [if_neg (by omega), if_neg c59, if_neg (by omega), if_neg (fun y => by have := y.1; split at z2 <;> omega)]
        all_goals omega
  refine sX7_takes_0 hc hr hM.o rfl rfl rfl ⟨hcr, fun z => h30 (fun y => z y.1), fun z => ⟨R3_s (by omega), fun w => h30 (fun y => (of_decide_eq_false w) y.2), fun w => ?_⟩⟩
  have hov := of_decide_eq_true w
  have hM1 := (hM10.uo (va_up I 17 (I 17 + 1))).uo (va_up (va_up I 17 (I 17 + 1)) 19 0)
  have hsome := hE.1.mp hov
  cases ee : endP q with
  | none =>
    rw [ee] at hsome
    cases hsome
  | some ps =>
    obtain ⟨e1, e2⟩ := hE.2 ps ee
    have kn : q.1 ≠ -1 := by
      intro y
      unfold endP at ee
      rw [if_pos y] at ee
      cases ee
    have hstep : rstep q c = some (q0R q.2.2.2.2.2.1 ps (-1)) := by
      unfold rstep
      rw [if_neg kn, if_pos z, ee]
      rfl
    refine ok _ hstep _ _ _ hM1 (fun k a b _ _ _ => by rw [up_ne b, up_ne a]) (Or.inr rfl) ⟨?_, e2, Or.inl ⟨rfl, rfl⟩⟩ ((Fr.rf.up (by omega)).up (by omega))
    show I 17 + 1 = (ps.length : Int)
    rw [e1, hlen, h17]
    rfl
set_option maxHeartbeats 4000000 in
set_option maxRecDepth 100000 in
theorem sX7_rightLength_0 {X : Xt} {n : Nat} {h : HP} {a0 : Nat} {fs1 : List Value} (hc : Cx X cX7_rightLength RX7 2 3 67) {K : KT} (hr : CxR X (some .int) K) (e1 : At h n a0 (.inl (7, fs1))) (z1 : fs1.length = 24)
    (P : Ok X 0 0 12 [(0, .ref a0), (1, .int (i3 0))] [] n (va_up (va_up h a0 (.inl (7, (fs1.set 17 (.int (i3 0)))))) a0 (.inl (7, ((fs1.set 17 (.int (i3 0))).set 19 (.int (i3 0))))))) :
    Ok X 0 0 0 [(0, .ref a0)] [] n h := by
  refine ok_aload_n (pc := 0) hc dX7_rightLength_0 rfl 0 rfl ?_
  refine ok_iconst (pc := 1) hc (v := i3 0) dX7_rightLength_1 (by decide) ?_
  refine ok_put (pc := 2) hc fl_X7_169 dX7_rightLength_2 e1.1 e1.2 (by simp [List.length_set, z1]) (fun _ => rfl) (fun _ => rfl) ?_
  refine ok_aload_n (pc := 5) hc dX7_rightLength_5 rfl 0 rfl ?_
  refine ok_iconst (pc := 6) hc (v := i3 0) dX7_rightLength_6 (by decide) ?_
  refine ok_put (pc := 7) hc fl_X7_185 dX7_rightLength_7 e1.1 up_self (by simp [List.length_set, z1]) (fun _ => rfl) (fun _ => rfl) ?_
  refine ok_iconst (pc := 10) hc (v := i3 0) dX7_rightLength_10 (by decide) ?_
  refine ok_istore_n (pc := 11) hc (lv' := [(1, .int (i3 0)), (0, .ref a0)]) dX7_rightLength_11 rfl (by decide) rfl ?_
  refine ok_lv [1, 0] rfl ?_
  exact P

set_option maxHeartbeats 4000000 in
set_option maxRecDepth 100000 in
theorem sX7_rightLength_12 {X : Xt} {n : Nat} {h : HP} {a0 : Nat} {x1 : Int} {fs1 : List Value} {iv2 : Int} {q5 : Nat} {len6 : Nat} {f6 : Nat → Int} (hc : Cx X cX7_rightLength RX7 2 3 67) {K : KT} (hr : CxR X (some .int) K) (e1 : At h n a0 (.inl (7, fs1))) (z1 : fs1.length = 24) (v1_7 : fs1[7]? = some (.int (i3 iv2))) (v1_8 : fs1[8]? = some (.ref q5)) (e6 : At h n q5 (ai len6 f6))
    (P : (R3 x1) ∧ (R3 iv2) ∧ (iv2 ≤ x1 → Ok X 0 0 39 [(0, .ref a0), (1, .int (i3 x1))] [] n h) ∧ (¬ iv2 ≤ x1 → (Ix x1 len6) ∧ spec_X7_takes [.ref a0, .int (i3 (f6 (x1 : Int).toNat))] n h (kc X 0 0 27 [(0, .ref a0), (1, .int (i3 x1))] [] n))) :
    Ok X 0 0 12 [(0, .ref a0), (1, .int (i3 x1))] [] n h := by
  refine ok_iload_n (pc := 12) hc dX7_rightLength_12 rfl 1 rfl ?_
  refine ok_aload_n (pc := 13) hc dX7_rightLength_13 rfl 0 rfl ?_
  refine ok_get (pc := 14) hc fl_X7_166 dX7_rightLength_14 e1.1 e1.2 v1_7 ?_
  obtain ⟨r3, P⟩ := P
  obtain ⟨r4, P⟩ := P
  refine zk_icmp_ge (pc := 17) (tgt := 39) hc dX7_rightLength_17 (by decide) r3 r4 (fun c => ?_) (fun c => ?_)
  · have P := P.1 c
    exact P
  · have P := P.2 c
    refine ok_aload_n (pc := 20) hc dX7_rightLength_20 rfl 0 rfl ?_
    refine ok_aload_n (pc := 21) hc dX7_rightLength_21 rfl 0 rfl ?_
    refine ok_get (pc := 22) hc fl_X7_22 dX7_rightLength_22 e1.1 e1.2 v1_8 ?_
    refine ok_iload_n (pc := 25) hc dX7_rightLength_25 rfl 1 rfl ?_
    obtain ⟨r, P⟩ := P
    refine zk_iald (pc := 26) hc dX7_rightLength_26 e6.1 e6.2 r ?_
    exact ok_callV (pc := 27) (a := a0) (cb := 0) (sb := 0) (st := []) hc [.int (i3 (f6 (x1 : Int).toNat))] cv_X7_204 sp_X7_takes (by decide) dX7_rightLength_27 rfl e1.1 e1.2 rfl rfl rfl (Nat.le_of_ble_eq_true rfl) P

set_option maxHeartbeats 4000000 in
set_option maxRecDepth 100000 in
theorem sX7_rightLength_30 {X : Xt} {n : Nat} {h : HP} {a0 : Nat} {x1 : Int} {t0 : Int} (hc : Cx X cX7_rightLength RX7 2 3 67) {K : KT} (hr : CxR X (some .int) K) 
    (P : (R3 t0) ∧ (t0 = 0 → Ok X 0 0 39 [(0, .ref a0), (1, .int (i3 x1))] [] n h) ∧ (¬ t0 = 0 → Ok X 0 0 12 [(0, .ref a0), (1, .int (i3 (x1 + 1)))] [] n h)) :
    Ok X 0 0 30 [(0, .ref a0), (1, .int (i3 x1))] [.int (i3 t0)] n h := by
  obtain ⟨r1, P⟩ := P
  refine zk_if_eq (pc := 30) (tgt := 39) hc dX7_rightLength_30 (by decide) r1 (fun c => ?_) (fun c => ?_)
  · have P := P.1 c
    exact P
  · have P := P.2 c
    refine zk_iinc (pc := 33) hc (q := 1) (x := x1) (lv' := [(1, .int (i3 (x1 + 1))), (0, .ref a0)]) dX7_rightLength_33 rfl (by decide) rfl ?_
    refine ok_goto (pc := 36) (tgt := 12) hc dX7_rightLength_36 (by decide) ?_
    refine ok_lv [1, 0] rfl ?_
    exact P

set_option maxHeartbeats 4000000 in
set_option maxRecDepth 100000 in
theorem sX7_rightLength_39 {X : Xt} {n : Nat} {h : HP} {a0 : Nat} {x1 : Int} (hc : Cx X cX7_rightLength RX7 2 3 67) {K : KT} (hr : CxR X (some .int) K) 
    (P : K (.inl (some (.int (i3 x1)))) n h) :
    Ok X 0 0 39 [(0, .ref a0), (1, .int (i3 x1))] [] n h := by
  refine ok_iload_n (pc := 39) hc dX7_rightLength_39 rfl 1 rfl ?_
  exact ok_iret (st := []) (pc := 40) hc hr dX7_rightLength_40 P

def spec_X7_rightLength (args : List Value) (n : Nat) (h : HP) (K : KT) : Prop := ∃ (I : Nat → Int) (F : Nat → Nat → Int) (B : List Int), args = [.ref 128] ∧ MAt h n I F ∧ BfR (F 5) B ∧ I 7 = B.length ∧ ∀ (h' : HP) (I' D' : Nat → Int), MAt h' n I' (va_up F 10 D') → KpT I I' → (0 ≤ I' 17 ∧ I' 17 ≤ 16) → (∀ q', (rrun (q0R (fun _ => 0) [] (-1)) B).2 = some q' → RMR I' D' q' ∧ RI q' B.length) → Fr h h' 128 138 → K (.inl (some (.int (i3 ((rrun (q0R (fun _ => 0) [] (-1)) B).1 : Nat))))) n h'
theorem sp_X7_rightLength : Sp yX7_rightLength cX7_rightLength 2 (some .int) 3 67 0 0 spec_X7_rightLength := by
  refine sp_intro (by decide) (by rintro args n h K ⟨I, F, B, rfl, -⟩; exact Nat.le_of_ble_eq_true rfl) ?_
  rintro X args n h K hc hr ⟨I, F, B, rfl, hM, hB, h7, kk⟩
  have hl60 := hB.1
  have L : ∀ (cs : List Int) (i : Nat) (q : RdQ) (hh : HP) (I1 D1 : Nat → Int), B.drop i = cs → i ≤ B.length → (rrun (q0R (fun _ => 0) [] (-1)) B).1 = i + (rrun q cs).1 → (rrun (q0R (fun _ => 0) [] (-1)) B).2 = (rrun q cs).2 → MAt hh n I1 (va_up F 10 D1) → KpT I I1 → (0 ≤ I1 17 ∧ I1 17 ≤ 16) → RMR I1 D1 q → RI q i → Fr h hh 128 138 → Ok X 0 0 12 [(0, .ref 128), (1, .int (i3 i))] [] n hh := by
    intro cs
    induction cs with
    | nil =>
      intro i q hh I1 D1 hd hi h1 h2 hM1 hI1 h117 hR hRI hf
      have hil : i = B.length := by
        have := congrArg List.length hd
        rw [List.length_drop] at this
        have : B.length - i = 0 := this
        omega
      have e7 : I1 7 = B.length := (hI1 7 (by decide) (by decide) (by decide) (by decide) (by decide)).trans h7
      have k := kk hh I1 D1 hM1 hI1 h117 (fun q' z => by
        rw [h2] at z
        have : some q = some q' := z
        rw [← Option.some.inj this, ← hil]
        exact ⟨hR, hRI⟩) hf
      rw [h1] at k
      refine sX7_rightLength_12 hc hr hM1.o rfl rfl rfl hM1.b ⟨R3_s (by omega), by rw [e7]; exact R3_s (by omega), fun _ => sX7_rightLength_39 hc hr k, fun z => absurd (by rw [e7]; omega) z⟩
    | cons c cs ih =>
      intro i q hh I1 D1 hd hi h1 h2 hM1 hI1 h117 hR hRI hf
      have hil : i < B.length := by
        have := congrArg List.length hd
        rw [List.length_drop, List.length_cons] at this
        omega
      have e7 : I1 7 = B.length := (hI1 7 (by decide) (by decide) (by decide) (by decide) (by decide)).trans h7
      have hbi := hB.2 i hil
      have hci : F 5 i = c := by
        have h0 : B[i]? = some c := by
          have := congrArg (fun l => l[0]?) hd
          simp only [List.getElem?_drop, Nat.add_zero] at this
          exact this
        exact Option.some.inj (hbi.1.symm.trans h0)
      have hd2 : B.drop (i + 1) = cs := by
        rw [← List.drop_drop, hd]
        rfl
      have ebuf : (va_up F 10 D1) 5 (i : Int).toNat = c := by
        show F 5 (i : Int).toNat = c
        rw [show (i : Int).toNat = i by omega]
        exact hci
      refine sX7_rightLength_12 hc hr hM1.o rfl rfl rfl hM1.b ⟨R3_s (by omega), by rw [e7]; exact R3_s (by omega), fun z => absurd z (by rw [e7]; omega), fun _ => ⟨⟨by omega, by omega, by omega⟩, ?_⟩⟩
      rw [ebuf]
      refine ⟨I1, va_up F 10 D1, q, i, c, rfl, hM1, hR, hRI, by omega, R3_s (by omega), fun h3 I3 D3 hM3 hI3 h317 hR3 f3 => ⟨rfl, ?_⟩⟩
      rw [up_up] at hM3
      have kI3 : KpT I I3 := fun k a b c d e => (hI3 k a b c d e).trans (hI1 k a b c d e)
      have fr3 := hf.tr f3
      have er : rrun q (c :: cs) = match rstep q c with
        | none => (0, none)
        | some q' => ((rrun q' cs).1 + 1, (rrun q' cs).2) := rfl
      cases e : rstep q c with
      | none =>
        rw [e] at er
        have k := kk h3 I3 D3 hM3 kI3 h317 (fun q' z => by
          rw [h2, er] at z
          cases z) fr3
        rw [h1, er] at k
        exact sX7_rightLength_30 hc hr ⟨R3_bz, fun _ => sX7_rightLength_39 hc hr k, fun z => absurd rfl z⟩
      | some q' =>
        rw [e] at er
        refine sX7_rightLength_30 hc hr ⟨R3_bz, fun z => absurd z (show ¬ bz (some q').isSome = 0 from (by decide : ¬ bz true = 0)), fun _ => ?_⟩
        refine ih (i + 1) q' h3 I3 D3 hd2 (by omega) ?_ ?_ hM3 kI3 h317 (hR3 q' e) (hRI.step (by omega) e) fr3
        · rw [h1, er]
          show i + ((rrun q' cs).1 + 1) = i + 1 + (rrun q' cs).1
          omega
        · rw [h2, er]
  have hM1 := ((hM.uo (va_up I 17 0)).uo (va_up (va_up I 17 0) 19 0)).u1 (j := 10) (by omega)
  refine sX7_rightLength_0 hc hr hM.o rfl (L B 0 (q0R (fun _ => 0) [] (-1)) _ _ (F 10) rfl (Nat.zero_le _) (Nat.zero_add _).symm rfl hM1 (fun k a b _ _ _ => by rw [up_ne b, up_ne a]) ⟨(by decide : (0 : Int) ≤ 0), (by decide : (0 : Int) ≤ 16)⟩ ⟨rfl, fun i hi => absurd hi (Nat.not_lt_zero i), Or.inl ⟨rfl, rfl⟩⟩ ?_ ((Fr.rf.up (by omega)).up (by omega)))
  exact Or.inl ⟨rfl, by show 4 * ((0 : Nat) : Int) ≤ ((0 : Nat) : Int); omega⟩
set_option maxHeartbeats 4000000 in
set_option maxRecDepth 100000 in
theorem sX7_firstError_0 {X : Xt} {n : Nat} {h : HP} {a0 : Nat} {fs1 : List Value} (hc : Cx X cX7_firstError RX7 1 4 88) {K : KT} (hr : CxR X (some .int) K) (e1 : At h n a0 (.inl (7, fs1))) (z1 : fs1.length = 24)
    (P : spec_X7_rightLength [.ref a0] n (va_up h a0 (.inl (7, (fs1.set 0 (.int (i3 0)))))) (kc X 0 0 6 [(0, .ref a0)] [] n)) :
    Ok X 0 0 0 [(0, .ref a0)] [] n h := by
  refine ok_aload_n (pc := 0) hc dX7_firstError_0 rfl 0 rfl ?_
  refine ok_iconst (pc := 1) hc (v := i3 0) dX7_firstError_1 (by decide) ?_
  refine ok_put (pc := 2) hc fl_X7_41 dX7_firstError_2 e1.1 e1.2 (by simp [List.length_set, z1]) (fun _ => rfl) (fun _ => rfl) ?_
  refine ok_aload_n (pc := 5) hc dX7_firstError_5 rfl 0 rfl ?_
  exact ok_callV (pc := 6) (a := a0) (cb := 0) (sb := 0) (st := []) hc [] cv_X7_207 sp_X7_rightLength (by decide) dX7_firstError_6 rfl e1.1 up_self rfl rfl rfl (Nat.le_of_ble_eq_true rfl) P

set_option maxHeartbeats 4000000 in
set_option maxRecDepth 100000 in
theorem sX7_firstError_9 {X : Xt} {n : Nat} {h : HP} {a0 : Nat} {t0 : Int} (hc : Cx X cX7_firstError RX7 1 4 88) {K : KT} (hr : CxR X (some .int) K) 
    (P : K (.inl (some (.int (i3 t0)))) n h) :
    Ok X 0 0 9 [(0, .ref a0)] [.int (i3 t0)] n h := by
  exact ok_iret (st := []) (pc := 9) hc hr dX7_firstError_9 P

theorem MdF.kt {I I' : Nat → Int} {F F' : Nat → Nat → Int} {q : Dsk} (h : MdF I F q) (hI : ∀ k, k = 3 ∨ k = 5 ∨ k = 7 → I' k = I k) (hF : ∀ j, j = 1 ∨ j = 3 ∨ j = 4 ∨ j = 5 → F' j = F j) : MdF I' F' q := by
  obtain ⟨h1, h2, h3, h4⟩ := h
  refine ⟨by rw [hF 1 (by omega)]; exact h1, ⟨by rw [hF 3 (by omega)]; exact h2.1, (hI 3 (by omega)).trans h2.2⟩, ⟨(hI 5 (by omega)).trans h3.1, by rw [hF 4 (by omega)]; exact h3.2⟩, by rw [hF 5 (by omega)]; exact h4.1, (hI 7 (by omega)).trans h4.2⟩
def spec_X7_firstError (args : List Value) (n : Nat) (h : HP) (K : KT) : Prop := ∃ (q : Dsk) (t : Int), args = [.ref 128] ∧ MdA h n q t ∧ ∀ h', MdA h' n q 0 → Fr h h' 128 138 → K (.inl (some (.int (i3 (ferr q.2.2.2.2))))) n h'
theorem sp_X7_firstError : Sp yX7_firstError cX7_firstError 1 (some .int) 4 88 0 0 spec_X7_firstError := by
  refine sp_intro (by decide) (by rintro args n h K ⟨q, t, rfl, -⟩; exact Nat.le_of_ble_eq_true rfl) ?_
  rintro X args n h K hc hr ⟨q, t, rfl, ⟨I, F, hM0, hF, -, hGq, hOq⟩, kk⟩
  refine sX7_firstError_0 hc hr hM0.o rfl ⟨va_up I 0 0, F, q.2.2.2.2, rfl, hM0.uo (va_up I 0 0), hF.2.2.2.1, hF.2.2.2.2, fun h1 I1 D1 hM1 hI1 _ _ f1 => ⟨rfl, sX7_firstError_9 hc hr ?_⟩⟩
  refine kk h1 ⟨I1, _, hM1, (hF.thr 0).kt (fun k hk => hI1 k (by omega) (by omega) (by omega) (by omega) (by omega)) (fun j hj => up_ne (by omega)), ?_, hGq, hOq⟩ ((Fr.rf.up (by omega)).tr f1)
  exact hI1 0 (by decide) (by decide) (by decide) (by decide) (by decide)
