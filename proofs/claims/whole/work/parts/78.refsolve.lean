/-! part 78: the reference: solve -/
theorem up_cm {α : Type} (f : Nat → α) {j k : Nat} (h : j ≠ k) (a b : α) : va_up (va_up f j a) k b = va_up (va_up f k b) j a := by
  funext x
  by_cases c : x = k
  · subst c
    rw [up_self, up_ne (fun z => h z.symm), up_self]
  · rw [up_ne c]
    by_cases d : x = j
    · subst d
      rw [up_self, up_self]
    · rw [up_ne d, up_ne d, up_ne c]
theorem det_bd {n : Nat} {Q : Nat → Nat → Int} (h : DOk n Q) : Bd31 (la_D n Q) := by
  cases n with
  | zero => exact ⟨(by decide : (-2147483647 : Int) ≤ 1), (by decide : (1 : Int) ≤ 2147483647)⟩
  | succ n =>
    obtain ⟨P, h1, _, h3⟩ := h
    have := h3 Q h1 (n + 1) 0 0 (by omega) (by omega)
    have e : la_D (n + 1) (la_c (le_B Q (n + 1)) 0 (fun i => Q i 0)) = la_D (n + 1) Q := by
      refine la_DE fun i j _ hj => ?_
      unfold la_c le_B
      by_cases c : j = 0
      · rw [if_pos c, c]
      · rw [if_neg c, if_pos hj]
    rw [e] at this
    exact this
/-- what solve leaves -/
def SvQ (ps : List Part) (m : Nat) (γ : Nat → Int) (den : Int) (V : Nat → Int) : Prop := (0 < den ∧ den ≤ 2147483647) ∧ (∀ k, k < 7 → lb_b (V k) 429496729400) ∧ ∀ k, k < 7 → solD ps m * V k = den * numer ps m γ k
set_option maxHeartbeats 4000000 in
set_option maxRecDepth 100000 in
theorem sX7_solve_0 {X : Xt} {n : Nat} {h : HP} {a0 : Nat} {x1 : Int} {x2 : Int} {fs1 : List Value} (hc : Cx X cX7_solve RX7 9 7 154) {K : KT} (hr : CxR X (some .boolean) K) (e1 : At h n a0 (.inl (7, fs1))) (z1 : fs1.length = 24)
    (P : spec_X7_layRules [.ref a0, .int (i3 x1), .int (i3 x2)] n h (kc X 0 0 3 [(0, .ref a0), (1, .int (i3 x1)), (2, .int (i3 x2))] [] n)) :
    Ok X 0 0 0 [(0, .ref a0), (1, .int (i3 x1)), (2, .int (i3 x2))] [] n h := by
  refine ok_aload_n (pc := 0) hc dX7_solve_0 rfl 0 rfl ?_
  refine ok_iload_n (pc := 1) hc dX7_solve_1 rfl 1 rfl ?_
  refine ok_iload_n (pc := 2) hc dX7_solve_2 rfl 2 rfl ?_
  exact ok_callV (pc := 3) (a := a0) (cb := 0) (sb := 0) (st := []) hc [.int (i3 x1), .int (i3 x2)] cv_X7_114 sp_X7_layRules (by decide) dX7_solve_3 rfl e1.1 e1.2 rfl rfl rfl (Nat.le_of_ble_eq_true rfl) P

set_option maxHeartbeats 4000000 in
set_option maxRecDepth 100000 in
theorem sX7_solve_6 {X : Xt} {n : Nat} {h : HP} {a0 : Nat} {x1 : Int} {x2 : Int} {fs1 : List Value} (hc : Cx X cX7_solve RX7 9 7 154) {K : KT} (hr : CxR X (some .boolean) K) (e1 : At h n a0 (.inl (7, fs1))) (z1 : fs1.length = 24)
    (P : spec_X7_determinant [.ref a0, .int (i3 (-1))] n h (kc X 0 0 9 [(0, .ref a0), (1, .int (i3 x1)), (2, .int (i3 x2))] [.ref a0] n)) :
    Ok X 0 0 6 [(0, .ref a0), (1, .int (i3 x1)), (2, .int (i3 x2))] [] n h := by
  refine ok_aload_n (pc := 6) hc dX7_solve_6 rfl 0 rfl ?_
  refine ok_aload_n (pc := 7) hc dX7_solve_7 rfl 0 rfl ?_
  refine ok_iconst (pc := 8) hc (v := i3 (-1)) dX7_solve_8 (by decide) ?_
  exact ok_callV (pc := 9) (a := a0) (cb := 0) (sb := 0) (st := [.ref a0]) hc [.int (i3 (-1))] cv_X7_118 sp_X7_determinant (by decide) dX7_solve_9 rfl e1.1 e1.2 rfl rfl rfl (Nat.le_of_ble_eq_true rfl) P

set_option maxHeartbeats 4000000 in
set_option maxRecDepth 100000 in
theorem sX7_solve_12 {X : Xt} {n : Nat} {h : HP} {a0 : Nat} {x1 : Int} {x2 : Int} {tl0 : Int} {fs1 : List Value} (hc : Cx X cX7_solve RX7 9 7 154) {K : KT} (hr : CxR X (some .boolean) K) (e1 : At h n a0 (.inl (7, fs1))) (z1 : fs1.length = 24)
    (P : (R6 tl0 ∧ R6 0) ∧ (¬ tl0 = 0 → Ok X 0 0 26 [(0, .ref a0), (1, .int (i3 x1)), (2, .int (i3 x2))] [] n (va_up h a0 (.inl (7, (fs1.set 15 (.long (i6 tl0))))))) ∧ (tl0 = 0 → K (.inl (some (.int (i3 0)))) n (va_up h a0 (.inl (7, (fs1.set 15 (.long (i6 tl0)))))))) :
    Ok X 0 0 12 [(0, .ref a0), (1, .int (i3 x1)), (2, .int (i3 x2))] [.long (i6 tl0), .ref a0] n h := by
  refine ok_put (pc := 12) hc fl_X7_122 dX7_solve_12 e1.1 e1.2 (by simp [List.length_set, z1]) (fun _ => rfl) (fun _ => rfl) ?_
  refine ok_aload_n (pc := 15) hc dX7_solve_15 rfl 0 rfl ?_
  refine ok_get (pc := 16) hc fl_X7_122 dX7_solve_16 e1.1 up_self (set_self (by simp [List.length_set, z1])) ?_
  refine ok_lconst (pc := 19) hc (v := i6 0) dX7_solve_19 (by decide) ?_
  obtain ⟨r, P⟩ := P
  refine zk_lcmp (pc := 20) hc dX7_solve_20 r ?_
  refine zk_if_ne (pc := 21) (tgt := 26) hc dX7_solve_21 (by decide) R3_cmp (fun c => ?_) (fun c => ?_)
  · have P := P.1 (fun z => c (cmp_eq.mpr z))
    exact P
  · have P := P.2 (cmp_eq.mp c)
    refine ok_iconst (pc := 24) hc (v := i3 0) dX7_solve_24 (by decide) ?_
    exact ok_zret (st := []) (pc := 25) hc (nar_z (by decide)) hr dX7_solve_25 P

set_option maxHeartbeats 4000000 in
set_option maxRecDepth 100000 in
theorem sX7_solve_26 {X : Xt} {n : Nat} {h : HP} {a0 : Nat} {x1 : Int} {x2 : Int} {fs1 : List Value} {jv2 : Int} (hc : Cx X cX7_solve RX7 9 7 154) {K : KT} (hr : CxR X (some .boolean) K) (e1 : At h n a0 (.inl (7, fs1))) (z1 : fs1.length = 24) (v1_15 : fs1[15]? = some (.long (i6 jv2)))
    (P : (R6 jv2 ∧ R6 0) ∧ (jv2 ≤ 0 → Ok X 0 0 53 [(0, .ref a0), (1, .int (i3 x1)), (2, .int (i3 x2)), (3, .long (i6 (-1)))] [] n (va_up h a0 (.inl (7, (fs1.set 15 (.long (i6 (jv2 * (-1))))))))) ∧ (¬ jv2 ≤ 0 → Ok X 0 0 53 [(0, .ref a0), (1, .int (i3 x1)), (2, .int (i3 x2)), (3, .long (i6 1))] [] n (va_up h a0 (.inl (7, (fs1.set 15 (.long (i6 (jv2 * 1))))))))) :
    Ok X 0 0 26 [(0, .ref a0), (1, .int (i3 x1)), (2, .int (i3 x2))] [] n h := by
  refine ok_aload_n (pc := 26) hc dX7_solve_26 rfl 0 rfl ?_
  refine ok_get (pc := 27) hc fl_X7_122 dX7_solve_27 e1.1 e1.2 v1_15 ?_
  refine ok_lconst (pc := 30) hc (v := i6 0) dX7_solve_30 (by decide) ?_
  obtain ⟨r, P⟩ := P
  refine zk_lcmp (pc := 31) hc dX7_solve_31 r ?_
  refine zk_if_le (pc := 32) (tgt := 39) hc dX7_solve_32 (by decide) R3_cmp (fun c => ?_) (fun c => ?_)
  · have P := P.1 (cmp_le.mp c)
    refine ok_ldc2 (pc := 39) hc (v := i6 (-1)) dX7_solve_39 (in_all (i := 1103) (by decide +kernel) rfl) ?_
    refine ok_lstore_n (pc := 42) hc (lv' := [(3, .long (i6 (-1))), (0, .ref a0), (1, .int (i3 x1)), (2, .int (i3 x2))]) dX7_solve_42 rfl (by decide) rfl ?_
    refine ok_aload_n (pc := 43) hc dX7_solve_43 rfl 1 rfl ?_
    refine ok_dup (pc := 44) hc dX7_solve_44 rfl ?_
    refine ok_get (pc := 45) hc fl_X7_122 dX7_solve_45 e1.1 e1.2 v1_15 ?_
    refine ok_lload_n (pc := 48) hc dX7_solve_48 rfl 0 rfl ?_
    refine zk_lmul (pc := 49) hc dX7_solve_49 ?_
    refine ok_put (pc := 50) hc fl_X7_122 dX7_solve_50 e1.1 e1.2 (by simp [List.length_set, z1]) (fun _ => rfl) (fun _ => rfl) ?_
    refine ok_lv [1, 2, 3, 0] rfl ?_
    exact P
  · have P := P.2 (fun z => c (cmp_le.mpr z))
    refine ok_lconst (pc := 35) hc (v := i6 1) dX7_solve_35 (by decide) ?_
    refine ok_goto (pc := 36) (tgt := 42) hc dX7_solve_36 (by decide) ?_
    refine ok_lstore_n (pc := 42) hc (lv' := [(3, .long (i6 1)), (0, .ref a0), (1, .int (i3 x1)), (2, .int (i3 x2))]) dX7_solve_42 rfl (by decide) rfl ?_
    refine ok_aload_n (pc := 43) hc dX7_solve_43 rfl 1 rfl ?_
    refine ok_dup (pc := 44) hc dX7_solve_44 rfl ?_
    refine ok_get (pc := 45) hc fl_X7_122 dX7_solve_45 e1.1 e1.2 v1_15 ?_
    refine ok_lload_n (pc := 48) hc dX7_solve_48 rfl 0 rfl ?_
    refine zk_lmul (pc := 49) hc dX7_solve_49 ?_
    refine ok_put (pc := 50) hc fl_X7_122 dX7_solve_50 e1.1 e1.2 (by simp [List.length_set, z1]) (fun _ => rfl) (fun _ => rfl) ?_
    refine ok_lv [1, 2, 3, 0] rfl ?_
    exact P

set_option maxHeartbeats 4000000 in
set_option maxRecDepth 100000 in
theorem sX7_solve_53 {X : Xt} {n : Nat} {h : HP} {a0 : Nat} {x1 : Int} {x2 : Int} {l3 : Int} (hc : Cx X cX7_solve RX7 9 7 154) {K : KT} (hr : CxR X (some .boolean) K) 
    (P : Ok X 0 0 56 [(0, .ref a0), (1, .int (i3 x1)), (2, .int (i3 x2)), (3, .long (i6 l3)), (5, .int (i3 0))] [] n h) :
    Ok X 0 0 53 [(0, .ref a0), (1, .int (i3 x1)), (2, .int (i3 x2)), (3, .long (i6 l3))] [] n h := by
  refine ok_iconst (pc := 53) hc (v := i3 0) dX7_solve_53 (by decide) ?_
  refine ok_istore (pc := 54) hc (lv' := [(5, .int (i3 0)), (0, .ref a0), (1, .int (i3 x1)), (2, .int (i3 x2)), (3, .long (i6 l3))]) dX7_solve_54 (by decide) rfl ?_
  refine ok_lv [1, 2, 3, 4, 0] rfl ?_
  exact P

set_option maxHeartbeats 4000000 in
set_option maxRecDepth 100000 in
theorem sX7_solve_56 {X : Xt} {n : Nat} {h : HP} {a0 : Nat} {x1 : Int} {x2 : Int} {l3 : Int} {x5 : Int} (hc : Cx X cX7_solve RX7 9 7 154) {K : KT} (hr : CxR X (some .boolean) K) 
    (P : (R3 x5) ∧ (7 ≤ x5 → Ok X 0 0 143 [(0, .ref a0), (1, .int (i3 x1)), (2, .int (i3 x2)), (3, .long (i6 l3)), (5, .int (i3 x5))] [] n h) ∧ (¬ 7 ≤ x5 → Ok X 0 0 63 [(0, .ref a0), (1, .int (i3 x1)), (2, .int (i3 x2)), (3, .long (i6 l3)), (5, .int (i3 x5))] [] n h)) :
    Ok X 0 0 56 [(0, .ref a0), (1, .int (i3 x1)), (2, .int (i3 x2)), (3, .long (i6 l3)), (5, .int (i3 x5))] [] n h := by
  refine ok_iload (pc := 56) hc dX7_solve_56 4 rfl ?_
  refine ok_bipush (pc := 58) hc (v := i3 7) dX7_solve_58 (by decide) ?_
  obtain ⟨r1, P⟩ := P
  refine zk_icmp_ge (pc := 60) (tgt := 143) hc dX7_solve_60 (by decide) r1 ⟨by decide, by decide⟩ (fun c => ?_) (fun c => ?_)
  · have P := P.1 c
    exact P
  · have P := P.2 c
    exact P

set_option maxHeartbeats 4000000 in
set_option maxRecDepth 100000 in
theorem sX7_solve_63 {X : Xt} {n : Nat} {h : HP} {a0 : Nat} {x1 : Int} {x2 : Int} {l3 : Int} {x5 : Int} {fs1 : List Value} {q2 : Nat} {f3 : Nat → Int} {ps4 : List Part} {jv8 : Int} (hc : Cx X cX7_solve RX7 9 7 154) {K : KT} (hr : CxR X (some .boolean) K) (e1 : At h n a0 (.inl (7, fs1))) (z1 : fs1.length = 24) (v1_1 : fs1[1]? = some (.ref q2)) (e3 : At h n q2 (ai 52 f3)) (hP4 : ZPs f3 ps4) (v1_15 : fs1[15]? = some (.long (i6 jv8)))
    (P : (R3 x5) ∧ (R3 (srcI ps4 x5)) ∧ ((srcI ps4 x5) = (-1) → Ok X 0 0 101 [(0, .ref a0), (1, .int (i3 x1)), (2, .int (i3 x2)), (3, .long (i6 l3)), (5, .int (i3 x5)), (6, .int (i3 (srcI ps4 x5))), (7, .long (i6 0))] [] n h) ∧ (¬ (srcI ps4 x5) = (-1) → (R3 x2) ∧ (x2 = (-1) → (0 ≤ (4 : Int) * (srcI ps4 x5) + 3 ∧ (4 : Int) * (srcI ps4 x5) + 3 < 52) ∧ (R3 (f3 (4 * (srcI ps4 x5) + 3 : Int).toNat)) ∧ Ok X 0 0 101 [(0, .ref a0), (1, .int (i3 x1)), (2, .int (i3 x2)), (3, .long (i6 l3)), (5, .int (i3 x5)), (6, .int (i3 (srcI ps4 x5))), (7, .long (i6 ((f3 (4 * (srcI ps4 x5) + 3 : Int).toNat) * jv8)))] [] n h) ∧ (¬ x2 = (-1) → Ok X 0 0 101 [(0, .ref a0), (1, .int (i3 x1)), (2, .int (i3 x2)), (3, .long (i6 l3)), (5, .int (i3 x5)), (6, .int (i3 (srcI ps4 x5))), (7, .long (i6 0))] [] n h))) :
    Ok X 0 0 63 [(0, .ref a0), (1, .int (i3 x1)), (2, .int (i3 x2)), (3, .long (i6 l3)), (5, .int (i3 x5))] [] n h := by
  refine ok_aload_n (pc := 63) hc dX7_solve_63 rfl 0 rfl ?_
  refine ok_iload (pc := 64) hc dX7_solve_64 4 rfl ?_
  obtain ⟨r0, P⟩ := P
  refine ok_callV (pc := 66) (a := a0) (cb := 0) (sb := 0) (st := []) hc [.int (i3 x5)] cv_X7_75 sp_X7_sourceAt (by decide) dX7_solve_66 rfl e1.1 e1.2 rfl rfl rfl (Nat.le_of_ble_eq_true rfl) (⟨_, _, _, _, rfl, ⟨_, _, ⟨e1.1, e1.2⟩, z1, v1_1, ⟨e3.1, e3.2⟩⟩, hP4, r0, rfl, ?_⟩)
  show Ok X 0 0 (66 + 3) [(0, .ref a0), (1, .int (i3 x1)), (2, .int (i3 x2)), (3, .long (i6 l3)), (5, .int (i3 x5))] [.int (i3 (srcI ps4 x5))] n h
  refine ok_istore (pc := 69) hc (lv' := [(6, .int (i3 (srcI ps4 x5))), (0, .ref a0), (1, .int (i3 x1)), (2, .int (i3 x2)), (3, .long (i6 l3)), (5, .int (i3 x5))]) dX7_solve_69 (by decide) rfl ?_
  refine ok_iload (pc := 71) hc dX7_solve_71 0 rfl ?_
  refine ok_iconst (pc := 73) hc (v := i3 (-1)) dX7_solve_73 (by decide) ?_
  obtain ⟨r5, P⟩ := P
  refine zk_icmp_eq (pc := 74) (tgt := 82) hc dX7_solve_74 (by decide) r5 ⟨by decide, by decide⟩ (fun c => ?_) (fun c => ?_)
  · have P := P.1 c
    refine ok_lconst (pc := 82) hc (v := i6 0) dX7_solve_82 (by decide) ?_
    refine ok_goto (pc := 83) (tgt := 99) hc dX7_solve_83 (by decide) ?_
    refine ok_lstore (pc := 99) hc (lv' := [(7, .long (i6 0)), (6, .int (i3 (srcI ps4 x5))), (0, .ref a0), (1, .int (i3 x1)), (2, .int (i3 x2)), (3, .long (i6 l3)), (5, .int (i3 x5))]) dX7_solve_99 (by decide) rfl ?_
    refine ok_lv [2, 3, 4, 5, 6, 1, 0] rfl ?_
    exact P
  · have P := P.2 c
    refine ok_iload_n (pc := 77) hc dX7_solve_77 rfl 3 rfl ?_
    refine ok_iconst (pc := 78) hc (v := i3 (-1)) dX7_solve_78 (by decide) ?_
    obtain ⟨r6, P⟩ := P
    refine zk_icmp_eq (pc := 79) (tgt := 86) hc dX7_solve_79 (by decide) r6 ⟨by decide, by decide⟩ (fun c => ?_) (fun c => ?_)
    · have P := P.1 c
      refine ok_aload_n (pc := 86) hc dX7_solve_86 rfl 1 rfl ?_
      refine ok_iload (pc := 87) hc dX7_solve_87 0 rfl ?_
      refine ok_iconst (pc := 89) hc (v := i3 3) dX7_solve_89 (by decide) ?_
      obtain ⟨r0, P⟩ := P
      refine ok_callV (pc := 90) (a := a0) (cb := 0) (sb := 0) (st := []) hc [.int (i3 (srcI ps4 x5)), .int (i3 3)] cv_X7_49 sp_X7_of (by decide) dX7_solve_90 rfl e1.1 e1.2 rfl rfl rfl (Nat.le_of_ble_eq_true rfl) (⟨_, _, _, _, rfl, ⟨_, _, ⟨e1.1, e1.2⟩, z1, v1_1, ⟨e3.1, e3.2⟩⟩, r0, rfl, ?_⟩)
      show Ok X 0 0 (90 + 3) [(6, .int (i3 (srcI ps4 x5))), (0, .ref a0), (1, .int (i3 x1)), (2, .int (i3 x2)), (3, .long (i6 l3)), (5, .int (i3 x5))] [.int (i3 (f3 (4 * (srcI ps4 x5) + 3 : Int).toNat))] n h
      obtain ⟨r7, P⟩ := P
      refine zk_i2l (pc := 93) hc dX7_solve_93 r7 ?_
      refine ok_aload_n (pc := 94) hc dX7_solve_94 rfl 1 rfl ?_
      refine ok_get (pc := 95) hc fl_X7_122 dX7_solve_95 e1.1 e1.2 v1_15 ?_
      refine zk_lmul (pc := 98) hc dX7_solve_98 ?_
      refine ok_lstore (pc := 99) hc (lv' := [(7, .long (i6 ((f3 (4 * (srcI ps4 x5) + 3 : Int).toNat) * jv8))), (6, .int (i3 (srcI ps4 x5))), (0, .ref a0), (1, .int (i3 x1)), (2, .int (i3 x2)), (3, .long (i6 l3)), (5, .int (i3 x5))]) dX7_solve_99 (by decide) rfl ?_
      refine ok_lv [2, 3, 4, 5, 6, 1, 0] rfl ?_
      exact P
    · have P := P.2 c
      refine ok_lconst (pc := 82) hc (v := i6 0) dX7_solve_82 (by decide) ?_
      refine ok_goto (pc := 83) (tgt := 99) hc dX7_solve_83 (by decide) ?_
      refine ok_lstore (pc := 99) hc (lv' := [(7, .long (i6 0)), (6, .int (i3 (srcI ps4 x5))), (0, .ref a0), (1, .int (i3 x1)), (2, .int (i3 x2)), (3, .long (i6 l3)), (5, .int (i3 x5))]) dX7_solve_99 (by decide) rfl ?_
      refine ok_lv [2, 3, 4, 5, 6, 1, 0] rfl ?_
      exact P

set_option maxHeartbeats 4000000 in
set_option maxRecDepth 100000 in
theorem sX7_solve_101 {X : Xt} {n : Nat} {h : HP} {a0 : Nat} {x1 : Int} {x2 : Int} {l3 : Int} {x5 : Int} {x6 : Int} {l7 : Int} {fs1 : List Value} {q2 : Nat} {q3 : Nat} {len4 : Nat} {f4 : Nat → Int} {len6 : Nat} {f6 : Nat → Int} (hc : Cx X cX7_solve RX7 9 7 154) {K : KT} (hr : CxR X (some .boolean) K) (e1 : At h n a0 (.inl (7, fs1))) (z1 : fs1.length = 24) (v1_14 : fs1[14]? = some (.ref q2)) (v1_10 : fs1[10]? = some (.ref q3)) (e4 : At h n q3 (ai len4 f4)) (e6 : At h n q2 (al len6 f6))
    (P : (Ix x5 len4) ∧ (R3 (f4 (x5 : Int).toNat)) ∧ (¬ (f4 (x5 : Int).toNat) = (-1) → (Ix x5 len4) ∧ spec_X7_determinant [.ref a0, .int (i3 (f4 (x5 : Int).toNat))] n h (kc X 0 0 132 [(0, .ref a0), (1, .int (i3 x1)), (2, .int (i3 x2)), (3, .long (i6 l3)), (5, .int (i3 x5)), (6, .int (i3 x6)), (7, .long (i6 l7))] [.long (i6 l3), .int (i3 x5), .ref q2] n)) ∧ ((f4 (x5 : Int).toNat) = (-1) → (Ix x5 len6) ∧ Ok X 0 0 56 [(0, .ref a0), (1, .int (i3 x1)), (2, .int (i3 x2)), (3, .long (i6 l3)), (5, .int (i3 (x5 + 1)))] [] n (va_up h q2 (al len6 (va_up f6 (x5 : Int).toNat l7))))) :
    Ok X 0 0 101 [(0, .ref a0), (1, .int (i3 x1)), (2, .int (i3 x2)), (3, .long (i6 l3)), (5, .int (i3 x5)), (6, .int (i3 x6)), (7, .long (i6 l7))] [] n h := by
  refine ok_aload_n (pc := 101) hc dX7_solve_101 rfl 0 rfl ?_
  refine ok_get (pc := 102) hc fl_X7_35 dX7_solve_102 e1.1 e1.2 v1_14 ?_
  refine ok_iload (pc := 105) hc dX7_solve_105 4 rfl ?_
  refine ok_aload_n (pc := 107) hc dX7_solve_107 rfl 0 rfl ?_
  refine ok_get (pc := 108) hc fl_X7_25 dX7_solve_108 e1.1 e1.2 v1_10 ?_
  refine ok_iload (pc := 111) hc dX7_solve_111 4 rfl ?_
  obtain ⟨r, P⟩ := P
  refine zk_iald (pc := 113) hc dX7_solve_113 e4.1 e4.2 r ?_
  refine ok_iconst (pc := 114) hc (v := i3 (-1)) dX7_solve_114 (by decide) ?_
  obtain ⟨r5, P⟩ := P
  refine zk_icmp_ne (pc := 115) (tgt := 123) hc dX7_solve_115 (by decide) r5 ⟨by decide, by decide⟩ (fun c => ?_) (fun c => ?_)
  · have P := P.1 c
    refine ok_lload_n (pc := 123) hc dX7_solve_123 rfl 3 rfl ?_
    refine ok_aload_n (pc := 124) hc dX7_solve_124 rfl 0 rfl ?_
    refine ok_aload_n (pc := 125) hc dX7_solve_125 rfl 0 rfl ?_
    refine ok_get (pc := 126) hc fl_X7_25 dX7_solve_126 e1.1 e1.2 v1_10 ?_
    refine ok_iload (pc := 129) hc dX7_solve_129 4 rfl ?_
    obtain ⟨r, P⟩ := P
    refine zk_iald (pc := 131) hc dX7_solve_131 e4.1 e4.2 r ?_
    exact ok_callV (pc := 132) (a := a0) (cb := 0) (sb := 0) (st := [.long (i6 l3), .int (i3 x5), .ref q2]) hc [.int (i3 (f4 (x5 : Int).toNat))] cv_X7_118 sp_X7_determinant (by decide) dX7_solve_132 rfl e1.1 e1.2 rfl rfl rfl (Nat.le_of_ble_eq_true rfl) P
  · have P := P.2 c
    refine ok_lload (pc := 118) hc dX7_solve_118 6 rfl ?_
    refine ok_goto (pc := 120) (tgt := 136) hc dX7_solve_120 (by decide) ?_
    obtain ⟨r, P⟩ := P
    refine zk_last (pc := 136) hc dX7_solve_136 e6.1 e6.2 r ?_
    refine zk_iinc (pc := 137) hc (q := 4) (x := x5) (lv' := [(5, .int (i3 (x5 + 1))), (0, .ref a0), (1, .int (i3 x1)), (2, .int (i3 x2)), (3, .long (i6 l3)), (6, .int (i3 x6)), (7, .long (i6 l7))]) dX7_solve_137 rfl (by decide) rfl ?_
    refine ok_goto (pc := 140) (tgt := 56) hc dX7_solve_140 (by decide) ?_
    refine ok_lv [1, 2, 3, 4, 0] rfl ?_
    exact P

set_option maxHeartbeats 4000000 in
set_option maxRecDepth 100000 in
theorem sX7_solve_135 {X : Xt} {n : Nat} {h : HP} {a0 : Nat} {x1 : Int} {x2 : Int} {l3 : Int} {x5 : Int} {x6 : Int} {l7 : Int} {tl0 : Int} {tl1 : Int} {t2 : Int} {ta3 : Nat} {len1 : Nat} {f1 : Nat → Int} (hc : Cx X cX7_solve RX7 9 7 154) {K : KT} (hr : CxR X (some .boolean) K) (e1 : At h n ta3 (al len1 f1))
    (P : (Ix t2 len1) ∧ Ok X 0 0 56 [(0, .ref a0), (1, .int (i3 x1)), (2, .int (i3 x2)), (3, .long (i6 l3)), (5, .int (i3 (x5 + 1)))] [] n (va_up h ta3 (al len1 (va_up f1 (t2 : Int).toNat (tl1 * tl0))))) :
    Ok X 0 0 135 [(0, .ref a0), (1, .int (i3 x1)), (2, .int (i3 x2)), (3, .long (i6 l3)), (5, .int (i3 x5)), (6, .int (i3 x6)), (7, .long (i6 l7))] [.long (i6 tl0), .long (i6 tl1), .int (i3 t2), .ref ta3] n h := by
  refine zk_lmul (pc := 135) hc dX7_solve_135 ?_
  obtain ⟨r, P⟩ := P
  refine zk_last (pc := 136) hc dX7_solve_136 e1.1 e1.2 r ?_
  refine zk_iinc (pc := 137) hc (q := 4) (x := x5) (lv' := [(5, .int (i3 (x5 + 1))), (0, .ref a0), (1, .int (i3 x1)), (2, .int (i3 x2)), (3, .long (i6 l3)), (6, .int (i3 x6)), (7, .long (i6 l7))]) dX7_solve_137 rfl (by decide) rfl ?_
  refine ok_goto (pc := 140) (tgt := 56) hc dX7_solve_140 (by decide) ?_
  refine ok_lv [1, 2, 3, 4, 0] rfl ?_
  exact P

set_option maxHeartbeats 4000000 in
set_option maxRecDepth 100000 in
theorem sX7_solve_143 {X : Xt} {n : Nat} {h : HP} {a0 : Nat} {x1 : Int} {x2 : Int} {l3 : Int} {x5 : Int} (hc : Cx X cX7_solve RX7 9 7 154) {K : KT} (hr : CxR X (some .boolean) K) 
    (P : K (.inl (some (.int (i3 1)))) n h) :
    Ok X 0 0 143 [(0, .ref a0), (1, .int (i3 x1)), (2, .int (i3 x2)), (3, .long (i6 l3)), (5, .int (i3 x5))] [] n h := by
  refine ok_iconst (pc := 143) hc (v := i3 1) dX7_solve_143 (by decide) ?_
  exact ok_zret (st := []) (pc := 144) hc (nar_z (by decide)) hr dX7_solve_144 P

def spec_X7_solve (args : List Value) (n : Nat) (h : HP) (K : KT) : Prop := ∃ (I : Nat → Int) (F : Nat → Nat → Int) (ps : List Part) (c t : Int) (m : Nat) (γ : Nat → Int), args = [.ref 128, .int (i3 c), .int (i3 t)] ∧ MAt h n I F ∧ ZPs (F 1) ps ∧ GdP ps ∧ ((0 ≤ c ∧ c ≤ 26) ∧ -1 ≤ t ∧ t ≤ 2 ∧ 0 ≤ F 1 49 ∧ F 1 49 ≤ 200) ∧ Mat7 ps c t m (valF ps (offT t) (F 1 49)) γ ∧ ∀ (h' : HP) (I' : Nat → Int) (F' : Nat → Nat → Int), MAt h' n I' F' → (∀ k, k ≠ 9 → k ≠ 12 → k ≠ 15 → I' k = I k) → (∀ j, j ≤ 5 ∨ j = 10 → F' j = F j) → (solD ps m ≠ 0 → SvQ ps m γ (I' 15) (F' 9)) → Fr h h' 128 138 → K (.inl (some (.int (i3 (if solD ps m = 0 then 0 else 1))))) n h'
theorem sp_X7_solve : Sp yX7_solve cX7_solve 9 (some .boolean) 7 154 0 0 spec_X7_solve := by
  refine sp_intro (by decide) (by rintro args n h K ⟨I, F, ps, c, t, m, γ, rfl, -⟩; exact Nat.le_of_ble_eq_true rfl) ?_
  rintro X args n h K hc hr ⟨I, F, ps, c, t, m, γ, rfl, hM0, hP, hG, ⟨hcr, ht1, ht2, hra⟩, hm, kk⟩
  have hpw : ∀ p ∈ ps, PW p := fun p hp => (hG.2.2.1 p hp).1
  have hl := hP.2.1
  have hu := fr6 ps
  have hv : ∀ k, k < 7 → frF ps k = true → valF ps (offT t) (F 1 49) k = 0 := fun k hk hf => valF_0 hk (Or.inr (Or.inl hf))
  refine sX7_solve_0 hc hr hM0.o rfl ⟨I, F, ps, c, t, rfl, hM0, hP, hG, ⟨hcr, ht1, ht2, by omega, by omega⟩, fun h1 C R hM1 hC hR f1 => ⟨rfl, ?_⟩⟩
  obtain ⟨hz1, hz2⟩ := ref_eq hG hm hv hR
  have hok : ∀ col : Int, col = -1 ∨ (∃ y : Nat, col = y ∧ y < cn (frF ps) 7) → DOk (cn (frF ps) 7) (detQ R col) := fun col hc => det_ok hG hra hR col hc
  have hI1 : ∀ k, k ≠ 9 → k ≠ 12 → (va_up (va_up I 9 (cn (frF ps) 7 : Int)) 12 (cn (frF ps) 7)) k = I k := fun k k1 k2 => by rw [up_ne k2, up_ne k1]
  have h19 : (va_up (va_up I 9 (cn (frF ps) 7 : Int)) 12 (cn (frF ps) 7)) 9 = cn (frF ps) 7 := rfl
  generalize va_up (va_up I 9 (cn (frF ps) 7 : Int)) 12 (cn (frF ps) 7) = I1 at hM1 hI1 h19
  have hF1 : ∀ j, j ≤ 5 ∨ j = 10 → (va_up (va_up F 6 C) 7 R) j = F j := fun j hj => by rw [up_ne (by omega), up_ne (by omega)]
  have h16 : (va_up (va_up F 6 C) 7 R) 6 = C := rfl
  have h17 : (va_up (va_up F 6 C) 7 R) 7 = R := rfl
  generalize va_up (va_up F 6 C) 7 R = F1 at hM1 hF1 h16 h17
  have h11 : F1 1 = F 1 := hF1 1 (by omega)
  refine sX7_solve_6 hc hr hM1.o rfl ⟨I1, F1, cn (frF ps) 7, -1, rfl, hM1, h19, hu, ⟨by decide, by decide⟩, by rw [h17]; exact hok _ (Or.inl rfl), fun h2 M hM2 f2 => ⟨rfl, ?_⟩⟩
  rw [h17]
  have hDb := det_bd (hok (-1) (Or.inl rfl))
  generalize hD : la_D (cn (frF ps) 7) (detQ R (-1)) = D at hz1 hz2 hDb
  have hM3 : MAt (va_up h2 128 (.inl (7, mf (va_up I1 15 D)))) n (va_up I1 15 D) (va_up F1 8 M) := hM2.uo _
  have f3 : Fr h (va_up h2 128 (.inl (7, mf (va_up I1 15 D)))) 128 138 := (f1.tr f2).up (by omega)
  refine sX7_solve_12 hc hr hM2.o rfl ⟨⟨bd31_6 hDb, ⟨by decide, by decide⟩⟩, fun hD0 => ?_, fun hD0 => ?_⟩
  · -- not 0
    have hs0 : solD ps m ≠ 0 := fun z => hD0 (hz1.mpr z)
    have loop : ∀ (s : Int), (s = 1 ∨ s = -1) → 0 < D * s → Ok X 0 0 53 [(0, .ref 128), (1, .int (i3 c)), (2, .int (i3 t)), (3, .long (i6 s))] [] n (va_up (va_up h2 128 (.inl (7, mf (va_up I1 15 D)))) 128 (.inl (7, mf (va_up (va_up I1 15 D) 15 (D * s))))) := by
      intro s hs hden
      have hM4 := hM3.uo (va_up (va_up I1 15 D) 15 (D * s))
      have f4 : Fr h (va_up (va_up h2 128 (.inl (7, mf (va_up I1 15 D)))) 128 (.inl (7, mf (va_up (va_up I1 15 D) 15 (D * s))))) 128 138 := f3.up (by omega)
      generalize va_up (va_up h2 128 (.inl (7, mf (va_up I1 15 D)))) 128 (.inl (7, mf (va_up (va_up I1 15 D) 15 (D * s)))) = h4 at hM4 f4 ⊢
      rw [up_up] at hM4
      have hdb : D * s ≤ 2147483647 := by
        have h1 := hDb.1
        have h2 := hDb.2
        rcases hs with e | e <;> subst e <;> omega
      have L : ∀ (j k : Nat) (hh : HP) (M V : Nat → Int), k + j = 7 → MAt hh n (va_up I1 15 (D * s)) (va_up (va_up F1 8 M) 9 V) → (∀ i, i < k → V i = s * XX ps (valF ps (offT t) (F 1 49)) (fun q => la_D (cn (frF ps) 7) (detQ R q)) D i ∧ lb_b (V i) 429496729400) → Fr h hh 128 138 → Ok X 0 0 56 [(0, .ref 128), (1, .int (i3 c)), (2, .int (i3 t)), (3, .long (i6 s)), (5, .int (i3 k))] [] n hh := by
        intro j
        induction j with
        | zero =>
          intro k hh M V hk hM hV hf
          have : k = 7 := by omega
          subst this
          refine sX7_solve_56 hc hr ⟨R3_s (by omega), fun _ => sX7_solve_143 hc hr ?_, fun z => absurd (by omega) z⟩
          have := kk hh _ _ hM (fun i i1 i2 i3 => by rw [up_ne i3, hI1 i i1 i2]) (fun j hj => by rw [up_ne (by omega), up_ne (by omega), hF1 j hj]) (fun _ => ⟨⟨?_, ?_⟩, fun i hi => ?_, fun i hi => ?_⟩) hf
          · rw [if_neg hs0] at this
            exact this
          · rw [up_self]
            exact hden
          · rw [up_self]
            exact hdb
          · rw [up_self]
            exact (hV i hi).2
          · rw [up_self, up_self, (hV i hi).1]
            have := hz2 hs0 i hi
            grind
        | succ j ih =>
          intro k hh M V hk hM hV hfr
          have hk7 : k < 7 := by omega
          have ek : (k : Int).toNat = k := by omega
          have hCk := hC k hk7
          have e6 : (va_up (va_up F1 8 M) 9 V) 6 k = colF ps k := by
            show F1 6 k = _
            rw [h16, hCk]
          have hP' : ZPs ((va_up (va_up F1 8 M) 9 V) 1) ps := by
            show ZPs (F1 1) ps
            rw [h11]
            exact hP
          -- behind the voltage
          have next : ∀ (hh2 : HP) (M2 : Nat → Int) (v : Int), MAt hh2 n (va_up I1 15 (D * s)) (va_up (va_up F1 8 M2) 9 V) → Fr h hh2 128 138 → v = s * XX ps (valF ps (offT t) (F 1 49)) (fun q => la_D (cn (frF ps) 7) (detQ R q)) D k → lb_b v 429496729400 → Ok X 0 0 56 [(0, .ref 128), (1, .int (i3 c)), (2, .int (i3 t)), (3, .long (i6 s)), (5, .int (i3 ((k : Int) + 1)))] [] n (va_up hh2 137 (al 7 (va_up V k v))) := by
            intro hh2 M2 v hM2 hf2 hv1 hv2
            refine ih (k + 1) _ M2 (va_up V k v) (by omega) (hM2.uu (j := 9) (by omega) _) (fun i hi => ?_) (hf2.up (by omega))
            by_cases e : i = k
            · subst e
              rw [up_self]
              exact ⟨hv1, hv2⟩
            · rw [up_ne e]
              exact hV i (by omega)
          have h101 : ∀ own : Int, (frF ps k = false → own = s * XX ps (valF ps (offT t) (F 1 49)) (fun q => la_D (cn (frF ps) 7) (detQ R q)) D k ∧ lb_b own 429496729400) → Ok X 0 0 101 [(0, .ref 128), (1, .int (i3 c)), (2, .int (i3 t)), (3, .long (i6 s)), (5, .int (i3 k)), (6, .int (i3 (srcI ps k))), (7, .long (i6 own))] [] n hh := by
            intro own hown
            refine sX7_solve_101 hc hr hM.o rfl rfl rfl hM.c hM.v ⟨⟨by omega, by omega, by omega⟩, ?_, fun z => ⟨⟨by omega, by omega, by omega⟩, ?_⟩, fun z => ⟨⟨by omega, by omega, by omega⟩, ?_⟩⟩
            · rw [ek, e6]
              unfold colF
              have := cn_le (frF ps) k
              split <;> exact R3_s (by omega)
            · rw [ek, e6] at z ⊢
              have hf : frF ps k = true := by
                cases e : frF ps k with
                | true => rfl
                | false =>
                  unfold colF at z
                  rw [e] at z
                  exact absurd rfl z
              have ec : colF ps k = (cn (frF ps) k : Nat) := if_pos hf
              have hcl := cn_lt hk7 hf
              have hokk := hok (cn (frF ps) k : Nat) (Or.inr ⟨_, rfl, hcl⟩)
              rw [ec]
              refine ⟨_, _, cn (frF ps) 7, _, rfl, hM, h19, hu, R3_s (by omega), ?_, fun h5 M2 hM5 f5 => ⟨rfl, ?_⟩⟩
              · show DOk _ (detQ (F1 7) _)
                rw [h17]
                exact hokk
              · have hM5 : MAt h5 n (va_up I1 15 (D * s)) (va_up (va_up F1 8 M2) 9 V) := by
                  have e : va_up (va_up (va_up F1 8 M) 9 V) 8 M2 = va_up (va_up F1 8 M2) 9 V := by rw [up_cm (va_up F1 8 M) (j := 9) (k := 8) (by decide), up_up]
                  rw [e] at hM5
                  exact hM5
                have hb5 := det_bd hokk
                show Ok X 0 0 135 _ [.long (i6 (la_D _ (detQ (F1 7) _))), _, _, _] n h5
                rw [h17]
                refine sX7_solve_135 hc hr hM5.v ⟨⟨by omega, by omega, by omega⟩, ?_⟩
                rw [ek]
                refine next h5 M2 _ hM5 (hfr.tr f5) ?_ ?_
                · unfold XX
                  rw [if_pos ⟨hk7, hf⟩]
                · have h1 := hb5.1
                  have h2 := hb5.2
                  rcases hs with e | e <;> subst e <;> exact ⟨by omega, by omega⟩
            · rw [ek, e6] at z
              have hf : frF ps k = false := by
                cases e : frF ps k with
                | false => rfl
                | true =>
                  unfold colF at z
                  rw [if_pos e] at z
                  omega
              rw [ek]
              obtain ⟨o1, o2⟩ := hown hf
              exact next hh M own hM hfr o1 o2
          have hXn : frF ps k = false → XX ps (valF ps (offT t) (F 1 49)) (fun q => la_D (cn (frF ps) 7) (detQ R q)) D k = D * valF ps (offT t) (F 1 49) k := fun hf => if_neg (fun z => by rw [hf] at z; exact absurd z.2 (by decide))
          refine sX7_solve_56 hc hr ⟨R3_s (by omega), fun z => absurd z (by omega), fun _ => ?_⟩
          have hsb := srcI_b ps k
          refine sX7_solve_63 hc hr hM.o rfl rfl hM.z hP' rfl ⟨R3_s (by omega), R3_s (by omega), fun z => h101 0 fun hf => ?_, fun z => ⟨R3_s (by omega), fun w => ⟨by omega, ?_⟩, fun w => h101 0 fun hf => ?_⟩⟩
          · rw [hXn hf, valF_0 hk7 (Or.inr (Or.inr (Or.inr z))), Int.mul_zero, Int.mul_zero]
            exact ⟨rfl, by decide, by decide⟩
          · rcases srcI_r ps k with ⟨s1, _⟩ | ⟨i, p, s1, s2, s3, s4⟩
            · exact absurd s1 z
            have hpt := told_src (hG.2.2.1 p (List.mem_of_getElem? s2)) s3
            have ev : (va_up (va_up F1 8 M) 9 V) 1 (4 * srcI ps k + 3 : Int).toNat = p.2.2.2 := by
              show F1 1 _ = _
              rw [h11, s1, show (4 * (i : Int) + 3).toNat = 4 * i + 3 by omega, (hP.of s2).2.2.2]
            rw [ev]
            refine ⟨R3_s (by omega), h101 _ fun hf => ?_⟩
            rw [hXn hf, valF_s hk7 (by omega) (by rw [hf]; decide) (by unfold offT; rw [if_pos w]) z]
            unfold srcV
            rw [s1, pAt_of s2]
            show p.2.2.2 * (D * s) = _ ∧ lb_b (p.2.2.2 * (D * s)) _
            have := mul_bd (a := p.2.2.2) (b := D * s) (B := 200) (C := 2147483647) (by omega) (by omega)
            exact ⟨by grind, by omega, by omega⟩
          · rw [hXn hf, valF_0 hk7 (Or.inr (Or.inr (Or.inl (by unfold offT; rw [if_neg w]; decide)))), Int.mul_zero, Int.mul_zero]
            exact ⟨rfl, by decide, by decide⟩
      refine sX7_solve_53 hc hr (L 7 0 h4 M (F1 9) (by omega) ?_ (fun i hi => absurd hi (Nat.not_lt_zero i)) f4)
      have := hM4.u1 (j := 9) (by omega)
      exact this
    have h15 : (va_up I1 15 D) 15 = D := up_self
    refine sX7_solve_26 hc hr hM3.o rfl rfl ⟨⟨by rw [h15]; exact bd31_6 hDb, ⟨by decide, by decide⟩⟩, fun z => ?_, fun z => ?_⟩
    · rw [h15] at z
      exact loop (-1) (Or.inr rfl) (by omega)
    · rw [h15] at z
      exact loop 1 (Or.inl rfl) (by omega)
  · have hs0 : solD ps m = 0 := hz1.mp hD0
    have := kk _ _ _ hM3 (fun i i1 i2 i3 => by rw [up_ne i3, hI1 i i1 i2]) (fun j hj => by rw [up_ne (by omega), hF1 j hj]) (fun z => absurd hs0 z) f3
    rw [if_pos hs0] at this
    exact this
