/-! part 70: the reference: amplifierRule -/
def offT (t : Int) : Int := if t = -1 then 0 else 1
/-- what the output of an amplifier that isn't linear stands against -/
def ampX (c t : Int) (a : Nat) : Nat := if (a : Int) = t then 9 else if c / 3 ^ a % 3 = 1 then 7 else 8
def ampR (ps : List Part) (c t : Int) (a : Nat) : Nat → Int := if c / 3 ^ a % 3 = 0 ∧ (a : Int) ≠ t then fun q => (-1) * lb_d (some (pAt ps (pOf ps a)).2.2.1.toNat) q + (fun q => 1 * lb_d (some (pAt ps (pOf ps a)).2.1.toNat) q + (fun _ => 0) q) q else fun q => (-1) * lb_d (some (ampX c t a)) q + (fun q => 1 * lb_d (some (pAt ps (pOf ps a)).2.2.2.toNat) q + (fun _ => 0) q) q
set_option maxHeartbeats 4000000 in
set_option maxRecDepth 100000 in
theorem sX7_amplifierRule_0 {X : Xt} {n : Nat} {h : HP} {a0 : Nat} {x1 : Int} {x2 : Int} {x3 : Int} {fs1 : List Value} {q2 : Nat} {f3 : Nat → Int} {ps4 : List Part} (hc : Cx X cX7_amplifierRule RX7 8 4 91) {K : KT} (hr : CxR X none K) (e1 : At h n a0 (.inl (7, fs1))) (z1 : fs1.length = 24) (v1_1 : fs1[1]? = some (.ref q2)) (e3 : At h n q2 (ai 52 f3)) (hP4 : ZPs f3 ps4)
    (P : (0 ≤ x1 ∧ x1 < nA ps4) ∧ ((0 ≤ x2 ∧ x2 ≤ 2147483647) ∧ 0 ≤ x1 ∧ x1 < 1000) ∧ (R3 x3) ∧ (x3 = (-1) → Ok X 0 0 26 [(0, .ref a0), (1, .int (i3 x1)), (2, .int (i3 x2)), (3, .int (i3 x3)), (4, .int (i3 (pOf ps4 x1))), (5, .int (i3 (x2 / 3 ^ (x1 : Int).toNat % 3))), (6, .int (i3 0))] [] n h) ∧ (¬ x3 = (-1) → Ok X 0 0 26 [(0, .ref a0), (1, .int (i3 x1)), (2, .int (i3 x2)), (3, .int (i3 x3)), (4, .int (i3 (pOf ps4 x1))), (5, .int (i3 (x2 / 3 ^ (x1 : Int).toNat % 3))), (6, .int (i3 1))] [] n h)) :
    Ok X 0 0 0 [(0, .ref a0), (1, .int (i3 x1)), (2, .int (i3 x2)), (3, .int (i3 x3))] [] n h := by
  refine ok_aload_n (pc := 0) hc dX7_amplifierRule_0 rfl 0 rfl ?_
  refine ok_iload_n (pc := 1) hc dX7_amplifierRule_1 rfl 1 rfl ?_
  obtain ⟨r0, P⟩ := P
  refine ok_callV (pc := 2) (a := a0) (cb := 0) (sb := 0) (st := []) hc [.int (i3 x1)] cv_X7_92 sp_X7_partOf (by decide) dX7_amplifierRule_2 rfl e1.1 e1.2 rfl rfl rfl (Nat.le_of_ble_eq_true rfl) (⟨_, _, _, _, rfl, ⟨_, _, ⟨e1.1, e1.2⟩, z1, v1_1, ⟨e3.1, e3.2⟩⟩, hP4, r0, rfl, ?_⟩)
  show Ok X 0 0 (2 + 3) [(0, .ref a0), (1, .int (i3 x1)), (2, .int (i3 x2)), (3, .int (i3 x3))] [.int (i3 (pOf ps4 x1))] n h
  refine ok_istore (pc := 5) hc (lv' := [(4, .int (i3 (pOf ps4 x1))), (0, .ref a0), (1, .int (i3 x1)), (2, .int (i3 x2)), (3, .int (i3 x3))]) dX7_amplifierRule_5 (by decide) rfl ?_
  refine ok_iload_n (pc := 7) hc dX7_amplifierRule_7 rfl 3 rfl ?_
  refine ok_iload_n (pc := 8) hc dX7_amplifierRule_8 rfl 2 rfl ?_
  obtain ⟨r0, P⟩ := P
  refine ok_callS (pc := 9) (cb := 0) (sb := 0) (st := []) hc [.int (i3 x2), .int (i3 x1)] cs_X7_95 sp_X7_stateIn (by decide) dX7_amplifierRule_9 rfl rfl rfl rfl (Nat.le_of_ble_eq_true rfl) (⟨x2, (x1 : Int).toNat, (by rw [Int.toNat_of_nonneg r0.2.1]), ⟨r0.1, by omega⟩, rfl, ?_⟩)
  show Ok X 0 0 (9 + 3) [(4, .int (i3 (pOf ps4 x1))), (0, .ref a0), (1, .int (i3 x1)), (2, .int (i3 x2)), (3, .int (i3 x3))] [.int (i3 (x2 / 3 ^ (x1 : Int).toNat % 3))] n h
  refine ok_istore (pc := 12) hc (lv' := [(5, .int (i3 (x2 / 3 ^ (x1 : Int).toNat % 3))), (4, .int (i3 (pOf ps4 x1))), (0, .ref a0), (1, .int (i3 x1)), (2, .int (i3 x2)), (3, .int (i3 x3))]) dX7_amplifierRule_12 (by decide) rfl ?_
  refine ok_iload_n (pc := 14) hc dX7_amplifierRule_14 rfl 5 rfl ?_
  refine ok_iconst (pc := 15) hc (v := i3 (-1)) dX7_amplifierRule_15 (by decide) ?_
  obtain ⟨r5, P⟩ := P
  refine zk_icmp_eq (pc := 16) (tgt := 23) hc dX7_amplifierRule_16 (by decide) r5 ⟨by decide, by decide⟩ (fun c => ?_) (fun c => ?_)
  · have P := P.1 c
    refine ok_iconst (pc := 23) hc (v := i3 0) dX7_amplifierRule_23 (by decide) ?_
    refine ok_istore (pc := 24) hc (lv' := [(6, .int (i3 0)), (5, .int (i3 (x2 / 3 ^ (x1 : Int).toNat % 3))), (4, .int (i3 (pOf ps4 x1))), (0, .ref a0), (1, .int (i3 x1)), (2, .int (i3 x2)), (3, .int (i3 x3))]) dX7_amplifierRule_24 (by decide) rfl ?_
    refine ok_lv [3, 4, 5, 6, 2, 1, 0] rfl ?_
    exact P
  · have P := P.2 c
    refine ok_iconst (pc := 19) hc (v := i3 1) dX7_amplifierRule_19 (by decide) ?_
    refine ok_goto (pc := 20) (tgt := 24) hc dX7_amplifierRule_20 (by decide) ?_
    refine ok_istore (pc := 24) hc (lv' := [(6, .int (i3 1)), (5, .int (i3 (x2 / 3 ^ (x1 : Int).toNat % 3))), (4, .int (i3 (pOf ps4 x1))), (0, .ref a0), (1, .int (i3 x1)), (2, .int (i3 x2)), (3, .int (i3 x3))]) dX7_amplifierRule_24 (by decide) rfl ?_
    refine ok_lv [3, 4, 5, 6, 2, 1, 0] rfl ?_
    exact P

set_option maxHeartbeats 4000000 in
set_option maxRecDepth 100000 in
theorem sX7_amplifierRule_26 {X : Xt} {n : Nat} {h : HP} {a0 : Nat} {x1 : Int} {x2 : Int} {x3 : Int} {x4 : Int} {x5 : Int} {x6 : Int} {fs3 : List Value} {q4 : Nat} {len5 : Nat} {f5 : Nat → Int} (hc : Cx X cX7_amplifierRule RX7 8 4 91) {K : KT} (hr : CxR X none K) (e3 : At h n a0 (.inl (7, fs3))) (z3 : fs3.length = 24) (v3_1 : fs3[1]? = some (.ref q4)) (e5 : At h n q4 (ai len5 f5))
    (P : (R3 x5) ∧ (¬ x5 = 0 → (R3 x5) ∧ (¬ x5 = 1 → (Ix 49 len5) ∧ Ok X 0 0 95 [(0, .ref a0), (1, .int (i3 x1)), (2, .int (i3 x2)), (3, .int (i3 x3)), (4, .int (i3 x4)), (5, .int (i3 x5)), (6, .int (i3 x6)), (7, .int (i3 (-(f5 (49 : Int).toNat))))] [] n h) ∧ (x5 = 1 → (Ix 49 len5) ∧ Ok X 0 0 95 [(0, .ref a0), (1, .int (i3 x1)), (2, .int (i3 x2)), (3, .int (i3 x3)), (4, .int (i3 x4)), (5, .int (i3 x5)), (6, .int (i3 x6)), (7, .int (i3 (f5 (49 : Int).toNat)))] [] n h)) ∧ (x5 = 0 → (R3 x1) ∧ (R3 x3) ∧ (x1 = x3 → (R3 x5) ∧ (¬ x5 = 1 → (Ix 49 len5) ∧ Ok X 0 0 95 [(0, .ref a0), (1, .int (i3 x1)), (2, .int (i3 x2)), (3, .int (i3 x3)), (4, .int (i3 x4)), (5, .int (i3 x5)), (6, .int (i3 x6)), (7, .int (i3 (-(f5 (49 : Int).toNat))))] [] n h) ∧ (x5 = 1 → (Ix 49 len5) ∧ Ok X 0 0 95 [(0, .ref a0), (1, .int (i3 x1)), (2, .int (i3 x2)), (3, .int (i3 x3)), (4, .int (i3 x4)), (5, .int (i3 x5)), (6, .int (i3 x6)), (7, .int (i3 (f5 (49 : Int).toNat)))] [] n h)) ∧ (¬ x1 = x3 → Ok X 0 0 36 [(0, .ref a0), (1, .int (i3 x1)), (2, .int (i3 x2)), (3, .int (i3 x3)), (4, .int (i3 x4)), (5, .int (i3 x5)), (6, .int (i3 x6))] [] n h))) :
    Ok X 0 0 26 [(0, .ref a0), (1, .int (i3 x1)), (2, .int (i3 x2)), (3, .int (i3 x3)), (4, .int (i3 x4)), (5, .int (i3 x5)), (6, .int (i3 x6))] [] n h := by
  refine ok_iload (pc := 26) hc dX7_amplifierRule_26 5 rfl ?_
  obtain ⟨r1, P⟩ := P
  refine zk_if_ne (pc := 28) (tgt := 69) hc dX7_amplifierRule_28 (by decide) r1 (fun c => ?_) (fun c => ?_)
  · have P := P.1 c
    refine ok_iload (pc := 69) hc dX7_amplifierRule_69 5 rfl ?_
    refine ok_iconst (pc := 71) hc (v := i3 1) dX7_amplifierRule_71 (by decide) ?_
    obtain ⟨r2, P⟩ := P
    refine zk_icmp_ne (pc := 72) (tgt := 85) hc dX7_amplifierRule_72 (by decide) r2 ⟨by decide, by decide⟩ (fun c => ?_) (fun c => ?_)
    · have P := P.1 c
      refine ok_aload_n (pc := 85) hc dX7_amplifierRule_85 rfl 0 rfl ?_
      refine ok_get (pc := 86) hc fl_X7_7 dX7_amplifierRule_86 e3.1 e3.2 v3_1 ?_
      refine ok_bipush (pc := 89) hc (v := i3 49) dX7_amplifierRule_89 (by decide) ?_
      obtain ⟨r, P⟩ := P
      refine zk_iald (pc := 91) hc dX7_amplifierRule_91 e5.1 e5.2 r ?_
      refine zk_ineg (pc := 92) hc dX7_amplifierRule_92 ?_
      refine ok_istore (pc := 93) hc (lv' := [(7, .int (i3 (-(f5 (49 : Int).toNat)))), (0, .ref a0), (1, .int (i3 x1)), (2, .int (i3 x2)), (3, .int (i3 x3)), (4, .int (i3 x4)), (5, .int (i3 x5)), (6, .int (i3 x6))]) dX7_amplifierRule_93 (by decide) rfl ?_
      refine ok_lv [1, 2, 3, 4, 5, 6, 7, 0] rfl ?_
      exact P
    · have P := P.2 c
      refine ok_aload_n (pc := 75) hc dX7_amplifierRule_75 rfl 0 rfl ?_
      refine ok_get (pc := 76) hc fl_X7_7 dX7_amplifierRule_76 e3.1 e3.2 v3_1 ?_
      refine ok_bipush (pc := 79) hc (v := i3 49) dX7_amplifierRule_79 (by decide) ?_
      obtain ⟨r, P⟩ := P
      refine zk_iald (pc := 81) hc dX7_amplifierRule_81 e5.1 e5.2 r ?_
      refine ok_goto (pc := 82) (tgt := 93) hc dX7_amplifierRule_82 (by decide) ?_
      refine ok_istore (pc := 93) hc (lv' := [(7, .int (i3 (f5 (49 : Int).toNat))), (0, .ref a0), (1, .int (i3 x1)), (2, .int (i3 x2)), (3, .int (i3 x3)), (4, .int (i3 x4)), (5, .int (i3 x5)), (6, .int (i3 x6))]) dX7_amplifierRule_93 (by decide) rfl ?_
      refine ok_lv [1, 2, 3, 4, 5, 6, 7, 0] rfl ?_
      exact P
  · have P := P.2 c
    refine ok_iload_n (pc := 31) hc dX7_amplifierRule_31 rfl 1 rfl ?_
    refine ok_iload_n (pc := 32) hc dX7_amplifierRule_32 rfl 3 rfl ?_
    obtain ⟨r6, P⟩ := P
    obtain ⟨r7, P⟩ := P
    refine zk_icmp_eq (pc := 33) (tgt := 69) hc dX7_amplifierRule_33 (by decide) r6 r7 (fun c => ?_) (fun c => ?_)
    · have P := P.1 c
      refine ok_iload (pc := 69) hc dX7_amplifierRule_69 5 rfl ?_
      refine ok_iconst (pc := 71) hc (v := i3 1) dX7_amplifierRule_71 (by decide) ?_
      obtain ⟨r8, P⟩ := P
      refine zk_icmp_ne (pc := 72) (tgt := 85) hc dX7_amplifierRule_72 (by decide) r8 ⟨by decide, by decide⟩ (fun c => ?_) (fun c => ?_)
      · have P := P.1 c
        refine ok_aload_n (pc := 85) hc dX7_amplifierRule_85 rfl 0 rfl ?_
        refine ok_get (pc := 86) hc fl_X7_7 dX7_amplifierRule_86 e3.1 e3.2 v3_1 ?_
        refine ok_bipush (pc := 89) hc (v := i3 49) dX7_amplifierRule_89 (by decide) ?_
        obtain ⟨r, P⟩ := P
        refine zk_iald (pc := 91) hc dX7_amplifierRule_91 e5.1 e5.2 r ?_
        refine zk_ineg (pc := 92) hc dX7_amplifierRule_92 ?_
        refine ok_istore (pc := 93) hc (lv' := [(7, .int (i3 (-(f5 (49 : Int).toNat)))), (0, .ref a0), (1, .int (i3 x1)), (2, .int (i3 x2)), (3, .int (i3 x3)), (4, .int (i3 x4)), (5, .int (i3 x5)), (6, .int (i3 x6))]) dX7_amplifierRule_93 (by decide) rfl ?_
        refine ok_lv [1, 2, 3, 4, 5, 6, 7, 0] rfl ?_
        exact P
      · have P := P.2 c
        refine ok_aload_n (pc := 75) hc dX7_amplifierRule_75 rfl 0 rfl ?_
        refine ok_get (pc := 76) hc fl_X7_7 dX7_amplifierRule_76 e3.1 e3.2 v3_1 ?_
        refine ok_bipush (pc := 79) hc (v := i3 49) dX7_amplifierRule_79 (by decide) ?_
        obtain ⟨r, P⟩ := P
        refine zk_iald (pc := 81) hc dX7_amplifierRule_81 e5.1 e5.2 r ?_
        refine ok_goto (pc := 82) (tgt := 93) hc dX7_amplifierRule_82 (by decide) ?_
        refine ok_istore (pc := 93) hc (lv' := [(7, .int (i3 (f5 (49 : Int).toNat))), (0, .ref a0), (1, .int (i3 x1)), (2, .int (i3 x2)), (3, .int (i3 x3)), (4, .int (i3 x4)), (5, .int (i3 x5)), (6, .int (i3 x6))]) dX7_amplifierRule_93 (by decide) rfl ?_
        refine ok_lv [1, 2, 3, 4, 5, 6, 7, 0] rfl ?_
        exact P
    · have P := P.2 c
      exact P

set_option maxHeartbeats 4000000 in
set_option maxRecDepth 100000 in
theorem sX7_amplifierRule_36 {X : Xt} {n : Nat} {h : HP} {a0 : Nat} {x1 : Int} {x2 : Int} {x3 : Int} {x4 : Int} {x5 : Int} {x6 : Int} {fs1 : List Value} {q2 : Nat} {f3 : Nat → Int} (hc : Cx X cX7_amplifierRule RX7 8 4 91) {K : KT} (hr : CxR X none K) (e1 : At h n a0 (.inl (7, fs1))) (z1 : fs1.length = 24) (v1_1 : fs1[1]? = some (.ref q2)) (e3 : At h n q2 (ai 52 f3))
    (P : (0 ≤ (4 : Int) * x4 + 1 ∧ (4 : Int) * x4 + 1 < 52) ∧ spec_X7_addTo [.ref a0, .int (i3 (f3 (4 * x4 + 1 : Int).toNat)), .long (i6 1), .int (i3 x6)] n h (kc X 0 0 47 [(0, .ref a0), (1, .int (i3 x1)), (2, .int (i3 x2)), (3, .int (i3 x3)), (4, .int (i3 x4)), (5, .int (i3 x5)), (6, .int (i3 x6))] [] n)) :
    Ok X 0 0 36 [(0, .ref a0), (1, .int (i3 x1)), (2, .int (i3 x2)), (3, .int (i3 x3)), (4, .int (i3 x4)), (5, .int (i3 x5)), (6, .int (i3 x6))] [] n h := by
  refine ok_aload_n (pc := 36) hc dX7_amplifierRule_36 rfl 0 rfl ?_
  refine ok_aload_n (pc := 37) hc dX7_amplifierRule_37 rfl 0 rfl ?_
  refine ok_iload (pc := 38) hc dX7_amplifierRule_38 4 rfl ?_
  refine ok_iconst (pc := 40) hc (v := i3 1) dX7_amplifierRule_40 (by decide) ?_
  obtain ⟨r0, P⟩ := P
  refine ok_callV (pc := 41) (a := a0) (cb := 0) (sb := 0) (st := [.ref a0]) hc [.int (i3 x4), .int (i3 1)] cv_X7_49 sp_X7_of (by decide) dX7_amplifierRule_41 rfl e1.1 e1.2 rfl rfl rfl (Nat.le_of_ble_eq_true rfl) (⟨_, _, _, _, rfl, ⟨_, _, ⟨e1.1, e1.2⟩, z1, v1_1, ⟨e3.1, e3.2⟩⟩, r0, rfl, ?_⟩)
  show Ok X 0 0 (41 + 3) [(0, .ref a0), (1, .int (i3 x1)), (2, .int (i3 x2)), (3, .int (i3 x3)), (4, .int (i3 x4)), (5, .int (i3 x5)), (6, .int (i3 x6))] [.int (i3 (f3 (4 * x4 + 1 : Int).toNat)), .ref a0] n h
  refine ok_lconst (pc := 44) hc (v := i6 1) dX7_amplifierRule_44 (by decide) ?_
  refine ok_iload (pc := 45) hc dX7_amplifierRule_45 6 rfl ?_
  exact ok_callV (pc := 47) (a := a0) (cb := 0) (sb := 0) (st := []) hc [.int (i3 (f3 (4 * x4 + 1 : Int).toNat)), .long (i6 1), .int (i3 x6)] cv_X7_88 sp_X7_addTo (by decide) dX7_amplifierRule_47 rfl e1.1 e1.2 rfl rfl rfl (Nat.le_of_ble_eq_true rfl) P

set_option maxHeartbeats 4000000 in
set_option maxRecDepth 100000 in
theorem sX7_amplifierRule_50 {X : Xt} {n : Nat} {h : HP} {a0 : Nat} {x1 : Int} {x2 : Int} {x3 : Int} {x4 : Int} {x5 : Int} {x6 : Int} {fs1 : List Value} {q2 : Nat} {f3 : Nat → Int} (hc : Cx X cX7_amplifierRule RX7 8 4 91) {K : KT} (hr : CxR X none K) (e1 : At h n a0 (.inl (7, fs1))) (z1 : fs1.length = 24) (v1_1 : fs1[1]? = some (.ref q2)) (e3 : At h n q2 (ai 52 f3))
    (P : (0 ≤ (4 : Int) * x4 + 2 ∧ (4 : Int) * x4 + 2 < 52) ∧ spec_X7_addTo [.ref a0, .int (i3 (f3 (4 * x4 + 2 : Int).toNat)), .long (i6 (-1)), .int (i3 x6)] n h (kc X 0 0 63 [(0, .ref a0), (1, .int (i3 x1)), (2, .int (i3 x2)), (3, .int (i3 x3)), (4, .int (i3 x4)), (5, .int (i3 x5)), (6, .int (i3 x6))] [] n)) :
    Ok X 0 0 50 [(0, .ref a0), (1, .int (i3 x1)), (2, .int (i3 x2)), (3, .int (i3 x3)), (4, .int (i3 x4)), (5, .int (i3 x5)), (6, .int (i3 x6))] [] n h := by
  refine ok_aload_n (pc := 50) hc dX7_amplifierRule_50 rfl 0 rfl ?_
  refine ok_aload_n (pc := 51) hc dX7_amplifierRule_51 rfl 0 rfl ?_
  refine ok_iload (pc := 52) hc dX7_amplifierRule_52 4 rfl ?_
  refine ok_iconst (pc := 54) hc (v := i3 2) dX7_amplifierRule_54 (by decide) ?_
  obtain ⟨r0, P⟩ := P
  refine ok_callV (pc := 55) (a := a0) (cb := 0) (sb := 0) (st := [.ref a0]) hc [.int (i3 x4), .int (i3 2)] cv_X7_49 sp_X7_of (by decide) dX7_amplifierRule_55 rfl e1.1 e1.2 rfl rfl rfl (Nat.le_of_ble_eq_true rfl) (⟨_, _, _, _, rfl, ⟨_, _, ⟨e1.1, e1.2⟩, z1, v1_1, ⟨e3.1, e3.2⟩⟩, r0, rfl, ?_⟩)
  show Ok X 0 0 (55 + 3) [(0, .ref a0), (1, .int (i3 x1)), (2, .int (i3 x2)), (3, .int (i3 x3)), (4, .int (i3 x4)), (5, .int (i3 x5)), (6, .int (i3 x6))] [.int (i3 (f3 (4 * x4 + 2 : Int).toNat)), .ref a0] n h
  refine ok_ldc2 (pc := 58) hc (v := i6 (-1)) dX7_amplifierRule_58 (in_all (i := 1103) (by decide +kernel) rfl) ?_
  refine ok_iload (pc := 61) hc dX7_amplifierRule_61 6 rfl ?_
  exact ok_callV (pc := 63) (a := a0) (cb := 0) (sb := 0) (st := []) hc [.int (i3 (f3 (4 * x4 + 2 : Int).toNat)), .long (i6 (-1)), .int (i3 x6)] cv_X7_88 sp_X7_addTo (by decide) dX7_amplifierRule_63 rfl e1.1 e1.2 rfl rfl rfl (Nat.le_of_ble_eq_true rfl) P

set_option maxHeartbeats 4000000 in
set_option maxRecDepth 100000 in
theorem sX7_amplifierRule_66 {X : Xt} {n : Nat} {h : HP} {a0 : Nat} {x1 : Int} {x2 : Int} {x3 : Int} {x4 : Int} {x5 : Int} {x6 : Int} {fs1 : List Value} {iv2 : Int} (hc : Cx X cX7_amplifierRule RX7 8 4 91) {K : KT} (hr : CxR X none K) (e1 : At h n a0 (.inl (7, fs1))) (z1 : fs1.length = 24) (v1_12 : fs1[12]? = some (.int (i3 iv2)))
    (P : K (.inl none) n (va_up h a0 (.inl (7, (fs1.set 12 (.int (i3 (iv2 + 1)))))))) :
    Ok X 0 0 66 [(0, .ref a0), (1, .int (i3 x1)), (2, .int (i3 x2)), (3, .int (i3 x3)), (4, .int (i3 x4)), (5, .int (i3 x5)), (6, .int (i3 x6))] [] n h := by
  refine ok_goto (pc := 66) (tgt := 148) hc dX7_amplifierRule_66 (by decide) ?_
  refine ok_aload_n (pc := 148) hc dX7_amplifierRule_148 rfl 0 rfl ?_
  refine ok_dup (pc := 149) hc dX7_amplifierRule_149 rfl ?_
  refine ok_get (pc := 150) hc fl_X7_85 dX7_amplifierRule_150 e1.1 e1.2 v1_12 ?_
  refine ok_iconst (pc := 153) hc (v := i3 1) dX7_amplifierRule_153 (by decide) ?_
  refine zk_iadd (pc := 154) hc dX7_amplifierRule_154 ?_
  refine ok_put (pc := 155) hc fl_X7_85 dX7_amplifierRule_155 e1.1 e1.2 (by simp [List.length_set, z1]) (fun _ => rfl) (fun _ => rfl) ?_
  exact ok_vret (st := []) (pc := 158) hc hr dX7_amplifierRule_158 P

set_option maxHeartbeats 4000000 in
set_option maxRecDepth 100000 in
theorem sX7_amplifierRule_95 {X : Xt} {n : Nat} {h : HP} {a0 : Nat} {x1 : Int} {x2 : Int} {x3 : Int} {x4 : Int} {x5 : Int} {x6 : Int} {x7 : Int} {fs1 : List Value} {q2 : Nat} {f3 : Nat → Int} (hc : Cx X cX7_amplifierRule RX7 8 4 91) {K : KT} (hr : CxR X none K) (e1 : At h n a0 (.inl (7, fs1))) (z1 : fs1.length = 24) (v1_1 : fs1[1]? = some (.ref q2)) (e3 : At h n q2 (ai 52 f3))
    (P : (0 ≤ (4 : Int) * x4 + 3 ∧ (4 : Int) * x4 + 3 < 52) ∧ spec_X7_addTo [.ref a0, .int (i3 (f3 (4 * x4 + 3 : Int).toNat)), .long (i6 1), .int (i3 x6)] n h (kc X 0 0 106 [(0, .ref a0), (1, .int (i3 x1)), (2, .int (i3 x2)), (3, .int (i3 x3)), (4, .int (i3 x4)), (5, .int (i3 x5)), (6, .int (i3 x6)), (7, .int (i3 x7))] [] n)) :
    Ok X 0 0 95 [(0, .ref a0), (1, .int (i3 x1)), (2, .int (i3 x2)), (3, .int (i3 x3)), (4, .int (i3 x4)), (5, .int (i3 x5)), (6, .int (i3 x6)), (7, .int (i3 x7))] [] n h := by
  refine ok_aload_n (pc := 95) hc dX7_amplifierRule_95 rfl 0 rfl ?_
  refine ok_aload_n (pc := 96) hc dX7_amplifierRule_96 rfl 0 rfl ?_
  refine ok_iload (pc := 97) hc dX7_amplifierRule_97 4 rfl ?_
  refine ok_iconst (pc := 99) hc (v := i3 3) dX7_amplifierRule_99 (by decide) ?_
  obtain ⟨r0, P⟩ := P
  refine ok_callV (pc := 100) (a := a0) (cb := 0) (sb := 0) (st := [.ref a0]) hc [.int (i3 x4), .int (i3 3)] cv_X7_49 sp_X7_of (by decide) dX7_amplifierRule_100 rfl e1.1 e1.2 rfl rfl rfl (Nat.le_of_ble_eq_true rfl) (⟨_, _, _, _, rfl, ⟨_, _, ⟨e1.1, e1.2⟩, z1, v1_1, ⟨e3.1, e3.2⟩⟩, r0, rfl, ?_⟩)
  show Ok X 0 0 (100 + 3) [(0, .ref a0), (1, .int (i3 x1)), (2, .int (i3 x2)), (3, .int (i3 x3)), (4, .int (i3 x4)), (5, .int (i3 x5)), (6, .int (i3 x6)), (7, .int (i3 x7))] [.int (i3 (f3 (4 * x4 + 3 : Int).toNat)), .ref a0] n h
  refine ok_lconst (pc := 103) hc (v := i6 1) dX7_amplifierRule_103 (by decide) ?_
  refine ok_iload (pc := 104) hc dX7_amplifierRule_104 6 rfl ?_
  exact ok_callV (pc := 106) (a := a0) (cb := 0) (sb := 0) (st := []) hc [.int (i3 (f3 (4 * x4 + 3 : Int).toNat)), .long (i6 1), .int (i3 x6)] cv_X7_88 sp_X7_addTo (by decide) dX7_amplifierRule_106 rfl e1.1 e1.2 rfl rfl rfl (Nat.le_of_ble_eq_true rfl) P

set_option maxHeartbeats 4000000 in
set_option maxRecDepth 100000 in
theorem sX7_amplifierRule_109 {X : Xt} {n : Nat} {h : HP} {a0 : Nat} {x1 : Int} {x2 : Int} {x3 : Int} {x4 : Int} {x5 : Int} {x6 : Int} {x7 : Int} {fs1 : List Value} {q2 : Nat} {iv3 : Int} {len4 : Nat} {f4 : Nat → Int} (hc : Cx X cX7_amplifierRule RX7 8 4 91) {K : KT} (hr : CxR X none K) (e1 : At h n a0 (.inl (7, fs1))) (z1 : fs1.length = 24) (v1_11 : fs1[11]? = some (.ref q2)) (v1_12 : fs1[12]? = some (.int (i3 iv3))) (e4 : At h n q2 (al len4 f4))
    (P : (Ix ((7 * iv3) + 6) len4) ∧ (R3 x1) ∧ (R3 x3) ∧ (¬ x1 = x3 → (R3 x6) ∧ (x6 = 0 → (R3 x7) ∧ (Ix ((7 * iv3) + 6) len4) ∧ K (.inl none) n (va_up (va_up h q2 (al len4 (va_up f4 (((7 * iv3) + 6) : Int).toNat ((f4 (((7 * iv3) + 6) : Int).toNat) + x7)))) a0 (.inl (7, (fs1.set 12 (.int (i3 (iv3 + 1)))))))) ∧ (¬ x6 = 0 → (Ix ((7 * iv3) + 6) len4) ∧ K (.inl none) n (va_up (va_up h q2 (al len4 (va_up f4 (((7 * iv3) + 6) : Int).toNat ((f4 (((7 * iv3) + 6) : Int).toNat) + 0)))) a0 (.inl (7, (fs1.set 12 (.int (i3 (iv3 + 1))))))))) ∧ (x1 = x3 → (Ix ((7 * iv3) + 6) len4) ∧ K (.inl none) n (va_up (va_up h q2 (al len4 (va_up f4 (((7 * iv3) + 6) : Int).toNat ((f4 (((7 * iv3) + 6) : Int).toNat) + 1)))) a0 (.inl (7, (fs1.set 12 (.int (i3 (iv3 + 1))))))))) :
    Ok X 0 0 109 [(0, .ref a0), (1, .int (i3 x1)), (2, .int (i3 x2)), (3, .int (i3 x3)), (4, .int (i3 x4)), (5, .int (i3 x5)), (6, .int (i3 x6)), (7, .int (i3 x7))] [] n h := by
  refine ok_aload_n (pc := 109) hc dX7_amplifierRule_109 rfl 0 rfl ?_
  refine ok_get (pc := 110) hc fl_X7_28 dX7_amplifierRule_110 e1.1 e1.2 v1_11 ?_
  refine ok_bipush (pc := 113) hc (v := i3 7) dX7_amplifierRule_113 (by decide) ?_
  refine ok_aload_n (pc := 115) hc dX7_amplifierRule_115 rfl 0 rfl ?_
  refine ok_get (pc := 116) hc fl_X7_85 dX7_amplifierRule_116 e1.1 e1.2 v1_12 ?_
  refine zk_imul (pc := 119) hc dX7_amplifierRule_119 ?_
  refine ok_bipush (pc := 120) hc (v := i3 6) dX7_amplifierRule_120 (by decide) ?_
  refine zk_iadd (pc := 122) hc dX7_amplifierRule_122 ?_
  refine ok_dup2_11 (pc := 123) hc dX7_amplifierRule_123 rfl rfl ?_
  obtain ⟨r, P⟩ := P
  refine zk_lald (pc := 124) hc dX7_amplifierRule_124 e4.1 e4.2 r ?_
  refine ok_iload_n (pc := 125) hc dX7_amplifierRule_125 rfl 1 rfl ?_
  refine ok_iload_n (pc := 126) hc dX7_amplifierRule_126 rfl 3 rfl ?_
  obtain ⟨r5, P⟩ := P
  obtain ⟨r6, P⟩ := P
  refine zk_icmp_ne (pc := 127) (tgt := 134) hc dX7_amplifierRule_127 (by decide) r5 r6 (fun c => ?_) (fun c => ?_)
  · have P := P.1 c
    refine ok_iload (pc := 134) hc dX7_amplifierRule_134 6 rfl ?_
    obtain ⟨r7, P⟩ := P
    refine zk_if_eq (pc := 136) (tgt := 143) hc dX7_amplifierRule_136 (by decide) r7 (fun c => ?_) (fun c => ?_)
    · have P := P.1 c
      refine ok_iload (pc := 143) hc dX7_amplifierRule_143 7 rfl ?_
      obtain ⟨r8, P⟩ := P
      refine zk_i2l (pc := 145) hc dX7_amplifierRule_145 r8 ?_
      refine zk_ladd (pc := 146) hc dX7_amplifierRule_146 ?_
      obtain ⟨r, P⟩ := P
      refine zk_last (pc := 147) hc dX7_amplifierRule_147 e4.1 e4.2 r ?_
      refine ok_aload_n (pc := 148) hc dX7_amplifierRule_148 rfl 0 rfl ?_
      refine ok_dup (pc := 149) hc dX7_amplifierRule_149 rfl ?_
      refine ok_get (pc := 150) hc fl_X7_85 dX7_amplifierRule_150 e1.1 ((up_ne (ne_oa e1.2 e4.2)).trans e1.2) v1_12 ?_
      refine ok_iconst (pc := 153) hc (v := i3 1) dX7_amplifierRule_153 (by decide) ?_
      refine zk_iadd (pc := 154) hc dX7_amplifierRule_154 ?_
      refine ok_put (pc := 155) hc fl_X7_85 dX7_amplifierRule_155 e1.1 ((up_ne (ne_oa e1.2 e4.2)).trans e1.2) (by simp [List.length_set, z1]) (fun _ => rfl) (fun _ => rfl) ?_
      exact ok_vret (st := []) (pc := 158) hc hr dX7_amplifierRule_158 P
    · have P := P.2 c
      refine ok_lconst (pc := 139) hc (v := i6 0) dX7_amplifierRule_139 (by decide) ?_
      refine ok_goto (pc := 140) (tgt := 146) hc dX7_amplifierRule_140 (by decide) ?_
      refine zk_ladd (pc := 146) hc dX7_amplifierRule_146 ?_
      obtain ⟨r, P⟩ := P
      refine zk_last (pc := 147) hc dX7_amplifierRule_147 e4.1 e4.2 r ?_
      refine ok_aload_n (pc := 148) hc dX7_amplifierRule_148 rfl 0 rfl ?_
      refine ok_dup (pc := 149) hc dX7_amplifierRule_149 rfl ?_
      refine ok_get (pc := 150) hc fl_X7_85 dX7_amplifierRule_150 e1.1 ((up_ne (ne_oa e1.2 e4.2)).trans e1.2) v1_12 ?_
      refine ok_iconst (pc := 153) hc (v := i3 1) dX7_amplifierRule_153 (by decide) ?_
      refine zk_iadd (pc := 154) hc dX7_amplifierRule_154 ?_
      refine ok_put (pc := 155) hc fl_X7_85 dX7_amplifierRule_155 e1.1 ((up_ne (ne_oa e1.2 e4.2)).trans e1.2) (by simp [List.length_set, z1]) (fun _ => rfl) (fun _ => rfl) ?_
      exact ok_vret (st := []) (pc := 158) hc hr dX7_amplifierRule_158 P
  · have P := P.2 c
    refine ok_lconst (pc := 130) hc (v := i6 1) dX7_amplifierRule_130 (by decide) ?_
    refine ok_goto (pc := 131) (tgt := 146) hc dX7_amplifierRule_131 (by decide) ?_
    refine zk_ladd (pc := 146) hc dX7_amplifierRule_146 ?_
    obtain ⟨r, P⟩ := P
    refine zk_last (pc := 147) hc dX7_amplifierRule_147 e4.1 e4.2 r ?_
    refine ok_aload_n (pc := 148) hc dX7_amplifierRule_148 rfl 0 rfl ?_
    refine ok_dup (pc := 149) hc dX7_amplifierRule_149 rfl ?_
    refine ok_get (pc := 150) hc fl_X7_85 dX7_amplifierRule_150 e1.1 ((up_ne (ne_oa e1.2 e4.2)).trans e1.2) v1_12 ?_
    refine ok_iconst (pc := 153) hc (v := i3 1) dX7_amplifierRule_153 (by decide) ?_
    refine zk_iadd (pc := 154) hc dX7_amplifierRule_154 ?_
    refine ok_put (pc := 155) hc fl_X7_85 dX7_amplifierRule_155 e1.1 ((up_ne (ne_oa e1.2 e4.2)).trans e1.2) (by simp [List.length_set, z1]) (fun _ => rfl) (fun _ => rfl) ?_
    exact ok_vret (st := []) (pc := 158) hc hr dX7_amplifierRule_158 P

def spec_X7_amplifierRule (args : List Value) (n : Nat) (h : HP) (K : KT) : Prop := ∃ (I : Nat → Int) (F : Nat → Nat → Int) (ps : List Part) (a r : Nat) (c t : Int), args = [.ref 128, .int (i3 a), .int (i3 c), .int (i3 t)] ∧ MAt h n I F ∧ ZPs (F 1) ps ∧ (∀ j, j < 7 → F 6 j = colF ps j) ∧ (a < nA ps ∧ I 12 = r ∧ r < 6) ∧ ((0 ≤ c ∧ c ≤ 26) ∧ -1 ≤ t ∧ t ≤ 2 ∧ 0 ≤ F 1 49 ∧ F 1 49 ≤ 1000) ∧ RowIs ps (valF ps (offT t) (F 1 49)) (F 7) r (fun _ => 0) ∧ ∀ (h' : HP) (R' : Nat → Int), MAt h' n (va_up I 12 ((r : Int) + 1)) (va_up F 7 R') → RowIs ps (valF ps (offT t) (F 1 49)) R' r (ampR ps c t a) → (∀ x, x < 7 * r ∨ 7 * r + 7 ≤ x → R' x = F 7 x) → Fr h h' 128 138 → K (.inl none) n h'
theorem sp_X7_amplifierRule : Sp yX7_amplifierRule cX7_amplifierRule 8 none 4 91 0 0 spec_X7_amplifierRule := by
  refine sp_intro (by decide) (by rintro args n h K ⟨I, F, ps, a, r, c, t, rfl, -⟩; exact Nat.le_of_ble_eq_true rfl) ?_
  rintro X args n h K hc hr ⟨I, F, ps, a, r, c, t, rfl, hM, hP, hC, ⟨ha, h12, hr6⟩, ⟨hcr, ht1, ht2, hra⟩, hR0, kk⟩
  have hl := hP.2.1
  have h3A := nA_le ps
  obtain ⟨i, p, hA⟩ := AmpAt.ex ha
  have hp := hA.1
  have ep : pAt ps (pOf ps a) = p := by rw [pOf_at hA, pAt_of hp]
  have epo := pOf_at hA
  have hz := hP.of hp
  have hil := hA.lt.1
  have hpw := hP.2.2.2 _ (List.mem_of_getElem? hp)
  have h2 := hA.2.1
  have hpn : (0 ≤ p.2.1 ∧ p.2.1 ≤ 6) ∧ (0 ≤ p.2.2.1 ∧ p.2.2.1 ≤ 6) ∧ 0 ≤ p.2.2.2 ∧ p.2.2.2 ≤ 6 := by
    unfold PW at hpw
    omega
  have e1 : (4 * (i : Int) + 1).toNat = 4 * i + 1 := by omega
  have e2 : (4 * (i : Int) + 2).toNat = 4 * i + 2 := by omega
  have e3 : (4 * (i : Int) + 3).toNat = 4 * i + 3 := by omega
  have eat : (a : Int).toNat = a := by omega
  have h3p := pow3_pos a
  have hs : 0 ≤ c / 3 ^ a % 3 ∧ c / 3 ^ a % 3 ≤ 2 := by
    have h1 := Int.emod_nonneg (c / 3 ^ a) (show (3 : Int) ≠ 0 by decide)
    have h2 := Int.emod_lt_of_pos (c / 3 ^ a) (show (0 : Int) < 3 by decide)
    omega
  have e49 : F 1 (49 : Int).toNat = F 1 49 := rfl
  have hna : 0 < nA ps := by omega
  obtain ⟨a1, ha1⟩ : ∃ k : Nat, p.2.1 = k := ⟨p.2.1.toNat, by omega⟩
  obtain ⟨a2, ha2⟩ : ∃ k : Nat, p.2.2.1 = k := ⟨p.2.2.1.toNat, by omega⟩
  obtain ⟨a3, ha3⟩ : ∃ k : Nat, p.2.2.2 = k := ⟨p.2.2.2.toNat, by omega⟩
  have at1 : atB p a1 = true := by
    unfold atB
    rw [decide_eq_true ha1]
    rfl
  have at2 : atB p a2 = true := by
    unfold atB
    rw [decide_eq_true ha2, decide_eq_true (show p.1 ≠ 1 by omega)]
    simp
  have at3 : atB p a3 = true := by
    unfold atB
    rw [decide_eq_true ha3, decide_eq_true h2]
    simp
  have hoff : offT t = 0 ∨ offT t = 1 := by
    unfold offT
    split
    · exact Or.inl rfl
    · exact Or.inr rfl
  -- the row of a linear amplifier
  have lin : c / 3 ^ a % 3 = 0 → (a : Int) ≠ t → Ok X 0 0 36 [(0, .ref 128), (1, .int (i3 a)), (2, .int (i3 c)), (3, .int (i3 t)), (4, .int (i3 i)), (5, .int (i3 (c / 3 ^ a % 3))), (6, .int (i3 (offT t)))] [] n h := by
    intro q1 q2
    refine sX7_amplifierRule_36 hc hr hM.o rfl rfl hM.z ⟨by omega, I, F, ps, a1, r, 1, offT t, F 1 49, _, ?_, hM, hP, hC, ⟨by omega, h12, hr6⟩, hoff, fun _ => oth_src (k := 0) hp at1, hR0, fun R1 hR1 hx1 => ⟨rfl, ?_⟩⟩
    · rw [e1, hz.2.1, ha1]
    · have hM1 : MAt (va_up h 135 (al 42 R1)) n I (va_up F 7 R1) := hM.ua (j := 7) (by omega) R1
      refine sX7_amplifierRule_50 hc hr hM1.o rfl rfl hM1.z ⟨by omega, I, va_up F 7 R1, ps, a2, r, -1, offT t, F 1 49, _, ?_, hM1, hP, hC, ⟨by omega, h12, hr6⟩, hoff, fun _ => oth_src (k := 0) hp at2, hR1, fun R2 hR2 hx2 => ⟨rfl, ?_⟩⟩
      · show [_, Value.int (i3 (F 1 _)), _, _] = _
        rw [e2, hz.2.2.1, ha2]
      · have hM2 : MAt (va_up (va_up h 135 (al 42 R1)) 135 (al 42 R2)) n I (va_up F 7 R2) := hM1.uu (j := 7) (by omega) R2
        refine sX7_amplifierRule_66 hc hr hM2.o rfl rfl ?_
        rw [h12]
        refine kk _ R2 (hM2.uo (va_up I 12 ((r : Int) + 1))) ?_ (fun x q => (hx2 x q).trans (hx1 x q)) (((Fr.rf.up (by omega)).up (by omega)).up (by omega))
        unfold ampR
        rw [if_pos ⟨q1, q2⟩, ep, ha1, ha2, show (a1 : Int).toNat = a1 by omega, show (a2 : Int).toNat = a2 by omega]
        exact hR2
  -- the row of another one
  have oth : ∀ v : Int, ¬ (c / 3 ^ a % 3 = 0 ∧ (a : Int) ≠ t) → v = (if c / 3 ^ a % 3 = 1 then F 1 49 else -F 1 49) → Ok X 0 0 95 [(0, .ref 128), (1, .int (i3 a)), (2, .int (i3 c)), (3, .int (i3 t)), (4, .int (i3 i)), (5, .int (i3 (c / 3 ^ a % 3))), (6, .int (i3 (offT t))), (7, .int (i3 v))] [] n h := by
    intro v q1 hv
    refine sX7_amplifierRule_95 hc hr hM.o rfl rfl hM.z ⟨by omega, I, F, ps, a3, r, 1, offT t, F 1 49, _, ?_, hM, hP, hC, ⟨by omega, h12, hr6⟩, hoff, fun _ => oth_src (k := 0) hp at3, hR0, fun R1 hR1 hx1 => ⟨rfl, ?_⟩⟩
    · rw [e3, hz.2.2.2, ha3]
    · have hM1 : MAt (va_up h 135 (al 42 R1)) n I (va_up F 7 R1) := hM.ua (j := 7) (by omega) R1
      have e6 : (7 * I 12 + 6).toNat = 7 * r + 6 := by omega
      have fin : ∀ w : Int, w = valF ps (offT t) (F 1 49) (ampX c t a) → K (.inl none) n (va_up (va_up (va_up h 135 (al 42 R1)) 135 (al 42 (va_up R1 (7 * r + 6) (R1 (7 * r + 6) + w)))) 128 (.inl (7, mf (va_up I 12 ((r : Int) + 1))))) := by
        intro w hw
        have hx : 7 ≤ ampX c t a ∧ ampX c t a < 10 := by
          unfold ampX
          split
          · omega
          · split <;> omega
        have h3 := hR1.nf (g := -1) hx.2 (fun z => by omega)
        rw [show R1 (7 * r + 6) - -1 * valF ps (offT t) (F 1 49) (ampX c t a) = R1 (7 * r + 6) + w by rw [hw]; omega] at h3
        have hM2 : MAt (va_up (va_up h 135 (al 42 R1)) 135 (al 42 (va_up R1 (7 * r + 6) (R1 (7 * r + 6) + w)))) n I (va_up F 7 (va_up R1 (7 * r + 6) (R1 (7 * r + 6) + w))) := hM1.uu (j := 7) (by omega) _
        refine kk _ _ (hM2.uo (va_up I 12 ((r : Int) + 1))) ?_ (fun x q => (up_ne (by omega)).trans (hx1 x q)) (((Fr.rf.up (by omega)).up (by omega)).up (by omega))
        unfold ampR
        rw [if_neg q1, ep, ha3, show (a3 : Int).toNat = a3 by omega]
        exact h3
      refine sX7_amplifierRule_109 hc hr hM1.o rfl rfl rfl hM1.r ⟨⟨by omega, by omega, by omega⟩, R3_s (by omega), R3_s (by omega), fun c1 => ⟨R3_s (by omega), fun c2 => ⟨?_, ⟨by omega, by omega, by omega⟩, ?_⟩, fun c2 => ⟨⟨by omega, by omega, by omega⟩, ?_⟩⟩, fun c1 => ⟨⟨by omega, by omega, by omega⟩, ?_⟩⟩
      · rw [hv]
        split <;> exact R3_s (by omega)
      · rw [e6, h12]
        refine fin v ?_
        rw [hv]
        unfold ampX valF
        rw [if_neg c1]
        by_cases d : c / 3 ^ a % 3 = 1
        · rw [if_pos d, if_pos d, if_pos rfl, if_pos ⟨c2, hna⟩]
        · rw [if_neg d, if_neg d, if_neg (by decide), if_pos rfl, if_pos ⟨c2, hna⟩]
      · rw [e6, h12]
        refine fin 0 ?_
        unfold ampX valF
        rw [if_neg c1]
        by_cases d : c / 3 ^ a % 3 = 1
        · rw [if_pos d, if_pos rfl, if_neg (fun z => c2 z.1)]
        · rw [if_neg d, if_neg (by decide), if_pos rfl, if_neg (fun z => c2 z.1)]
      · rw [e6, h12]
        refine fin 1 ?_
        unfold ampX valF
        rw [if_pos c1, if_neg (by decide), if_neg (by decide), if_pos rfl, if_pos hna]
  have h26 : Ok X 0 0 26 [(0, .ref 128), (1, .int (i3 a)), (2, .int (i3 c)), (3, .int (i3 t)), (4, .int (i3 i)), (5, .int (i3 (c / 3 ^ a % 3))), (6, .int (i3 (offT t)))] [] n h := by
    refine sX7_amplifierRule_26 hc hr hM.o rfl rfl hM.z ⟨R3_s (by omega), fun d => ⟨R3_s (by omega), fun d1 => ⟨⟨by decide, by decide, by decide⟩, oth _ (fun z => d z.1) ?_⟩, fun d1 => ⟨⟨by decide, by decide, by decide⟩, oth _ (fun z => d z.1) ?_⟩⟩, fun d => ⟨R3_s (by omega), R3_s (by omega), fun d1 => ⟨R3_s (by omega), fun d2 => ⟨⟨by decide, by decide, by decide⟩, oth _ (fun z => z.2 d1) ?_⟩, fun d2 => ⟨⟨by decide, by decide, by decide⟩, oth _ (fun z => z.2 d1) ?_⟩⟩, fun d1 => lin d d1⟩⟩
    · rw [if_neg d1, e49]
    · rw [if_pos d1, e49]
    · rw [if_neg d2, e49]
    · rw [if_pos d2, e49]
  refine sX7_amplifierRule_0 hc hr hM.o rfl rfl hM.z hP ⟨by omega, ⟨by omega, by omega, by omega⟩, R3_s (by omega), fun d => ?_, fun d => ?_⟩
  · rw [epo, eat, show (0 : Int) = offT t by unfold offT; rw [if_pos d]]
    exact h26
  · rw [epo, eat, show (1 : Int) = offT t by unfold offT; rw [if_neg d]]
    exact h26
