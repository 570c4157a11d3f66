/-! part 90: the reference: current, amplifier, why, concerned, part, thrown -/
set_option maxHeartbeats 4000000 in
set_option maxRecDepth 100000 in
theorem sX7_current_0 {X : Xt} {n : Nat} {h : HP} {a0 : Nat} {x1 : Int} {x2 : Int} {fs1 : List Value} {q2 : Nat} {f3 : Nat → Int} {ps4 : List Part} (hc : Cx X cX7_current RX7 3 8 182) {K : KT} (hr : CxR X (some .long) K) (e1 : At h n a0 (.inl (7, fs1))) (z1 : fs1.length = 24) (v1_1 : fs1[1]? = some (.ref q2)) (e3 : At h n q2 (ai 52 f3)) (hP4 : ZPs f3 ps4)
    (P : (R3 x1) ∧ ((decide (0 ≤ x1 ∧ x1 < ps4.length)) = true → ((0 ≤ (4 : Int) * x1 ∧ (4 : Int) * x1 < 52) ∧ R3 0 ∧ R3 (f3 (4 * x1 : Int).toNat)) ∧ (f3 (4 * x1 : Int).toNat = 0 → (R3 x2 ∧ R3 0 ∧ R3 1) ∧ (¬ (0 ≤ x2 ∧ x2 ≤ 1) → K (.inl (some (.long (i6 0)))) n (va_up h a0 (.inl (7, (fs1.set 0 (.int (i3 3))))))) ∧ ((0 ≤ x2 ∧ x2 ≤ 1) → (Ix 51 52) ∧ (R3 (f3 (51 : Int).toNat)) ∧ (¬ (f3 (51 : Int).toNat) = 0 → (Ix 50 52) ∧ spec_X7_solve [.ref a0, .int (i3 (f3 (50 : Int).toNat)), .int (i3 (-1))] n (va_up h a0 (.inl (7, (fs1.set 0 (.int (i3 0)))))) (kc X 0 0 71 [(0, .ref a0), (1, .int (i3 x1)), (2, .int (i3 x2))] [] n)) ∧ ((f3 (51 : Int).toNat) = 0 → K (.inl (some (.long (i6 0)))) n (va_up h a0 (.inl (7, (fs1.set 0 (.int (i3 0))))))))) ∧ (¬ f3 (4 * x1 : Int).toNat = 0 → K (.inl (some (.long (i6 0)))) n (va_up h a0 (.inl (7, (fs1.set 0 (.int (i3 2)))))))) ∧ ((decide (0 ≤ x1 ∧ x1 < ps4.length)) = false → K (.inl (some (.long (i6 0)))) n (va_up h a0 (.inl (7, (fs1.set 0 (.int (i3 1)))))))) :
    Ok X 0 0 0 [(0, .ref a0), (1, .int (i3 x1)), (2, .int (i3 x2))] [] n h := by
  refine ok_aload_n (pc := 0) hc dX7_current_0 rfl 0 rfl ?_
  refine ok_aload_n (pc := 1) hc dX7_current_1 rfl 0 rfl ?_
  refine ok_iload_n (pc := 2) hc dX7_current_2 rfl 1 rfl ?_
  obtain ⟨r0, P⟩ := P
  refine ok_callV (pc := 3) (a := a0) (cb := 0) (sb := 0) (st := [.ref a0]) hc [.int (i3 x1)] cv_X7_153 sp_X7_isPartB (by decide) dX7_current_3 rfl e1.1 e1.2 rfl rfl rfl (Nat.le_of_ble_eq_true rfl) (⟨_, _, _, _, rfl, ⟨_, _, ⟨e1.1, e1.2⟩, z1, v1_1, ⟨e3.1, e3.2⟩⟩, hP4, r0, rfl, ?_⟩)
  show Ok X 0 0 (3 + 3) [(0, .ref a0), (1, .int (i3 x1)), (2, .int (i3 x2))] [.int (i3 (bz (decide (0 ≤ x1 ∧ x1 < ps4.length)))), .ref a0] n h
  refine zk_if_ne (pc := 6) (tgt := 13) hc dX7_current_6 (by decide) R3_bz (fun c => ?_) (fun c => ?_)
  · have P := P.1 (bz_1.mp c)
    refine ok_aload_n (pc := 13) hc dX7_current_13 rfl 0 rfl ?_
    refine ok_iload_n (pc := 14) hc dX7_current_14 rfl 1 rfl ?_
    refine ok_iconst (pc := 15) hc (v := i3 0) dX7_current_15 (by decide) ?_
    obtain ⟨r0, P⟩ := P
    refine ok_callV (pc := 16) (a := a0) (cb := 0) (sb := 0) (st := [.ref a0]) hc [.int (i3 x1), .int (i3 0)] cv_X7_60 sp_X7_is (by decide) dX7_current_16 rfl e1.1 e1.2 rfl rfl rfl (Nat.le_of_ble_eq_true rfl) (⟨_, _, _, _, rfl, ⟨_, _, ⟨e1.1, e1.2⟩, z1, v1_1, ⟨e3.1, e3.2⟩⟩, r0.1, r0.2.1, r0.2.2, rfl, ?_⟩)
    show Ok X 0 0 (16 + 3) [(0, .ref a0), (1, .int (i3 x1)), (2, .int (i3 x2))] [.int (i3 (isZ f3 x1 0)), .ref a0] n h
    refine zk_if_ne (pc := 19) (tgt := 26) hc dX7_current_19 (by decide) R3_isZ (fun c => ?_) (fun c => ?_)
    · have P := P.1 (isZ_1.mp c)
      refine ok_iload_n (pc := 26) hc dX7_current_26 rfl 2 rfl ?_
      refine ok_iconst (pc := 27) hc (v := i3 0) dX7_current_27 (by decide) ?_
      refine ok_iconst (pc := 28) hc (v := i3 1) dX7_current_28 (by decide) ?_
      obtain ⟨r0, P⟩ := P
      refine ok_callS (pc := 29) (cb := 0) (sb := 0) (st := [.ref a0]) hc [.int (i3 x2), .int (i3 0), .int (i3 1)] cs_X7_45 sp_X7_within (by decide) dX7_current_29 rfl rfl rfl rfl (Nat.le_of_ble_eq_true rfl) (⟨_, _, _, rfl, r0, rfl, ?_⟩)
      show Ok X 0 0 (29 + 3) [(0, .ref a0), (1, .int (i3 x1)), (2, .int (i3 x2))] [.int (i3 (inZ x2 0 1)), .ref a0] n h
      refine zk_if_eq (pc := 32) (tgt := 39) hc dX7_current_32 (by decide) R3_inZ (fun c => ?_) (fun c => ?_)
      · have P := P.1 (inZ_0.mp c)
        refine ok_iconst (pc := 39) hc (v := i3 3) dX7_current_39 (by decide) ?_
        refine ok_put (pc := 40) hc fl_X7_41 dX7_current_40 e1.1 e1.2 (by simp [List.length_set, z1]) (fun _ => rfl) (fun _ => rfl) ?_
        refine ok_aload_n (pc := 43) hc dX7_current_43 rfl 0 rfl ?_
        refine ok_get (pc := 44) hc fl_X7_41 dX7_current_44 e1.1 up_self (set_self (by simp [List.length_set, z1])) ?_
        refine zk_if_gt (pc := 47) (tgt := 60) hc dX7_current_47 (by decide) ⟨by decide, by decide⟩ (fun _ => ?_) (fun c => absurd c (by decide))
        refine ok_lconst (pc := 60) hc (v := i6 0) dX7_current_60 (by decide) ?_
        exact ok_lret (st := []) (pc := 61) hc hr dX7_current_61 P
      · have P := P.2 (inZ_1.mp c)
        refine ok_iconst (pc := 35) hc (v := i3 0) dX7_current_35 (by decide) ?_
        refine ok_goto (pc := 36) (tgt := 40) hc dX7_current_36 (by decide) ?_
        refine ok_put (pc := 40) hc fl_X7_41 dX7_current_40 e1.1 e1.2 (by simp [List.length_set, z1]) (fun _ => rfl) (fun _ => rfl) ?_
        refine ok_aload_n (pc := 43) hc dX7_current_43 rfl 0 rfl ?_
        refine ok_get (pc := 44) hc fl_X7_41 dX7_current_44 e1.1 up_self (set_self (by simp [List.length_set, z1])) ?_
        refine zk_if_gt (pc := 47) (tgt := 60) hc dX7_current_47 (by decide) ⟨by decide, by decide⟩ (fun c => absurd c (by decide)) (fun _ => ?_)
        refine ok_aload_n (pc := 50) hc dX7_current_50 rfl 0 rfl ?_
        refine ok_get (pc := 51) hc fl_X7_7 dX7_current_51 e1.1 up_self ((set_ne (by decide)).trans v1_1) ?_
        refine ok_bipush (pc := 54) hc (v := i3 51) dX7_current_54 (by decide) ?_
        obtain ⟨r, P⟩ := P
        refine zk_iald (pc := 56) hc dX7_current_56 e3.1 ((up_ne (ne_oa e1.2 e3.2).symm).trans e3.2) r ?_
        obtain ⟨r5, P⟩ := P
        refine zk_if_ne (pc := 57) (tgt := 62) hc dX7_current_57 (by decide) r5 (fun c => ?_) (fun c => ?_)
        · have P := P.1 c
          refine ok_aload_n (pc := 62) hc dX7_current_62 rfl 0 rfl ?_
          refine ok_aload_n (pc := 63) hc dX7_current_63 rfl 0 rfl ?_
          refine ok_get (pc := 64) hc fl_X7_7 dX7_current_64 e1.1 up_self ((set_ne (by decide)).trans v1_1) ?_
          refine ok_bipush (pc := 67) hc (v := i3 50) dX7_current_67 (by decide) ?_
          obtain ⟨r, P⟩ := P
          refine zk_iald (pc := 69) hc dX7_current_69 e3.1 ((up_ne (ne_oa e1.2 e3.2).symm).trans e3.2) r ?_
          refine ok_iconst (pc := 70) hc (v := i3 (-1)) dX7_current_70 (by decide) ?_
          exact ok_callV (pc := 71) (a := a0) (cb := 0) (sb := 0) (st := []) hc [.int (i3 (f3 (50 : Int).toNat)), .int (i3 (-1))] cv_X7_126 sp_X7_solve (by decide) dX7_current_71 rfl e1.1 up_self rfl rfl rfl (Nat.le_of_ble_eq_true rfl) P
        · have P := P.2 c
          refine ok_lconst (pc := 60) hc (v := i6 0) dX7_current_60 (by decide) ?_
          exact ok_lret (st := []) (pc := 61) hc hr dX7_current_61 P
    · have P := P.2 (isZ_0.mp c)
      refine ok_iconst (pc := 22) hc (v := i3 2) dX7_current_22 (by decide) ?_
      refine ok_goto (pc := 23) (tgt := 40) hc dX7_current_23 (by decide) ?_
      refine ok_put (pc := 40) hc fl_X7_41 dX7_current_40 e1.1 e1.2 (by simp [List.length_set, z1]) (fun _ => rfl) (fun _ => rfl) ?_
      refine ok_aload_n (pc := 43) hc dX7_current_43 rfl 0 rfl ?_
      refine ok_get (pc := 44) hc fl_X7_41 dX7_current_44 e1.1 up_self (set_self (by simp [List.length_set, z1])) ?_
      refine zk_if_gt (pc := 47) (tgt := 60) hc dX7_current_47 (by decide) ⟨by decide, by decide⟩ (fun _ => ?_) (fun c => absurd c (by decide))
      refine ok_lconst (pc := 60) hc (v := i6 0) dX7_current_60 (by decide) ?_
      exact ok_lret (st := []) (pc := 61) hc hr dX7_current_61 P
  · have P := P.2 (bz_0.mp c)
    refine ok_iconst (pc := 9) hc (v := i3 1) dX7_current_9 (by decide) ?_
    refine ok_goto (pc := 10) (tgt := 40) hc dX7_current_10 (by decide) ?_
    refine ok_put (pc := 40) hc fl_X7_41 dX7_current_40 e1.1 e1.2 (by simp [List.length_set, z1]) (fun _ => rfl) (fun _ => rfl) ?_
    refine ok_aload_n (pc := 43) hc dX7_current_43 rfl 0 rfl ?_
    refine ok_get (pc := 44) hc fl_X7_41 dX7_current_44 e1.1 up_self (set_self (by simp [List.length_set, z1])) ?_
    refine zk_if_gt (pc := 47) (tgt := 60) hc dX7_current_47 (by decide) ⟨by decide, by decide⟩ (fun _ => ?_) (fun c => absurd c (by decide))
    refine ok_lconst (pc := 60) hc (v := i6 0) dX7_current_60 (by decide) ?_
    exact ok_lret (st := []) (pc := 61) hc hr dX7_current_61 P

set_option maxHeartbeats 4000000 in
set_option maxRecDepth 100000 in
theorem sX7_current_74 {X : Xt} {n : Nat} {h : HP} {a0 : Nat} {x1 : Int} {x2 : Int} {t0 : Int} {fs1 : List Value} {q2 : Nat} {f3 : Nat → Int} {q5 : Nat} {len6 : Nat} {f6 : Nat → Int} (hc : Cx X cX7_current RX7 3 8 182) {K : KT} (hr : CxR X (some .long) K) (e1 : At h n a0 (.inl (7, fs1))) (z1 : fs1.length = 24) (v1_1 : fs1[1]? = some (.ref q2)) (e3 : At h n q2 (ai 52 f3)) (v1_14 : fs1[14]? = some (.ref q5)) (e6 : At h n q5 (al len6 f6))
    (P : (0 ≤ (4 : Int) * x1 + 3 ∧ (4 : Int) * x1 + 3 < 52) ∧ (R3 (f3 (4 * x1 + 3 : Int).toNat)) ∧ (0 ≤ (4 : Int) * x1 + 1 ∧ (4 : Int) * x1 + 1 < 52) ∧ (Ix (f3 (4 * x1 + 1 : Int).toNat) len6) ∧ (0 ≤ (4 : Int) * x1 + 2 ∧ (4 : Int) * x1 + 2 < 52) ∧ (Ix (f3 (4 * x1 + 2 : Int).toNat) len6) ∧ spec_X7_reduced [.ref a0, .long (i6 ((f3 (4 * x1 + 3 : Int).toNat) * ((f6 ((f3 (4 * x1 + 1 : Int).toNat) : Int).toNat) - (f6 ((f3 (4 * x1 + 2 : Int).toNat) : Int).toNat)))), .int (i3 x2)] n h (kc X 0 0 108 [(0, .ref a0), (1, .int (i3 x1)), (2, .int (i3 x2))] [] n)) :
    Ok X 0 0 74 [(0, .ref a0), (1, .int (i3 x1)), (2, .int (i3 x2))] [.int (i3 t0)] n h := by
  refine ok_pop (pc := 74) hc dX7_current_74 rfl ?_
  refine ok_aload_n (pc := 75) hc dX7_current_75 rfl 0 rfl ?_
  refine ok_aload_n (pc := 76) hc dX7_current_76 rfl 0 rfl ?_
  refine ok_iload_n (pc := 77) hc dX7_current_77 rfl 1 rfl ?_
  refine ok_iconst (pc := 78) hc (v := i3 3) dX7_current_78 (by decide) ?_
  obtain ⟨r0, P⟩ := P
  refine ok_callV (pc := 79) (a := a0) (cb := 0) (sb := 0) (st := [.ref a0]) hc [.int (i3 x1), .int (i3 3)] cv_X7_49 sp_X7_of (by decide) dX7_current_79 rfl e1.1 e1.2 rfl rfl rfl (Nat.le_of_ble_eq_true rfl) (⟨_, _, _, _, rfl, ⟨_, _, ⟨e1.1, e1.2⟩, z1, v1_1, ⟨e3.1, e3.2⟩⟩, r0, rfl, ?_⟩)
  show Ok X 0 0 (79 + 3) [(0, .ref a0), (1, .int (i3 x1)), (2, .int (i3 x2))] [.int (i3 (f3 (4 * x1 + 3 : Int).toNat)), .ref a0] n h
  obtain ⟨r4, P⟩ := P
  refine zk_i2l (pc := 82) hc dX7_current_82 r4 ?_
  refine ok_aload_n (pc := 83) hc dX7_current_83 rfl 0 rfl ?_
  refine ok_get (pc := 84) hc fl_X7_35 dX7_current_84 e1.1 e1.2 v1_14 ?_
  refine ok_aload_n (pc := 87) hc dX7_current_87 rfl 0 rfl ?_
  refine ok_iload_n (pc := 88) hc dX7_current_88 rfl 1 rfl ?_
  refine ok_iconst (pc := 89) hc (v := i3 1) dX7_current_89 (by decide) ?_
  obtain ⟨r0, P⟩ := P
  refine ok_callV (pc := 90) (a := a0) (cb := 0) (sb := 0) (st := [.ref q5, .long (i6 (f3 (4 * x1 + 3 : Int).toNat)), .ref a0]) hc [.int (i3 x1), .int (i3 1)] cv_X7_49 sp_X7_of (by decide) dX7_current_90 rfl e1.1 e1.2 rfl rfl rfl (Nat.le_of_ble_eq_true rfl) (⟨_, _, _, _, rfl, ⟨_, _, ⟨e1.1, e1.2⟩, z1, v1_1, ⟨e3.1, e3.2⟩⟩, r0, rfl, ?_⟩)
  show Ok X 0 0 (90 + 3) [(0, .ref a0), (1, .int (i3 x1)), (2, .int (i3 x2))] [.int (i3 (f3 (4 * x1 + 1 : Int).toNat)), .ref q5, .long (i6 (f3 (4 * x1 + 3 : Int).toNat)), .ref a0] n h
  obtain ⟨r, P⟩ := P
  refine zk_lald (pc := 93) hc dX7_current_93 e6.1 e6.2 r ?_
  refine ok_aload_n (pc := 94) hc dX7_current_94 rfl 0 rfl ?_
  refine ok_get (pc := 95) hc fl_X7_35 dX7_current_95 e1.1 e1.2 v1_14 ?_
  refine ok_aload_n (pc := 98) hc dX7_current_98 rfl 0 rfl ?_
  refine ok_iload_n (pc := 99) hc dX7_current_99 rfl 1 rfl ?_
  refine ok_iconst (pc := 100) hc (v := i3 2) dX7_current_100 (by decide) ?_
  obtain ⟨r0, P⟩ := P
  refine ok_callV (pc := 101) (a := a0) (cb := 0) (sb := 0) (st := [.ref q5, .long (i6 (f6 ((f3 (4 * x1 + 1 : Int).toNat) : Int).toNat)), .long (i6 (f3 (4 * x1 + 3 : Int).toNat)), .ref a0]) hc [.int (i3 x1), .int (i3 2)] cv_X7_49 sp_X7_of (by decide) dX7_current_101 rfl e1.1 e1.2 rfl rfl rfl (Nat.le_of_ble_eq_true rfl) (⟨_, _, _, _, rfl, ⟨_, _, ⟨e1.1, e1.2⟩, z1, v1_1, ⟨e3.1, e3.2⟩⟩, r0, rfl, ?_⟩)
  show Ok X 0 0 (101 + 3) [(0, .ref a0), (1, .int (i3 x1)), (2, .int (i3 x2))] [.int (i3 (f3 (4 * x1 + 2 : Int).toNat)), .ref q5, .long (i6 (f6 ((f3 (4 * x1 + 1 : Int).toNat) : Int).toNat)), .long (i6 (f3 (4 * x1 + 3 : Int).toNat)), .ref a0] n h
  obtain ⟨r, P⟩ := P
  refine zk_lald (pc := 104) hc dX7_current_104 e6.1 e6.2 r ?_
  refine zk_lsub (pc := 105) hc dX7_current_105 ?_
  refine zk_lmul (pc := 106) hc dX7_current_106 ?_
  refine ok_iload_n (pc := 107) hc dX7_current_107 rfl 2 rfl ?_
  exact ok_callV (pc := 108) (a := a0) (cb := 0) (sb := 0) (st := []) hc [.long (i6 ((f3 (4 * x1 + 3 : Int).toNat) * ((f6 ((f3 (4 * x1 + 1 : Int).toNat) : Int).toNat) - (f6 ((f3 (4 * x1 + 2 : Int).toNat) : Int).toNat)))), .int (i3 x2)] cv_X7_220 sp_X7_reduced (by decide) dX7_current_108 rfl e1.1 e1.2 rfl rfl rfl (Nat.le_of_ble_eq_true rfl) P

set_option maxHeartbeats 4000000 in
set_option maxRecDepth 100000 in
theorem sX7_current_111 {X : Xt} {n : Nat} {h : HP} {a0 : Nat} {x1 : Int} {x2 : Int} {tl0 : Int} (hc : Cx X cX7_current RX7 3 8 182) {K : KT} (hr : CxR X (some .long) K) 
    (P : K (.inl (some (.long (i6 tl0)))) n h) :
    Ok X 0 0 111 [(0, .ref a0), (1, .int (i3 x1)), (2, .int (i3 x2))] [.long (i6 tl0)] n h := by
  exact ok_lret (st := []) (pc := 111) hc hr dX7_current_111 P

def spec_X7_current (args : List Value) (n : Nat) (h : HP) (K : KT) : Prop := ∃ (q : Dsk) (t x w : Int), args = [.ref 128, .int (i3 x), .int (i3 w)] ∧ R3 x ∧ R3 w ∧ MdA h n q t ∧ ∀ h', MdA h' n q (cdL [eIO, eIS, eIA] (opCurr q x w)) → Fr h h' 128 138 → K (.inl (some (.long (i6 (rvI (opCurr q x w)))))) n h'
theorem sp_X7_current : Sp yX7_current cX7_current 3 (some .long) 8 182 0 0 spec_X7_current := by
  refine sp_intro (by decide) (by rintro args n h K ⟨q, t, x, w, rfl, -⟩; exact Nat.le_of_ble_eq_true rfl) ?_
  rintro X args n h K hc hr ⟨q, t, x, w, rfl, hx, hw, ⟨I, F, hM, hF, -, hGq, hOq⟩, kk⟩
  have out := fun v => MdA.rd (t := v) (hM.uo (va_up I 0 v)) hF (fun _ _ _ _ _ => rfl) KpF.rf hGq hOq
  have hP := hF.1.1
  have hl := hP.2.1
  have h27 := ref_27 hGq.1
  have hpr := hGq.1.2.2.1
  have hrail := hGq.1.2.1
  unfold opCurr at kk
  refine sX7_current_0 hc hr hM.o rfl rfl hM.z hP ⟨hx, fun c => ?_, fun c => ?_⟩
  · have c' := of_decide_eq_true c
    rw [prt_in c'] at kk
    have hp1 := pAt_some c'
    generalize pAt q.1.1 x = p at *
    simp only at kk
    have hz := hP.of hp1
    have hPW := (hGq.1.1.2.2.1 p (List.mem_of_getElem? hp1)).1
    have hb := hPW.b
    have e0 : F 1 (4 * x : Int).toNat = p.1 := by rw [show (4 * x).toNat = 4 * x.toNat by omega]; exact hz.1
    have e51 : F 1 (51 : Int).toNat = q.1.2.2.2 := hF.1.2.2.2
    have e50 : F 1 (50 : Int).toNat = q.1.2.2.1 := hF.1.2.2.1
    rw [e0, e51, e50]
    refine ⟨⟨by omega, ⟨by decide, by decide⟩, R3_s (by omega)⟩, fun c0 => ?_, fun c0 => ?_⟩
    · rw [if_pos c0] at kk
      refine ⟨⟨hw, R3_0, ⟨by decide, by decide⟩⟩, fun c1 => ?_, fun c1 => ⟨⟨by decide, by decide, by decide⟩, R3_s (by have := hGq.1.2.2.2; omega), fun c2 => ⟨⟨by decide, by decide, by decide⟩, ?_⟩, fun c2 => ?_⟩⟩
      · rw [if_neg (show ¬ (w = 0 ∨ w = 1) by omega), cd_3 (a := eIO) (b := eIS) (c := eIA) _ ne_OA ne_AS.symm] at kk
        exact kk _ (out 3) (Fr.rf.up (by omega))
      · rw [if_pos (show w = 0 ∨ w = 1 by omega), if_neg c2] at kk
        have hj := hOq.1 (by have := hGq.1.2.2.2; omega)
        have hs := jud_sol hj
        have hsp := (cls_1 hGq.1.1 hs).1
        refine ⟨va_up I 0 0, F, q.1.1, q.1.2.2.1, -1, satN q.1.2.2.1 (nA q.1.1), givC q.1 q.1.2.2.1, rfl, hM.uo (va_up I 0 0), hP, hGq.1.1, ⟨by omega, by omega, by omega, by rw [hF.1.2.1]; omega, by rw [hF.1.2.1]; omega⟩, by rw [hF.1.2.1]; exact mat_case hGq.1.1 q.1.2.2.1, fun h1 I1 F1 hM1 hI1 hF1 hV1 f1 => ⟨rfl, ?_⟩⟩
        have hV := hV1 hs
        have h11 : F1 1 = F 1 := hF1 1 (by omega)
        unfold PW at hPW
        have v1 := hV.2.1 p.2.1.toNat (by omega)
        have v2 := hV.2.1 p.2.2.1.toNat (by omega)
        unfold lb_b at v1 v2
        have e1 : F1 1 (4 * x + 1 : Int).toNat = p.2.1 := by rw [h11, show (4 * x + 1).toNat = 4 * x.toNat + 1 by omega]; exact hz.2.1
        have e2 : F1 1 (4 * x + 2 : Int).toNat = p.2.2.1 := by rw [h11, show (4 * x + 2).toNat = 4 * x.toNat + 2 by omega]; exact hz.2.2.1
        have e3 : F1 1 (4 * x + 3 : Int).toNat = p.2.2.2 := by rw [h11, show (4 * x + 3).toNat = 4 * x.toNat + 3 by omega]; exact hz.2.2.2
        refine sX7_current_74 hc hr hM1.o rfl rfl hM1.z rfl hM1.v ?_
        rw [e1, e2, e3]
        have hmb := mul_bd (B := 4) (C := 858993458800) (a := p.2.2.2) (b := F1 9 p.2.1.toNat - F1 9 p.2.2.1.toNat) (by omega) (by omega)
        refine ⟨by omega, R3_s (by omega), by omega, ⟨by omega, by omega, by omega⟩, by omega, ⟨by omega, by omega, by omega⟩, I1, F1, _, w, rfl, hM1, by omega, hV.1, hw, ⟨rfl, sX7_current_111 hc hr ?_⟩⟩
        have k := kk h1 (MdA.rd hM1 hF (KpI.R hI1) hF1 hGq hOq) ((Fr.rf.up (by omega)).tr f1)
        have d1 := hV.2.2 p.2.1.toNat (by omega)
        have d2 := hV.2.2 p.2.2.1.toNat (by omega)
        rw [low_eq (y := p.2.2.2 * (numer q.1.1 (satN q.1.2.2.1 (nA q.1.1)) (givC q.1 q.1.2.2.1) p.2.1.toNat - numer q.1.1 (satN q.1.2.2.1 (nA q.1.1)) (givC q.1 q.1.2.2.1) p.2.2.1.toNat)) hsp hV.1.1 (by grind)]
        exact k
      · rw [if_pos (show w = 0 ∨ w = 1 by omega), if_pos c2] at kk
        exact kk _ (out 0) (Fr.rf.up (by omega))
    · rw [if_neg c0, cd_2 _ ne_OS] at kk
      exact kk _ (out 2) (Fr.rf.up (by omega))
  · have c' := of_decide_eq_false c
    rw [prt_out c'] at kk
    exact kk _ (out 1) (Fr.rf.up (by omega))
set_option maxHeartbeats 4000000 in
set_option maxRecDepth 100000 in
theorem sX7_signNow_0 {X : Xt} {n : Nat} {h : HP} {a0 : Nat} {x1 : Int} {fs1 : List Value} {q2 : Nat} {len3 : Nat} {f3 : Nat → Int} (hc : Cx X cX7_signNow RX7 4 8 182) {K : KT} (hr : CxR X (some .int) K) (e1 : At h n a0 (.inl (7, fs1))) (z1 : fs1.length = 24) (v1_1 : fs1[1]? = some (.ref q2)) (e3 : At h n q2 (ai len3 f3))
    (P : (Ix 51 len3) ∧ (R3 (f3 (51 : Int).toNat)) ∧ (¬ (f3 (51 : Int).toNat) = 0 → (Ix 50 len3) ∧ spec_X7_solve [.ref a0, .int (i3 (f3 (50 : Int).toNat)), .int (i3 (-1))] n h (kc X 0 0 21 [(0, .ref a0), (1, .int (i3 x1))] [] n)) ∧ ((f3 (51 : Int).toNat) = 0 → K (.inl (some (.int (i3 0)))) n h)) :
    Ok X 0 0 0 [(0, .ref a0), (1, .int (i3 x1))] [] n h := by
  refine ok_aload_n (pc := 0) hc dX7_signNow_0 rfl 0 rfl ?_
  refine ok_get (pc := 1) hc fl_X7_7 dX7_signNow_1 e1.1 e1.2 v1_1 ?_
  refine ok_bipush (pc := 4) hc (v := i3 51) dX7_signNow_4 (by decide) ?_
  obtain ⟨r, P⟩ := P
  refine zk_iald (pc := 6) hc dX7_signNow_6 e3.1 e3.2 r ?_
  obtain ⟨r4, P⟩ := P
  refine zk_if_ne (pc := 7) (tgt := 12) hc dX7_signNow_7 (by decide) r4 (fun c => ?_) (fun c => ?_)
  · have P := P.1 c
    refine ok_aload_n (pc := 12) hc dX7_signNow_12 rfl 0 rfl ?_
    refine ok_aload_n (pc := 13) hc dX7_signNow_13 rfl 0 rfl ?_
    refine ok_get (pc := 14) hc fl_X7_7 dX7_signNow_14 e1.1 e1.2 v1_1 ?_
    refine ok_bipush (pc := 17) hc (v := i3 50) dX7_signNow_17 (by decide) ?_
    obtain ⟨r, P⟩ := P
    refine zk_iald (pc := 19) hc dX7_signNow_19 e3.1 e3.2 r ?_
    refine ok_iconst (pc := 20) hc (v := i3 (-1)) dX7_signNow_20 (by decide) ?_
    exact ok_callV (pc := 21) (a := a0) (cb := 0) (sb := 0) (st := []) hc [.int (i3 (f3 (50 : Int).toNat)), .int (i3 (-1))] cv_X7_126 sp_X7_solve (by decide) dX7_signNow_21 rfl e1.1 e1.2 rfl rfl rfl (Nat.le_of_ble_eq_true rfl) P
  · have P := P.2 c
    refine ok_iconst (pc := 10) hc (v := i3 0) dX7_signNow_10 (by decide) ?_
    exact ok_iret (st := []) (pc := 11) hc hr dX7_signNow_11 P

set_option maxHeartbeats 4000000 in
set_option maxRecDepth 100000 in
theorem sX7_signNow_24 {X : Xt} {n : Nat} {h : HP} {a0 : Nat} {x1 : Int} {t0 : Int} {fs1 : List Value} (hc : Cx X cX7_signNow RX7 4 8 182) {K : KT} (hr : CxR X (some .int) K) (e1 : At h n a0 (.inl (7, fs1))) (z1 : fs1.length = 24)
    (P : spec_X7_input [.ref a0, .int (i3 x1)] n h (kc X 0 0 27 [(0, .ref a0), (1, .int (i3 x1))] [] n)) :
    Ok X 0 0 24 [(0, .ref a0), (1, .int (i3 x1))] [.int (i3 t0)] n h := by
  refine ok_pop (pc := 24) hc dX7_signNow_24 rfl ?_
  refine ok_aload_n (pc := 25) hc dX7_signNow_25 rfl 0 rfl ?_
  refine ok_iload_n (pc := 26) hc dX7_signNow_26 rfl 1 rfl ?_
  exact ok_callV (pc := 27) (a := a0) (cb := 0) (sb := 0) (st := []) hc [.int (i3 x1)] cv_X7_129 sp_X7_input (by decide) dX7_signNow_27 rfl e1.1 e1.2 rfl rfl rfl (Nat.le_of_ble_eq_true rfl) P

set_option maxHeartbeats 4000000 in
set_option maxRecDepth 100000 in
theorem sX7_signNow_30 {X : Xt} {n : Nat} {h : HP} {a0 : Nat} {x1 : Int} {tl0 : Int} (hc : Cx X cX7_signNow RX7 4 8 182) {K : KT} (hr : CxR X (some .int) K) 
    (P : (R6 tl0 ∧ R6 0) ∧ (tl0 ≤ 0 → (R6 tl0 ∧ R6 0) ∧ (0 ≤ tl0 → K (.inl (some (.int (i3 0)))) n h) ∧ (¬ 0 ≤ tl0 → K (.inl (some (.int (i3 (-1))))) n h)) ∧ (¬ tl0 ≤ 0 → K (.inl (some (.int (i3 1)))) n h)) :
    Ok X 0 0 30 [(0, .ref a0), (1, .int (i3 x1))] [.long (i6 tl0)] n h := by
  refine ok_lstore_n (pc := 30) hc (lv' := [(2, .long (i6 tl0)), (0, .ref a0), (1, .int (i3 x1))]) dX7_signNow_30 rfl (by decide) rfl ?_
  refine ok_lload_n (pc := 31) hc dX7_signNow_31 rfl 0 rfl ?_
  refine ok_lconst (pc := 32) hc (v := i6 0) dX7_signNow_32 (by decide) ?_
  obtain ⟨r, P⟩ := P
  refine zk_lcmp (pc := 33) hc dX7_signNow_33 r ?_
  refine zk_if_le (pc := 34) (tgt := 41) hc dX7_signNow_34 (by decide) R3_cmp (fun c => ?_) (fun c => ?_)
  · have P := P.1 (cmp_le.mp c)
    refine ok_lload_n (pc := 41) hc dX7_signNow_41 rfl 0 rfl ?_
    refine ok_lconst (pc := 42) hc (v := i6 0) dX7_signNow_42 (by decide) ?_
    obtain ⟨r, P⟩ := P
    refine zk_lcmp (pc := 43) hc dX7_signNow_43 r ?_
    refine zk_if_ge (pc := 44) (tgt := 51) hc dX7_signNow_44 (by decide) R3_cmp (fun c => ?_) (fun c => ?_)
    · have P := P.1 (cmp_ge.mp c)
      refine ok_iconst (pc := 51) hc (v := i3 0) dX7_signNow_51 (by decide) ?_
      exact ok_iret (st := []) (pc := 52) hc hr dX7_signNow_52 P
    · have P := P.2 (fun z => c (cmp_ge.mpr z))
      refine ok_iconst (pc := 47) hc (v := i3 (-1)) dX7_signNow_47 (by decide) ?_
      refine ok_goto (pc := 48) (tgt := 52) hc dX7_signNow_48 (by decide) ?_
      exact ok_iret (st := []) (pc := 52) hc hr dX7_signNow_52 P
  · have P := P.2 (fun z => c (cmp_le.mpr z))
    refine ok_iconst (pc := 37) hc (v := i3 1) dX7_signNow_37 (by decide) ?_
    refine ok_goto (pc := 38) (tgt := 52) hc dX7_signNow_38 (by decide) ?_
    exact ok_iret (st := []) (pc := 52) hc hr dX7_signNow_52 P

def sgnV (S : Stt) (p : Part) : Int := if S.2.2.2 = 0 then 0 else signP S.1 (satN S.2.2.1 (nA S.1)) (givC S S.2.2.1) p
def spec_X7_signNow (args : List Value) (n : Nat) (h : HP) (K : KT) : Prop := ∃ (I : Nat → Int) (F : Nat → Nat → Int) (S : Stt) (a j : Nat) (p : Part), args = [.ref 128, .int (i3 a)] ∧ MAt h n I F ∧ ZSt (F 1) S ∧ GdS S ∧ StOk S ∧ AmpAt S.1 a j p ∧ ∀ (h' : HP) (I' : Nat → Int) (F' : Nat → Nat → Int), MAt h' n I' F' → KpI I I' → KpF F F' → Fr h h' 128 138 → K (.inl (some (.int (i3 (sgnV S p))))) n h'
theorem sp_X7_signNow : Sp yX7_signNow cX7_signNow 4 (some .int) 8 182 0 0 spec_X7_signNow := by
  refine sp_intro (by decide) (by rintro args n h K ⟨I, F, S, a, j, p, rfl, -⟩; exact Nat.le_of_ble_eq_true rfl) ?_
  rintro X args n h K hc hr ⟨I, F, S, a, j, p, rfl, hM, hZ, hG, hO, hA, kk⟩
  have e50 : F 1 (50 : Int).toNat = S.2.2.1 := hZ.2.2.1
  have e51 : F 1 (51 : Int).toNat = S.2.2.2 := hZ.2.2.2
  have h27 := ref_27 hG
  have hpr := hG.2.2.1
  have hrail := hG.2.1
  have hst := hG.2.2.2
  unfold sgnV at kk
  refine sX7_signNow_0 hc hr hM.o rfl rfl hM.z ?_
  rw [e50, e51]
  refine ⟨⟨by decide, by decide, by decide⟩, R3_s (by omega), fun z => ⟨⟨by decide, by decide, by decide⟩, I, F, S.1, S.2.2.1, -1, satN S.2.2.1 (nA S.1), givC S S.2.2.1, rfl, hM, hZ.1, hG.1, ⟨by omega, by omega, by omega, by rw [hZ.2.1]; omega, by rw [hZ.2.1]; omega⟩, by rw [hZ.2.1]; exact mat_case hG.1 S.2.2.1, fun h1 I1 F1 hM1 hI1 hF1 hV1 f1 => ⟨rfl, ?_⟩⟩, fun z => ?_⟩
  · rw [if_neg z] at kk
    have hs := jud_sol (hO (by omega))
    have hV := hV1 hs
    have hsp := (cls_1 hG.1 hs).1
    have hpt := told_amp (hG.1.2.2.1 p (List.mem_of_getElem? hA.1)) hA.2.1
    have d1 := sv_diff hsp hV (p := p.2.1.toNat) (q := p.2.2.1.toNat) (by omega) (by omega)
    have hP1 : ZPs (F1 1) S.1 := by rw [hF1 1 (by omega)]; exact hZ.1
    have k := kk h1 I1 F1 hM1 hI1 hF1 f1
    unfold signP cmpZ at k
    refine sX7_signNow_24 hc hr hM1.o rfl ⟨I1, F1, S.1, a, j, p, rfl, hM1, hP1, hA, ⟨rfl, sX7_signNow_30 hc hr ⟨⟨d1.2.2, R6_0⟩, fun y => ⟨⟨d1.2.2, R6_0⟩, fun x => ?_, fun x => ?_⟩, fun y => ?_⟩⟩⟩
    · have a1 : ¬ numer S.1 (satN S.2.2.1 (nA S.1)) (givC S S.2.2.1) p.2.1.toNat < numer S.1 (satN S.2.2.1 (nA S.1)) (givC S S.2.2.1) p.2.2.1.toNat := fun v => by have := d1.2.1.mpr v; omega
      have a2 : ¬ numer S.1 (satN S.2.2.1 (nA S.1)) (givC S S.2.2.1) p.2.2.1.toNat < numer S.1 (satN S.2.2.1 (nA S.1)) (givC S S.2.2.1) p.2.1.toNat := fun v => by have := d1.1.mpr v; omega
      rw [if_neg a1, if_pos (by omega)] at k
      exact k
    · have a1 := d1.2.1.mp (by omega)
      rw [if_pos a1] at k
      exact k
    · have a1 := d1.1.mp (by omega)
      rw [if_neg (by omega), if_neg (by omega)] at k
      exact k
  · rw [if_pos z] at kk
    exact kk h I F hM KpI.rf KpF.rf Fr.rf
set_option maxHeartbeats 4000000 in
set_option maxRecDepth 100000 in
theorem sX7_amplifierNow_0 {X : Xt} {n : Nat} {h : HP} {a0 : Nat} {x1 : Int} {x2 : Int} {fs3 : List Value} {q4 : Nat} {f5 : Nat → Int} {ps6 : List Part} (hc : Cx X cX7_amplifierNow RX7 3 9 205) {K : KT} (hr : CxR X (some .int) K) (e3 : At h n a0 (.inl (7, fs3))) (z3 : fs3.length = 24) (v3_1 : fs3[1]? = some (.ref q4)) (e5 : At h n q4 (ai 52 f5)) (hP6 : ZPs f5 ps6)
    (P : (R3 x2) ∧ (¬ x2 = 0 → (R3 x2) ∧ (¬ x2 = 1 → spec_X7_signNow [.ref a0, .int (i3 x1)] n h (kc X 0 0 33 [(0, .ref a0), (1, .int (i3 x1)), (2, .int (i3 x2))] [] n)) ∧ (x2 = 1 → (Ix 50 52) ∧ ((0 ≤ (f5 (50 : Int).toNat) ∧ (f5 (50 : Int).toNat) ≤ 2147483647) ∧ 0 ≤ x1 ∧ x1 < 1000) ∧ K (.inl (some (.int (i3 ((f5 (50 : Int).toNat) / 3 ^ (x1 : Int).toNat % 3))))) n h)) ∧ (x2 = 0 → (0 ≤ x1 ∧ x1 < nA ps6) ∧ K (.inl (some (.int (i3 (pOf ps6 x1))))) n h)) :
    Ok X 0 0 0 [(0, .ref a0), (1, .int (i3 x1)), (2, .int (i3 x2))] [] n h := by
  refine ok_iload_n (pc := 0) hc dX7_amplifierNow_0 rfl 2 rfl ?_
  obtain ⟨r1, P⟩ := P
  refine zk_if_ne (pc := 1) (tgt := 12) hc dX7_amplifierNow_1 (by decide) r1 (fun c => ?_) (fun c => ?_)
  · have P := P.1 c
    refine ok_iload_n (pc := 12) hc dX7_amplifierNow_12 rfl 2 rfl ?_
    refine ok_iconst (pc := 13) hc (v := i3 1) dX7_amplifierNow_13 (by decide) ?_
    obtain ⟨r2, P⟩ := P
    refine zk_icmp_ne (pc := 14) (tgt := 31) hc dX7_amplifierNow_14 (by decide) r2 ⟨by decide, by decide⟩ (fun c => ?_) (fun c => ?_)
    · have P := P.1 c
      refine ok_aload_n (pc := 31) hc dX7_amplifierNow_31 rfl 0 rfl ?_
      refine ok_iload_n (pc := 32) hc dX7_amplifierNow_32 rfl 1 rfl ?_
      exact ok_callV (pc := 33) (a := a0) (cb := 0) (sb := 0) (st := []) hc [.int (i3 x1)] cv_X7_235 sp_X7_signNow (by decide) dX7_amplifierNow_33 rfl e3.1 e3.2 rfl rfl rfl (Nat.le_of_ble_eq_true rfl) P
    · have P := P.2 c
      refine ok_aload_n (pc := 17) hc dX7_amplifierNow_17 rfl 0 rfl ?_
      refine ok_get (pc := 18) hc fl_X7_7 dX7_amplifierNow_18 e3.1 e3.2 v3_1 ?_
      refine ok_bipush (pc := 21) hc (v := i3 50) dX7_amplifierNow_21 (by decide) ?_
      obtain ⟨r, P⟩ := P
      refine zk_iald (pc := 23) hc dX7_amplifierNow_23 e5.1 e5.2 r ?_
      refine ok_iload_n (pc := 24) hc dX7_amplifierNow_24 rfl 1 rfl ?_
      obtain ⟨r0, P⟩ := P
      refine ok_callS (pc := 25) (cb := 0) (sb := 0) (st := []) hc [.int (i3 (f5 (50 : Int).toNat)), .int (i3 x1)] cs_X7_95 sp_X7_stateIn (by decide) dX7_amplifierNow_25 rfl rfl rfl rfl (Nat.le_of_ble_eq_true rfl) (⟨(f5 (50 : Int).toNat), (x1 : Int).toNat, (by rw [Int.toNat_of_nonneg r0.2.1]), ⟨r0.1, by omega⟩, rfl, ?_⟩)
      show Ok X 0 0 (25 + 3) [(0, .ref a0), (1, .int (i3 x1)), (2, .int (i3 x2))] [.int (i3 ((f5 (50 : Int).toNat) / 3 ^ (x1 : Int).toNat % 3))] n h
      refine ok_goto (pc := 28) (tgt := 36) hc dX7_amplifierNow_28 (by decide) ?_
      exact ok_iret (st := []) (pc := 36) hc hr dX7_amplifierNow_36 P
  · have P := P.2 c
    refine ok_aload_n (pc := 4) hc dX7_amplifierNow_4 rfl 0 rfl ?_
    refine ok_iload_n (pc := 5) hc dX7_amplifierNow_5 rfl 1 rfl ?_
    obtain ⟨r0, P⟩ := P
    refine ok_callV (pc := 6) (a := a0) (cb := 0) (sb := 0) (st := []) hc [.int (i3 x1)] cv_X7_92 sp_X7_partOf (by decide) dX7_amplifierNow_6 rfl e3.1 e3.2 rfl rfl rfl (Nat.le_of_ble_eq_true rfl) (⟨_, _, _, _, rfl, ⟨_, _, ⟨e3.1, e3.2⟩, z3, v3_1, ⟨e5.1, e5.2⟩⟩, hP6, r0, rfl, ?_⟩)
    show Ok X 0 0 (6 + 3) [(0, .ref a0), (1, .int (i3 x1)), (2, .int (i3 x2))] [.int (i3 (pOf ps6 x1))] n h
    refine ok_goto (pc := 9) (tgt := 36) hc dX7_amplifierNow_9 (by decide) ?_
    exact ok_iret (st := []) (pc := 36) hc hr dX7_amplifierNow_36 P

set_option maxHeartbeats 4000000 in
set_option maxRecDepth 100000 in
theorem sX7_amplifierNow_36 {X : Xt} {n : Nat} {h : HP} {a0 : Nat} {x1 : Int} {x2 : Int} {t0 : Int} (hc : Cx X cX7_amplifierNow RX7 3 9 205) {K : KT} (hr : CxR X (some .int) K) 
    (P : K (.inl (some (.int (i3 t0)))) n h) :
    Ok X 0 0 36 [(0, .ref a0), (1, .int (i3 x1)), (2, .int (i3 x2))] [.int (i3 t0)] n h := by
  exact ok_iret (st := []) (pc := 36) hc hr dX7_amplifierNow_36 P

def ampV (S : Stt) (a w : Int) : Int := if w = 0 then ampIx S.1 a.toNat else if w = 1 then S.2.2.1 / 3 ^ a.toNat % 3 else sgnV S (((amps S.1)[a.toNat]?).getD (0, 0, 0, 0))
def spec_X7_amplifierNow (args : List Value) (n : Nat) (h : HP) (K : KT) : Prop := ∃ (I : Nat → Int) (F : Nat → Nat → Int) (S : Stt) (a w : Int), args = [.ref 128, .int (i3 a), .int (i3 w)] ∧ MAt h n I F ∧ ZSt (F 1) S ∧ GdS S ∧ StOk S ∧ (0 ≤ a ∧ a < nA S.1) ∧ R3 w ∧ ∀ (h' : HP) (I' : Nat → Int) (F' : Nat → Nat → Int), MAt h' n I' F' → KpI I I' → KpF F F' → Fr h h' 128 138 → K (.inl (some (.int (i3 (ampV S a w))))) n h'
theorem sp_X7_amplifierNow : Sp yX7_amplifierNow cX7_amplifierNow 3 (some .int) 9 205 0 0 spec_X7_amplifierNow := by
  refine sp_intro (by decide) (by rintro args n h K ⟨I, F, S, a, w, rfl, -⟩; exact Nat.le_of_ble_eq_true rfl) ?_
  rintro X args n h K hc hr ⟨I, F, S, a, w, rfl, hM, hZ, hG, hO, ha, hw, kk⟩
  have e50 : F 1 (50 : Int).toNat = S.2.2.1 := hZ.2.2.1
  have h27 := ref_27 hG
  have hpr := hG.2.2.1
  have h3 := hG.1.2.1
  obtain ⟨j, p, hA⟩ := AmpAt.ex (ps := S.1) (a := a.toNat) (by omega)
  unfold ampV at kk
  refine sX7_amplifierNow_0 hc hr hM.o rfl rfl hM.z hZ.1 ?_
  rw [e50]
  refine ⟨hw, fun z => ⟨hw, fun y => ⟨I, F, S, a.toNat, j, p, by rw [Int.toNat_of_nonneg ha.1], hM, hZ, hG, hO, hA, fun h1 I1 F1 hM1 hI1 hF1 f1 => ⟨rfl, sX7_amplifierNow_36 hc hr ?_⟩⟩, fun y => ⟨⟨by decide, by decide, by decide⟩, ⟨⟨by omega, by omega⟩, by omega, by omega⟩, ?_⟩⟩, fun z => ⟨ha, ?_⟩⟩
  · rw [if_neg z, if_neg y, hA.amps] at kk
    exact kk h1 I1 F1 hM1 hI1 hF1 f1
  · rw [if_neg z, if_pos y] at kk
    exact kk h I F hM KpI.rf KpF.rf Fr.rf
  · rw [if_pos z, ← hA.ix] at kk
    have := pOf_at hA
    rw [Int.toNat_of_nonneg ha.1] at this
    rw [this]
    exact kk h I F hM KpI.rf KpF.rf Fr.rf
set_option maxHeartbeats 4000000 in
set_option maxRecDepth 100000 in
theorem sX7_amplifier_0 {X : Xt} {n : Nat} {h : HP} {a0 : Nat} {x1 : Int} {x2 : Int} {fs1 : List Value} {q2 : Nat} {f3 : Nat → Int} {ps4 : List Part} (hc : Cx X cX7_amplifier RX7 3 10 227) {K : KT} (hr : CxR X (some .int) K) (e1 : At h n a0 (.inl (7, fs1))) (z1 : fs1.length = 24) (v1_1 : fs1[1]? = some (.ref q2)) (e3 : At h n q2 (ai 52 f3)) (hP4 : ZPs f3 ps4)
    (P : (R3 x1 ∧ R3 0 ∧ R3 ((nA ps4 : Int) - 1)) ∧ ((0 ≤ x1 ∧ x1 ≤ ((nA ps4 : Int) - 1)) → (R3 x2 ∧ R3 0 ∧ R3 2) ∧ (¬ (0 ≤ x2 ∧ x2 ≤ 2) → K (.inl (some (.int (i3 0)))) n (va_up h a0 (.inl (7, (fs1.set 0 (.int (i3 2))))))) ∧ ((0 ≤ x2 ∧ x2 ≤ 2) → spec_X7_amplifierNow [.ref a0, .int (i3 x1), .int (i3 x2)] n (va_up h a0 (.inl (7, (fs1.set 0 (.int (i3 0)))))) (kc X 0 0 50 [(0, .ref a0), (1, .int (i3 x1)), (2, .int (i3 x2))] [] n))) ∧ (¬ (0 ≤ x1 ∧ x1 ≤ ((nA ps4 : Int) - 1)) → K (.inl (some (.int (i3 0)))) n (va_up h a0 (.inl (7, (fs1.set 0 (.int (i3 1)))))))) :
    Ok X 0 0 0 [(0, .ref a0), (1, .int (i3 x1)), (2, .int (i3 x2))] [] n h := by
  refine ok_aload_n (pc := 0) hc dX7_amplifier_0 rfl 0 rfl ?_
  refine ok_iload_n (pc := 1) hc dX7_amplifier_1 rfl 1 rfl ?_
  refine ok_iconst (pc := 2) hc (v := i3 0) dX7_amplifier_2 (by decide) ?_
  refine ok_aload_n (pc := 3) hc dX7_amplifier_3 rfl 0 rfl ?_
  refine ok_callV (pc := 4) (a := a0) (cb := 0) (sb := 0) (st := [.int (i3 0), .int (i3 x1), .ref a0]) hc [] cv_X7_64 sp_X7_amplifiers (by decide) dX7_amplifier_4 rfl e1.1 e1.2 rfl rfl rfl (Nat.le_of_ble_eq_true rfl) (⟨_, _, _, rfl, ⟨_, _, ⟨e1.1, e1.2⟩, z1, v1_1, ⟨e3.1, e3.2⟩⟩, hP4, rfl, ?_⟩)
  show Ok X 0 0 (4 + 3) [(0, .ref a0), (1, .int (i3 x1)), (2, .int (i3 x2))] [.int (i3 (nA ps4 : Int)), .int (i3 0), .int (i3 x1), .ref a0] n h
  refine ok_iconst (pc := 7) hc (v := i3 1) dX7_amplifier_7 (by decide) ?_
  refine zk_isub (pc := 8) hc dX7_amplifier_8 ?_
  obtain ⟨r0, P⟩ := P
  refine ok_callS (pc := 9) (cb := 0) (sb := 0) (st := [.ref a0]) hc [.int (i3 x1), .int (i3 0), .int (i3 ((nA ps4 : Int) - 1))] cs_X7_45 sp_X7_within (by decide) dX7_amplifier_9 rfl rfl rfl rfl (Nat.le_of_ble_eq_true rfl) (⟨_, _, _, rfl, r0, rfl, ?_⟩)
  show Ok X 0 0 (9 + 3) [(0, .ref a0), (1, .int (i3 x1)), (2, .int (i3 x2))] [.int (i3 (inZ x1 0 ((nA ps4 : Int) - 1))), .ref a0] n h
  refine zk_if_ne (pc := 12) (tgt := 19) hc dX7_amplifier_12 (by decide) R3_inZ (fun c => ?_) (fun c => ?_)
  · have P := P.1 (inZ_1.mp c)
    refine ok_iload_n (pc := 19) hc dX7_amplifier_19 rfl 2 rfl ?_
    refine ok_iconst (pc := 20) hc (v := i3 0) dX7_amplifier_20 (by decide) ?_
    refine ok_iconst (pc := 21) hc (v := i3 2) dX7_amplifier_21 (by decide) ?_
    obtain ⟨r0, P⟩ := P
    refine ok_callS (pc := 22) (cb := 0) (sb := 0) (st := [.ref a0]) hc [.int (i3 x2), .int (i3 0), .int (i3 2)] cs_X7_45 sp_X7_within (by decide) dX7_amplifier_22 rfl rfl rfl rfl (Nat.le_of_ble_eq_true rfl) (⟨_, _, _, rfl, r0, rfl, ?_⟩)
    show Ok X 0 0 (22 + 3) [(0, .ref a0), (1, .int (i3 x1)), (2, .int (i3 x2))] [.int (i3 (inZ x2 0 2)), .ref a0] n h
    refine zk_if_eq (pc := 25) (tgt := 32) hc dX7_amplifier_25 (by decide) R3_inZ (fun c => ?_) (fun c => ?_)
    · have P := P.1 (inZ_0.mp c)
      refine ok_iconst (pc := 32) hc (v := i3 2) dX7_amplifier_32 (by decide) ?_
      refine ok_put (pc := 33) hc fl_X7_41 dX7_amplifier_33 e1.1 e1.2 (by simp [List.length_set, z1]) (fun _ => rfl) (fun _ => rfl) ?_
      refine ok_aload_n (pc := 36) hc dX7_amplifier_36 rfl 0 rfl ?_
      refine ok_get (pc := 37) hc fl_X7_41 dX7_amplifier_37 e1.1 up_self (set_self (by simp [List.length_set, z1])) ?_
      refine zk_if_le (pc := 40) (tgt := 47) hc dX7_amplifier_40 (by decide) ⟨by decide, by decide⟩ (fun c => absurd c (by decide)) (fun _ => ?_)
      refine ok_iconst (pc := 43) hc (v := i3 0) dX7_amplifier_43 (by decide) ?_
      refine ok_goto (pc := 44) (tgt := 53) hc dX7_amplifier_44 (by decide) ?_
      exact ok_iret (st := []) (pc := 53) hc hr dX7_amplifier_53 P
    · have P := P.2 (inZ_1.mp c)
      refine ok_iconst (pc := 28) hc (v := i3 0) dX7_amplifier_28 (by decide) ?_
      refine ok_goto (pc := 29) (tgt := 33) hc dX7_amplifier_29 (by decide) ?_
      refine ok_put (pc := 33) hc fl_X7_41 dX7_amplifier_33 e1.1 e1.2 (by simp [List.length_set, z1]) (fun _ => rfl) (fun _ => rfl) ?_
      refine ok_aload_n (pc := 36) hc dX7_amplifier_36 rfl 0 rfl ?_
      refine ok_get (pc := 37) hc fl_X7_41 dX7_amplifier_37 e1.1 up_self (set_self (by simp [List.length_set, z1])) ?_
      refine zk_if_le (pc := 40) (tgt := 47) hc dX7_amplifier_40 (by decide) ⟨by decide, by decide⟩ (fun _ => ?_) (fun c => absurd c (by decide))
      refine ok_aload_n (pc := 47) hc dX7_amplifier_47 rfl 0 rfl ?_
      refine ok_iload_n (pc := 48) hc dX7_amplifier_48 rfl 1 rfl ?_
      refine ok_iload_n (pc := 49) hc dX7_amplifier_49 rfl 2 rfl ?_
      exact ok_callV (pc := 50) (a := a0) (cb := 0) (sb := 0) (st := []) hc [.int (i3 x1), .int (i3 x2)] cv_X7_238 sp_X7_amplifierNow (by decide) dX7_amplifier_50 rfl e1.1 up_self rfl rfl rfl (Nat.le_of_ble_eq_true rfl) P
  · have P := P.2 (inZ_0.mp c)
    refine ok_iconst (pc := 15) hc (v := i3 1) dX7_amplifier_15 (by decide) ?_
    refine ok_goto (pc := 16) (tgt := 33) hc dX7_amplifier_16 (by decide) ?_
    refine ok_put (pc := 33) hc fl_X7_41 dX7_amplifier_33 e1.1 e1.2 (by simp [List.length_set, z1]) (fun _ => rfl) (fun _ => rfl) ?_
    refine ok_aload_n (pc := 36) hc dX7_amplifier_36 rfl 0 rfl ?_
    refine ok_get (pc := 37) hc fl_X7_41 dX7_amplifier_37 e1.1 up_self (set_self (by simp [List.length_set, z1])) ?_
    refine zk_if_le (pc := 40) (tgt := 47) hc dX7_amplifier_40 (by decide) ⟨by decide, by decide⟩ (fun c => absurd c (by decide)) (fun _ => ?_)
    refine ok_iconst (pc := 43) hc (v := i3 0) dX7_amplifier_43 (by decide) ?_
    refine ok_goto (pc := 44) (tgt := 53) hc dX7_amplifier_44 (by decide) ?_
    exact ok_iret (st := []) (pc := 53) hc hr dX7_amplifier_53 P

set_option maxHeartbeats 4000000 in
set_option maxRecDepth 100000 in
theorem sX7_amplifier_53 {X : Xt} {n : Nat} {h : HP} {a0 : Nat} {x1 : Int} {x2 : Int} {t0 : Int} (hc : Cx X cX7_amplifier RX7 3 10 227) {K : KT} (hr : CxR X (some .int) K) 
    (P : K (.inl (some (.int (i3 t0)))) n h) :
    Ok X 0 0 53 [(0, .ref a0), (1, .int (i3 x1)), (2, .int (i3 x2))] [.int (i3 t0)] n h := by
  exact ok_iret (st := []) (pc := 53) hc hr dX7_amplifier_53 P

def spec_X7_amplifier (args : List Value) (n : Nat) (h : HP) (K : KT) : Prop := ∃ (q : Dsk) (t a w : Int), args = [.ref 128, .int (i3 a), .int (i3 w)] ∧ R3 a ∧ R3 w ∧ MdA h n q t ∧ ∀ h', MdA h' n q (cdL [eIO, eIA] (opAmp q a w)) → Fr h h' 128 138 → K (.inl (some (.int (i3 (rvI (opAmp q a w)))))) n h'
theorem sp_X7_amplifier : Sp yX7_amplifier cX7_amplifier 3 (some .int) 10 227 0 0 spec_X7_amplifier := by
  refine sp_intro (by decide) (by rintro args n h K ⟨q, t, a, w, rfl, -⟩; exact Nat.le_of_ble_eq_true rfl) ?_
  rintro X args n h K hc hr ⟨q, t, a, w, rfl, ha, hw, ⟨I, F, hM, hF, -, hGq, hOq⟩, kk⟩
  have out := fun v => MdA.rd (t := v) (hM.uo (va_up I 0 v)) hF (fun _ _ _ _ _ => rfl) KpF.rf hGq hOq
  have h3 := hGq.1.1.2.1
  have e : opAmp q a w = if ¬ (0 ≤ a ∧ a < nA q.1.1) then .inr eIO else if 0 ≤ w ∧ w ≤ 2 then .inl (ampV q.1 a w) else .inr eIA := by
    unfold opAmp ampV sgnV
    by_cases c : 0 ≤ a ∧ a < nA q.1.1
    · rw [if_neg (show ¬ ¬ (0 ≤ a ∧ a < nA q.1.1) from fun z => z c), if_neg (show ¬ ¬ (0 ≤ a ∧ a < nA q.1.1) from fun z => z c)]
      by_cases c0 : w = 0
      · subst c0
        rfl
      · by_cases c1 : w = 1
        · subst c1
          rfl
        · by_cases c2 : w = 2
          · subst c2
            show (if q.1.2.2.2 = 0 then (Sum.inl 0 : Int ⊕ String) else _) = Sum.inl (if q.1.2.2.2 = 0 then 0 else _)
            split <;> rfl
          · rw [if_neg c0, if_neg c1, if_neg c2, if_neg (show ¬ (0 ≤ w ∧ w ≤ 2) by omega)]
    · rw [if_pos c, if_pos c]
  rw [e] at kk
  refine sX7_amplifier_0 hc hr hM.o rfl rfl hM.z hF.1.1 ⟨⟨ha, R3_0, R3_s (by omega)⟩, fun c => ⟨⟨hw, R3_0, ⟨by decide, by decide⟩⟩, fun z => ?_, fun z => ?_⟩, fun c => ?_⟩
  · rw [if_neg (show ¬ ¬ (0 ≤ a ∧ a < nA q.1.1) by omega), if_neg z, cd_2 _ ne_OA] at kk
    exact kk _ (out 2) (Fr.rf.up (by omega))
  · rw [if_neg (show ¬ ¬ (0 ≤ a ∧ a < nA q.1.1) by omega), if_pos z] at kk
    refine ⟨va_up I 0 0, F, q.1, a, w, rfl, hM.uo (va_up I 0 0), hF.1, hGq.1, hOq.1, by omega, hw, fun h1 I1 F1 hM1 hI1 hF1 f1 => ⟨rfl, sX7_amplifier_53 hc hr ?_⟩⟩
    exact kk h1 (MdA.rd hM1 hF hI1.R hF1 hGq hOq) ((Fr.rf.up (by omega)).tr f1)
  · rw [if_pos (show ¬ (0 ≤ a ∧ a < nA q.1.1) by omega), cd_1] at kk
    exact kk _ (out 1) (Fr.rf.up (by omega))
set_option maxHeartbeats 4000000 in
set_option maxRecDepth 100000 in
theorem sX7_why_0 {X : Xt} {n : Nat} {h : HP} {a0 : Nat} {x1 : Int} {fs1 : List Value} {q2 : Nat} {f3 : Nat → Int} {ps4 : List Part} (hc : Cx X cX7_why RX7 2 10 232) {K : KT} (hr : CxR X (some .int) K) (e1 : At h n a0 (.inl (7, fs1))) (z1 : fs1.length = 24) (v1_1 : fs1[1]? = some (.ref q2)) (e3 : At h n q2 (ai 52 f3)) (hP4 : ZPs f3 ps4)
    (P : (R3 x1 ∧ R3 ((3 : Int) ^ nA ps4)) ∧ (¬ (0 ≤ x1 ∧ x1 ≤ ((3 : Int) ^ nA ps4 - 1)) → K (.inl (some (.int (i3 0)))) n (va_up h a0 (.inl (7, (fs1.set 0 (.int (i3 1))))))) ∧ ((0 ≤ x1 ∧ x1 ≤ ((3 : Int) ^ nA ps4 - 1)) → spec_X7_reason [.ref a0, .int (i3 x1)] n (va_up h a0 (.inl (7, (fs1.set 0 (.int (i3 0)))))) (kc X 0 0 30 [(0, .ref a0), (1, .int (i3 x1))] [] n))) :
    Ok X 0 0 0 [(0, .ref a0), (1, .int (i3 x1))] [] n h := by
  refine ok_aload_n (pc := 0) hc dX7_why_0 rfl 0 rfl ?_
  refine ok_aload_n (pc := 1) hc dX7_why_1 rfl 0 rfl ?_
  refine ok_iload_n (pc := 2) hc dX7_why_2 rfl 1 rfl ?_
  obtain ⟨r0, P⟩ := P
  refine ok_callV (pc := 3) (a := a0) (cb := 0) (sb := 0) (st := [.ref a0]) hc [.int (i3 x1)] cv_X7_241 sp_X7_isCase (by decide) dX7_why_3 rfl e1.1 e1.2 rfl rfl rfl (Nat.le_of_ble_eq_true rfl) (⟨_, _, _, _, rfl, ⟨_, _, ⟨e1.1, e1.2⟩, z1, v1_1, ⟨e3.1, e3.2⟩⟩, hP4, r0, rfl, ?_⟩)
  show Ok X 0 0 (3 + 3) [(0, .ref a0), (1, .int (i3 x1))] [.int (i3 (inZ x1 0 ((3 : Int) ^ nA ps4 - 1))), .ref a0] n h
  refine zk_if_eq (pc := 6) (tgt := 13) hc dX7_why_6 (by decide) R3_inZ (fun c => ?_) (fun c => ?_)
  · have P := P.1 (inZ_0.mp c)
    refine ok_iconst (pc := 13) hc (v := i3 1) dX7_why_13 (by decide) ?_
    refine ok_put (pc := 14) hc fl_X7_41 dX7_why_14 e1.1 e1.2 (by simp [List.length_set, z1]) (fun _ => rfl) (fun _ => rfl) ?_
    refine ok_aload_n (pc := 17) hc dX7_why_17 rfl 0 rfl ?_
    refine ok_get (pc := 18) hc fl_X7_41 dX7_why_18 e1.1 up_self (set_self (by simp [List.length_set, z1])) ?_
    refine zk_if_le (pc := 21) (tgt := 28) hc dX7_why_21 (by decide) ⟨by decide, by decide⟩ (fun c => absurd c (by decide)) (fun _ => ?_)
    refine ok_iconst (pc := 24) hc (v := i3 0) dX7_why_24 (by decide) ?_
    refine ok_goto (pc := 25) (tgt := 33) hc dX7_why_25 (by decide) ?_
    exact ok_iret (st := []) (pc := 33) hc hr dX7_why_33 P
  · have P := P.2 (inZ_1.mp c)
    refine ok_iconst (pc := 9) hc (v := i3 0) dX7_why_9 (by decide) ?_
    refine ok_goto (pc := 10) (tgt := 14) hc dX7_why_10 (by decide) ?_
    refine ok_put (pc := 14) hc fl_X7_41 dX7_why_14 e1.1 e1.2 (by simp [List.length_set, z1]) (fun _ => rfl) (fun _ => rfl) ?_
    refine ok_aload_n (pc := 17) hc dX7_why_17 rfl 0 rfl ?_
    refine ok_get (pc := 18) hc fl_X7_41 dX7_why_18 e1.1 up_self (set_self (by simp [List.length_set, z1])) ?_
    refine zk_if_le (pc := 21) (tgt := 28) hc dX7_why_21 (by decide) ⟨by decide, by decide⟩ (fun _ => ?_) (fun c => absurd c (by decide))
    refine ok_aload_n (pc := 28) hc dX7_why_28 rfl 0 rfl ?_
    refine ok_iload_n (pc := 29) hc dX7_why_29 rfl 1 rfl ?_
    exact ok_callV (pc := 30) (a := a0) (cb := 0) (sb := 0) (st := []) hc [.int (i3 x1)] cv_X7_144 sp_X7_reason (by decide) dX7_why_30 rfl e1.1 up_self rfl rfl rfl (Nat.le_of_ble_eq_true rfl) P

set_option maxHeartbeats 4000000 in
set_option maxRecDepth 100000 in
theorem sX7_why_33 {X : Xt} {n : Nat} {h : HP} {a0 : Nat} {x1 : Int} {t0 : Int} (hc : Cx X cX7_why RX7 2 10 232) {K : KT} (hr : CxR X (some .int) K) 
    (P : K (.inl (some (.int (i3 t0)))) n h) :
    Ok X 0 0 33 [(0, .ref a0), (1, .int (i3 x1))] [.int (i3 t0)] n h := by
  exact ok_iret (st := []) (pc := 33) hc hr dX7_why_33 P

def spec_X7_why (args : List Value) (n : Nat) (h : HP) (K : KT) : Prop := ∃ (q : Dsk) (t c : Int), args = [.ref 128, .int (i3 c)] ∧ R3 c ∧ MdA h n q t ∧ ∀ h', MdA h' n q (cdL [eIO] (opWhy q c)) → Fr h h' 128 138 → K (.inl (some (.int (i3 (rvI (opWhy q c)))))) n h'
theorem sp_X7_why : Sp yX7_why cX7_why 2 (some .int) 10 232 0 0 spec_X7_why := by
  refine sp_intro (by decide) (by rintro args n h K ⟨q, t, c, rfl, -⟩; exact Nat.le_of_ble_eq_true rfl) ?_
  rintro X args n h K hc hr ⟨q, t, c, rfl, hcr, ⟨I, F, hM, hF, -, hGq, hOq⟩, kk⟩
  have out := fun v => MdA.rd (t := v) (hM.uo (va_up I 0 v)) hF (fun _ _ _ _ _ => rfl) KpF.rf hGq hOq
  have h27 := ref_27 hGq.1
  unfold opWhy at kk
  refine sX7_why_0 hc hr hM.o rfl rfl hM.z hF.1.1 ⟨⟨hcr, R3_s (by omega)⟩, fun c1 => ?_, fun c1 => ?_⟩
  · rw [if_pos (show ¬ (0 ≤ c ∧ c < 3 ^ nA q.1.1) by omega), cd_1] at kk
    exact kk _ (out 1) (Fr.rf.up (by omega))
  · rw [if_neg (show ¬ ¬ (0 ≤ c ∧ c < 3 ^ nA q.1.1) by omega)] at kk
    refine ⟨va_up I 0 0, F, q.1, c, rfl, hM.uo (va_up I 0 0), hF.1, hGq.1, by omega, fun h1 I1 F1 hM1 hI1 _ hF1 f1 => ⟨rfl, sX7_why_33 hc hr ?_⟩⟩
    exact kk h1 (MdA.rd hM1 hF hI1 hF1 hGq hOq) ((Fr.rf.up (by omega)).tr f1)
set_option maxHeartbeats 4000000 in
set_option maxRecDepth 100000 in
theorem sX7_concernedNow_0 {X : Xt} {n : Nat} {h : HP} {a0 : Nat} {x1 : Int} {fs1 : List Value} (hc : Cx X cX7_concernedNow RX7 2 10 232) {K : KT} (hr : CxR X (some .int) K) (e1 : At h n a0 (.inl (7, fs1))) (z1 : fs1.length = 24)
    (P : spec_X7_reason [.ref a0, .int (i3 x1)] n h (kc X 0 0 2 [(0, .ref a0), (1, .int (i3 x1))] [] n)) :
    Ok X 0 0 0 [(0, .ref a0), (1, .int (i3 x1))] [] n h := by
  refine ok_aload_n (pc := 0) hc dX7_concernedNow_0 rfl 0 rfl ?_
  refine ok_iload_n (pc := 1) hc dX7_concernedNow_1 rfl 1 rfl ?_
  exact ok_callV (pc := 2) (a := a0) (cb := 0) (sb := 0) (st := []) hc [.int (i3 x1)] cv_X7_144 sp_X7_reason (by decide) dX7_concernedNow_2 rfl e1.1 e1.2 rfl rfl rfl (Nat.le_of_ble_eq_true rfl) P

set_option maxHeartbeats 4000000 in
set_option maxRecDepth 100000 in
theorem sX7_concernedNow_5 {X : Xt} {n : Nat} {h : HP} {a0 : Nat} {x1 : Int} {t0 : Int} {fs1 : List Value} {iv2 : Int} (hc : Cx X cX7_concernedNow RX7 2 10 232) {K : KT} (hr : CxR X (some .int) K) (e1 : At h n a0 (.inl (7, fs1))) (z1 : fs1.length = 24) (v1_16 : fs1[16]? = some (.int (i3 iv2)))
    (P : K (.inl (some (.int (i3 iv2)))) n h) :
    Ok X 0 0 5 [(0, .ref a0), (1, .int (i3 x1))] [.int (i3 t0)] n h := by
  refine ok_pop (pc := 5) hc dX7_concernedNow_5 rfl ?_
  refine ok_aload_n (pc := 6) hc dX7_concernedNow_6 rfl 0 rfl ?_
  refine ok_get (pc := 7) hc fl_X7_132 dX7_concernedNow_7 e1.1 e1.2 v1_16 ?_
  exact ok_iret (st := []) (pc := 10) hc hr dX7_concernedNow_10 P

def spec_X7_concernedNow (args : List Value) (n : Nat) (h : HP) (K : KT) : Prop := ∃ (I : Nat → Int) (F : Nat → Nat → Int) (S : Stt) (c : Int), args = [.ref 128, .int (i3 c)] ∧ MAt h n I F ∧ ZSt (F 1) S ∧ GdS S ∧ (0 ≤ c ∧ c ≤ 26) ∧ ∀ (h' : HP) (I' : Nat → Int) (F' : Nat → Nat → Int), MAt h' n I' F' → KpR I I' → KpF F F' → Fr h h' 128 138 → K (.inl (some (.int (i3 (jud S c).2)))) n h'
theorem sp_X7_concernedNow : Sp yX7_concernedNow cX7_concernedNow 2 (some .int) 10 232 0 0 spec_X7_concernedNow := by
  refine sp_intro (by decide) (by rintro args n h K ⟨I, F, S, c, rfl, -⟩; exact Nat.le_of_ble_eq_true rfl) ?_
  rintro X args n h K hc hr ⟨I, F, S, c, rfl, hM, hZ, hG, hcr, kk⟩
  refine sX7_concernedNow_0 hc hr hM.o rfl ⟨I, F, S, c, rfl, hM, hZ, hG, hcr, fun h1 I1 F1 hM1 hI1 h16 hF1 f1 => ⟨rfl, sX7_concernedNow_5 hc hr hM1.o rfl rfl ?_⟩⟩
  rw [h16]
  exact kk h1 I1 F1 hM1 hI1 hF1 f1
set_option maxHeartbeats 4000000 in
set_option maxRecDepth 100000 in
theorem sX7_concerned_0 {X : Xt} {n : Nat} {h : HP} {a0 : Nat} {x1 : Int} {fs1 : List Value} {q2 : Nat} {f3 : Nat → Int} {ps4 : List Part} (hc : Cx X cX7_concerned RX7 2 11 253) {K : KT} (hr : CxR X (some .int) K) (e1 : At h n a0 (.inl (7, fs1))) (z1 : fs1.length = 24) (v1_1 : fs1[1]? = some (.ref q2)) (e3 : At h n q2 (ai 52 f3)) (hP4 : ZPs f3 ps4)
    (P : (R3 x1 ∧ R3 ((3 : Int) ^ nA ps4)) ∧ (¬ (0 ≤ x1 ∧ x1 ≤ ((3 : Int) ^ nA ps4 - 1)) → K (.inl (some (.int (i3 0)))) n (va_up h a0 (.inl (7, (fs1.set 0 (.int (i3 1))))))) ∧ ((0 ≤ x1 ∧ x1 ≤ ((3 : Int) ^ nA ps4 - 1)) → spec_X7_concernedNow [.ref a0, .int (i3 x1)] n (va_up h a0 (.inl (7, (fs1.set 0 (.int (i3 0)))))) (kc X 0 0 30 [(0, .ref a0), (1, .int (i3 x1))] [] n))) :
    Ok X 0 0 0 [(0, .ref a0), (1, .int (i3 x1))] [] n h := by
  refine ok_aload_n (pc := 0) hc dX7_concerned_0 rfl 0 rfl ?_
  refine ok_aload_n (pc := 1) hc dX7_concerned_1 rfl 0 rfl ?_
  refine ok_iload_n (pc := 2) hc dX7_concerned_2 rfl 1 rfl ?_
  obtain ⟨r0, P⟩ := P
  refine ok_callV (pc := 3) (a := a0) (cb := 0) (sb := 0) (st := [.ref a0]) hc [.int (i3 x1)] cv_X7_241 sp_X7_isCase (by decide) dX7_concerned_3 rfl e1.1 e1.2 rfl rfl rfl (Nat.le_of_ble_eq_true rfl) (⟨_, _, _, _, rfl, ⟨_, _, ⟨e1.1, e1.2⟩, z1, v1_1, ⟨e3.1, e3.2⟩⟩, hP4, r0, rfl, ?_⟩)
  show Ok X 0 0 (3 + 3) [(0, .ref a0), (1, .int (i3 x1))] [.int (i3 (inZ x1 0 ((3 : Int) ^ nA ps4 - 1))), .ref a0] n h
  refine zk_if_eq (pc := 6) (tgt := 13) hc dX7_concerned_6 (by decide) R3_inZ (fun c => ?_) (fun c => ?_)
  · have P := P.1 (inZ_0.mp c)
    refine ok_iconst (pc := 13) hc (v := i3 1) dX7_concerned_13 (by decide) ?_
    refine ok_put (pc := 14) hc fl_X7_41 dX7_concerned_14 e1.1 e1.2 (by simp [List.length_set, z1]) (fun _ => rfl) (fun _ => rfl) ?_
    refine ok_aload_n (pc := 17) hc dX7_concerned_17 rfl 0 rfl ?_
    refine ok_get (pc := 18) hc fl_X7_41 dX7_concerned_18 e1.1 up_self (set_self (by simp [List.length_set, z1])) ?_
    refine zk_if_le (pc := 21) (tgt := 28) hc dX7_concerned_21 (by decide) ⟨by decide, by decide⟩ (fun c => absurd c (by decide)) (fun _ => ?_)
    refine ok_iconst (pc := 24) hc (v := i3 0) dX7_concerned_24 (by decide) ?_
    refine ok_goto (pc := 25) (tgt := 33) hc dX7_concerned_25 (by decide) ?_
    exact ok_iret (st := []) (pc := 33) hc hr dX7_concerned_33 P
  · have P := P.2 (inZ_1.mp c)
    refine ok_iconst (pc := 9) hc (v := i3 0) dX7_concerned_9 (by decide) ?_
    refine ok_goto (pc := 10) (tgt := 14) hc dX7_concerned_10 (by decide) ?_
    refine ok_put (pc := 14) hc fl_X7_41 dX7_concerned_14 e1.1 e1.2 (by simp [List.length_set, z1]) (fun _ => rfl) (fun _ => rfl) ?_
    refine ok_aload_n (pc := 17) hc dX7_concerned_17 rfl 0 rfl ?_
    refine ok_get (pc := 18) hc fl_X7_41 dX7_concerned_18 e1.1 up_self (set_self (by simp [List.length_set, z1])) ?_
    refine zk_if_le (pc := 21) (tgt := 28) hc dX7_concerned_21 (by decide) ⟨by decide, by decide⟩ (fun _ => ?_) (fun c => absurd c (by decide))
    refine ok_aload_n (pc := 28) hc dX7_concerned_28 rfl 0 rfl ?_
    refine ok_iload_n (pc := 29) hc dX7_concerned_29 rfl 1 rfl ?_
    exact ok_callV (pc := 30) (a := a0) (cb := 0) (sb := 0) (st := []) hc [.int (i3 x1)] cv_X7_244 sp_X7_concernedNow (by decide) dX7_concerned_30 rfl e1.1 up_self rfl rfl rfl (Nat.le_of_ble_eq_true rfl) P

set_option maxHeartbeats 4000000 in
set_option maxRecDepth 100000 in
theorem sX7_concerned_33 {X : Xt} {n : Nat} {h : HP} {a0 : Nat} {x1 : Int} {t0 : Int} (hc : Cx X cX7_concerned RX7 2 11 253) {K : KT} (hr : CxR X (some .int) K) 
    (P : K (.inl (some (.int (i3 t0)))) n h) :
    Ok X 0 0 33 [(0, .ref a0), (1, .int (i3 x1))] [.int (i3 t0)] n h := by
  exact ok_iret (st := []) (pc := 33) hc hr dX7_concerned_33 P

def spec_X7_concerned (args : List Value) (n : Nat) (h : HP) (K : KT) : Prop := ∃ (q : Dsk) (t c : Int), args = [.ref 128, .int (i3 c)] ∧ R3 c ∧ MdA h n q t ∧ ∀ h', MdA h' n q (cdL [eIO] (opConc q c)) → Fr h h' 128 138 → K (.inl (some (.int (i3 (rvI (opConc q c)))))) n h'
theorem sp_X7_concerned : Sp yX7_concerned cX7_concerned 2 (some .int) 11 253 0 0 spec_X7_concerned := by
  refine sp_intro (by decide) (by rintro args n h K ⟨q, t, c, rfl, -⟩; exact Nat.le_of_ble_eq_true rfl) ?_
  rintro X args n h K hc hr ⟨q, t, c, rfl, hcr, ⟨I, F, hM, hF, -, hGq, hOq⟩, kk⟩
  have out := fun v => MdA.rd (t := v) (hM.uo (va_up I 0 v)) hF (fun _ _ _ _ _ => rfl) KpF.rf hGq hOq
  have h27 := ref_27 hGq.1
  unfold opConc at kk
  refine sX7_concerned_0 hc hr hM.o rfl rfl hM.z hF.1.1 ⟨⟨hcr, R3_s (by omega)⟩, fun c1 => ?_, fun c1 => ?_⟩
  · rw [if_pos (show ¬ (0 ≤ c ∧ c < 3 ^ nA q.1.1) by omega), cd_1] at kk
    exact kk _ (out 1) (Fr.rf.up (by omega))
  · rw [if_neg (show ¬ ¬ (0 ≤ c ∧ c < 3 ^ nA q.1.1) by omega)] at kk
    refine ⟨va_up I 0 0, F, q.1, c, rfl, hM.uo (va_up I 0 0), hF.1, hGq.1, by omega, fun h1 I1 F1 hM1 hI1 hF1 f1 => ⟨rfl, sX7_concerned_33 hc hr ?_⟩⟩
    exact kk h1 (MdA.rd hM1 hF hI1 hF1 hGq hOq) ((Fr.rf.up (by omega)).tr f1)
set_option maxHeartbeats 4000000 in
set_option maxRecDepth 100000 in
theorem sX7_part_0 {X : Xt} {n : Nat} {h : HP} {a0 : Nat} {x1 : Int} {x2 : Int} {fs1 : List Value} {q2 : Nat} {f3 : Nat → Int} {ps4 : List Part} (hc : Cx X cX7_part RX7 3 2 43) {K : KT} (hr : CxR X (some .int) K) (e1 : At h n a0 (.inl (7, fs1))) (z1 : fs1.length = 24) (v1_1 : fs1[1]? = some (.ref q2)) (e3 : At h n q2 (ai 52 f3)) (hP4 : ZPs f3 ps4)
    (P : (R3 x1) ∧ ((decide (0 ≤ x1 ∧ x1 < ps4.length)) = true → (R3 x2 ∧ R3 0 ∧ R3 3) ∧ (¬ (0 ≤ x2 ∧ x2 ≤ 3) → K (.inl (some (.int (i3 0)))) n (va_up h a0 (.inl (7, (fs1.set 0 (.int (i3 2))))))) ∧ ((0 ≤ x2 ∧ x2 ≤ 3) → (0 ≤ (4 : Int) * x1 + x2 ∧ (4 : Int) * x1 + x2 < 52) ∧ K (.inl (some (.int (i3 (f3 (4 * x1 + x2 : Int).toNat))))) n (va_up h a0 (.inl (7, (fs1.set 0 (.int (i3 0)))))))) ∧ ((decide (0 ≤ x1 ∧ x1 < ps4.length)) = false → K (.inl (some (.int (i3 0)))) n (va_up h a0 (.inl (7, (fs1.set 0 (.int (i3 1)))))))) :
    Ok X 0 0 0 [(0, .ref a0), (1, .int (i3 x1)), (2, .int (i3 x2))] [] n h := by
  refine ok_aload_n (pc := 0) hc dX7_part_0 rfl 0 rfl ?_
  refine ok_aload_n (pc := 1) hc dX7_part_1 rfl 0 rfl ?_
  refine ok_iload_n (pc := 2) hc dX7_part_2 rfl 1 rfl ?_
  obtain ⟨r0, P⟩ := P
  refine ok_callV (pc := 3) (a := a0) (cb := 0) (sb := 0) (st := [.ref a0]) hc [.int (i3 x1)] cv_X7_153 sp_X7_isPartB (by decide) dX7_part_3 rfl e1.1 e1.2 rfl rfl rfl (Nat.le_of_ble_eq_true rfl) (⟨_, _, _, _, rfl, ⟨_, _, ⟨e1.1, e1.2⟩, z1, v1_1, ⟨e3.1, e3.2⟩⟩, hP4, r0, rfl, ?_⟩)
  show Ok X 0 0 (3 + 3) [(0, .ref a0), (1, .int (i3 x1)), (2, .int (i3 x2))] [.int (i3 (bz (decide (0 ≤ x1 ∧ x1 < ps4.length)))), .ref a0] n h
  refine zk_if_ne (pc := 6) (tgt := 13) hc dX7_part_6 (by decide) R3_bz (fun c => ?_) (fun c => ?_)
  · have P := P.1 (bz_1.mp c)
    refine ok_iload_n (pc := 13) hc dX7_part_13 rfl 2 rfl ?_
    refine ok_iconst (pc := 14) hc (v := i3 0) dX7_part_14 (by decide) ?_
    refine ok_iconst (pc := 15) hc (v := i3 3) dX7_part_15 (by decide) ?_
    obtain ⟨r0, P⟩ := P
    refine ok_callS (pc := 16) (cb := 0) (sb := 0) (st := [.ref a0]) hc [.int (i3 x2), .int (i3 0), .int (i3 3)] cs_X7_45 sp_X7_within (by decide) dX7_part_16 rfl rfl rfl rfl (Nat.le_of_ble_eq_true rfl) (⟨_, _, _, rfl, r0, rfl, ?_⟩)
    show Ok X 0 0 (16 + 3) [(0, .ref a0), (1, .int (i3 x1)), (2, .int (i3 x2))] [.int (i3 (inZ x2 0 3)), .ref a0] n h
    refine zk_if_eq (pc := 19) (tgt := 26) hc dX7_part_19 (by decide) R3_inZ (fun c => ?_) (fun c => ?_)
    · have P := P.1 (inZ_0.mp c)
      refine ok_iconst (pc := 26) hc (v := i3 2) dX7_part_26 (by decide) ?_
      refine ok_put (pc := 27) hc fl_X7_41 dX7_part_27 e1.1 e1.2 (by simp [List.length_set, z1]) (fun _ => rfl) (fun _ => rfl) ?_
      refine ok_aload_n (pc := 30) hc dX7_part_30 rfl 0 rfl ?_
      refine ok_get (pc := 31) hc fl_X7_41 dX7_part_31 e1.1 up_self (set_self (by simp [List.length_set, z1])) ?_
      refine zk_if_le (pc := 34) (tgt := 41) hc dX7_part_34 (by decide) ⟨by decide, by decide⟩ (fun c => absurd c (by decide)) (fun _ => ?_)
      refine ok_iconst (pc := 37) hc (v := i3 0) dX7_part_37 (by decide) ?_
      refine ok_goto (pc := 38) (tgt := 47) hc dX7_part_38 (by decide) ?_
      exact ok_iret (st := []) (pc := 47) hc hr dX7_part_47 P
    · have P := P.2 (inZ_1.mp c)
      refine ok_iconst (pc := 22) hc (v := i3 0) dX7_part_22 (by decide) ?_
      refine ok_goto (pc := 23) (tgt := 27) hc dX7_part_23 (by decide) ?_
      refine ok_put (pc := 27) hc fl_X7_41 dX7_part_27 e1.1 e1.2 (by simp [List.length_set, z1]) (fun _ => rfl) (fun _ => rfl) ?_
      refine ok_aload_n (pc := 30) hc dX7_part_30 rfl 0 rfl ?_
      refine ok_get (pc := 31) hc fl_X7_41 dX7_part_31 e1.1 up_self (set_self (by simp [List.length_set, z1])) ?_
      refine zk_if_le (pc := 34) (tgt := 41) hc dX7_part_34 (by decide) ⟨by decide, by decide⟩ (fun _ => ?_) (fun c => absurd c (by decide))
      refine ok_aload_n (pc := 41) hc dX7_part_41 rfl 0 rfl ?_
      refine ok_iload_n (pc := 42) hc dX7_part_42 rfl 1 rfl ?_
      refine ok_iload_n (pc := 43) hc dX7_part_43 rfl 2 rfl ?_
      obtain ⟨r0, P⟩ := P
      refine ok_callV (pc := 44) (a := a0) (cb := 0) (sb := 0) (st := []) hc [.int (i3 x1), .int (i3 x2)] cv_X7_49 sp_X7_of (by decide) dX7_part_44 rfl e1.1 up_self rfl rfl rfl (Nat.le_of_ble_eq_true rfl) (⟨_, _, _, _, rfl, ⟨_, _, ⟨e1.1, up_self⟩, (by simp [List.length_set, z1]), ((set_ne (by decide)).trans v1_1), ⟨e3.1, ((up_ne (ne_oa e1.2 e3.2).symm).trans e3.2)⟩⟩, r0, rfl, ?_⟩)
      show Ok X 0 0 (44 + 3) [(0, .ref a0), (1, .int (i3 x1)), (2, .int (i3 x2))] [.int (i3 (f3 (4 * x1 + x2 : Int).toNat))] n (va_up h a0 (.inl (7, (fs1.set 0 (.int (i3 0))))))
      exact ok_iret (st := []) (pc := 47) hc hr dX7_part_47 P
  · have P := P.2 (bz_0.mp c)
    refine ok_iconst (pc := 9) hc (v := i3 1) dX7_part_9 (by decide) ?_
    refine ok_goto (pc := 10) (tgt := 27) hc dX7_part_10 (by decide) ?_
    refine ok_put (pc := 27) hc fl_X7_41 dX7_part_27 e1.1 e1.2 (by simp [List.length_set, z1]) (fun _ => rfl) (fun _ => rfl) ?_
    refine ok_aload_n (pc := 30) hc dX7_part_30 rfl 0 rfl ?_
    refine ok_get (pc := 31) hc fl_X7_41 dX7_part_31 e1.1 up_self (set_self (by simp [List.length_set, z1])) ?_
    refine zk_if_le (pc := 34) (tgt := 41) hc dX7_part_34 (by decide) ⟨by decide, by decide⟩ (fun c => absurd c (by decide)) (fun _ => ?_)
    refine ok_iconst (pc := 37) hc (v := i3 0) dX7_part_37 (by decide) ?_
    refine ok_goto (pc := 38) (tgt := 47) hc dX7_part_38 (by decide) ?_
    exact ok_iret (st := []) (pc := 47) hc hr dX7_part_47 P

def spec_X7_part (args : List Value) (n : Nat) (h : HP) (K : KT) : Prop := ∃ (q : Dsk) (t x w : Int), args = [.ref 128, .int (i3 x), .int (i3 w)] ∧ R3 x ∧ R3 w ∧ MdA h n q t ∧ ∀ h', MdA h' n q (cdL [eIO, eIA] (opPart q x w)) → Fr h h' 128 138 → K (.inl (some (.int (i3 (rvI (opPart q x w)))))) n h'
theorem sp_X7_part : Sp yX7_part cX7_part 3 (some .int) 2 43 0 0 spec_X7_part := by
  refine sp_intro (by decide) (by rintro args n h K ⟨q, t, x, w, rfl, -⟩; exact Nat.le_of_ble_eq_true rfl) ?_
  rintro X args n h K hc hr ⟨q, t, x, w, rfl, hx, hw, ⟨I, F, hM, hF, -, hGq, hOq⟩, kk⟩
  have out := fun v => MdA.rd (t := v) (hM.uo (va_up I 0 v)) hF (fun _ _ _ _ _ => rfl) KpF.rf hGq hOq
  have hP := hF.1.1
  have hl := hP.2.1
  unfold opPart at kk
  refine sX7_part_0 hc hr hM.o rfl rfl hM.z hP ⟨hx, fun c => ?_, fun c => ?_⟩
  · have c' := of_decide_eq_true c
    rw [prt_in c'] at kk
    have hp1 := pAt_some c'
    generalize pAt q.1.1 x = p at *
    simp only at kk
    have hz := hP.of hp1
    refine ⟨⟨hw, R3_0, ⟨by decide, by decide⟩⟩, fun z => ?_, fun z => ⟨by omega, ?_⟩⟩
    · rw [if_neg (show ¬ w = 0 by omega), if_neg (show ¬ w = 1 by omega), if_neg (show ¬ w = 2 by omega), if_neg (show ¬ w = 3 by omega), cd_2 _ ne_OA] at kk
      exact kk _ (out 2) (Fr.rf.up (by omega))
    · rcases (show w = 0 ∨ w = 1 ∨ w = 2 ∨ w = 3 by omega) with e | e | e | e <;> subst e
      · rw [show (4 * x + 0).toNat = 4 * x.toNat by omega, hz.1]
        exact kk _ (out 0) (Fr.rf.up (by omega))
      · rw [show (4 * x + 1).toNat = 4 * x.toNat + 1 by omega, hz.2.1]
        exact kk _ (out 0) (Fr.rf.up (by omega))
      · rw [show (4 * x + 2).toNat = 4 * x.toNat + 2 by omega, hz.2.2.1]
        exact kk _ (out 0) (Fr.rf.up (by omega))
      · rw [show (4 * x + 3).toNat = 4 * x.toNat + 3 by omega, hz.2.2.2]
        exact kk _ (out 0) (Fr.rf.up (by omega))
  · have c' := of_decide_eq_false c
    rw [prt_out c'] at kk
    exact kk _ (out 1) (Fr.rf.up (by omega))
set_option maxHeartbeats 4000000 in
set_option maxRecDepth 100000 in
theorem sX7_thrown_0 {X : Xt} {n : Nat} {h : HP} {a0 : Nat} {fs1 : List Value} {iv2 : Int} (hc : Cx X cX7_thrown RX7 1 0 0) {K : KT} (hr : CxR X (some .int) K) (e1 : At h n a0 (.inl (7, fs1))) (z1 : fs1.length = 24) (v1_0 : fs1[0]? = some (.int (i3 iv2)))
    (P : K (.inl (some (.int (i3 iv2)))) n h) :
    Ok X 0 0 0 [(0, .ref a0)] [] n h := by
  refine ok_aload_n (pc := 0) hc dX7_thrown_0 rfl 0 rfl ?_
  refine ok_get (pc := 1) hc fl_X7_41 dX7_thrown_1 e1.1 e1.2 v1_0 ?_
  exact ok_iret (st := []) (pc := 4) hc hr dX7_thrown_4 P

def spec_X7_thrown (args : List Value) (n : Nat) (h : HP) (K : KT) : Prop := ∃ (q : Dsk) (t : Int), args = [.ref 128] ∧ MdA h n q t ∧ K (.inl (some (.int (i3 t)))) n h
theorem sp_X7_thrown : Sp yX7_thrown cX7_thrown 1 (some .int) 0 0 0 0 spec_X7_thrown := by
  refine sp_intro (by decide) (by rintro args n h K ⟨q, t, rfl, -⟩; exact Nat.le_of_ble_eq_true rfl) ?_
  rintro X args n h K hc hr ⟨q, t, rfl, ⟨I, F, hM, hF, h0, -⟩, kk⟩
  rw [← h0] at kk
  exact sX7_thrown_0 hc hr hM.o rfl rfl kk
