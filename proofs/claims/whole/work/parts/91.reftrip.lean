/-! part 91: the reference: trip, ifValue -/
theorem cpF_in {f g : Nat → Int} {k : Nat} (h : k < 52) : cpF f g 0 0 52 k = f k := by
  show (if _ then f (0 + (k - 0)) else _) = _
  rw [if_pos (by omega), Nat.zero_add, Nat.sub_zero]
set_option maxHeartbeats 4000000 in
set_option maxRecDepth 100000 in
theorem sX7_tripNow_0 {X : Xt} {n : Nat} {h : HP} {a0 : Nat} {x1 : Int} {x2 : Int} {fs1 : List Value} {q2 : Nat} {q3 : Nat} (hc : Cx X cX7_tripNow RX7 5 11 256) {K : KT} (hr : CxR X (some .int) K) (e1 : At h n a0 (.inl (7, fs1))) (z1 : fs1.length = 24) (v1_1 : fs1[1]? = some (.ref q2)) (v1_2 : fs1[2]? = some (.ref q3))
    (P : spec_X7_copy [.ref a0, .ref q2, .int (i3 0), .ref q3, .int (i3 0)] n h (kc X 0 0 11 [(0, .ref a0), (1, .int (i3 x1)), (2, .int (i3 x2))] [] n)) :
    Ok X 0 0 0 [(0, .ref a0), (1, .int (i3 x1)), (2, .int (i3 x2))] [] n h := by
  refine ok_aload_n (pc := 0) hc dX7_tripNow_0 rfl 0 rfl ?_
  refine ok_aload_n (pc := 1) hc dX7_tripNow_1 rfl 0 rfl ?_
  refine ok_get (pc := 2) hc fl_X7_7 dX7_tripNow_2 e1.1 e1.2 v1_1 ?_
  refine ok_iconst (pc := 5) hc (v := i3 0) dX7_tripNow_5 (by decide) ?_
  refine ok_aload_n (pc := 6) hc dX7_tripNow_6 rfl 0 rfl ?_
  refine ok_get (pc := 7) hc fl_X7_13 dX7_tripNow_7 e1.1 e1.2 v1_2 ?_
  refine ok_iconst (pc := 10) hc (v := i3 0) dX7_tripNow_10 (by decide) ?_
  exact ok_callV (pc := 11) (a := a0) (cb := 0) (sb := 0) (st := []) hc [.ref q2, .int (i3 0), .ref q3, .int (i3 0)] cv_X7_56 sp_X7_copy (by decide) dX7_tripNow_11 rfl e1.1 e1.2 rfl rfl rfl (Nat.le_of_ble_eq_true rfl) P

set_option maxHeartbeats 4000000 in
set_option maxRecDepth 100000 in
theorem sX7_tripNow_14 {X : Xt} {n : Nat} {h : HP} {a0 : Nat} {x1 : Int} {x2 : Int} {fs1 : List Value} {q2 : Nat} {f3 : Nat → Int} (hc : Cx X cX7_tripNow RX7 5 11 256) {K : KT} (hr : CxR X (some .int) K) (e1 : At h n a0 (.inl (7, fs1))) (z1 : fs1.length = 24) (v1_1 : fs1[1]? = some (.ref q2)) (e3 : At h n q2 (ai 52 f3))
    (P : (Ix 50 52) ∧ Ok X 0 0 25 [(0, .ref a0), (1, .int (i3 x1)), (2, .int (i3 x2)), (3, .int (i3 (f3 (50 : Int).toNat))), (4, .int (i3 (-1)))] [] n h) :
    Ok X 0 0 14 [(0, .ref a0), (1, .int (i3 x1)), (2, .int (i3 x2))] [] n h := by
  refine ok_aload_n (pc := 14) hc dX7_tripNow_14 rfl 0 rfl ?_
  refine ok_get (pc := 15) hc fl_X7_7 dX7_tripNow_15 e1.1 e1.2 v1_1 ?_
  refine ok_bipush (pc := 18) hc (v := i3 50) dX7_tripNow_18 (by decide) ?_
  obtain ⟨r, P⟩ := P
  refine zk_iald (pc := 20) hc dX7_tripNow_20 e3.1 e3.2 r ?_
  refine ok_istore_n (pc := 21) hc (lv' := [(3, .int (i3 (f3 (50 : Int).toNat))), (0, .ref a0), (1, .int (i3 x1)), (2, .int (i3 x2))]) dX7_tripNow_21 rfl (by decide) rfl ?_
  refine ok_iconst (pc := 22) hc (v := i3 (-1)) dX7_tripNow_22 (by decide) ?_
  refine ok_istore (pc := 23) hc (lv' := [(4, .int (i3 (-1))), (3, .int (i3 (f3 (50 : Int).toNat))), (0, .ref a0), (1, .int (i3 x1)), (2, .int (i3 x2))]) dX7_tripNow_23 (by decide) rfl ?_
  refine ok_lv [2, 3, 4, 1, 0] rfl ?_
  exact P

set_option maxHeartbeats 4000000 in
set_option maxRecDepth 100000 in
theorem sX7_tripNow_25 {X : Xt} {n : Nat} {h : HP} {a0 : Nat} {x1 : Int} {x2 : Int} {x3 : Int} {x4 : Int} {fs2 : List Value} {q3 : Nat} {q4 : Nat} {f5 : Nat → Int} (hc : Cx X cX7_tripNow RX7 5 11 256) {K : KT} (hr : CxR X (some .int) K) (e2 : At h n a0 (.inl (7, fs2))) (z2 : fs2.length = 24) (v2_2 : fs2[2]? = some (.ref q3)) (v2_1 : fs2[1]? = some (.ref q4)) (e5 : At h n q4 (ai 52 f5))
    (P : (R3 x4) ∧ (¬ x4 = (-1) → spec_X7_copy [.ref a0, .ref q3, .int (i3 0), .ref q4, .int (i3 0)] n h (kc X 0 0 110 [(0, .ref a0), (1, .int (i3 x1)), (2, .int (i3 x2)), (3, .int (i3 x3)), (4, .int (i3 x4))] [] n)) ∧ (x4 = (-1) → (0 ≤ (4 : Int) * x1 + 3 ∧ (4 : Int) * x1 + 3 < 52) ∧ (R3 ((f5 (4 * x1 + 3 : Int).toNat) + x2) ∧ R3 (-200) ∧ R3 200) ∧ (¬ ((-200) ≤ ((f5 (4 * x1 + 3 : Int).toNat) + x2) ∧ ((f5 (4 * x1 + 3 : Int).toNat) + x2) ≤ 200) → spec_X7_copy [.ref a0, .ref q3, .int (i3 0), .ref q4, .int (i3 0)] n h (kc X 0 0 110 [(0, .ref a0), (1, .int (i3 x1)), (2, .int (i3 x2)), (3, .int (i3 x3)), (4, .int (i3 x4))] [] n)) ∧ (((-200) ≤ ((f5 (4 * x1 + 3 : Int).toNat) + x2) ∧ ((f5 (4 * x1 + 3 : Int).toNat) + x2) ≤ 200) → (Ix ((4 * x1) + 3) 52) ∧ (Ix ((4 * x1) + 3) 52) ∧ spec_X7_settle [.ref a0] n (va_up h q4 (ai 52 (va_up f5 (((4 * x1) + 3) : Int).toNat ((f5 (((4 * x1) + 3) : Int).toNat) + x2)))) (kc X 0 0 66 [(0, .ref a0), (1, .int (i3 x1)), (2, .int (i3 x2)), (3, .int (i3 x3)), (4, .int (i3 x4))] [] n)))) :
    Ok X 0 0 25 [(0, .ref a0), (1, .int (i3 x1)), (2, .int (i3 x2)), (3, .int (i3 x3)), (4, .int (i3 x4))] [] n h := by
  refine ok_iload (pc := 25) hc dX7_tripNow_25 4 rfl ?_
  refine ok_iconst (pc := 27) hc (v := i3 (-1)) dX7_tripNow_27 (by decide) ?_
  obtain ⟨r1, P⟩ := P
  refine zk_icmp_ne (pc := 28) (tgt := 99) hc dX7_tripNow_28 (by decide) r1 ⟨by decide, by decide⟩ (fun c => ?_) (fun c => ?_)
  · have P := P.1 c
    refine ok_aload_n (pc := 99) hc dX7_tripNow_99 rfl 0 rfl ?_
    refine ok_aload_n (pc := 100) hc dX7_tripNow_100 rfl 0 rfl ?_
    refine ok_get (pc := 101) hc fl_X7_13 dX7_tripNow_101 e2.1 e2.2 v2_2 ?_
    refine ok_iconst (pc := 104) hc (v := i3 0) dX7_tripNow_104 (by decide) ?_
    refine ok_aload_n (pc := 105) hc dX7_tripNow_105 rfl 0 rfl ?_
    refine ok_get (pc := 106) hc fl_X7_7 dX7_tripNow_106 e2.1 e2.2 v2_1 ?_
    refine ok_iconst (pc := 109) hc (v := i3 0) dX7_tripNow_109 (by decide) ?_
    exact ok_callV (pc := 110) (a := a0) (cb := 0) (sb := 0) (st := []) hc [.ref q3, .int (i3 0), .ref q4, .int (i3 0)] cv_X7_56 sp_X7_copy (by decide) dX7_tripNow_110 rfl e2.1 e2.2 rfl rfl rfl (Nat.le_of_ble_eq_true rfl) P
  · have P := P.2 c
    refine ok_aload_n (pc := 31) hc dX7_tripNow_31 rfl 0 rfl ?_
    refine ok_iload_n (pc := 32) hc dX7_tripNow_32 rfl 1 rfl ?_
    refine ok_iconst (pc := 33) hc (v := i3 3) dX7_tripNow_33 (by decide) ?_
    obtain ⟨r0, P⟩ := P
    refine ok_callV (pc := 34) (a := a0) (cb := 0) (sb := 0) (st := []) hc [.int (i3 x1), .int (i3 3)] cv_X7_49 sp_X7_of (by decide) dX7_tripNow_34 rfl e2.1 e2.2 rfl rfl rfl (Nat.le_of_ble_eq_true rfl) (⟨_, _, _, _, rfl, ⟨_, _, ⟨e2.1, e2.2⟩, z2, v2_1, ⟨e5.1, e5.2⟩⟩, r0, rfl, ?_⟩)
    show Ok X 0 0 (34 + 3) [(0, .ref a0), (1, .int (i3 x1)), (2, .int (i3 x2)), (3, .int (i3 x3)), (4, .int (i3 x4))] [.int (i3 (f5 (4 * x1 + 3 : Int).toNat))] n h
    refine ok_iload_n (pc := 37) hc dX7_tripNow_37 rfl 2 rfl ?_
    refine zk_iadd (pc := 38) hc dX7_tripNow_38 ?_
    refine ok_sipush (pc := 39) hc (v := i3 (-200)) dX7_tripNow_39 (by decide) ?_
    refine ok_sipush (pc := 42) hc (v := i3 200) dX7_tripNow_42 (by decide) ?_
    obtain ⟨r0, P⟩ := P
    refine ok_callS (pc := 45) (cb := 0) (sb := 0) (st := []) hc [.int (i3 ((f5 (4 * x1 + 3 : Int).toNat) + x2)), .int (i3 (-200)), .int (i3 200)] cs_X7_45 sp_X7_within (by decide) dX7_tripNow_45 rfl rfl rfl rfl (Nat.le_of_ble_eq_true rfl) (⟨_, _, _, rfl, r0, rfl, ?_⟩)
    show Ok X 0 0 (45 + 3) [(0, .ref a0), (1, .int (i3 x1)), (2, .int (i3 x2)), (3, .int (i3 x3)), (4, .int (i3 x4))] [.int (i3 (inZ ((f5 (4 * x1 + 3 : Int).toNat) + x2) (-200) 200))] n h
    refine zk_if_eq (pc := 48) (tgt := 99) hc dX7_tripNow_48 (by decide) R3_inZ (fun c => ?_) (fun c => ?_)
    · have P := P.1 (inZ_0.mp c)
      refine ok_aload_n (pc := 99) hc dX7_tripNow_99 rfl 0 rfl ?_
      refine ok_aload_n (pc := 100) hc dX7_tripNow_100 rfl 0 rfl ?_
      refine ok_get (pc := 101) hc fl_X7_13 dX7_tripNow_101 e2.1 e2.2 v2_2 ?_
      refine ok_iconst (pc := 104) hc (v := i3 0) dX7_tripNow_104 (by decide) ?_
      refine ok_aload_n (pc := 105) hc dX7_tripNow_105 rfl 0 rfl ?_
      refine ok_get (pc := 106) hc fl_X7_7 dX7_tripNow_106 e2.1 e2.2 v2_1 ?_
      refine ok_iconst (pc := 109) hc (v := i3 0) dX7_tripNow_109 (by decide) ?_
      exact ok_callV (pc := 110) (a := a0) (cb := 0) (sb := 0) (st := []) hc [.ref q3, .int (i3 0), .ref q4, .int (i3 0)] cv_X7_56 sp_X7_copy (by decide) dX7_tripNow_110 rfl e2.1 e2.2 rfl rfl rfl (Nat.le_of_ble_eq_true rfl) P
    · have P := P.2 (inZ_1.mp c)
      refine ok_aload_n (pc := 51) hc dX7_tripNow_51 rfl 0 rfl ?_
      refine ok_get (pc := 52) hc fl_X7_7 dX7_tripNow_52 e2.1 e2.2 v2_1 ?_
      refine ok_iconst (pc := 55) hc (v := i3 4) dX7_tripNow_55 (by decide) ?_
      refine ok_iload_n (pc := 56) hc dX7_tripNow_56 rfl 1 rfl ?_
      refine zk_imul (pc := 57) hc dX7_tripNow_57 ?_
      refine ok_iconst (pc := 58) hc (v := i3 3) dX7_tripNow_58 (by decide) ?_
      refine zk_iadd (pc := 59) hc dX7_tripNow_59 ?_
      refine ok_dup2_11 (pc := 60) hc dX7_tripNow_60 rfl rfl ?_
      obtain ⟨r, P⟩ := P
      refine zk_iald (pc := 61) hc dX7_tripNow_61 e5.1 e5.2 r ?_
      refine ok_iload_n (pc := 62) hc dX7_tripNow_62 rfl 2 rfl ?_
      refine zk_iadd (pc := 63) hc dX7_tripNow_63 ?_
      obtain ⟨r, P⟩ := P
      refine zk_iast (pc := 64) hc dX7_tripNow_64 e5.1 e5.2 r ?_
      refine ok_aload_n (pc := 65) hc dX7_tripNow_65 rfl 0 rfl ?_
      exact ok_callV (pc := 66) (a := a0) (cb := 0) (sb := 0) (st := []) hc [] cv_X7_150 sp_X7_settle (by decide) dX7_tripNow_66 rfl e2.1 ((up_ne (ne_oa e2.2 e5.2)).trans e2.2) rfl rfl rfl (Nat.le_of_ble_eq_true rfl) P

set_option maxHeartbeats 4000000 in
set_option maxRecDepth 100000 in
theorem sX7_tripNow_69 {X : Xt} {n : Nat} {h : HP} {a0 : Nat} {x1 : Int} {x2 : Int} {x3 : Int} {x4 : Int} {fs1 : List Value} {q2 : Nat} {f3 : Nat → Int} (hc : Cx X cX7_tripNow RX7 5 11 256) {K : KT} (hr : CxR X (some .int) K) (e1 : At h n a0 (.inl (7, fs1))) (z1 : fs1.length = 24) (v1_1 : fs1[1]? = some (.ref q2)) (e3 : At h n q2 (ai 52 f3))
    (P : (Ix 50 52) ∧ (R3 (f3 (50 : Int).toNat)) ∧ (R3 x3) ∧ (¬ (f3 (50 : Int).toNat) = x3 → (0 ≤ (4 : Int) * x1 + 3 ∧ (4 : Int) * x1 + 3 < 52) ∧ Ok X 0 0 25 [(0, .ref a0), (1, .int (i3 x1)), (2, .int (i3 x2)), (3, .int (i3 x3)), (4, .int (i3 ((f3 (4 * x1 + 3 : Int).toNat) + 1000)))] [] n h) ∧ ((f3 (50 : Int).toNat) = x3 → Ok X 0 0 25 [(0, .ref a0), (1, .int (i3 x1)), (2, .int (i3 x2)), (3, .int (i3 x3)), (4, .int (i3 (-1)))] [] n h)) :
    Ok X 0 0 69 [(0, .ref a0), (1, .int (i3 x1)), (2, .int (i3 x2)), (3, .int (i3 x3)), (4, .int (i3 x4))] [] n h := by
  refine ok_aload_n (pc := 69) hc dX7_tripNow_69 rfl 0 rfl ?_
  refine ok_get (pc := 70) hc fl_X7_7 dX7_tripNow_70 e1.1 e1.2 v1_1 ?_
  refine ok_bipush (pc := 73) hc (v := i3 50) dX7_tripNow_73 (by decide) ?_
  obtain ⟨r, P⟩ := P
  refine zk_iald (pc := 75) hc dX7_tripNow_75 e3.1 e3.2 r ?_
  refine ok_iload_n (pc := 76) hc dX7_tripNow_76 rfl 3 rfl ?_
  obtain ⟨r4, P⟩ := P
  obtain ⟨r5, P⟩ := P
  refine zk_icmp_ne (pc := 77) (tgt := 84) hc dX7_tripNow_77 (by decide) r4 r5 (fun c => ?_) (fun c => ?_)
  · have P := P.1 c
    refine ok_aload_n (pc := 84) hc dX7_tripNow_84 rfl 0 rfl ?_
    refine ok_iload_n (pc := 85) hc dX7_tripNow_85 rfl 1 rfl ?_
    refine ok_iconst (pc := 86) hc (v := i3 3) dX7_tripNow_86 (by decide) ?_
    obtain ⟨r0, P⟩ := P
    refine ok_callV (pc := 87) (a := a0) (cb := 0) (sb := 0) (st := []) hc [.int (i3 x1), .int (i3 3)] cv_X7_49 sp_X7_of (by decide) dX7_tripNow_87 rfl e1.1 e1.2 rfl rfl rfl (Nat.le_of_ble_eq_true rfl) (⟨_, _, _, _, rfl, ⟨_, _, ⟨e1.1, e1.2⟩, z1, v1_1, ⟨e3.1, e3.2⟩⟩, r0, rfl, ?_⟩)
    show Ok X 0 0 (87 + 3) [(0, .ref a0), (1, .int (i3 x1)), (2, .int (i3 x2)), (3, .int (i3 x3)), (4, .int (i3 x4))] [.int (i3 (f3 (4 * x1 + 3 : Int).toNat))] n h
    refine ok_sipush (pc := 90) hc (v := i3 1000) dX7_tripNow_90 (by decide) ?_
    refine zk_iadd (pc := 93) hc dX7_tripNow_93 ?_
    refine ok_istore (pc := 94) hc (lv' := [(4, .int (i3 ((f3 (4 * x1 + 3 : Int).toNat) + 1000))), (0, .ref a0), (1, .int (i3 x1)), (2, .int (i3 x2)), (3, .int (i3 x3))]) dX7_tripNow_94 (by decide) rfl ?_
    refine ok_goto (pc := 96) (tgt := 25) hc dX7_tripNow_96 (by decide) ?_
    refine ok_lv [1, 2, 3, 4, 0] rfl ?_
    exact P
  · have P := P.2 c
    refine ok_iconst (pc := 80) hc (v := i3 (-1)) dX7_tripNow_80 (by decide) ?_
    refine ok_goto (pc := 81) (tgt := 94) hc dX7_tripNow_81 (by decide) ?_
    refine ok_istore (pc := 94) hc (lv' := [(4, .int (i3 (-1))), (0, .ref a0), (1, .int (i3 x1)), (2, .int (i3 x2)), (3, .int (i3 x3))]) dX7_tripNow_94 (by decide) rfl ?_
    refine ok_goto (pc := 96) (tgt := 25) hc dX7_tripNow_96 (by decide) ?_
    refine ok_lv [1, 2, 3, 4, 0] rfl ?_
    exact P

set_option maxHeartbeats 4000000 in
set_option maxRecDepth 100000 in
theorem sX7_tripNow_113 {X : Xt} {n : Nat} {h : HP} {a0 : Nat} {x1 : Int} {x2 : Int} {x3 : Int} {x4 : Int} (hc : Cx X cX7_tripNow RX7 5 11 256) {K : KT} (hr : CxR X (some .int) K) 
    (P : K (.inl (some (.int (i3 x4)))) n h) :
    Ok X 0 0 113 [(0, .ref a0), (1, .int (i3 x1)), (2, .int (i3 x2)), (3, .int (i3 x3)), (4, .int (i3 x4))] [] n h := by
  refine ok_iload (pc := 113) hc dX7_tripNow_113 4 rfl ?_
  exact ok_iret (st := []) (pc := 115) hc hr dX7_tripNow_115 P

def spec_X7_tripNow (args : List Value) (n : Nat) (h : HP) (K : KT) : Prop := ∃ (I : Nat → Int) (F : Nat → Nat → Int) (q : Dsk) (i : Nat) (p : Part) (d : Int), args = [.ref 128, .int (i3 i), .int (i3 d)] ∧ MAt h n I F ∧ MdF I F q ∧ GdD q ∧ OkD q ∧ q.1.1[i]? = some p ∧ p.1 = 1 ∧ (d = 1 ∨ d = -1) ∧ ∀ h', MdA h' n q (I 0) → Fr h h' 128 138 → K (.inl (some (.int (i3 (tripL i d q.1.2.2.1 (200 - d * p.2.2.2).toNat q.1 p.2.2.2))))) n h'
theorem sp_X7_tripNow : Sp yX7_tripNow cX7_tripNow 5 (some .int) 11 256 0 0 spec_X7_tripNow := by
  refine sp_intro (by decide) (by rintro args n h K ⟨I, F, q, i, p, d, rfl, -⟩; exact Nat.le_of_ble_eq_true rfl) ?_
  rintro X args n h K hc hr ⟨I, F, q, i, p, d, rfl, hM0, hF, hGq, hOq, hp, c1, hd1, kk⟩
  have hP := hF.1.1
  have hl := hP.2.1
  have hil := (List.getElem?_eq_some_iff.mp hp).1
  have hpw := hP.2.2.2 p (List.mem_of_getElem? hp)
  have e3 : (4 * (i : Int) + 3).toNat = 4 * i + 3 := by omega
  have ps200 : -200 ≤ p.2.2.2 ∧ p.2.2.2 ≤ 200 := by
    unfold PW at hpw
    omega
  have e50q : F 1 (50 : Int).toNat = q.1.2.2.1 := hF.1.2.2.1
  have hcq := hGq.1.2.2.1
  have h27q := ref_27 hGq.1
  generalize hfn : (200 - d * p.2.2.2).toNat = fn at kk
  have hfn' : d * p.2.2.2 + fn = 200 := by
    subst hfn
    rcases hd1 with e | e <;> subst e <;> omega
  have fin : ∀ (hh : HP) (I2 : Nat → Int) (F2 : Nat → Nat → Int) (r : Int), MAt hh n I2 F2 → KpR I I2 → KpZ (va_up F 2 (cpF (F 1) (F 2) 0 0 52)) F2 → Fr h hh 128 138 → r = tripL i d q.1.2.2.1 fn q.1 p.2.2.2 → spec_X7_copy [.ref 128, .ref 130, .int (i3 0), .ref 129, .int (i3 0)] n hh (kc X 0 0 110 [(0, .ref 128), (1, .int (i3 i)), (2, .int (i3 d)), (3, .int (i3 q.1.2.2.1)), (4, .int (i3 r))] [] n) := by
    intro hh I2 F2 r hM kI kZ hf hr'
    have e2 : F2 2 = cpF (F 1) (F 2) 0 0 52 := (kZ 2 (by omega)).trans up_self
    refine ⟨128, 130, 129, 52, 52, 0, 0, F2 2, F2 1, rfl, hM.a, hM.z, by decide, by omega, ⟨rfl, ?_⟩⟩
    have hM6 := hM.ua (j := 1) (by omega) (cpF (F2 2) (F2 1) 0 0 52)
    refine sX7_tripNow_113 hc hr ?_
    rw [hr']
    refine kk _ ⟨I2, _, hM6, ?_, kI 0 (by decide) (by decide) (by decide) (by decide), hGq, hOq⟩ (hf.up (by omega))
    refine (hF.chg (S := q.1) (hist := q.2.1) ?_ ?_ ?_ ?_ ?_ ?_ ?_)
    · rw [up_self]
      refine hF.1.eq fun k hk => ?_
      rw [cpF_in hk, e2, cpF_in hk]
    · have : va_up F2 1 (cpF (F2 2) (F2 1) 0 0 52) 3 = F 3 := (up_ne (by decide)).trans ((kZ 3 (by omega)).trans (up_ne (by decide)))
      rw [this]
      exact hF.2.1.1
    · exact (kI 3 (by decide) (by decide) (by decide) (by decide)).trans hF.2.1.2
    · exact kI 5 (by decide) (by decide) (by decide) (by decide)
    · exact kI 7 (by decide) (by decide) (by decide) (by decide)
    · exact (up_ne (by decide)).trans ((kZ 4 (by omega)).trans (up_ne (by decide)))
    · exact (up_ne (by decide)).trans ((kZ 5 (by omega)).trans (up_ne (by decide)))
  have L : ∀ (f : Nat) (T : Stt) (w : Int) (hh : HP) (I2 : Nat → Int) (F2 : Nat → Nat → Int), d * w + f = 200 → (-200 ≤ w ∧ w ≤ 200) → tripL i d q.1.2.2.1 fn q.1 p.2.2.2 = tripL i d q.1.2.2.1 f T w → MAt hh n I2 F2 → ZSt (F2 1) T → GdS T → T.1[i]? = some (valP p w) → KpR I I2 → KpZ (va_up F 2 (cpF (F 1) (F 2) 0 0 52)) F2 → Fr h hh 128 138 → Ok X 0 0 25 [(0, .ref 128), (1, .int (i3 i)), (2, .int (i3 d)), (3, .int (i3 q.1.2.2.1)), (4, .int (i3 (-1)))] [] n hh := by
    intro f
    induction f with
    | zero =>
      intro T w hh I2 F2 hw hwr htr hM hZ hG hTi kI kZ hf
      have hzT := hZ.1.of hTi
      have ev : F2 1 (4 * (i : Int) + 3).toNat = w := by rw [e3, hzT.2.2.2]; rfl
      refine sX7_tripNow_25 hc hr hM.o rfl rfl rfl hM.z ?_
      rw [ev]
      exact ⟨⟨by decide, by decide⟩, fun z => absurd rfl z, fun _ => ⟨by omega, ⟨R3_s (by rcases hd1 with e | e <;> subst e <;> omega), ⟨by decide, by decide⟩, ⟨by decide, by decide⟩⟩, fun _ => fin hh I2 F2 (-1) hM kI kZ hf htr.symm, fun z => absurd z (by rcases hd1 with e | e <;> subst e <;> omega)⟩⟩
    | succ f ih =>
      intro T w hh I2 F2 hw hwr htr hM hZ hG hTi kI kZ hf
      have hzT := hZ.1.of hTi
      have ev : F2 1 (4 * (i : Int) + 3).toNat = w := by rw [e3, hzT.2.2.2]; rfl
      have hiT := (List.getElem?_eq_some_iff.mp hTi).1
      have hwr' : -200 ≤ w + d ∧ w + d ≤ 200 := by
        rcases hd1 with e | e <;> subst e <;> omega
      have hpv : (valP p w).1 ≠ 2 := by
        show p.1 ≠ 2
        omega
      have hst : stlB (valP p w) (w + d) = true := by
        unfold stlB
        show (if p.1 = 0 then _ else _) = true
        rw [if_neg (by omega)]
        exact decide_eq_true hwr'
      have g2 : GdS (addV T.1 i d, T.2) := by
        rw [addV_val hTi]
        exact gdS_val (p := valP p w) hG hTi hpv hst
      have hPW2 : PW (valP (valP p w) (w + d)) := val_pw (hZ.1.2.2.2 _ (List.mem_of_getElem? hTi)) hpv hst
      refine sX7_tripNow_25 hc hr hM.o rfl rfl rfl hM.z ?_
      rw [ev]
      refine ⟨⟨by decide, by decide⟩, fun z => absurd rfl z, fun _ => ⟨by omega, ⟨R3_s (by omega), ⟨by decide, by decide⟩, ⟨by decide, by decide⟩⟩, fun z => absurd hwr' z, fun _ => ⟨⟨by omega, by omega, by omega⟩, ⟨by omega, by omega, by omega⟩, ?_⟩⟩⟩
      rw [e3]
      have hM2 := hM.ua (j := 1) (by omega) (va_up (F2 1) (4 * i + 3) (w + d))
      refine ⟨_, _, (addV T.1 i d, T.2), rfl, hM2, ?_, g2, fun h3 I3 F3 hM3 hZ3 kI3 kZ3 f3 => ⟨rfl, ?_⟩⟩
      · rw [up_self, addV_val hTi]
        exact ZSt.val (p := valP p w) hZ hTi hPW2
      · have hT3 : (setS (addV T.1 i d, T.2)).1[i]? = some (valP p (w + d)) := by
          rw [setS_1, addV_val hTi]
          show (T.1.set i _)[i]? = _
          rw [List.getElem?_set_self hiT]
        have e53 : F3 1 (50 : Int).toNat = (setS (addV T.1 i d, T.2)).2.2.1 := hZ3.2.2.1
        have c3 := g2.set.2.2.1
        have h273 := ref_27 g2.set
        have kI' : KpR I I3 := fun k a b c e => (kI3 k a b c e).trans (kI k a b c e)
        have kZ' : KpZ (va_up F 2 (cpF (F 1) (F 2) 0 0 52)) F3 := fun j hj => (kZ3 j hj).trans ((up_ne (by omega)).trans (kZ j hj))
        have hf3 : Fr h h3 128 138 := (hf.up (by omega)).tr f3
        have htr2 : tripL i d q.1.2.2.1 fn q.1 p.2.2.2 = if (setS (addV T.1 i d, T.2)).2.2.1 = q.1.2.2.1 then tripL i d q.1.2.2.1 f (setS (addV T.1 i d, T.2)) (w + d) else w + d + 1000 := htr
        have hz3 := hZ3.1.of hT3
        have ev3 : F3 1 (4 * (i : Int) + 3).toNat = w + d := by rw [e3, hz3.2.2.2]; rfl
        refine sX7_tripNow_69 hc hr hM3.o rfl rfl hM3.z ?_
        rw [e53, ev3]
        refine ⟨⟨by decide, by decide, by decide⟩, R3_s (by omega), R3_s (by omega), fun z => ⟨by omega, ?_⟩, fun z => ?_⟩
        · rw [if_neg z] at htr2
          refine sX7_tripNow_25 hc hr hM3.o rfl rfl rfl hM3.z ⟨R3_s (by omega), fun _ => fin h3 I3 F3 (w + d + 1000) hM3 kI' kZ' hf3 htr2.symm, fun y => absurd y (by omega)⟩
        · rw [if_pos z] at htr2
          exact ih (setS (addV T.1 i d, T.2)) (w + d) h3 I3 F3 (by rcases hd1 with e | e <;> subst e <;> omega) hwr' htr2 hM3 hZ3 g2.set hT3 kI' kZ' hf3
  refine sX7_tripNow_0 hc hr hM0.o rfl rfl rfl ⟨128, 129, 130, 52, 52, 0, 0, F 1, F 2, rfl, hM0.z, hM0.a, by decide, by omega, ⟨rfl, ?_⟩⟩
  have hM1 := hM0.ua (j := 2) (by omega) (cpF (F 1) (F 2) 0 0 52)
  refine sX7_tripNow_14 hc hr hM1.o rfl rfl hM1.z ⟨⟨by decide, by decide, by decide⟩, ?_⟩
  have e50 : va_up F 2 (cpF (F 1) (F 2) 0 0 52) 1 (50 : Int).toNat = q.1.2.2.1 := e50q
  rw [e50]
  refine L fn q.1 p.2.2.2 _ I _ hfn' ps200 rfl hM1 hF.1 hGq.1 ?_ (fun _ _ _ _ _ => rfl) (fun _ _ => rfl) (Fr.rf.up (by omega))
  rw [hp]
  rfl
set_option maxHeartbeats 4000000 in
set_option maxRecDepth 100000 in
theorem sX7_trip_0 {X : Xt} {n : Nat} {h : HP} {a0 : Nat} {x1 : Int} {x2 : Int} {fs1 : List Value} {q2 : Nat} {f3 : Nat → Int} {ps4 : List Part} (hc : Cx X cX7_trip RX7 3 12 280) {K : KT} (hr : CxR X (some .int) K) (e1 : At h n a0 (.inl (7, fs1))) (z1 : fs1.length = 24) (v1_1 : fs1[1]? = some (.ref q2)) (e3 : At h n q2 (ai 52 f3)) (hP4 : ZPs f3 ps4)
    (P : (R3 x1) ∧ ((decide (0 ≤ x1 ∧ x1 < ps4.length)) = true → ((0 ≤ (4 : Int) * x1 ∧ (4 : Int) * x1 < 52) ∧ R3 1 ∧ R3 (f3 (4 * x1 : Int).toNat)) ∧ (¬ f3 (4 * x1 : Int).toNat = 1 → K (.inl (some (.int (i3 0)))) n (va_up h a0 (.inl (7, (fs1.set 0 (.int (i3 2))))))) ∧ (f3 (4 * x1 : Int).toNat = 1 → (R3 x2) ∧ (x2 = 0 → spec_X7_tripNow [.ref a0, .int (i3 x1), .int (i3 (-1))] n (va_up h a0 (.inl (7, (fs1.set 0 (.int (i3 0)))))) (kc X 0 0 52 [(0, .ref a0), (1, .int (i3 x1)), (2, .int (i3 x2))] [] n)) ∧ (¬ x2 = 0 → spec_X7_tripNow [.ref a0, .int (i3 x1), .int (i3 1)] n (va_up h a0 (.inl (7, (fs1.set 0 (.int (i3 0)))))) (kc X 0 0 52 [(0, .ref a0), (1, .int (i3 x1)), (2, .int (i3 x2))] [] n)))) ∧ ((decide (0 ≤ x1 ∧ x1 < ps4.length)) = false → K (.inl (some (.int (i3 0)))) n (va_up h a0 (.inl (7, (fs1.set 0 (.int (i3 1)))))))) :
    Ok X 0 0 0 [(0, .ref a0), (1, .int (i3 x1)), (2, .int (i3 x2))] [] n h := by
  refine ok_aload_n (pc := 0) hc dX7_trip_0 rfl 0 rfl ?_
  refine ok_aload_n (pc := 1) hc dX7_trip_1 rfl 0 rfl ?_
  refine ok_iload_n (pc := 2) hc dX7_trip_2 rfl 1 rfl ?_
  obtain ⟨r0, P⟩ := P
  refine ok_callV (pc := 3) (a := a0) (cb := 0) (sb := 0) (st := [.ref a0]) hc [.int (i3 x1)] cv_X7_153 sp_X7_isPartB (by decide) dX7_trip_3 rfl e1.1 e1.2 rfl rfl rfl (Nat.le_of_ble_eq_true rfl) (⟨_, _, _, _, rfl, ⟨_, _, ⟨e1.1, e1.2⟩, z1, v1_1, ⟨e3.1, e3.2⟩⟩, hP4, r0, rfl, ?_⟩)
  show Ok X 0 0 (3 + 3) [(0, .ref a0), (1, .int (i3 x1)), (2, .int (i3 x2))] [.int (i3 (bz (decide (0 ≤ x1 ∧ x1 < ps4.length)))), .ref a0] n h
  refine zk_if_ne (pc := 6) (tgt := 13) hc dX7_trip_6 (by decide) R3_bz (fun c => ?_) (fun c => ?_)
  · have P := P.1 (bz_1.mp c)
    refine ok_aload_n (pc := 13) hc dX7_trip_13 rfl 0 rfl ?_
    refine ok_iload_n (pc := 14) hc dX7_trip_14 rfl 1 rfl ?_
    refine ok_iconst (pc := 15) hc (v := i3 1) dX7_trip_15 (by decide) ?_
    obtain ⟨r0, P⟩ := P
    refine ok_callV (pc := 16) (a := a0) (cb := 0) (sb := 0) (st := [.ref a0]) hc [.int (i3 x1), .int (i3 1)] cv_X7_60 sp_X7_is (by decide) dX7_trip_16 rfl e1.1 e1.2 rfl rfl rfl (Nat.le_of_ble_eq_true rfl) (⟨_, _, _, _, rfl, ⟨_, _, ⟨e1.1, e1.2⟩, z1, v1_1, ⟨e3.1, e3.2⟩⟩, r0.1, r0.2.1, r0.2.2, rfl, ?_⟩)
    show Ok X 0 0 (16 + 3) [(0, .ref a0), (1, .int (i3 x1)), (2, .int (i3 x2))] [.int (i3 (isZ f3 x1 1)), .ref a0] n h
    refine zk_if_eq (pc := 19) (tgt := 26) hc dX7_trip_19 (by decide) R3_isZ (fun c => ?_) (fun c => ?_)
    · have P := P.1 (isZ_0.mp c)
      refine ok_iconst (pc := 26) hc (v := i3 2) dX7_trip_26 (by decide) ?_
      refine ok_put (pc := 27) hc fl_X7_41 dX7_trip_27 e1.1 e1.2 (by simp [List.length_set, z1]) (fun _ => rfl) (fun _ => rfl) ?_
      refine ok_aload_n (pc := 30) hc dX7_trip_30 rfl 0 rfl ?_
      refine ok_get (pc := 31) hc fl_X7_41 dX7_trip_31 e1.1 up_self (set_self (by simp [List.length_set, z1])) ?_
      refine zk_if_le (pc := 34) (tgt := 41) hc dX7_trip_34 (by decide) ⟨by decide, by decide⟩ (fun c => absurd c (by decide)) (fun _ => ?_)
      refine ok_iconst (pc := 37) hc (v := i3 0) dX7_trip_37 (by decide) ?_
      refine ok_goto (pc := 38) (tgt := 55) hc dX7_trip_38 (by decide) ?_
      exact ok_iret (st := []) (pc := 55) hc hr dX7_trip_55 P
    · have P := P.2 (isZ_1.mp c)
      refine ok_iconst (pc := 22) hc (v := i3 0) dX7_trip_22 (by decide) ?_
      refine ok_goto (pc := 23) (tgt := 27) hc dX7_trip_23 (by decide) ?_
      refine ok_put (pc := 27) hc fl_X7_41 dX7_trip_27 e1.1 e1.2 (by simp [List.length_set, z1]) (fun _ => rfl) (fun _ => rfl) ?_
      refine ok_aload_n (pc := 30) hc dX7_trip_30 rfl 0 rfl ?_
      refine ok_get (pc := 31) hc fl_X7_41 dX7_trip_31 e1.1 up_self (set_self (by simp [List.length_set, z1])) ?_
      refine zk_if_le (pc := 34) (tgt := 41) hc dX7_trip_34 (by decide) ⟨by decide, by decide⟩ (fun _ => ?_) (fun c => absurd c (by decide))
      refine ok_aload_n (pc := 41) hc dX7_trip_41 rfl 0 rfl ?_
      refine ok_iload_n (pc := 42) hc dX7_trip_42 rfl 1 rfl ?_
      refine ok_iload_n (pc := 43) hc dX7_trip_43 rfl 2 rfl ?_
      obtain ⟨r5, P⟩ := P
      refine zk_if_eq (pc := 44) (tgt := 51) hc dX7_trip_44 (by decide) r5 (fun c => ?_) (fun c => ?_)
      · have P := P.1 c
        refine ok_iconst (pc := 51) hc (v := i3 (-1)) dX7_trip_51 (by decide) ?_
        exact ok_callV (pc := 52) (a := a0) (cb := 0) (sb := 0) (st := []) hc [.int (i3 x1), .int (i3 (-1))] cv_X7_247 sp_X7_tripNow (by decide) dX7_trip_52 rfl e1.1 up_self rfl rfl rfl (Nat.le_of_ble_eq_true rfl) P
      · have P := P.2 c
        refine ok_iconst (pc := 47) hc (v := i3 1) dX7_trip_47 (by decide) ?_
        refine ok_goto (pc := 48) (tgt := 52) hc dX7_trip_48 (by decide) ?_
        exact ok_callV (pc := 52) (a := a0) (cb := 0) (sb := 0) (st := []) hc [.int (i3 x1), .int (i3 1)] cv_X7_247 sp_X7_tripNow (by decide) dX7_trip_52 rfl e1.1 up_self rfl rfl rfl (Nat.le_of_ble_eq_true rfl) P
  · have P := P.2 (bz_0.mp c)
    refine ok_iconst (pc := 9) hc (v := i3 1) dX7_trip_9 (by decide) ?_
    refine ok_goto (pc := 10) (tgt := 27) hc dX7_trip_10 (by decide) ?_
    refine ok_put (pc := 27) hc fl_X7_41 dX7_trip_27 e1.1 e1.2 (by simp [List.length_set, z1]) (fun _ => rfl) (fun _ => rfl) ?_
    refine ok_aload_n (pc := 30) hc dX7_trip_30 rfl 0 rfl ?_
    refine ok_get (pc := 31) hc fl_X7_41 dX7_trip_31 e1.1 up_self (set_self (by simp [List.length_set, z1])) ?_
    refine zk_if_le (pc := 34) (tgt := 41) hc dX7_trip_34 (by decide) ⟨by decide, by decide⟩ (fun c => absurd c (by decide)) (fun _ => ?_)
    refine ok_iconst (pc := 37) hc (v := i3 0) dX7_trip_37 (by decide) ?_
    refine ok_goto (pc := 38) (tgt := 55) hc dX7_trip_38 (by decide) ?_
    exact ok_iret (st := []) (pc := 55) hc hr dX7_trip_55 P

set_option maxHeartbeats 4000000 in
set_option maxRecDepth 100000 in
theorem sX7_trip_55 {X : Xt} {n : Nat} {h : HP} {a0 : Nat} {x1 : Int} {x2 : Int} {t0 : Int} (hc : Cx X cX7_trip RX7 3 12 280) {K : KT} (hr : CxR X (some .int) K) 
    (P : K (.inl (some (.int (i3 t0)))) n h) :
    Ok X 0 0 55 [(0, .ref a0), (1, .int (i3 x1)), (2, .int (i3 x2))] [.int (i3 t0)] n h := by
  exact ok_iret (st := []) (pc := 55) hc hr dX7_trip_55 P

def spec_X7_trip (args : List Value) (n : Nat) (h : HP) (K : KT) : Prop := ∃ (q : Dsk) (t x z : Int), args = [.ref 128, .int (i3 x), .int (i3 z)] ∧ R3 x ∧ R3 z ∧ MdA h n q t ∧ ∀ h', MdA h' n q (cdL [eIO, eIS] (opTrip q x z)) → Fr h h' 128 138 → K (.inl (some (.int (i3 (rvI (opTrip q x z)))))) n h'
theorem sp_X7_trip : Sp yX7_trip cX7_trip 3 (some .int) 12 280 0 0 spec_X7_trip := by
  refine sp_intro (by decide) (by rintro args n h K ⟨q, t, x, z, rfl, -⟩; exact Nat.le_of_ble_eq_true rfl) ?_
  rintro X args n h K hc hr ⟨q, t, x, z, rfl, hx, hz3, ⟨I, F, hM, hF, -, hGq, hOq⟩, kk⟩
  have out := fun v => MdA.rd (t := v) (hM.uo (va_up I 0 v)) hF (fun _ _ _ _ _ => rfl) KpF.rf hGq hOq
  have hP := hF.1.1
  have hl := hP.2.1
  unfold opTrip at kk
  refine sX7_trip_0 hc hr hM.o rfl rfl hM.z hP ⟨hx, fun c => ?_, fun c => ?_⟩
  · have c' := of_decide_eq_true c
    rw [prt_in c'] at kk
    have hp1 := pAt_some c'
    obtain ⟨i, rfl⟩ : ∃ i : Nat, x = i := ⟨x.toNat, by omega⟩
    rw [show (i : Int).toNat = i by omega] at hp1 kk
    generalize pAt q.1.1 i = p at hp1 kk
    simp only at kk
    have hz := hP.of hp1
    have hb := (hP.2.2.2 p (List.mem_of_getElem? hp1)).b
    have e0 : F 1 (4 * (i : Int)).toNat = p.1 := by rw [show (4 * (i : Int)).toNat = 4 * i by omega]; exact hz.1
    rw [e0]
    refine ⟨⟨by omega, ⟨by decide, by decide⟩, R3_s (by omega)⟩, fun c1 => ?_, fun c1 => ⟨hz3, fun y => ?_, fun y => ?_⟩⟩
    · rw [if_neg c1, cd_2 _ ne_OS] at kk
      exact kk _ (out 2) (Fr.rf.up (by omega))
    · rw [if_pos c1, if_pos y] at kk
      exact ⟨va_up I 0 0, F, q, i, p, -1, rfl, hM.uo (va_up I 0 0), hF.thr 0, hGq, hOq, hp1, c1, Or.inr rfl, fun h1 hA f1 => ⟨rfl, sX7_trip_55 hc hr (kk h1 hA ((Fr.rf.up (by omega)).tr f1))⟩⟩
    · rw [if_pos c1, if_neg y] at kk
      exact ⟨va_up I 0 0, F, q, i, p, 1, rfl, hM.uo (va_up I 0 0), hF.thr 0, hGq, hOq, hp1, c1, Or.inl rfl, fun h1 hA f1 => ⟨rfl, sX7_trip_55 hc hr (kk h1 hA ((Fr.rf.up (by omega)).tr f1))⟩⟩
  · have c' := of_decide_eq_false c
    rw [prt_out c'] at kk
    exact kk _ (out 1) (Fr.rf.up (by omega))
set_option maxHeartbeats 4000000 in
set_option maxRecDepth 100000 in
theorem sX7_ifValue_0 {X : Xt} {n : Nat} {h : HP} {a0 : Nat} {x1 : Int} {x2 : Int} {fs1 : List Value} {q2 : Nat} {f3 : Nat → Int} {ps4 : List Part} {q5 : Nat} (hc : Cx X cX7_ifValue RX7 4 11 256) {K : KT} (hr : CxR X (some .int) K) (e1 : At h n a0 (.inl (7, fs1))) (z1 : fs1.length = 24) (v1_1 : fs1[1]? = some (.ref q2)) (e3 : At h n q2 (ai 52 f3)) (hP4 : ZPs f3 ps4) (v1_2 : fs1[2]? = some (.ref q5))
    (P : (R3 x1) ∧ ((decide (0 ≤ x1 ∧ x1 < ps4.length)) = true → ((0 ≤ (4 : Int) * x1 ∧ (4 : Int) * x1 < 52) ∧ R3 2 ∧ R3 (f3 (4 * x1 : Int).toNat)) ∧ (¬ f3 (4 * x1 : Int).toNat = 2 → ((0 ≤ x1 ∧ x1 < ps4.length) ∧ R3 x2) ∧ ((valB (pAt ps4 x1) x2) = false → K (.inl (some (.int (i3 0)))) n (va_up h a0 (.inl (7, (fs1.set 0 (.int (i3 3))))))) ∧ ((valB (pAt ps4 x1) x2) = true → spec_X7_copy [.ref a0, .ref q2, .int (i3 0), .ref q5, .int (i3 0)] n (va_up h a0 (.inl (7, (fs1.set 0 (.int (i3 0)))))) (kc X 0 0 63 [(0, .ref a0), (1, .int (i3 x1)), (2, .int (i3 x2))] [] n))) ∧ (f3 (4 * x1 : Int).toNat = 2 → K (.inl (some (.int (i3 0)))) n (va_up h a0 (.inl (7, (fs1.set 0 (.int (i3 2)))))))) ∧ ((decide (0 ≤ x1 ∧ x1 < ps4.length)) = false → K (.inl (some (.int (i3 0)))) n (va_up h a0 (.inl (7, (fs1.set 0 (.int (i3 1)))))))) :
    Ok X 0 0 0 [(0, .ref a0), (1, .int (i3 x1)), (2, .int (i3 x2))] [] n h := by
  refine ok_aload_n (pc := 0) hc dX7_ifValue_0 rfl 0 rfl ?_
  refine ok_aload_n (pc := 1) hc dX7_ifValue_1 rfl 0 rfl ?_
  refine ok_iload_n (pc := 2) hc dX7_ifValue_2 rfl 1 rfl ?_
  obtain ⟨r0, P⟩ := P
  refine ok_callV (pc := 3) (a := a0) (cb := 0) (sb := 0) (st := [.ref a0]) hc [.int (i3 x1)] cv_X7_153 sp_X7_isPartB (by decide) dX7_ifValue_3 rfl e1.1 e1.2 rfl rfl rfl (Nat.le_of_ble_eq_true rfl) (⟨_, _, _, _, rfl, ⟨_, _, ⟨e1.1, e1.2⟩, z1, v1_1, ⟨e3.1, e3.2⟩⟩, hP4, r0, rfl, ?_⟩)
  show Ok X 0 0 (3 + 3) [(0, .ref a0), (1, .int (i3 x1)), (2, .int (i3 x2))] [.int (i3 (bz (decide (0 ≤ x1 ∧ x1 < ps4.length)))), .ref a0] n h
  refine zk_if_ne (pc := 6) (tgt := 13) hc dX7_ifValue_6 (by decide) R3_bz (fun c => ?_) (fun c => ?_)
  · have P := P.1 (bz_1.mp c)
    refine ok_aload_n (pc := 13) hc dX7_ifValue_13 rfl 0 rfl ?_
    refine ok_iload_n (pc := 14) hc dX7_ifValue_14 rfl 1 rfl ?_
    refine ok_iconst (pc := 15) hc (v := i3 2) dX7_ifValue_15 (by decide) ?_
    obtain ⟨r0, P⟩ := P
    refine ok_callV (pc := 16) (a := a0) (cb := 0) (sb := 0) (st := [.ref a0]) hc [.int (i3 x1), .int (i3 2)] cv_X7_60 sp_X7_is (by decide) dX7_ifValue_16 rfl e1.1 e1.2 rfl rfl rfl (Nat.le_of_ble_eq_true rfl) (⟨_, _, _, _, rfl, ⟨_, _, ⟨e1.1, e1.2⟩, z1, v1_1, ⟨e3.1, e3.2⟩⟩, r0.1, r0.2.1, r0.2.2, rfl, ?_⟩)
    show Ok X 0 0 (16 + 3) [(0, .ref a0), (1, .int (i3 x1)), (2, .int (i3 x2))] [.int (i3 (isZ f3 x1 2)), .ref a0] n h
    refine zk_if_eq (pc := 19) (tgt := 26) hc dX7_ifValue_19 (by decide) R3_isZ (fun c => ?_) (fun c => ?_)
    · have P := P.1 (isZ_0.mp c)
      refine ok_aload_n (pc := 26) hc dX7_ifValue_26 rfl 0 rfl ?_
      refine ok_iload_n (pc := 27) hc dX7_ifValue_27 rfl 1 rfl ?_
      refine ok_iload_n (pc := 28) hc dX7_ifValue_28 rfl 2 rfl ?_
      obtain ⟨r0, P⟩ := P
      refine ok_callV (pc := 29) (a := a0) (cb := 0) (sb := 0) (st := [.ref a0]) hc [.int (i3 x1), .int (i3 x2)] cv_X7_156 sp_X7_isValue (by decide) dX7_ifValue_29 rfl e1.1 e1.2 rfl rfl rfl (Nat.le_of_ble_eq_true rfl) (⟨_, _, _, _, _, rfl, ⟨_, _, ⟨e1.1, e1.2⟩, z1, v1_1, ⟨e3.1, e3.2⟩⟩, hP4, r0.1, r0.2, rfl, ?_⟩)
      show Ok X 0 0 (29 + 3) [(0, .ref a0), (1, .int (i3 x1)), (2, .int (i3 x2))] [.int (i3 (bz (valB (pAt ps4 x1) x2))), .ref a0] n h
      refine zk_if_eq (pc := 32) (tgt := 39) hc dX7_ifValue_32 (by decide) R3_bz (fun c => ?_) (fun c => ?_)
      · have P := P.1 (bz_0.mp c)
        refine ok_iconst (pc := 39) hc (v := i3 3) dX7_ifValue_39 (by decide) ?_
        refine ok_put (pc := 40) hc fl_X7_41 dX7_ifValue_40 e1.1 e1.2 (by simp [List.length_set, z1]) (fun _ => rfl) (fun _ => rfl) ?_
        refine ok_aload_n (pc := 43) hc dX7_ifValue_43 rfl 0 rfl ?_
        refine ok_get (pc := 44) hc fl_X7_41 dX7_ifValue_44 e1.1 up_self (set_self (by simp [List.length_set, z1])) ?_
        refine zk_if_le (pc := 47) (tgt := 52) hc dX7_ifValue_47 (by decide) ⟨by decide, by decide⟩ (fun c => absurd c (by decide)) (fun _ => ?_)
        refine ok_iconst (pc := 50) hc (v := i3 0) dX7_ifValue_50 (by decide) ?_
        exact ok_iret (st := []) (pc := 51) hc hr dX7_ifValue_51 P
      · have P := P.2 (bz_1.mp c)
        refine ok_iconst (pc := 35) hc (v := i3 0) dX7_ifValue_35 (by decide) ?_
        refine ok_goto (pc := 36) (tgt := 40) hc dX7_ifValue_36 (by decide) ?_
        refine ok_put (pc := 40) hc fl_X7_41 dX7_ifValue_40 e1.1 e1.2 (by simp [List.length_set, z1]) (fun _ => rfl) (fun _ => rfl) ?_
        refine ok_aload_n (pc := 43) hc dX7_ifValue_43 rfl 0 rfl ?_
        refine ok_get (pc := 44) hc fl_X7_41 dX7_ifValue_44 e1.1 up_self (set_self (by simp [List.length_set, z1])) ?_
        refine zk_if_le (pc := 47) (tgt := 52) hc dX7_ifValue_47 (by decide) ⟨by decide, by decide⟩ (fun _ => ?_) (fun c => absurd c (by decide))
        refine ok_aload_n (pc := 52) hc dX7_ifValue_52 rfl 0 rfl ?_
        refine ok_aload_n (pc := 53) hc dX7_ifValue_53 rfl 0 rfl ?_
        refine ok_get (pc := 54) hc fl_X7_7 dX7_ifValue_54 e1.1 up_self ((set_ne (by decide)).trans v1_1) ?_
        refine ok_iconst (pc := 57) hc (v := i3 0) dX7_ifValue_57 (by decide) ?_
        refine ok_aload_n (pc := 58) hc dX7_ifValue_58 rfl 0 rfl ?_
        refine ok_get (pc := 59) hc fl_X7_13 dX7_ifValue_59 e1.1 up_self ((set_ne (by decide)).trans v1_2) ?_
        refine ok_iconst (pc := 62) hc (v := i3 0) dX7_ifValue_62 (by decide) ?_
        exact ok_callV (pc := 63) (a := a0) (cb := 0) (sb := 0) (st := []) hc [.ref q2, .int (i3 0), .ref q5, .int (i3 0)] cv_X7_56 sp_X7_copy (by decide) dX7_ifValue_63 rfl e1.1 up_self rfl rfl rfl (Nat.le_of_ble_eq_true rfl) P
    · have P := P.2 (isZ_1.mp c)
      refine ok_iconst (pc := 22) hc (v := i3 2) dX7_ifValue_22 (by decide) ?_
      refine ok_goto (pc := 23) (tgt := 40) hc dX7_ifValue_23 (by decide) ?_
      refine ok_put (pc := 40) hc fl_X7_41 dX7_ifValue_40 e1.1 e1.2 (by simp [List.length_set, z1]) (fun _ => rfl) (fun _ => rfl) ?_
      refine ok_aload_n (pc := 43) hc dX7_ifValue_43 rfl 0 rfl ?_
      refine ok_get (pc := 44) hc fl_X7_41 dX7_ifValue_44 e1.1 up_self (set_self (by simp [List.length_set, z1])) ?_
      refine zk_if_le (pc := 47) (tgt := 52) hc dX7_ifValue_47 (by decide) ⟨by decide, by decide⟩ (fun c => absurd c (by decide)) (fun _ => ?_)
      refine ok_iconst (pc := 50) hc (v := i3 0) dX7_ifValue_50 (by decide) ?_
      exact ok_iret (st := []) (pc := 51) hc hr dX7_ifValue_51 P
  · have P := P.2 (bz_0.mp c)
    refine ok_iconst (pc := 9) hc (v := i3 1) dX7_ifValue_9 (by decide) ?_
    refine ok_goto (pc := 10) (tgt := 40) hc dX7_ifValue_10 (by decide) ?_
    refine ok_put (pc := 40) hc fl_X7_41 dX7_ifValue_40 e1.1 e1.2 (by simp [List.length_set, z1]) (fun _ => rfl) (fun _ => rfl) ?_
    refine ok_aload_n (pc := 43) hc dX7_ifValue_43 rfl 0 rfl ?_
    refine ok_get (pc := 44) hc fl_X7_41 dX7_ifValue_44 e1.1 up_self (set_self (by simp [List.length_set, z1])) ?_
    refine zk_if_le (pc := 47) (tgt := 52) hc dX7_ifValue_47 (by decide) ⟨by decide, by decide⟩ (fun c => absurd c (by decide)) (fun _ => ?_)
    refine ok_iconst (pc := 50) hc (v := i3 0) dX7_ifValue_50 (by decide) ?_
    exact ok_iret (st := []) (pc := 51) hc hr dX7_ifValue_51 P

set_option maxHeartbeats 4000000 in
set_option maxRecDepth 100000 in
theorem sX7_ifValue_66 {X : Xt} {n : Nat} {h : HP} {a0 : Nat} {x1 : Int} {x2 : Int} {fs1 : List Value} {q2 : Nat} {len3 : Nat} {f3 : Nat → Int} (hc : Cx X cX7_ifValue RX7 4 11 256) {K : KT} (hr : CxR X (some .int) K) (e1 : At h n a0 (.inl (7, fs1))) (z1 : fs1.length = 24) (v1_1 : fs1[1]? = some (.ref q2)) (e3 : At h n q2 (ai len3 f3))
    (P : (Ix ((4 * x1) + 3) len3) ∧ spec_X7_settle [.ref a0] n (va_up h q2 (ai len3 (va_up f3 (((4 * x1) + 3) : Int).toNat x2))) (kc X 0 0 78 [(0, .ref a0), (1, .int (i3 x1)), (2, .int (i3 x2))] [] n)) :
    Ok X 0 0 66 [(0, .ref a0), (1, .int (i3 x1)), (2, .int (i3 x2))] [] n h := by
  refine ok_aload_n (pc := 66) hc dX7_ifValue_66 rfl 0 rfl ?_
  refine ok_get (pc := 67) hc fl_X7_7 dX7_ifValue_67 e1.1 e1.2 v1_1 ?_
  refine ok_iconst (pc := 70) hc (v := i3 4) dX7_ifValue_70 (by decide) ?_
  refine ok_iload_n (pc := 71) hc dX7_ifValue_71 rfl 1 rfl ?_
  refine zk_imul (pc := 72) hc dX7_ifValue_72 ?_
  refine ok_iconst (pc := 73) hc (v := i3 3) dX7_ifValue_73 (by decide) ?_
  refine zk_iadd (pc := 74) hc dX7_ifValue_74 ?_
  refine ok_iload_n (pc := 75) hc dX7_ifValue_75 rfl 2 rfl ?_
  obtain ⟨r, P⟩ := P
  refine zk_iast (pc := 76) hc dX7_ifValue_76 e3.1 e3.2 r ?_
  refine ok_aload_n (pc := 77) hc dX7_ifValue_77 rfl 0 rfl ?_
  exact ok_callV (pc := 78) (a := a0) (cb := 0) (sb := 0) (st := []) hc [] cv_X7_150 sp_X7_settle (by decide) dX7_ifValue_78 rfl e1.1 ((up_ne (ne_oa e1.2 e3.2)).trans e1.2) rfl rfl rfl (Nat.le_of_ble_eq_true rfl) P

set_option maxHeartbeats 4000000 in
set_option maxRecDepth 100000 in
theorem sX7_ifValue_81 {X : Xt} {n : Nat} {h : HP} {a0 : Nat} {x1 : Int} {x2 : Int} {fs1 : List Value} {q2 : Nat} {len3 : Nat} {f3 : Nat → Int} {q5 : Nat} (hc : Cx X cX7_ifValue RX7 4 11 256) {K : KT} (hr : CxR X (some .int) K) (e1 : At h n a0 (.inl (7, fs1))) (z1 : fs1.length = 24) (v1_1 : fs1[1]? = some (.ref q2)) (e3 : At h n q2 (ai len3 f3)) (v1_2 : fs1[2]? = some (.ref q5))
    (P : (Ix 51 len3) ∧ (R3 (f3 (51 : Int).toNat)) ∧ (¬ (f3 (51 : Int).toNat) = 1 → spec_X7_copy [.ref a0, .ref q5, .int (i3 0), .ref q2, .int (i3 0)] n h (kc X 0 0 115 [(0, .ref a0), (1, .int (i3 x1)), (2, .int (i3 x2)), (3, .int (i3 (-1)))] [] n)) ∧ ((f3 (51 : Int).toNat) = 1 → (Ix 50 len3) ∧ spec_X7_copy [.ref a0, .ref q5, .int (i3 0), .ref q2, .int (i3 0)] n h (kc X 0 0 115 [(0, .ref a0), (1, .int (i3 x1)), (2, .int (i3 x2)), (3, .int (i3 (f3 (50 : Int).toNat)))] [] n))) :
    Ok X 0 0 81 [(0, .ref a0), (1, .int (i3 x1)), (2, .int (i3 x2))] [] n h := by
  refine ok_aload_n (pc := 81) hc dX7_ifValue_81 rfl 0 rfl ?_
  refine ok_get (pc := 82) hc fl_X7_7 dX7_ifValue_82 e1.1 e1.2 v1_1 ?_
  refine ok_bipush (pc := 85) hc (v := i3 51) dX7_ifValue_85 (by decide) ?_
  obtain ⟨r, P⟩ := P
  refine zk_iald (pc := 87) hc dX7_ifValue_87 e3.1 e3.2 r ?_
  refine ok_iconst (pc := 88) hc (v := i3 1) dX7_ifValue_88 (by decide) ?_
  obtain ⟨r4, P⟩ := P
  refine zk_icmp_ne (pc := 89) (tgt := 102) hc dX7_ifValue_89 (by decide) r4 ⟨by decide, by decide⟩ (fun c => ?_) (fun c => ?_)
  · have P := P.1 c
    refine ok_iconst (pc := 102) hc (v := i3 (-1)) dX7_ifValue_102 (by decide) ?_
    refine ok_istore_n (pc := 103) hc (lv' := [(3, .int (i3 (-1))), (0, .ref a0), (1, .int (i3 x1)), (2, .int (i3 x2))]) dX7_ifValue_103 rfl (by decide) rfl ?_
    refine ok_aload_n (pc := 104) hc dX7_ifValue_104 rfl 1 rfl ?_
    refine ok_aload_n (pc := 105) hc dX7_ifValue_105 rfl 1 rfl ?_
    refine ok_get (pc := 106) hc fl_X7_13 dX7_ifValue_106 e1.1 e1.2 v1_2 ?_
    refine ok_iconst (pc := 109) hc (v := i3 0) dX7_ifValue_109 (by decide) ?_
    refine ok_aload_n (pc := 110) hc dX7_ifValue_110 rfl 1 rfl ?_
    refine ok_get (pc := 111) hc fl_X7_7 dX7_ifValue_111 e1.1 e1.2 v1_1 ?_
    refine ok_iconst (pc := 114) hc (v := i3 0) dX7_ifValue_114 (by decide) ?_
    refine ok_lv [1, 2, 3, 0] rfl ?_
    exact ok_callV (pc := 115) (a := a0) (cb := 0) (sb := 0) (st := []) hc [.ref q5, .int (i3 0), .ref q2, .int (i3 0)] cv_X7_56 sp_X7_copy (by decide) dX7_ifValue_115 rfl e1.1 e1.2 rfl rfl rfl (Nat.le_of_ble_eq_true rfl) P
  · have P := P.2 c
    refine ok_aload_n (pc := 92) hc dX7_ifValue_92 rfl 0 rfl ?_
    refine ok_get (pc := 93) hc fl_X7_7 dX7_ifValue_93 e1.1 e1.2 v1_1 ?_
    refine ok_bipush (pc := 96) hc (v := i3 50) dX7_ifValue_96 (by decide) ?_
    obtain ⟨r, P⟩ := P
    refine zk_iald (pc := 98) hc dX7_ifValue_98 e3.1 e3.2 r ?_
    refine ok_goto (pc := 99) (tgt := 103) hc dX7_ifValue_99 (by decide) ?_
    refine ok_istore_n (pc := 103) hc (lv' := [(3, .int (i3 (f3 (50 : Int).toNat))), (0, .ref a0), (1, .int (i3 x1)), (2, .int (i3 x2))]) dX7_ifValue_103 rfl (by decide) rfl ?_
    refine ok_aload_n (pc := 104) hc dX7_ifValue_104 rfl 1 rfl ?_
    refine ok_aload_n (pc := 105) hc dX7_ifValue_105 rfl 1 rfl ?_
    refine ok_get (pc := 106) hc fl_X7_13 dX7_ifValue_106 e1.1 e1.2 v1_2 ?_
    refine ok_iconst (pc := 109) hc (v := i3 0) dX7_ifValue_109 (by decide) ?_
    refine ok_aload_n (pc := 110) hc dX7_ifValue_110 rfl 1 rfl ?_
    refine ok_get (pc := 111) hc fl_X7_7 dX7_ifValue_111 e1.1 e1.2 v1_1 ?_
    refine ok_iconst (pc := 114) hc (v := i3 0) dX7_ifValue_114 (by decide) ?_
    refine ok_lv [1, 2, 3, 0] rfl ?_
    exact ok_callV (pc := 115) (a := a0) (cb := 0) (sb := 0) (st := []) hc [.ref q5, .int (i3 0), .ref q2, .int (i3 0)] cv_X7_56 sp_X7_copy (by decide) dX7_ifValue_115 rfl e1.1 e1.2 rfl rfl rfl (Nat.le_of_ble_eq_true rfl) P

set_option maxHeartbeats 4000000 in
set_option maxRecDepth 100000 in
theorem sX7_ifValue_118 {X : Xt} {n : Nat} {h : HP} {a0 : Nat} {x1 : Int} {x2 : Int} {x3 : Int} (hc : Cx X cX7_ifValue RX7 4 11 256) {K : KT} (hr : CxR X (some .int) K) 
    (P : K (.inl (some (.int (i3 x3)))) n h) :
    Ok X 0 0 118 [(0, .ref a0), (1, .int (i3 x1)), (2, .int (i3 x2)), (3, .int (i3 x3))] [] n h := by
  refine ok_iload_n (pc := 118) hc dX7_ifValue_118 rfl 3 rfl ?_
  exact ok_iret (st := []) (pc := 119) hc hr dX7_ifValue_119 P

def spec_X7_ifValue (args : List Value) (n : Nat) (h : HP) (K : KT) : Prop := ∃ (q : Dsk) (t x v : Int), args = [.ref 128, .int (i3 x), .int (i3 v)] ∧ R3 x ∧ R3 v ∧ MdA h n q t ∧ ∀ h', MdA h' n q (cdL [eIO, eIS, eIA] (opIf q x v)) → Fr h h' 128 138 → K (.inl (some (.int (i3 (rvI (opIf q x v)))))) n h'
theorem sp_X7_ifValue : Sp yX7_ifValue cX7_ifValue 4 (some .int) 11 256 0 0 spec_X7_ifValue := by
  refine sp_intro (by decide) (by rintro args n h K ⟨q, t, x, v, rfl, -⟩; exact Nat.le_of_ble_eq_true rfl) ?_
  rintro X args n h K hc hr ⟨q, t, x, v, rfl, hx, hv, ⟨I, F, hM, hF, -, hGq, hOq⟩, kk⟩
  have out := fun v => MdA.rd (t := v) (hM.uo (va_up I 0 v)) hF (fun _ _ _ _ _ => rfl) KpF.rf hGq hOq
  have hP := hF.1.1
  have hl := hP.2.1
  unfold opIf at kk
  refine sX7_ifValue_0 hc hr hM.o rfl rfl hM.z hP rfl ⟨hx, fun c => ?_, fun c => ?_⟩
  · have c' := of_decide_eq_true c
    rw [prt_in c'] at kk
    have hp1 := pAt_some c'
    obtain ⟨i, rfl⟩ : ∃ i : Nat, x = i := ⟨x.toNat, by omega⟩
    rw [show (i : Int).toNat = i by omega] at hp1 kk
    generalize pAt q.1.1 i = p at hp1 kk ⊢
    simp only at kk
    have hz := hP.of hp1
    have hpw := hP.2.2.2 p (List.mem_of_getElem? hp1)
    have hb := hpw.b
    have e0 : F 1 (4 * (i : Int)).toNat = p.1 := by rw [show (4 * (i : Int)).toNat = 4 * i by omega]; exact hz.1
    rw [e0]
    refine ⟨⟨by omega, ⟨by decide, by decide⟩, R3_s (by omega)⟩, fun c1 => ⟨⟨by omega, hv⟩, fun c2 => ?_, fun c2 => ?_⟩, fun c1 => ?_⟩
    · have c2' : ¬ stlB p v = true := by
        have : stlB p v = false := c2
        rw [this]
        decide
      rw [if_neg c1, if_neg c2', cd_3 _ ne_OA ne_AS.symm] at kk
      exact kk _ (out 3) (Fr.rf.up (by omega))
    · have c2' : stlB p v = true := c2
      rw [if_neg c1, if_pos c2'] at kk
      have hM1 := hM.uo (va_up I 0 0)
      refine ⟨128, 129, 130, 52, 52, 0, 0, F 1, F 2, rfl, hM1.z, hM1.a, by decide, by omega, ⟨rfl, ?_⟩⟩
      have hM2 := hM1.ua (j := 2) (by omega) (cpF (F 1) (F 2) 0 0 52)
      have g := gdS_val hGq.1 hp1 c1 c2'
      have e3 : (4 * (i : Int) + 3).toNat = 4 * i + 3 := by omega
      refine sX7_ifValue_66 hc hr hM2.o rfl rfl hM2.z ⟨⟨by omega, by omega, by omega⟩, ?_⟩
      rw [e3]
      have hM3 := hM2.ua (j := 1) (by omega) (va_up (F 1) (4 * i + 3) v)
      refine ⟨_, _, (q.1.1.set i (valP p v), q.1.2), rfl, hM3, ?_, g, fun h4 I4 F4 hM4 hZ4 kI kZ f4 => ⟨rfl, ?_⟩⟩
      · rw [up_self]
        exact hF.1.val hp1 (val_pw hpw c1 c2')
      · have e2 : F4 2 = cpF (F 1) (F 2) 0 0 52 := (kZ 2 (by omega)).trans ((up_ne (by decide)).trans up_self)
        have e50 : F4 1 (50 : Int).toNat = (setS (q.1.1.set i (valP p v), q.1.2)).2.2.1 := hZ4.2.2.1
        have e51 : F4 1 (51 : Int).toNat = (setS (q.1.1.set i (valP p v), q.1.2)).2.2.2 := hZ4.2.2.2
        have hs := g.set.2.2.2
        have fin : ∀ r : Int, r = (if (setS (q.1.1.set i (valP p v), q.1.2)).2.2.2 = 0 then -1 else (setS (q.1.1.set i (valP p v), q.1.2)).2.2.1) → spec_X7_copy [.ref 128, .ref 130, .int (i3 0), .ref 129, .int (i3 0)] n h4 (kc X 0 0 115 [(0, .ref 128), (1, .int (i3 i)), (2, .int (i3 v)), (3, .int (i3 r))] [] n) := by
          intro r hr'
          refine ⟨128, 130, 129, 52, 52, 0, 0, F4 2, F4 1, rfl, hM4.a, hM4.z, by decide, by omega, ⟨rfl, ?_⟩⟩
          have hM6 := hM4.ua (j := 1) (by omega) (cpF (F4 2) (F4 1) 0 0 52)
          refine sX7_ifValue_118 hc hr ?_
          rw [hr']
          refine kk _ ⟨I4, _, hM6, ?_, (kI 0 (by decide) (by decide) (by decide) (by decide)).trans up_self, hGq, hOq⟩ ((((((Fr.rf.up (by omega)).up (by omega)).up (by omega)).tr f4)).up (by omega))
          refine (hF.chg (S := q.1) (hist := q.2.1) ?_ ?_ ?_ ?_ ?_ ?_ ?_)
          · rw [up_self]
            refine hF.1.eq fun k hk => ?_
            rw [cpF_in hk, e2, cpF_in hk]
          · have : va_up F4 1 (cpF (F4 2) (F4 1) 0 0 52) 3 = F 3 := (up_ne (by decide)).trans ((kZ 3 (by omega)).trans rfl)
            rw [this]
            exact hF.2.1.1
          · exact (kI 3 (by decide) (by decide) (by decide) (by decide)).trans hF.2.1.2
          · exact kI 5 (by decide) (by decide) (by decide) (by decide)
          · exact kI 7 (by decide) (by decide) (by decide) (by decide)
          · exact (up_ne (by decide)).trans ((kZ 4 (by omega)).trans rfl)
          · exact (up_ne (by decide)).trans ((kZ 5 (by omega)).trans rfl)
        refine sX7_ifValue_81 hc hr hM4.o rfl rfl hM4.z rfl ?_
        rw [e50, e51]
        exact ⟨⟨by decide, by decide, by decide⟩, R3_s (by omega), fun y => fin _ (by rw [if_pos (by omega)]), fun y => ⟨⟨by decide, by decide, by decide⟩, fin _ (by rw [if_neg (by omega)])⟩⟩
    · rw [if_pos c1, cd_2 _ ne_OS] at kk
      exact kk _ (out 2) (Fr.rf.up (by omega))
  · have c' := of_decide_eq_false c
    rw [prt_out c'] at kk
    exact kk _ (out 1) (Fr.rf.up (by omega))
