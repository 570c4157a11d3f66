/-! part 46: the desk: current, ifValue, trip -/
theorem BnK.val29 {h : HP} {n : Nat} {S : Stt} {sat rsn cul : Int} {G : Nat → Int} (hK : BnK h n 29 S sat rsn cul G) (hg : GdS S) {i : Nat} {p : Part} (hp : S.1[i]? = some p) (h1 : p.1 = 1) : ∃ t, At h n 35 (ai 12 t) ∧ t i = p.2.2.2 ∧ ∀ v : Int, (-200 ≤ v ∧ v ≤ 200) → BnK (va_up h 35 (ai 12 (va_up t i v))) n 29 (S.1.set i (valP p v), S.2) sat rsn cul G ∧ GdS (S.1.set i (valP p v), S.2) := by
  obtain ⟨F, D, N, hB, h3, hFit, hF, hDN⟩ := hK
  obtain ⟨k, f, s, t, E, E1, E2, E3, E4, hv, hw, hl, hcap⟩ := id hB.2.1.2.1
  have hi := (List.getElem?_eq_some_iff.mp hp).1
  have hpe := Option.some.inj ((hv i hi).symm.trans hp)
  refine ⟨t, E4, by rw [← hpe], fun v hvv => ?_⟩
  have hPW := hw p (List.mem_of_getElem? hp)
  have cs : stlB p v = true := by
    unfold stlB
    rw [if_neg (by omega)]
    exact decide_eq_true hvv
  have gg := hg.1.val hp (by omega) (val_pw hPW (by omega) cs)
  have f2 : Fr h (va_up h 35 (ai 12 (va_up t i v))) 35 35 := Fr.rf.up (by omega)
  have hS2 : StA (va_up h 35 (ai 12 (va_up t i v))) n 30 (S.1.set i (valP p v), S.2) := by
    refine ⟨(hB.2.1.1).fr f2 (by omega), ⟨k, f, s, va_up t i v, ?_, E1.fr f2 (by omega), E2.fr f2 (by omega), E3.fr f2 (by omega), E4.it, set_get hv hp, fun y hy => (gg.1.2.2.1 y hy).1, ?_, hcap⟩, hB.2.1.2.2⟩
    · show At _ n (30 + 1) (.inl (2, [.ref (30 + 1 + 1), .ref (30 + 1 + 2), .ref (30 + 1 + 3), .ref (30 + 1 + 4), .int (i3 ((S.1.set i (valP p v)).length : Nat))]))
      rw [List.length_set]
      exact E.fr f2 (by omega)
    · show (S.1.set i (valP p v)).length ≤ 12
      rw [List.length_set]
      exact hl
  have g2 : GdS (S.1.set i (valP p v), S.2) := ⟨gg.1, hg.2.1, by
    show 0 ≤ S.2.2.1 ∧ S.2.2.1 < 3 ^ nA (S.1.set i (valP p v))
    rw [gg.2]
    exact hg.2.2.1, hg.2.2.2⟩
  refine ⟨⟨F, D, N, ⟨?_, hS2, hB.2.2.1.fr f2 (by omega), hB.2.2.2.1.fr f2 (by omega), hB.2.2.2.2.fr f2 (by omega)⟩, g2.fit.1, g2.fit.2, fun a j r hA => hF a j r (hA.val hp h1), fun m hm => ?_⟩, g2⟩
  · show At _ n 29 (.inl (0, [.ref (29 + 1), .ref (29 + 7), .int (i3 (nA (S.1.set i (valP p v)))), .ref (29 + 8), .ref (29 + 27), .int (i3 sat), .int (i3 rsn), .int (i3 cul)]))
    rw [gg.2]
    exact hB.1.fr f2 (by omega)
  · have hm : m < 2 ^ nA (S.1.set i (valP p v)) := hm
    rw [gg.2] at hm
    have := hDN m hm
    unfold solD solN at this ⊢
    show D m = absZ (elimN 7 0 1 (rowsM m (S.1.set i (valP p v)))).1 ∧ N m = ansF (elimN 7 0 1 (rowsM m (S.1.set i (valP p v)))).2 (if 0 ≤ (elimN 7 0 1 (rowsM m (S.1.set i (valP p v)))).1 then 1 else -1)
    rw [rowsM_val hp h1]
    exact this
theorem StA.val {h : HP} {n a : Nat} {S : Stt} (hA : StA h n a S) (hg : GdS S) {i : Nat} {p : Part} (hp : S.1[i]? = some p) (h2 : p.1 ≠ 2) : ∃ t, At h n (a + 1 + 4) (ai 12 t) ∧ t i = p.2.2.2 ∧ ∀ v : Int, stlB p v = true → StA (va_up h (a + 1 + 4) (ai 12 (va_up t i v))) n a (S.1.set i (valP p v), S.2) ∧ GdS (S.1.set i (valP p v), S.2) := by
  obtain ⟨k, f, s, t, E, E1, E2, E3, E4, hv, hw, hl, hcap⟩ := id hA.2.1
  have hi := (List.getElem?_eq_some_iff.mp hp).1
  have hpe := Option.some.inj ((hv i hi).symm.trans hp)
  refine ⟨t, E4, by rw [← hpe], fun v cs => ?_⟩
  have hPW := hw p (List.mem_of_getElem? hp)
  have gg := hg.1.val hp h2 (val_pw hPW h2 cs)
  have f2 : Fr h (va_up h (a + 1 + 4) (ai 12 (va_up t i v))) (a + 1 + 4) (a + 1 + 4) := Fr.rf.up (by omega)
  refine ⟨⟨hA.1.fr f2 (by omega), ⟨k, f, s, va_up t i v, ?_, E1.fr f2 (by omega), E2.fr f2 (by omega), E3.fr f2 (by omega), E4.it, set_get hv hp, fun y hy => (gg.1.2.2.1 y hy).1, ?_, hcap⟩, hA.2.2⟩, gg.1, hg.2.1, ?_, hg.2.2.2⟩
  · show At _ n (a + 1) (.inl (2, [.ref (a + 1 + 1), .ref (a + 1 + 2), .ref (a + 1 + 3), .ref (a + 1 + 4), .int (i3 ((S.1.set i (valP p v)).length : Nat))]))
    rw [List.length_set]
    exact E.fr f2 (by omega)
  · show (S.1.set i (valP p v)).length ≤ 12
    rw [List.length_set]
    exact hl
  · show 0 ≤ S.2.2.1 ∧ S.2.2.1 < 3 ^ nA (S.1.set i (valP p v))
    rw [gg.2]
    exact hg.2.2.1
theorem DkA.try {h h' : HP} {n : Nat} {q : Dsk} {T : Stt} (p : DkA h n q) (hA : BnA h' n 29 T) (f : Fr h h' 29 56) : DkA h' n q := by
  obtain ⟨h0, hN, -, hI, hH, hM, hG⟩ := p
  exact ⟨h0.fr f (by omega), hN.fr f (by omega), ⟨T, hA.w⟩, hI.fr f (by omega), hH.fr f (by omega), hM.fr f (by omega), hG⟩
set_option maxHeartbeats 4000000 in
set_option maxRecDepth 100000 in
theorem sX6_current_0 {X : Xt} {n : Nat} {h : HP} {a0 : Nat} {x1 : Int} {x2 : Int} {fs1 : List Value} (hc : Cx X cX6_current RX6 6 7 111) {K : KT} (hr : CxR X (some .long) K) (e1 : At h n a0 (.inl (6, fs1))) (z1 : fs1.length = 6)
    (P : spec_X6_requirePart [.ref a0, .int (i3 x1)] n h (kc X 2 12 2 [(0, .ref a0), (1, .int (i3 x1)), (2, .int (i3 x2))] [] n)) :
    Ok X 3 18 0 [(0, .ref a0), (1, .int (i3 x1)), (2, .int (i3 x2))] [] n h := by
  refine ok_aload_n (pc := 0) hc dX6_current_0 rfl 0 rfl ?_
  refine ok_iload_n (pc := 1) hc dX6_current_1 rfl 1 rfl ?_
  exact ok_callV (pc := 2) (a := a0) (cb := 2) (sb := 12) (st := []) hc [.int (i3 x1)] cv_X6_111 sp_X6_requirePart (by decide) dX6_current_2 rfl e1.1 e1.2 rfl rfl rfl (Nat.le_of_ble_eq_true rfl) P

set_option maxHeartbeats 4000000 in
set_option maxRecDepth 100000 in
theorem sX6_current_5 {X : Xt} {n : Nat} {h : HP} {a0 : Nat} {x1 : Int} {x2 : Int} {fs1 : List Value} {q2 : Nat} {fs3 : List Value} {q4 : Nat} {fs5 : List Value} {q6 : Nat} {fs7 : List Value} {q8 : Nat} {len9 : Nat} {f9 : Nat → Int} (hc : Cx X cX6_current RX6 6 7 111) {K : KT} (hr : CxR X (some .long) K) (e1 : At h n a0 (.inl (6, fs1))) (z1 : fs1.length = 6) (v1_0 : fs1[0]? = some (.ref q2)) (e3 : At h n q2 (.inl (0, fs3))) (z3 : fs3.length = 8) (v3_0 : fs3[0]? = some (.ref q4)) (e5 : At h n q4 (.inl (4, fs5))) (z5 : fs5.length = 4) (v5_0 : fs5[0]? = some (.ref q6)) (e7 : At h n q6 (.inl (2, fs7))) (z7 : fs7.length = 5) (v7_0 : fs7[0]? = some (.ref q8)) (e9 : At h n q8 (ai len9 f9))
    (P : (Ix x1 len9) ∧ (R3 (f9 (x1 : Int).toNat)) ∧ ((f9 (x1 : Int).toNat) = 0 → spec_X6_requireFractionSide [.int (i3 x2)] n h (kc X 1 6 36 [(0, .ref a0), (1, .int (i3 x1)), (2, .int (i3 x2)), (3, .ref q6)] [] n)) ∧ (¬ (f9 (x1 : Int).toNat) = 0 → K (.inr "java/lang/IllegalStateException") n h)) :
    Ok X 2 12 5 [(0, .ref a0), (1, .int (i3 x1)), (2, .int (i3 x2))] [] n h := by
  refine ok_aload_n (pc := 5) hc dX6_current_5 rfl 0 rfl ?_
  refine ok_get (pc := 6) hc fl_X6_10 dX6_current_6 e1.1 e1.2 v1_0 ?_
  refine ok_get (pc := 9) hc fl_X6_43 dX6_current_9 e3.1 e3.2 v3_0 ?_
  refine ok_get (pc := 12) hc fl_X6_47 dX6_current_12 e5.1 e5.2 v5_0 ?_
  refine ok_astore_n (pc := 15) hc (lv' := [(3, .ref q6), (0, .ref a0), (1, .int (i3 x1)), (2, .int (i3 x2))]) dX6_current_15 rfl (by decide) rfl ?_
  refine ok_aload_n (pc := 16) hc dX6_current_16 rfl 0 rfl ?_
  refine ok_get (pc := 17) hc fl_X6_187 dX6_current_17 e7.1 e7.2 v7_0 ?_
  refine ok_iload_n (pc := 20) hc dX6_current_20 rfl 2 rfl ?_
  obtain ⟨r, P⟩ := P
  refine zk_iald (pc := 21) hc dX6_current_21 e9.1 e9.2 r ?_
  obtain ⟨r10, P⟩ := P
  refine zk_if_eq (pc := 22) (tgt := 35) hc dX6_current_22 (by decide) r10 (fun c => ?_) (fun c => ?_)
  · have P := P.1 c
    refine ok_iload_n (pc := 35) hc dX6_current_35 rfl 3 rfl ?_
    refine ok_lv [1, 2, 3, 0] rfl ?_
    exact ok_callS (pc := 36) (cb := 1) (sb := 6) (st := []) hc [.int (i3 x2)] cs_X6_176 sp_X6_requireFractionSide (by decide) dX6_current_36 rfl rfl rfl rfl (Nat.le_of_ble_eq_true rfl) P
  · have P := P.2 c
    exact ok_throw (pc := 25) hc hr th_ISE rfl (is := 190) (text := "the part is no resistor") (by decide) dX6_current_25 dX6_current_28 dX6_current_29 dX6_current_31 dX6_current_34 (by decide) (by decide) (by decide) (by decide) P

set_option maxHeartbeats 4000000 in
set_option maxRecDepth 100000 in
theorem sX6_current_39 {X : Xt} {n : Nat} {h : HP} {a0 : Nat} {x1 : Int} {x2 : Int} {a3 : Nat} {fs1 : List Value} {q2 : Nat} {fs3 : List Value} {q4 : Nat} {fs5 : List Value} {iv6 : Int} {iv8 : Int} (hc : Cx X cX6_current RX6 6 7 111) {K : KT} (hr : CxR X (some .long) K) (e1 : At h n a0 (.inl (6, fs1))) (z1 : fs1.length = 6) (v1_0 : fs1[0]? = some (.ref q2)) (e3 : At h n q2 (.inl (0, fs3))) (z3 : fs3.length = 8) (v3_0 : fs3[0]? = some (.ref q4)) (e5 : At h n q4 (.inl (4, fs5))) (z5 : fs5.length = 4) (v5_3 : fs5[3]? = some (.int (i3 iv6))) (v5_2 : fs5[2]? = some (.int (i3 iv8)))
    (P : (R3 iv6) ∧ (¬ iv6 = 0 → spec_X0_choose [.ref q2, .int (i3 iv8)] n h (kc X 1 6 68 [(0, .ref a0), (1, .int (i3 x1)), (2, .int (i3 x2)), (3, .ref a3)] [] n)) ∧ (iv6 = 0 → K (.inl (some (.long (i6 0)))) n h)) :
    Ok X 1 6 39 [(0, .ref a0), (1, .int (i3 x1)), (2, .int (i3 x2)), (3, .ref a3)] [] n h := by
  refine ok_aload_n (pc := 39) hc dX6_current_39 rfl 0 rfl ?_
  refine ok_get (pc := 40) hc fl_X6_10 dX6_current_40 e1.1 e1.2 v1_0 ?_
  refine ok_get (pc := 43) hc fl_X6_43 dX6_current_43 e3.1 e3.2 v3_0 ?_
  refine ok_get (pc := 46) hc fl_X6_179 dX6_current_46 e5.1 e5.2 v5_3 ?_
  obtain ⟨r7, P⟩ := P
  refine zk_if_ne (pc := 49) (tgt := 54) hc dX6_current_49 (by decide) r7 (fun c => ?_) (fun c => ?_)
  · have P := P.1 c
    refine ok_aload_n (pc := 54) hc dX6_current_54 rfl 0 rfl ?_
    refine ok_get (pc := 55) hc fl_X6_10 dX6_current_55 e1.1 e1.2 v1_0 ?_
    refine ok_aload_n (pc := 58) hc dX6_current_58 rfl 0 rfl ?_
    refine ok_get (pc := 59) hc fl_X6_10 dX6_current_59 e1.1 e1.2 v1_0 ?_
    refine ok_get (pc := 62) hc fl_X6_43 dX6_current_62 e3.1 e3.2 v3_0 ?_
    refine ok_get (pc := 65) hc fl_X6_133 dX6_current_65 e5.1 e5.2 v5_2 ?_
    exact ok_callV (pc := 68) (a := q2) (cb := 1) (sb := 6) (st := []) hc [.int (i3 iv8)] cv_X6_192 sp_X0_choose (by decide) dX6_current_68 rfl e3.1 e3.2 rfl rfl rfl (Nat.le_of_ble_eq_true rfl) P
  · have P := P.2 c
    refine ok_lconst (pc := 52) hc (v := i6 0) dX6_current_52 (by decide) ?_
    exact ok_lret (st := []) (pc := 53) hc hr dX6_current_53 P

set_option maxHeartbeats 4000000 in
set_option maxRecDepth 100000 in
theorem sX6_current_71 {X : Xt} {n : Nat} {h : HP} {a0 : Nat} {x1 : Int} {x2 : Int} {a3 : Nat} {fs1 : List Value} {q2 : Nat} {fs3 : List Value} {q4 : Nat} {len5 : Nat} {f5 : Nat → Int} {fs6 : List Value} (hc : Cx X cX6_current RX6 6 7 111) {K : KT} (hr : CxR X (some .long) K) (e1 : At h n a0 (.inl (6, fs1))) (z1 : fs1.length = 6) (v1_0 : fs1[0]? = some (.ref q2)) (e3 : At h n a3 (.inl (2, fs3))) (z3 : fs3.length = 5) (v3_1 : fs3[1]? = some (.ref q4)) (e5 : At h n q4 (ai len5 f5)) (e6 : At h n q2 (.inl (0, fs6))) (z6 : fs6.length = 8)
    (P : (Ix x1 len5) ∧ spec_X0_numerator [.ref q2, .int (i3 (f5 (x1 : Int).toNat))] n h (kc X 1 6 81 [(0, .ref a0), (1, .int (i3 x1)), (2, .int (i3 x2)), (3, .ref a3)] [] n)) :
    Ok X 1 6 71 [(0, .ref a0), (1, .int (i3 x1)), (2, .int (i3 x2)), (3, .ref a3)] [] n h := by
  refine ok_aload_n (pc := 71) hc dX6_current_71 rfl 0 rfl ?_
  refine ok_get (pc := 72) hc fl_X6_10 dX6_current_72 e1.1 e1.2 v1_0 ?_
  refine ok_aload_n (pc := 75) hc dX6_current_75 rfl 3 rfl ?_
  refine ok_get (pc := 76) hc fl_X6_195 dX6_current_76 e3.1 e3.2 v3_1 ?_
  refine ok_iload_n (pc := 79) hc dX6_current_79 rfl 1 rfl ?_
  obtain ⟨r, P⟩ := P
  refine zk_iald (pc := 80) hc dX6_current_80 e5.1 e5.2 r ?_
  exact ok_callV (pc := 81) (a := q2) (cb := 1) (sb := 6) (st := []) hc [.int (i3 (f5 (x1 : Int).toNat))] cv_X6_198 sp_X0_numerator (by decide) dX6_current_81 rfl e6.1 e6.2 rfl rfl rfl (Nat.le_of_ble_eq_true rfl) P

set_option maxHeartbeats 4000000 in
set_option maxRecDepth 100000 in
theorem sX6_current_84 {X : Xt} {n : Nat} {h : HP} {a0 : Nat} {x1 : Int} {x2 : Int} {a3 : Nat} {tl0 : Int} {fs1 : List Value} {q2 : Nat} {fs3 : List Value} {q4 : Nat} {len5 : Nat} {f5 : Nat → Int} {fs6 : List Value} (hc : Cx X cX6_current RX6 6 7 111) {K : KT} (hr : CxR X (some .long) K) (e1 : At h n a0 (.inl (6, fs1))) (z1 : fs1.length = 6) (v1_0 : fs1[0]? = some (.ref q2)) (e3 : At h n a3 (.inl (2, fs3))) (z3 : fs3.length = 5) (v3_2 : fs3[2]? = some (.ref q4)) (e5 : At h n q4 (ai len5 f5)) (e6 : At h n q2 (.inl (0, fs6))) (z6 : fs6.length = 8)
    (P : (Ix x1 len5) ∧ spec_X0_numerator [.ref q2, .int (i3 (f5 (x1 : Int).toNat))] n h (kc X 1 6 94 [(0, .ref a0), (1, .int (i3 x1)), (2, .int (i3 x2)), (3, .ref a3)] [.long (i6 tl0)] n)) :
    Ok X 1 6 84 [(0, .ref a0), (1, .int (i3 x1)), (2, .int (i3 x2)), (3, .ref a3)] [.long (i6 tl0)] n h := by
  refine ok_aload_n (pc := 84) hc dX6_current_84 rfl 0 rfl ?_
  refine ok_get (pc := 85) hc fl_X6_10 dX6_current_85 e1.1 e1.2 v1_0 ?_
  refine ok_aload_n (pc := 88) hc dX6_current_88 rfl 3 rfl ?_
  refine ok_get (pc := 89) hc fl_X6_202 dX6_current_89 e3.1 e3.2 v3_2 ?_
  refine ok_iload_n (pc := 92) hc dX6_current_92 rfl 1 rfl ?_
  obtain ⟨r, P⟩ := P
  refine zk_iald (pc := 93) hc dX6_current_93 e5.1 e5.2 r ?_
  exact ok_callV (pc := 94) (a := q2) (cb := 1) (sb := 6) (st := [.long (i6 tl0)]) hc [.int (i3 (f5 (x1 : Int).toNat))] cv_X6_198 sp_X0_numerator (by decide) dX6_current_94 rfl e6.1 e6.2 rfl rfl rfl (Nat.le_of_ble_eq_true rfl) P

set_option maxHeartbeats 4000000 in
set_option maxRecDepth 100000 in
theorem sX6_current_97 {X : Xt} {n : Nat} {h : HP} {a0 : Nat} {x1 : Int} {x2 : Int} {a3 : Nat} {tl0 : Int} {tl1 : Int} {fs1 : List Value} {q2 : Nat} {len3 : Nat} {f3 : Nat → Int} {fs5 : List Value} {q6 : Nat} {fs7 : List Value} (hc : Cx X cX6_current RX6 6 7 111) {K : KT} (hr : CxR X (some .long) K) (e1 : At h n a3 (.inl (2, fs1))) (z1 : fs1.length = 5) (v1_3 : fs1[3]? = some (.ref q2)) (e3 : At h n q2 (ai len3 f3)) (e5 : At h n a0 (.inl (6, fs5))) (z5 : fs5.length = 6) (v5_0 : fs5[0]? = some (.ref q6)) (e7 : At h n q6 (.inl (0, fs7))) (z7 : fs7.length = 8)
    (P : (Ix x1 len3) ∧ (R3 (f3 (x1 : Int).toNat)) ∧ spec_X0_denominator [.ref q6] n h (kc X 1 6 114 [(0, .ref a0), (1, .int (i3 x1)), (2, .int (i3 x2)), (3, .ref a3), (4, .long (i6 (tl1 - tl0)))] [.long (i6 ((f3 (x1 : Int).toNat) * (tl1 - tl0)))] n)) :
    Ok X 1 6 97 [(0, .ref a0), (1, .int (i3 x1)), (2, .int (i3 x2)), (3, .ref a3)] [.long (i6 tl0), .long (i6 tl1)] n h := by
  refine zk_lsub (pc := 97) hc dX6_current_97 ?_
  refine ok_lstore (pc := 98) hc (lv' := [(4, .long (i6 (tl1 - tl0))), (0, .ref a0), (1, .int (i3 x1)), (2, .int (i3 x2)), (3, .ref a3)]) dX6_current_98 (by decide) rfl ?_
  refine ok_aload_n (pc := 100) hc dX6_current_100 rfl 4 rfl ?_
  refine ok_get (pc := 101) hc fl_X6_102 dX6_current_101 e1.1 e1.2 v1_3 ?_
  refine ok_iload_n (pc := 104) hc dX6_current_104 rfl 2 rfl ?_
  obtain ⟨r, P⟩ := P
  refine zk_iald (pc := 105) hc dX6_current_105 e3.1 e3.2 r ?_
  obtain ⟨r4, P⟩ := P
  refine zk_i2l (pc := 106) hc dX6_current_106 r4 ?_
  refine ok_lload (pc := 107) hc dX6_current_107 0 rfl ?_
  refine zk_lmul (pc := 109) hc dX6_current_109 ?_
  refine ok_aload_n (pc := 110) hc dX6_current_110 rfl 1 rfl ?_
  refine ok_get (pc := 111) hc fl_X6_10 dX6_current_111 e5.1 e5.2 v5_0 ?_
  refine ok_lv [1, 2, 3, 4, 0] rfl ?_
  exact ok_callV (pc := 114) (a := q6) (cb := 1) (sb := 6) (st := [.long (i6 ((f3 (x1 : Int).toNat) * (tl1 - tl0)))]) hc [] cv_X6_205 sp_X0_denominator (by decide) dX6_current_114 rfl e7.1 e7.2 rfl rfl rfl (Nat.le_of_ble_eq_true rfl) P

set_option maxHeartbeats 4000000 in
set_option maxRecDepth 100000 in
theorem sX6_current_117 {X : Xt} {n : Nat} {h : HP} {a0 : Nat} {x1 : Int} {x2 : Int} {a3 : Nat} {l4 : Int} {tl0 : Int} {tl1 : Int} (hc : Cx X cX6_current RX6 6 7 111) {K : KT} (hr : CxR X (some .long) K) 
    (P : spec_X6_lowestTerms [.long (i6 tl1), .long (i6 tl0), .int (i3 x2)] n h (kc X 1 6 118 [(0, .ref a0), (1, .int (i3 x1)), (2, .int (i3 x2)), (3, .ref a3), (4, .long (i6 l4))] [] n)) :
    Ok X 1 6 117 [(0, .ref a0), (1, .int (i3 x1)), (2, .int (i3 x2)), (3, .ref a3), (4, .long (i6 l4))] [.long (i6 tl0), .long (i6 tl1)] n h := by
  refine ok_iload_n (pc := 117) hc dX6_current_117 rfl 2 rfl ?_
  exact ok_callS (pc := 118) (cb := 1) (sb := 6) (st := []) hc [.long (i6 tl1), .long (i6 tl0), .int (i3 x2)] cs_X6_209 sp_X6_lowestTerms (by decide) dX6_current_118 rfl rfl rfl rfl (Nat.le_of_ble_eq_true rfl) P

set_option maxHeartbeats 4000000 in
set_option maxRecDepth 100000 in
theorem sX6_current_121 {X : Xt} {n : Nat} {h : HP} {a0 : Nat} {x1 : Int} {x2 : Int} {a3 : Nat} {l4 : Int} {tl0 : Int} (hc : Cx X cX6_current RX6 6 7 111) {K : KT} (hr : CxR X (some .long) K) 
    (P : K (.inl (some (.long (i6 tl0)))) n h) :
    Ok X 1 6 121 [(0, .ref a0), (1, .int (i3 x1)), (2, .int (i3 x2)), (3, .ref a3), (4, .long (i6 l4))] [.long (i6 tl0)] n h := by
  exact ok_lret (st := []) (pc := 121) hc hr dX6_current_121 P

def curV (S : Stt) (c : Int) (p : Part) (w : Int) : Int := lowT (p.2.2.2 * (numer S.1 (satN c (nA S.1)) (givC S c) p.2.1.toNat - numer S.1 (satN c (nA S.1)) (givC S c) p.2.2.1.toNat)) (solD S.1 (satN c (nA S.1))) w
def opCurr (q : Dsk) (x w : Int) : Int ⊕ String := match prt q.1.1 x with
  | none => .inr eIO
  | some p => if p.1 = 0 then (if w = 0 ∨ w = 1 then (if q.1.2.2.2 = 0 then .inl 0 else .inl (curV q.1 q.1.2.2.1 p w)) else .inr eIA) else .inr eIS
def spec_X6_current (args : List Value) (n : Nat) (h : HP) (K : KT) : Prop := ∃ (q : Dsk) (x w : Int), args = [.ref 0, .int (i3 x), .int (i3 w)] ∧ R3 x ∧ R3 w ∧ DkA h n q ∧ ∀ h', DkA h' n q → Fr h h' 0 127 → K (oL (opCurr q x w)) n h'
theorem sp_X6_current : Sp yX6_current cX6_current 6 (some .long) 7 111 3 18 spec_X6_current := by
  refine sp_intro (by decide) (by rintro args n h K ⟨q, x, w, rfl, -⟩; exact Nat.le_of_ble_eq_true rfl) ?_
  rintro X args n h K hc hr ⟨q, x, w, rfl, hx, hw3, hq, kk⟩
  obtain ⟨_, _, _, _, hK⟩ := id hq.2.1
  obtain ⟨_, _, _, hB, h3, hFit, -⟩ := id hK
  unfold opCurr at kk
  cases hp : prt q.1.1 x with
  | none =>
    rw [hp] at kk
    exact sX6_current_0 hc hr hq.1 rfl ⟨q, x, rfl, hx, hq, fun c => absurd c (prt_none hp), fun _ => ⟨rfl, okT_out hc hr (kk h hq Fr.rf)⟩⟩
  | some p =>
    rw [hp] at kk
    simp only at kk
    obtain ⟨hr1, hp1⟩ := prt_some hp
    obtain ⟨k, f, s, t, E, E1, E2, E3, E4, hv, hw, hl, hcap⟩ := id hB.2.1.2.1
    have hpe := Option.some.inj ((hv x.toNat (by omega)).symm.trans hp1)
    have hPW := hw p (List.mem_of_getElem? hp1)
    have hb := hPW.b
    have ek : k x.toNat = p.1 := by rw [← hpe]
    have ix : Ix x 12 := ⟨by omega, by omega, by omega⟩
    have hs := hB.2.1.2.2.2.2
    have hpr := hB.2.1.2.2.2.1
    refine sX6_current_0 hc hr hq.1 rfl ⟨q, x, rfl, hx, hq, fun _ => ⟨rfl, ?_⟩, fun c => absurd hr1 c⟩
    refine sX6_current_5 hc hr hq.1 rfl rfl hB.1 rfl rfl hB.2.1.1 rfl rfl E rfl rfl E1 ⟨ix, R3_s (by omega), fun c => ⟨w, rfl, hw3, fun c2 => ⟨rfl, ?_⟩, fun c2 => ?_⟩, fun c => ?_⟩
    · rw [ek] at c
      rw [if_pos c, if_pos c2] at kk
      refine sX6_current_39 hc hr hq.1 rfl rfl hB.1 rfl rfl hB.2.1.1 rfl rfl rfl ⟨R3_s (by omega), fun z => ⟨1, q.1, q.1.2.2.1, _, _, _, _, rfl, hK, hpr, fun h' G' hK' hG' f' => ⟨rfl, ?_⟩⟩, fun z => ?_⟩
      · rw [if_neg z] at kk
        have hq' := hq.now hK'.a f'
        obtain ⟨_, _, _, hB', -⟩ := id hK'
        have hm := satN_lt q.1.2.2.1 (nA q.1.1)
        have hG : BdG G' := fun j hj => by rw [hG' j hj]; exact hB'.2.1.givC _ j hj
        have eG := numer_g (ps := q.1.1) (m := satN q.1.2.2.1 (nA q.1.1)) hG'
        unfold PW at hPW
        have n1 := numer_bd hFit hm (show p.2.1.toNat < 7 by omega) hG
        have n2 := numer_bd hFit hm (show p.2.2.1.toNat < 7 by omega) hG
        have hD := hFit.sD hm
        obtain ⟨k2, f2, s2, t2, Z, Z1, Z2, Z3, Z4, hv2, -⟩ := id hB'.2.1.2.1
        have hpe2 := Option.some.inj ((hv2 x.toNat (by omega)).symm.trans hp1)
        have ef : f2 x.toNat = p.2.1 := by rw [← hpe2]
        have es : s2 x.toNat = p.2.2.1 := by rw [← hpe2]
        have et : t2 x.toNat = p.2.2.2 := by rw [← hpe2]
        refine sX6_current_71 hc hr hq'.1 rfl rfl Z rfl rfl Z2 hB'.1 rfl ⟨ix, 1, satN q.1.2.2.1 (nA q.1.1), p.2.1.toNat, q.1, _, _, G', by rw [ef, Int.toNat_of_nonneg (by omega)], hK', hm, by omega, rfl, ?_⟩
        refine sX6_current_84 hc hr hq'.1 rfl rfl Z rfl rfl Z3 hB'.1 rfl ⟨ix, 1, satN q.1.2.2.1 (nA q.1.1), p.2.2.1.toNat, q.1, _, _, G', by rw [es, Int.toNat_of_nonneg (by omega)], hK', hm, by omega, rfl, ?_⟩
        refine sX6_current_97 hc hr Z rfl rfl Z4 hq'.1 rfl rfl hB'.1 rfl ⟨ix, R3_s (by rw [et]; omega), 1, satN q.1.2.2.1 (nA q.1.1), q.1, _, _, G', rfl, hK', hm, rfl, ?_⟩
        rw [et]
        have hx := mul_bd (B := 4) (C := 7516192768000) (a := p.2.2.2) (b := numer q.1.1 (satN q.1.2.2.1 (nA q.1.1)) G' p.2.1.toNat - numer q.1.1 (satN q.1.2.2.1 (nA q.1.1)) G' p.2.2.1.toNat) (by omega) (by omega)
        refine sX6_current_117 hc hr ⟨_, _, w, rfl, ⟨by omega, by omega⟩, ⟨by omega, by omega⟩, hw3, rfl, sX6_current_121 hc hr ?_⟩
        have := kk h' hq' (f'.sub (by omega) (by omega))
        unfold curV at this
        rw [← eG] at this
        exact this
      · rw [if_pos z] at kk
        exact kk h hq Fr.rf
    · rw [ek] at c
      rw [if_pos c, if_neg c2] at kk
      exact ⟨rfl, okT_out hc hr (kk h hq Fr.rf)⟩
    · rw [ek] at c
      rw [if_neg c] at kk
      exact kk h hq Fr.rf
set_option maxHeartbeats 4000000 in
set_option maxRecDepth 100000 in
theorem sX6_ifValue_0 {X : Xt} {n : Nat} {h : HP} {a0 : Nat} {x1 : Int} {x2 : Int} {fs1 : List Value} (hc : Cx X cX6_ifValue RX6 3 8 138) {K : KT} (hr : CxR X (some .int) K) (e1 : At h n a0 (.inl (6, fs1))) (z1 : fs1.length = 6)
    (P : spec_X6_requireSettable [.ref a0, .int (i3 x1), .int (i3 x2)] n h (kc X 0 0 3 [(0, .ref a0), (1, .int (i3 x1)), (2, .int (i3 x2))] [] n)) :
    Ok X 2 12 0 [(0, .ref a0), (1, .int (i3 x1)), (2, .int (i3 x2))] [] n h := by
  refine ok_aload_n (pc := 0) hc dX6_ifValue_0 rfl 0 rfl ?_
  refine ok_iload_n (pc := 1) hc dX6_ifValue_1 rfl 1 rfl ?_
  refine ok_iload_n (pc := 2) hc dX6_ifValue_2 rfl 2 rfl ?_
  exact ok_callV (pc := 3) (a := a0) (cb := 0) (sb := 0) (st := []) hc [.int (i3 x1), .int (i3 x2)] cv_X6_98 sp_X6_requireSettable (by decide) dX6_ifValue_3 rfl e1.1 e1.2 rfl rfl rfl (Nat.le_of_ble_eq_true rfl) P

set_option maxHeartbeats 4000000 in
set_option maxRecDepth 100000 in
theorem sX6_ifValue_6 {X : Xt} {n : Nat} {h : HP} {a0 : Nat} {x1 : Int} {x2 : Int} {fs1 : List Value} {q2 : Nat} {fs3 : List Value} {q4 : Nat} {q5 : Nat} {fs6 : List Value} {q7 : Nat} {fs8 : List Value} (hc : Cx X cX6_ifValue RX6 3 8 138) {K : KT} (hr : CxR X (some .int) K) (e1 : At h n a0 (.inl (6, fs1))) (z1 : fs1.length = 6) (v1_1 : fs1[1]? = some (.ref q2)) (e3 : At h n q2 (.inl (0, fs3))) (z3 : fs3.length = 8) (v3_0 : fs3[0]? = some (.ref q4)) (v1_0 : fs1[0]? = some (.ref q5)) (e6 : At h n q5 (.inl (0, fs6))) (z6 : fs6.length = 8) (v6_0 : fs6[0]? = some (.ref q7)) (e8 : At h n q4 (.inl (4, fs8))) (z8 : fs8.length = 4)
    (P : spec_X4_copyFrom [.ref q4, .ref q7] n h (kc X 0 0 20 [(0, .ref a0), (1, .int (i3 x1)), (2, .int (i3 x2))] [] n)) :
    Ok X 0 0 6 [(0, .ref a0), (1, .int (i3 x1)), (2, .int (i3 x2))] [] n h := by
  refine ok_aload_n (pc := 6) hc dX6_ifValue_6 rfl 0 rfl ?_
  refine ok_get (pc := 7) hc fl_X6_16 dX6_ifValue_7 e1.1 e1.2 v1_1 ?_
  refine ok_get (pc := 10) hc fl_X6_43 dX6_ifValue_10 e3.1 e3.2 v3_0 ?_
  refine ok_aload_n (pc := 13) hc dX6_ifValue_13 rfl 0 rfl ?_
  refine ok_get (pc := 14) hc fl_X6_10 dX6_ifValue_14 e1.1 e1.2 v1_0 ?_
  refine ok_get (pc := 17) hc fl_X6_43 dX6_ifValue_17 e6.1 e6.2 v6_0 ?_
  exact ok_callV (pc := 20) (a := q4) (cb := 0) (sb := 0) (st := []) hc [.ref q7] cv_X6_149 sp_X4_copyFrom (by decide) dX6_ifValue_20 rfl e8.1 e8.2 rfl rfl rfl (Nat.le_of_ble_eq_true rfl) P

set_option maxHeartbeats 4000000 in
set_option maxRecDepth 100000 in
theorem sX6_ifValue_23 {X : Xt} {n : Nat} {h : HP} {a0 : Nat} {x1 : Int} {x2 : Int} {fs1 : List Value} {q2 : Nat} {fs3 : List Value} {q4 : Nat} {fs5 : List Value} {q6 : Nat} {fs7 : List Value} {q8 : Nat} {len9 : Nat} {f9 : Nat → Int} (hc : Cx X cX6_ifValue RX6 3 8 138) {K : KT} (hr : CxR X (some .int) K) (e1 : At h n a0 (.inl (6, fs1))) (z1 : fs1.length = 6) (v1_1 : fs1[1]? = some (.ref q2)) (e3 : At h n q2 (.inl (0, fs3))) (z3 : fs3.length = 8) (v3_0 : fs3[0]? = some (.ref q4)) (e5 : At h n q4 (.inl (4, fs5))) (z5 : fs5.length = 4) (v5_0 : fs5[0]? = some (.ref q6)) (e7 : At h n q6 (.inl (2, fs7))) (z7 : fs7.length = 5) (v7_3 : fs7[3]? = some (.ref q8)) (e9 : At h n q8 (ai len9 f9))
    (P : (Ix x1 len9) ∧ spec_X0_solve [.ref q2] n (va_up h q8 (ai len9 (va_up f9 (x1 : Int).toNat x2))) (kc X 0 0 43 [(0, .ref a0), (1, .int (i3 x1)), (2, .int (i3 x2))] [] n)) :
    Ok X 0 0 23 [(0, .ref a0), (1, .int (i3 x1)), (2, .int (i3 x2))] [] n h := by
  refine ok_aload_n (pc := 23) hc dX6_ifValue_23 rfl 0 rfl ?_
  refine ok_get (pc := 24) hc fl_X6_16 dX6_ifValue_24 e1.1 e1.2 v1_1 ?_
  refine ok_get (pc := 27) hc fl_X6_43 dX6_ifValue_27 e3.1 e3.2 v3_0 ?_
  refine ok_get (pc := 30) hc fl_X6_47 dX6_ifValue_30 e5.1 e5.2 v5_0 ?_
  refine ok_get (pc := 33) hc fl_X6_102 dX6_ifValue_33 e7.1 e7.2 v7_3 ?_
  refine ok_iload_n (pc := 36) hc dX6_ifValue_36 rfl 1 rfl ?_
  refine ok_iload_n (pc := 37) hc dX6_ifValue_37 rfl 2 rfl ?_
  obtain ⟨r, P⟩ := P
  refine zk_iast (pc := 38) hc dX6_ifValue_38 e9.1 e9.2 r ?_
  refine ok_aload_n (pc := 39) hc dX6_ifValue_39 rfl 0 rfl ?_
  refine ok_get (pc := 40) hc fl_X6_16 dX6_ifValue_40 e1.1 ((up_ne (ne_oa e1.2 e9.2)).trans e1.2) v1_1 ?_
  exact ok_callV (pc := 43) (a := q2) (cb := 0) (sb := 0) (st := []) hc [] cv_X6_40 sp_X0_solve (by decide) dX6_ifValue_43 rfl e3.1 ((up_ne (ne_oa e3.2 e9.2)).trans e3.2) rfl rfl rfl (Nat.le_of_ble_eq_true rfl) P

set_option maxHeartbeats 4000000 in
set_option maxRecDepth 100000 in
theorem sX6_ifValue_46 {X : Xt} {n : Nat} {h : HP} {a0 : Nat} {x1 : Int} {x2 : Int} {fs1 : List Value} {q2 : Nat} {fs3 : List Value} (hc : Cx X cX6_ifValue RX6 3 8 138) {K : KT} (hr : CxR X (some .int) K) (e1 : At h n a0 (.inl (6, fs1))) (z1 : fs1.length = 6) (v1_1 : fs1[1]? = some (.ref q2)) (e3 : At h n q2 (.inl (0, fs3))) (z3 : fs3.length = 8)
    (P : spec_X0_settle [.ref q2] n h (kc X 0 0 50 [(0, .ref a0), (1, .int (i3 x1)), (2, .int (i3 x2))] [] n)) :
    Ok X 0 0 46 [(0, .ref a0), (1, .int (i3 x1)), (2, .int (i3 x2))] [] n h := by
  refine ok_aload_n (pc := 46) hc dX6_ifValue_46 rfl 0 rfl ?_
  refine ok_get (pc := 47) hc fl_X6_16 dX6_ifValue_47 e1.1 e1.2 v1_1 ?_
  exact ok_callV (pc := 50) (a := q2) (cb := 0) (sb := 0) (st := []) hc [] cv_X6_64 sp_X0_settle (by decide) dX6_ifValue_50 rfl e3.1 e3.2 rfl rfl rfl (Nat.le_of_ble_eq_true rfl) P

set_option maxHeartbeats 4000000 in
set_option maxRecDepth 100000 in
theorem sX6_ifValue_53 {X : Xt} {n : Nat} {h : HP} {a0 : Nat} {x1 : Int} {x2 : Int} {fs1 : List Value} {q2 : Nat} {fs3 : List Value} {q4 : Nat} {fs5 : List Value} {iv6 : Int} {iv8 : Int} (hc : Cx X cX6_ifValue RX6 3 8 138) {K : KT} (hr : CxR X (some .int) K) (e1 : At h n a0 (.inl (6, fs1))) (z1 : fs1.length = 6) (v1_1 : fs1[1]? = some (.ref q2)) (e3 : At h n q2 (.inl (0, fs3))) (z3 : fs3.length = 8) (v3_0 : fs3[0]? = some (.ref q4)) (e5 : At h n q4 (.inl (4, fs5))) (z5 : fs5.length = 4) (v5_3 : fs5[3]? = some (.int (i3 iv6))) (v5_2 : fs5[2]? = some (.int (i3 iv8)))
    (P : (R3 iv6) ∧ (iv6 = 0 → K (.inl (some (.int (i3 (-1))))) n h) ∧ (¬ iv6 = 0 → K (.inl (some (.int (i3 iv8)))) n h)) :
    Ok X 0 0 53 [(0, .ref a0), (1, .int (i3 x1)), (2, .int (i3 x2))] [] n h := by
  refine ok_aload_n (pc := 53) hc dX6_ifValue_53 rfl 0 rfl ?_
  refine ok_get (pc := 54) hc fl_X6_16 dX6_ifValue_54 e1.1 e1.2 v1_1 ?_
  refine ok_get (pc := 57) hc fl_X6_43 dX6_ifValue_57 e3.1 e3.2 v3_0 ?_
  refine ok_get (pc := 60) hc fl_X6_179 dX6_ifValue_60 e5.1 e5.2 v5_3 ?_
  obtain ⟨r7, P⟩ := P
  refine zk_if_eq (pc := 63) (tgt := 79) hc dX6_ifValue_63 (by decide) r7 (fun c => ?_) (fun c => ?_)
  · have P := P.1 c
    refine ok_iconst (pc := 79) hc (v := i3 (-1)) dX6_ifValue_79 (by decide) ?_
    exact ok_iret (st := []) (pc := 80) hc hr dX6_ifValue_80 P
  · have P := P.2 c
    refine ok_aload_n (pc := 66) hc dX6_ifValue_66 rfl 0 rfl ?_
    refine ok_get (pc := 67) hc fl_X6_16 dX6_ifValue_67 e1.1 e1.2 v1_1 ?_
    refine ok_get (pc := 70) hc fl_X6_43 dX6_ifValue_70 e3.1 e3.2 v3_0 ?_
    refine ok_get (pc := 73) hc fl_X6_133 dX6_ifValue_73 e5.1 e5.2 v5_2 ?_
    refine ok_goto (pc := 76) (tgt := 80) hc dX6_ifValue_76 (by decide) ?_
    exact ok_iret (st := []) (pc := 80) hc hr dX6_ifValue_80 P

def opIf (q : Dsk) (x v : Int) : Int ⊕ String := match prt q.1.1 x with
  | none => .inr eIO
  | some p => if p.1 = 2 then .inr eIS else if stlB p v = true then .inl (if (setS (q.1.1.set x.toNat (valP p v), q.1.2)).2.2.2 = 0 then -1 else (setS (q.1.1.set x.toNat (valP p v), q.1.2)).2.2.1) else .inr eIA
def spec_X6_ifValue (args : List Value) (n : Nat) (h : HP) (K : KT) : Prop := ∃ (q : Dsk) (x v : Int), args = [.ref 0, .int (i3 x), .int (i3 v)] ∧ R3 x ∧ R3 v ∧ DkA h n q ∧ ∀ h', DkA h' n q → Fr h h' 0 127 → K (oV (opIf q x v)) n h'
theorem sp_X6_ifValue : Sp yX6_ifValue cX6_ifValue 3 (some .int) 8 138 2 12 spec_X6_ifValue := by
  refine sp_intro (by decide) (by rintro args n h K ⟨q, x, v, rfl, -⟩; exact Nat.le_of_ble_eq_true rfl) ?_
  rintro X args n h K hc hr ⟨q, x, v, rfl, hx, hv3, hq, kk⟩
  unfold opIf at kk
  have st : spec_X6_requireSettable [.ref 0, .int (i3 x), .int (i3 v)] n h (kc X 0 0 3 [(0, .ref 0), (1, .int (i3 x)), (2, .int (i3 v))] [] n) := by
    refine ⟨q, x, v, rfl, hx, hv3, hq, ?_⟩
    cases hp : prt q.1.1 x with
    | none =>
      rw [hp] at kk
      exact ⟨rfl, okT_out hc hr (kk h hq Fr.rf)⟩
    | some p =>
      rw [hp] at kk
      simp only at kk ⊢
      by_cases c2 : p.1 = 2
      · rw [if_pos c2] at kk ⊢
        exact ⟨rfl, okT_out hc hr (kk h hq Fr.rf)⟩
      · rw [if_neg c2] at kk ⊢
        by_cases cs : stlB p v = true
        · rw [if_pos cs] at kk ⊢
          refine ⟨rfl, ?_⟩
          obtain ⟨hr1, hp1⟩ := prt_some hp
          have hG : GdS q.1 := hq.2.2.2.2.2.2.1
          have hl12 : q.1.1.length ≤ 12 := hG.1.1
          obtain ⟨_, _, _, _, _, _, _, _, hB⟩ := hq.parts
          obtain ⟨T, hT⟩ := hq.2.2.1
          obtain ⟨A, F, D, N, sat, rsn, cul, G, hU⟩ := hT.obj
          refine sX6_ifValue_6 hc hr hq.1 rfl rfl hU.1 rfl rfl rfl hB.1 rfl rfl hU.2.1.1 rfl ⟨30, 2, T, q.1, rfl, hU.2.1, hB.2.1, by omega, fun h1 hS1 f1 => ⟨rfl, ?_⟩⟩
          have hU1 : BnC h1 n 29 q.1 A F D N sat rsn cul G := ⟨hU.1.fr f1 (by omega), hS1, hU.2.2.1.fr f1 (by omega), hU.2.2.2.1.fr f1 (by omega), hU.2.2.2.2.fr f1 (by omega)⟩
          obtain ⟨t, ht, hti, hval⟩ := hS1.val hG hp1 c2
          obtain ⟨hS2, g2⟩ := hval v cs
          have f2 : Fr h1 (va_up h1 35 (ai 12 (va_up t x.toNat v))) 35 35 := Fr.rf.up (by omega)
          have hU2 : BnC (va_up h1 35 (ai 12 (va_up t x.toNat v))) n 29 (q.1.1.set x.toNat (valP p v), q.1.2) A F D N sat rsn cul G := ⟨hU1.1.fr f2 (by omega), hS2, hU1.2.2.1.fr f2 (by omega), hU1.2.2.2.1.fr f2 (by omega), hU1.2.2.2.2.fr f2 (by omega)⟩
          have h01 := hq.1.fr f1 (by omega)
          refine sX6_ifValue_23 hc hr h01 rfl rfl hU1.1 rfl rfl hU1.2.1.1 rfl rfl hU1.2.1.2.1.obj rfl rfl ht ⟨⟨by omega, by omega, by omega⟩, 29, _, rfl, ⟨_, _, _, _, _, _, _, _, hU2⟩, g2.fit.1, g2.fit.2, fun h3 hA3 f3 => ⟨rfl, ?_⟩⟩
          obtain ⟨_, _, _, _, _, _, _, _, hU3⟩ := hA3.obj
          have f13 : Fr h h3 29 56 := ((f1.sub (by omega) (by omega)).tr (f2.sub (by omega) (by omega))).tr f3
          refine sX6_ifValue_46 hc hr (hq.1.fr f13 (by omega)) rfl rfl hU3.1 rfl ⟨29, _, rfl, hA3, fun h4 hA4 f4 => ⟨rfl, ?_⟩⟩
          obtain ⟨_, _, _, _, _, _, _, _, hU4⟩ := hA4.obj
          have f14 : Fr h h4 29 56 := f13.tr f4
          have k4 := kk h4 (hq.try hA4 f14) (f14.sub (by omega) (by omega))
          have hs4 := g2.set.2.2.2
          refine sX6_ifValue_53 hc hr (hq.1.fr f14 (by omega)) rfl rfl hU4.1 rfl rfl hU4.2.1.1 rfl rfl rfl ⟨R3_s (by omega), fun z => ?_, fun z => ?_⟩
          · rw [if_pos z] at k4
            exact k4
          · rw [if_neg z] at k4
            exact k4
        · rw [if_neg cs] at kk ⊢
          exact ⟨rfl, okT_out hc hr (kk h hq Fr.rf)⟩
  exact sX6_ifValue_0 hc hr hq.1 rfl st
