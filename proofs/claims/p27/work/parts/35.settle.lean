/-! part 35: class Bench: faultOf, judge, settle, nodeVoltage -/
def faultF (S : Stt) (m : Nat) (G : Nat → Int) (a : Nat) (p : Part) (st : Int) : Int := if st = 1 then (if 0 < signP S.1 m G p then 0 else 3) else if st = 2 then (if signP S.1 m G p < 0 then 0 else 4) else if absZ (numer S.1 m G p.2.2.2.toNat) ≤ S.2.1 * solD S.1 m then (if fbk S.1 m a p = true then 0 else 5) else 2
theorem faultF_g {S : Stt} {m : Nat} {G G' : Nat → Int} (h : ∀ j, j < 7 → G j = G' j) : faultF S m G = faultF S m G' := by
  funext a p st
  unfold faultF signP
  rw [numer_g h]
set_option maxHeartbeats 4000000 in
set_option maxRecDepth 100000 in
theorem sX0_faultOf_0 {X : Xt} {n : Nat} {h : HP} {a0 : Nat} {x1 : Int} {x2 : Int} {fs1 : List Value} {q2 : Nat} {len3 : Nat} {f3 : Nat → Int} (hc : Cx X cX0_faultOf RX0 6 2 46) {K : KT} (hr : CxR X (some .int) K) (e1 : At h n a0 (.inl (0, fs1))) (z1 : fs1.length = 8) (v1_1 : fs1[1]? = some (.ref q2)) (e3 : At h n q2 (ai len3 f3))
    (P : (Ix x1 len3) ∧ (R3 x2) ∧ (¬ x2 = 1 → Ok X 0 0 26 [(0, .ref a0), (1, .int (i3 x1)), (2, .int (i3 x2)), (3, .int (i3 (f3 (x1 : Int).toNat)))] [] n h) ∧ (x2 = 1 → spec_X0_signOfInput [.ref a0, .int (i3 (f3 (x1 : Int).toNat))] n h (kc X 0 0 14 [(0, .ref a0), (1, .int (i3 x1)), (2, .int (i3 x2)), (3, .int (i3 (f3 (x1 : Int).toNat)))] [] n))) :
    Ok X 0 0 0 [(0, .ref a0), (1, .int (i3 x1)), (2, .int (i3 x2))] [] n h := by
  refine ok_aload_n (pc := 0) hc dX0_faultOf_0 rfl 0 rfl ?_
  refine ok_get (pc := 1) hc fl_X0_18 dX0_faultOf_1 e1.1 e1.2 v1_1 ?_
  refine ok_iload_n (pc := 4) hc dX0_faultOf_4 rfl 1 rfl ?_
  obtain ⟨r, P⟩ := P
  refine zk_iald (pc := 5) hc dX0_faultOf_5 e3.1 e3.2 r ?_
  refine ok_istore_n (pc := 6) hc (lv' := [(3, .int (i3 (f3 (x1 : Int).toNat))), (0, .ref a0), (1, .int (i3 x1)), (2, .int (i3 x2))]) dX0_faultOf_6 rfl (by decide) rfl ?_
  refine ok_iload_n (pc := 7) hc dX0_faultOf_7 rfl 3 rfl ?_
  refine ok_iconst (pc := 8) hc (v := i3 1) dX0_faultOf_8 (by decide) ?_
  obtain ⟨r4, P⟩ := P
  refine zk_icmp_ne (pc := 9) (tgt := 26) hc dX0_faultOf_9 (by decide) r4 ⟨by decide, by decide⟩ (fun c => ?_) (fun c => ?_)
  · have P := P.1 c
    refine ok_lv [1, 2, 3, 0] rfl ?_
    exact P
  · have P := P.2 c
    refine ok_aload_n (pc := 12) hc dX0_faultOf_12 rfl 1 rfl ?_
    refine ok_iload_n (pc := 13) hc dX0_faultOf_13 rfl 0 rfl ?_
    refine ok_lv [1, 2, 3, 0] rfl ?_
    exact ok_callV (pc := 14) (a := a0) (cb := 0) (sb := 0) (st := []) hc [.int (i3 (f3 (x1 : Int).toNat))] cv_X0_137 sp_X0_signOfInput (by decide) dX0_faultOf_14 rfl e1.1 e1.2 rfl rfl rfl (Nat.le_of_ble_eq_true rfl) P

set_option maxHeartbeats 4000000 in
set_option maxRecDepth 100000 in
theorem sX0_faultOf_17 {X : Xt} {n : Nat} {h : HP} {a0 : Nat} {x1 : Int} {x2 : Int} {x3 : Int} {t0 : Int} (hc : Cx X cX0_faultOf RX0 6 2 46) {K : KT} (hr : CxR X (some .int) K) 
    (P : (R3 t0) ∧ (t0 ≤ 0 → K (.inl (some (.int (i3 3)))) n h) ∧ (¬ t0 ≤ 0 → K (.inl (some (.int (i3 0)))) n h)) :
    Ok X 0 0 17 [(0, .ref a0), (1, .int (i3 x1)), (2, .int (i3 x2)), (3, .int (i3 x3))] [.int (i3 t0)] n h := by
  obtain ⟨r1, P⟩ := P
  refine zk_if_le (pc := 17) (tgt := 24) hc dX0_faultOf_17 (by decide) r1 (fun c => ?_) (fun c => ?_)
  · have P := P.1 c
    refine ok_iconst (pc := 24) hc (v := i3 3) dX0_faultOf_24 (by decide) ?_
    exact ok_iret (st := []) (pc := 25) hc hr dX0_faultOf_25 P
  · have P := P.2 c
    refine ok_iconst (pc := 20) hc (v := i3 0) dX0_faultOf_20 (by decide) ?_
    refine ok_goto (pc := 21) (tgt := 25) hc dX0_faultOf_21 (by decide) ?_
    exact ok_iret (st := []) (pc := 25) hc hr dX0_faultOf_25 P

set_option maxHeartbeats 4000000 in
set_option maxRecDepth 100000 in
theorem sX0_faultOf_26 {X : Xt} {n : Nat} {h : HP} {a0 : Nat} {x1 : Int} {x2 : Int} {x3 : Int} {fs2 : List Value} (hc : Cx X cX0_faultOf RX0 6 2 46) {K : KT} (hr : CxR X (some .int) K) (e2 : At h n a0 (.inl (0, fs2))) (z2 : fs2.length = 8)
    (P : (R3 x2) ∧ (¬ x2 = 2 → Ok X 0 0 45 [(0, .ref a0), (1, .int (i3 x1)), (2, .int (i3 x2)), (3, .int (i3 x3))] [] n h) ∧ (x2 = 2 → spec_X0_signOfInput [.ref a0, .int (i3 x3)] n h (kc X 0 0 33 [(0, .ref a0), (1, .int (i3 x1)), (2, .int (i3 x2)), (3, .int (i3 x3))] [] n))) :
    Ok X 0 0 26 [(0, .ref a0), (1, .int (i3 x1)), (2, .int (i3 x2)), (3, .int (i3 x3))] [] n h := by
  refine ok_iload_n (pc := 26) hc dX0_faultOf_26 rfl 2 rfl ?_
  refine ok_iconst (pc := 27) hc (v := i3 2) dX0_faultOf_27 (by decide) ?_
  obtain ⟨r1, P⟩ := P
  refine zk_icmp_ne (pc := 28) (tgt := 45) hc dX0_faultOf_28 (by decide) r1 ⟨by decide, by decide⟩ (fun c => ?_) (fun c => ?_)
  · have P := P.1 c
    exact P
  · have P := P.2 c
    refine ok_aload_n (pc := 31) hc dX0_faultOf_31 rfl 0 rfl ?_
    refine ok_iload_n (pc := 32) hc dX0_faultOf_32 rfl 3 rfl ?_
    exact ok_callV (pc := 33) (a := a0) (cb := 0) (sb := 0) (st := []) hc [.int (i3 x3)] cv_X0_137 sp_X0_signOfInput (by decide) dX0_faultOf_33 rfl e2.1 e2.2 rfl rfl rfl (Nat.le_of_ble_eq_true rfl) P

set_option maxHeartbeats 4000000 in
set_option maxRecDepth 100000 in
theorem sX0_faultOf_36 {X : Xt} {n : Nat} {h : HP} {a0 : Nat} {x1 : Int} {x2 : Int} {x3 : Int} {t0 : Int} (hc : Cx X cX0_faultOf RX0 6 2 46) {K : KT} (hr : CxR X (some .int) K) 
    (P : (R3 t0) ∧ (0 ≤ t0 → K (.inl (some (.int (i3 4)))) n h) ∧ (¬ 0 ≤ t0 → K (.inl (some (.int (i3 0)))) n h)) :
    Ok X 0 0 36 [(0, .ref a0), (1, .int (i3 x1)), (2, .int (i3 x2)), (3, .int (i3 x3))] [.int (i3 t0)] n h := by
  obtain ⟨r1, P⟩ := P
  refine zk_if_ge (pc := 36) (tgt := 43) hc dX0_faultOf_36 (by decide) r1 (fun c => ?_) (fun c => ?_)
  · have P := P.1 c
    refine ok_iconst (pc := 43) hc (v := i3 4) dX0_faultOf_43 (by decide) ?_
    exact ok_iret (st := []) (pc := 44) hc hr dX0_faultOf_44 P
  · have P := P.2 c
    refine ok_iconst (pc := 39) hc (v := i3 0) dX0_faultOf_39 (by decide) ?_
    refine ok_goto (pc := 40) (tgt := 44) hc dX0_faultOf_40 (by decide) ?_
    exact ok_iret (st := []) (pc := 44) hc hr dX0_faultOf_44 P

set_option maxHeartbeats 4000000 in
set_option maxRecDepth 100000 in
theorem sX0_faultOf_45 {X : Xt} {n : Nat} {h : HP} {a0 : Nat} {x1 : Int} {x2 : Int} {x3 : Int} {fs1 : List Value} {q2 : Nat} {fs3 : List Value} {iv4 : Int} (hc : Cx X cX0_faultOf RX0 6 2 46) {K : KT} (hr : CxR X (some .int) K) (e1 : At h n a0 (.inl (0, fs1))) (z1 : fs1.length = 8) (v1_0 : fs1[0]? = some (.ref q2)) (e3 : At h n q2 (.inl (4, fs3))) (z3 : fs3.length = 4) (v3_1 : fs3[1]? = some (.int (i3 iv4)))
    (P : (R3 iv4) ∧ spec_X0_denominator [.ref a0] n h (kc X 0 0 54 [(0, .ref a0), (1, .int (i3 x1)), (2, .int (i3 x2)), (3, .int (i3 x3))] [.long (i6 iv4)] n)) :
    Ok X 0 0 45 [(0, .ref a0), (1, .int (i3 x1)), (2, .int (i3 x2)), (3, .int (i3 x3))] [] n h := by
  refine ok_aload_n (pc := 45) hc dX0_faultOf_45 rfl 0 rfl ?_
  refine ok_get (pc := 46) hc fl_X0_12 dX0_faultOf_46 e1.1 e1.2 v1_0 ?_
  refine ok_get (pc := 49) hc fl_X0_106 dX0_faultOf_49 e3.1 e3.2 v3_1 ?_
  obtain ⟨r5, P⟩ := P
  refine zk_i2l (pc := 52) hc dX0_faultOf_52 r5 ?_
  refine ok_aload_n (pc := 53) hc dX0_faultOf_53 rfl 0 rfl ?_
  exact ok_callV (pc := 54) (a := a0) (cb := 0) (sb := 0) (st := [.long (i6 iv4)]) hc [] cv_X0_130 sp_X0_denominator (by decide) dX0_faultOf_54 rfl e1.1 e1.2 rfl rfl rfl (Nat.le_of_ble_eq_true rfl) P

set_option maxHeartbeats 4000000 in
set_option maxRecDepth 100000 in
theorem sX0_faultOf_57 {X : Xt} {n : Nat} {h : HP} {a0 : Nat} {x1 : Int} {x2 : Int} {x3 : Int} {tl0 : Int} {tl1 : Int} {fs1 : List Value} {q2 : Nat} {fs3 : List Value} {q4 : Nat} {fs5 : List Value} {q6 : Nat} {len7 : Nat} {f7 : Nat → Int} (hc : Cx X cX0_faultOf RX0 6 2 46) {K : KT} (hr : CxR X (some .int) K) (e1 : At h n a0 (.inl (0, fs1))) (z1 : fs1.length = 8) (v1_0 : fs1[0]? = some (.ref q2)) (e3 : At h n q2 (.inl (4, fs3))) (z3 : fs3.length = 4) (v3_0 : fs3[0]? = some (.ref q4)) (e5 : At h n q4 (.inl (2, fs5))) (z5 : fs5.length = 5) (v5_3 : fs5[3]? = some (.ref q6)) (e7 : At h n q6 (ai len7 f7))
    (P : (Ix x3 len7) ∧ spec_X0_numerator [.ref a0, .int (i3 (f7 (x3 : Int).toNat))] n h (kc X 0 0 73 [(0, .ref a0), (1, .int (i3 x1)), (2, .int (i3 x2)), (3, .int (i3 x3)), (4, .long (i6 (tl1 * tl0)))] [] n)) :
    Ok X 0 0 57 [(0, .ref a0), (1, .int (i3 x1)), (2, .int (i3 x2)), (3, .int (i3 x3))] [.long (i6 tl0), .long (i6 tl1)] n h := by
  refine zk_lmul (pc := 57) hc dX0_faultOf_57 ?_
  refine ok_lstore (pc := 58) hc (lv' := [(4, .long (i6 (tl1 * tl0))), (0, .ref a0), (1, .int (i3 x1)), (2, .int (i3 x2)), (3, .int (i3 x3))]) dX0_faultOf_58 (by decide) rfl ?_
  refine ok_aload_n (pc := 60) hc dX0_faultOf_60 rfl 1 rfl ?_
  refine ok_aload_n (pc := 61) hc dX0_faultOf_61 rfl 1 rfl ?_
  refine ok_get (pc := 62) hc fl_X0_12 dX0_faultOf_62 e1.1 e1.2 v1_0 ?_
  refine ok_get (pc := 65) hc fl_X0_44 dX0_faultOf_65 e3.1 e3.2 v3_0 ?_
  refine ok_get (pc := 68) hc fl_X0_103 dX0_faultOf_68 e5.1 e5.2 v5_3 ?_
  refine ok_iload_n (pc := 71) hc dX0_faultOf_71 rfl 4 rfl ?_
  obtain ⟨r, P⟩ := P
  refine zk_iald (pc := 72) hc dX0_faultOf_72 e7.1 e7.2 r ?_
  refine ok_lv [1, 2, 3, 4, 0] rfl ?_
  exact ok_callV (pc := 73) (a := a0) (cb := 0) (sb := 0) (st := []) hc [.int (i3 (f7 (x3 : Int).toNat))] cv_X0_127 sp_X0_numerator (by decide) dX0_faultOf_73 rfl e1.1 e1.2 rfl rfl rfl (Nat.le_of_ble_eq_true rfl) P

set_option maxHeartbeats 4000000 in
set_option maxRecDepth 100000 in
theorem sX0_faultOf_76 {X : Xt} {n : Nat} {h : HP} {a0 : Nat} {x1 : Int} {x2 : Int} {x3 : Int} {l4 : Int} {tl0 : Int} {fs1 : List Value} (hc : Cx X cX0_faultOf RX0 6 2 46) {K : KT} (hr : CxR X (some .int) K) (e1 : At h n a0 (.inl (0, fs1))) (z1 : fs1.length = 8)
    (P : (R6 tl0) ∧ (R6 (absZ tl0) ∧ R6 l4) ∧ ((absZ tl0) ≤ l4 → spec_X0_hasNegativeFeedback [.ref a0, .int (i3 x1)] n h (kc X 0 0 89 [(0, .ref a0), (1, .int (i3 x1)), (2, .int (i3 x2)), (3, .int (i3 x3)), (4, .long (i6 l4))] [] n)) ∧ (¬ (absZ tl0) ≤ l4 → K (.inl (some (.int (i3 2)))) n h)) :
    Ok X 0 0 76 [(0, .ref a0), (1, .int (i3 x1)), (2, .int (i3 x2)), (3, .int (i3 x3)), (4, .long (i6 l4))] [.long (i6 tl0)] n h := by
  obtain ⟨r0, P⟩ := P
  refine ok_callS (pc := 76) (cb := 0) (sb := 0) (st := []) hc [.long (i6 tl0)] cs_X0_161 sp_J9_abs_067f4 (by decide) dX0_faultOf_76 rfl rfl rfl rfl (Nat.le_of_ble_eq_true rfl) (⟨_, rfl, r0, rfl, ?_⟩)
  show Ok X 0 0 (76 + 3) [(0, .ref a0), (1, .int (i3 x1)), (2, .int (i3 x2)), (3, .int (i3 x3)), (4, .long (i6 l4))] [.long (i6 (absZ tl0))] n h
  refine ok_lload (pc := 79) hc dX0_faultOf_79 4 rfl ?_
  obtain ⟨r, P⟩ := P
  refine zk_lcmp (pc := 81) hc dX0_faultOf_81 r ?_
  refine zk_if_le (pc := 82) (tgt := 87) hc dX0_faultOf_82 (by decide) R3_cmp (fun c => ?_) (fun c => ?_)
  · have P := P.1 (cmp_le.mp c)
    refine ok_aload_n (pc := 87) hc dX0_faultOf_87 rfl 0 rfl ?_
    refine ok_iload_n (pc := 88) hc dX0_faultOf_88 rfl 1 rfl ?_
    exact ok_callV (pc := 89) (a := a0) (cb := 0) (sb := 0) (st := []) hc [.int (i3 x1)] cv_X0_167 sp_X0_hasNegativeFeedback (by decide) dX0_faultOf_89 rfl e1.1 e1.2 rfl rfl rfl (Nat.le_of_ble_eq_true rfl) P
  · have P := P.2 (fun z => c (cmp_le.mpr z))
    refine ok_iconst (pc := 85) hc (v := i3 2) dX0_faultOf_85 (by decide) ?_
    exact ok_iret (st := []) (pc := 86) hc hr dX0_faultOf_86 P

set_option maxHeartbeats 4000000 in
set_option maxRecDepth 100000 in
theorem sX0_faultOf_92 {X : Xt} {n : Nat} {h : HP} {a0 : Nat} {x1 : Int} {x2 : Int} {x3 : Int} {l4 : Int} {t0 : Int} (hc : Cx X cX0_faultOf RX0 6 2 46) {K : KT} (hr : CxR X (some .int) K) 
    (P : (R3 t0) ∧ (t0 = 0 → K (.inl (some (.int (i3 5)))) n h) ∧ (¬ t0 = 0 → K (.inl (some (.int (i3 0)))) n h)) :
    Ok X 0 0 92 [(0, .ref a0), (1, .int (i3 x1)), (2, .int (i3 x2)), (3, .int (i3 x3)), (4, .long (i6 l4))] [.int (i3 t0)] n h := by
  obtain ⟨r1, P⟩ := P
  refine zk_if_eq (pc := 92) (tgt := 99) hc dX0_faultOf_92 (by decide) r1 (fun c => ?_) (fun c => ?_)
  · have P := P.1 c
    refine ok_iconst (pc := 99) hc (v := i3 5) dX0_faultOf_99 (by decide) ?_
    exact ok_iret (st := []) (pc := 100) hc hr dX0_faultOf_100 P
  · have P := P.2 c
    refine ok_iconst (pc := 95) hc (v := i3 0) dX0_faultOf_95 (by decide) ?_
    refine ok_goto (pc := 96) (tgt := 100) hc dX0_faultOf_96 (by decide) ?_
    exact ok_iret (st := []) (pc := 100) hc hr dX0_faultOf_100 P

def spec_X0_faultOf (args : List Value) (n : Nat) (h : HP) (K : KT) : Prop := ∃ (b m a i : Nat) (S : Stt) (rsn cul : Int) (G : Nat → Int) (p : Part) (st : Int), args = [.ref b, .int (i3 a), .int (i3 st)] ∧ BnK h n b S (m : Nat) rsn cul G ∧ m < 2 ^ nA S.1 ∧ BdG G ∧ AmpAt S.1 a i p ∧ (0 ≤ st ∧ st ≤ 2) ∧ K (.inl (some (.int (i3 (faultF S m G a p st))))) n h
theorem sp_X0_faultOf : Sp yX0_faultOf cX0_faultOf 6 (some .int) 2 46 0 0 spec_X0_faultOf := by
  refine sp_intro (by decide) (by rintro args n h K ⟨b, m, a, i, S, _, _, _, _, _, rfl, -⟩; exact Nat.le_of_ble_eq_true rfl) ?_
  rintro X args n h K hc hr ⟨b, m, a, i, S, rsn, cul, G, p, st, rfl, hK, hm, hG, hA, hst, kk⟩
  obtain ⟨F, D, N, hB, h3, hFit, hF, hDN⟩ := id hK
  obtain ⟨k, f, s, t, E, E1, E2, E3, E4, hv, hw, hl, hcap⟩ := id hB.2.1.2.1
  have hi := hA.lt
  have hpe := Option.some.inj ((hv i hi.1).symm.trans hA.1)
  have hPW := hw p (List.mem_of_getElem? hA.1)
  have h2 := hA.2.1
  unfold PW at hPW
  have et : t i = p.2.2.2 := by rw [← hpe]
  have hFa : F (a : Int).toNat = i := by rw [Int.toNat_natCast]; exact hF a i p hA
  have hrail := hB.2.1.2.2.1
  have rs : R3 (signP S.1 m G p) := R3_cmp
  unfold faultF at kk
  refine sX0_faultOf_0 hc hr hB.1 rfl rfl hB.2.2.1 ⟨⟨by omega, by omega, by omega⟩, R3_s (by omega), fun c1 => ?_, fun c1 => ?_⟩
  · rw [if_neg c1] at kk
    refine sX0_faultOf_26 hc hr hB.1 rfl ⟨R3_s (by omega), fun c2 => ?_, fun c2 => ?_⟩
    · rw [if_neg c2] at kk
      have hn := numer_bd hFit hm (show p.2.2.2.toNat < 7 by omega) hG
      have hD := hFit.sD hm
      have hx := mul_bd (B := 1000) (C := 536870912) (a := S.2.1) (b := solD S.1 m) (by omega) (by omega)
      refine sX0_faultOf_45 hc hr hB.1 rfl rfl hB.2.1.1 rfl rfl ⟨R3_s (by omega), b, m, S, rsn, cul, G, rfl, hK, hm, rfl, ?_⟩
      refine sX0_faultOf_57 hc hr hB.1 rfl rfl hB.2.1.1 rfl rfl E rfl rfl E4 ⟨by rw [hFa]; exact ⟨by omega, by omega, by omega⟩, b, m, p.2.2.2.toNat, S, rsn, cul, G, by rw [hFa, Int.toNat_natCast, et, Int.toNat_of_nonneg (by omega)], hK, hm, by omega, rfl, ?_⟩
      have ha : R6 (absZ (numer S.1 m G p.2.2.2.toNat)) := by
        unfold absZ
        split <;> exact ⟨by omega, by omega⟩
      refine sX0_faultOf_76 hc hr hB.1 rfl ⟨⟨by omega, by omega⟩, ⟨ha, ⟨by omega, by omega⟩⟩, fun c3 => ?_, fun c3 => ?_⟩
      · rw [if_pos c3] at kk
        refine ⟨b, m, a, i, S, rsn, cul, G, p, rfl, hK, hm, hA, rfl, sX0_faultOf_92 hc hr ⟨bz01 _, fun c4 => ?_, fun c4 => ?_⟩⟩
        · rw [if_neg (by rw [bz0.mp c4]; simp)] at kk
          exact kk
        · rw [if_pos (by
            cases e : fbk S.1 m a p with
            | true => rfl
            | false => exact absurd (bz0.mpr e) c4)] at kk
          exact kk
      · rw [if_neg c3] at kk
        exact kk
    · rw [if_pos c2] at kk
      refine ⟨b, m, i, S, rsn, cul, G, p, by rw [hFa], hK, hm, hG, hA.1, h2, rfl, sX0_faultOf_36 hc hr ⟨rs, fun c3 => ?_, fun c3 => ?_⟩⟩
      · rw [if_neg (by omega)] at kk
        exact kk
      · rw [if_pos (by omega)] at kk
        exact kk
  · rw [if_pos c1] at kk
    refine ⟨b, m, i, S, rsn, cul, G, p, by rw [hFa], hK, hm, hG, hA.1, h2, rfl, sX0_faultOf_17 hc hr ⟨rs, fun c3 => ?_, fun c3 => ?_⟩⟩
    · rw [if_neg (by omega)] at kk
      exact kk
    · rw [if_pos (by omega)] at kk
      exact kk
def judL (S : Stt) (m : Nat) (G : Nat → Int) (c : Int) : List Part → Nat → Int × Int
  | [], _ => (0, -1)
  | p :: l, a => if faultF S m G a p (c / 3 ^ a % 3) = 0 then judL S m G c l (a + 1) else (faultF S m G a p (c / 3 ^ a % 3), (a : Int))
/-- a case's reason and the amplifier concerned -/
def jud (S : Stt) (c : Int) : Int × Int := if solD S.1 (satN c (nA S.1)) = 0 then (1, -1) else judL S (satN c (nA S.1)) (givC S c) c (amps S.1) 0
set_option maxHeartbeats 4000000 in
set_option maxRecDepth 100000 in
theorem sX0_judge_0 {X : Xt} {n : Nat} {h : HP} {a0 : Nat} {x1 : Int} {fs1 : List Value} (hc : Cx X cX0_judge RX0 3 3 71) {K : KT} (hr : CxR X none K) (e1 : At h n a0 (.inl (0, fs1))) (z1 : fs1.length = 8)
    (P : spec_X0_isDetermined [.ref a0, .int (i3 x1)] n (va_up h a0 (.inl (0, (fs1.set 7 (.int (i3 (-1))))))) (kc X 0 0 7 [(0, .ref a0), (1, .int (i3 x1))] [] n)) :
    Ok X 0 0 0 [(0, .ref a0), (1, .int (i3 x1))] [] n h := by
  refine ok_aload_n (pc := 0) hc dX0_judge_0 rfl 0 rfl ?_
  refine ok_iconst (pc := 1) hc (v := i3 (-1)) dX0_judge_1 (by decide) ?_
  refine ok_put (pc := 2) hc fl_X0_155 dX0_judge_2 e1.1 e1.2 (by simp [List.length_set, z1]) (fun _ => rfl) (fun _ => rfl) ?_
  refine ok_aload_n (pc := 5) hc dX0_judge_5 rfl 0 rfl ?_
  refine ok_iload_n (pc := 6) hc dX0_judge_6 rfl 1 rfl ?_
  exact ok_callV (pc := 7) (a := a0) (cb := 0) (sb := 0) (st := []) hc [.int (i3 x1)] cv_X0_120 sp_X0_isDetermined (by decide) dX0_judge_7 rfl e1.1 up_self rfl rfl rfl (Nat.le_of_ble_eq_true rfl) P

set_option maxHeartbeats 4000000 in
set_option maxRecDepth 100000 in
theorem sX0_judge_10 {X : Xt} {n : Nat} {h : HP} {a0 : Nat} {x1 : Int} {t0 : Int} {fs2 : List Value} (hc : Cx X cX0_judge RX0 3 3 71) {K : KT} (hr : CxR X none K) (e2 : At h n a0 (.inl (0, fs2))) (z2 : fs2.length = 8)
    (P : (R3 t0) ∧ (¬ t0 = 0 → spec_X0_choose [.ref a0, .int (i3 x1)] n h (kc X 0 0 21 [(0, .ref a0), (1, .int (i3 x1))] [] n)) ∧ (t0 = 0 → K (.inl none) n (va_up h a0 (.inl (0, (fs2.set 6 (.int (i3 1)))))))) :
    Ok X 0 0 10 [(0, .ref a0), (1, .int (i3 x1))] [.int (i3 t0)] n h := by
  obtain ⟨r1, P⟩ := P
  refine zk_if_ne (pc := 10) (tgt := 19) hc dX0_judge_10 (by decide) r1 (fun c => ?_) (fun c => ?_)
  · have P := P.1 c
    refine ok_aload_n (pc := 19) hc dX0_judge_19 rfl 0 rfl ?_
    refine ok_iload_n (pc := 20) hc dX0_judge_20 rfl 1 rfl ?_
    exact ok_callV (pc := 21) (a := a0) (cb := 0) (sb := 0) (st := []) hc [.int (i3 x1)] cv_X0_123 sp_X0_choose (by decide) dX0_judge_21 rfl e2.1 e2.2 rfl rfl rfl (Nat.le_of_ble_eq_true rfl) P
  · have P := P.2 c
    refine ok_aload_n (pc := 13) hc dX0_judge_13 rfl 0 rfl ?_
    refine ok_iconst (pc := 14) hc (v := i3 1) dX0_judge_14 (by decide) ?_
    refine ok_put (pc := 15) hc fl_X0_152 dX0_judge_15 e2.1 e2.2 (by simp [List.length_set, z2]) (fun _ => rfl) (fun _ => rfl) ?_
    exact ok_vret (st := []) (pc := 18) hc hr dX0_judge_18 P

set_option maxHeartbeats 4000000 in
set_option maxRecDepth 100000 in
theorem sX0_judge_24 {X : Xt} {n : Nat} {h : HP} {a0 : Nat} {x1 : Int} (hc : Cx X cX0_judge RX0 3 3 71) {K : KT} (hr : CxR X none K) 
    (P : Ok X 0 0 26 [(0, .ref a0), (1, .int (i3 x1)), (2, .int (i3 0))] [] n h) :
    Ok X 0 0 24 [(0, .ref a0), (1, .int (i3 x1))] [] n h := by
  refine ok_iconst (pc := 24) hc (v := i3 0) dX0_judge_24 (by decide) ?_
  refine ok_istore_n (pc := 25) hc (lv' := [(2, .int (i3 0)), (0, .ref a0), (1, .int (i3 x1))]) dX0_judge_25 rfl (by decide) rfl ?_
  refine ok_lv [1, 2, 0] rfl ?_
  exact P

set_option maxHeartbeats 4000000 in
set_option maxRecDepth 100000 in
theorem sX0_judge_26 {X : Xt} {n : Nat} {h : HP} {a0 : Nat} {x1 : Int} {x2 : Int} {fs1 : List Value} {iv2 : Int} (hc : Cx X cX0_judge RX0 3 3 71) {K : KT} (hr : CxR X none K) (e1 : At h n a0 (.inl (0, fs1))) (z1 : fs1.length = 8) (v1_2 : fs1[2]? = some (.int (i3 iv2)))
    (P : (R3 x2) ∧ (R3 iv2) ∧ (iv2 ≤ x2 → K (.inl none) n (va_up h a0 (.inl (0, (fs1.set 6 (.int (i3 0))))))) ∧ (¬ iv2 ≤ x2 → Ok X 0 0 34 [(0, .ref a0), (1, .int (i3 x1)), (2, .int (i3 x2))] [] n h)) :
    Ok X 0 0 26 [(0, .ref a0), (1, .int (i3 x1)), (2, .int (i3 x2))] [] n h := by
  refine ok_iload_n (pc := 26) hc dX0_judge_26 rfl 2 rfl ?_
  refine ok_aload_n (pc := 27) hc dX0_judge_27 rfl 0 rfl ?_
  refine ok_get (pc := 28) hc fl_X0_40 dX0_judge_28 e1.1 e1.2 v1_2 ?_
  obtain ⟨r3, P⟩ := P
  obtain ⟨r4, P⟩ := P
  refine zk_icmp_ge (pc := 31) (tgt := 67) hc dX0_judge_31 (by decide) r3 r4 (fun c => ?_) (fun c => ?_)
  · have P := P.1 c
    refine ok_aload_n (pc := 67) hc dX0_judge_67 rfl 0 rfl ?_
    refine ok_iconst (pc := 68) hc (v := i3 0) dX0_judge_68 (by decide) ?_
    refine ok_put (pc := 69) hc fl_X0_152 dX0_judge_69 e1.1 e1.2 (by simp [List.length_set, z1]) (fun _ => rfl) (fun _ => rfl) ?_
    exact ok_vret (st := []) (pc := 72) hc hr dX0_judge_72 P
  · have P := P.2 c
    exact P

set_option maxHeartbeats 4000000 in
set_option maxRecDepth 100000 in
theorem sX0_judge_34 {X : Xt} {n : Nat} {h : HP} {a0 : Nat} {x1 : Int} {x2 : Int} {fs1 : List Value} (hc : Cx X cX0_judge RX0 3 3 71) {K : KT} (hr : CxR X none K) (e1 : At h n a0 (.inl (0, fs1))) (z1 : fs1.length = 8)
    (P : ((0 ≤ x1 ∧ x1 ≤ 2147483647) ∧ 0 ≤ x2 ∧ x2 < 4) ∧ spec_X0_faultOf [.ref a0, .int (i3 x2), .int (i3 (x1 / 3 ^ (x2).toNat % 3))] n h (kc X 0 0 42 [(0, .ref a0), (1, .int (i3 x1)), (2, .int (i3 x2))] [.ref a0] n)) :
    Ok X 0 0 34 [(0, .ref a0), (1, .int (i3 x1)), (2, .int (i3 x2))] [] n h := by
  refine ok_aload_n (pc := 34) hc dX0_judge_34 rfl 0 rfl ?_
  refine ok_aload_n (pc := 35) hc dX0_judge_35 rfl 0 rfl ?_
  refine ok_iload_n (pc := 36) hc dX0_judge_36 rfl 2 rfl ?_
  refine ok_iload_n (pc := 37) hc dX0_judge_37 rfl 1 rfl ?_
  refine ok_iload_n (pc := 38) hc dX0_judge_38 rfl 2 rfl ?_
  obtain ⟨r0, P⟩ := P
  refine ok_callN (pc := 39) (cb := 0) (sb := 0) (st := [.int (i3 x2), .ref a0, .ref a0]) hc [.int (i3 x1), .int (i3 x2)] cn_X0_81 sp_X6_stateIn (by decide) dX0_judge_39 rfl rfl rfl rfl (Nat.le_of_ble_eq_true rfl) (⟨_, _, rfl, r0, rfl, ?_⟩)
  show Ok X 0 0 (39 + 3) [(0, .ref a0), (1, .int (i3 x1)), (2, .int (i3 x2))] [.int (i3 (x1 / 3 ^ (x2).toNat % 3)), .int (i3 x2), .ref a0, .ref a0] n h
  exact ok_callV (pc := 42) (a := a0) (cb := 0) (sb := 0) (st := [.ref a0]) hc [.int (i3 x2), .int (i3 (x1 / 3 ^ (x2).toNat % 3))] cv_X0_158 sp_X0_faultOf (by decide) dX0_judge_42 rfl e1.1 e1.2 rfl rfl rfl (Nat.le_of_ble_eq_true rfl) P

set_option maxHeartbeats 4000000 in
set_option maxRecDepth 100000 in
theorem sX0_judge_45 {X : Xt} {n : Nat} {h : HP} {a0 : Nat} {x1 : Int} {x2 : Int} {t0 : Int} {fs1 : List Value} (hc : Cx X cX0_judge RX0 3 3 71) {K : KT} (hr : CxR X none K) (e1 : At h n a0 (.inl (0, fs1))) (z1 : fs1.length = 8)
    (P : (R3 t0) ∧ (t0 = 0 → Ok X 0 0 26 [(0, .ref a0), (1, .int (i3 x1)), (2, .int (i3 (x2 + 1)))] [] n (va_up h a0 (.inl (0, (fs1.set 6 (.int (i3 t0))))))) ∧ (¬ t0 = 0 → K (.inl none) n (va_up (va_up h a0 (.inl (0, (fs1.set 6 (.int (i3 t0)))))) a0 (.inl (0, ((fs1.set 6 (.int (i3 t0))).set 7 (.int (i3 x2)))))))) :
    Ok X 0 0 45 [(0, .ref a0), (1, .int (i3 x1)), (2, .int (i3 x2))] [.int (i3 t0), .ref a0] n h := by
  refine ok_put (pc := 45) hc fl_X0_152 dX0_judge_45 e1.1 e1.2 (by simp [List.length_set, z1]) (fun _ => rfl) (fun _ => rfl) ?_
  refine ok_aload_n (pc := 48) hc dX0_judge_48 rfl 0 rfl ?_
  refine ok_get (pc := 49) hc fl_X0_152 dX0_judge_49 e1.1 up_self (set_self (by simp [List.length_set, z1])) ?_
  obtain ⟨r2, P⟩ := P
  refine zk_if_eq (pc := 52) (tgt := 61) hc dX0_judge_52 (by decide) r2 (fun c => ?_) (fun c => ?_)
  · have P := P.1 c
    refine zk_iinc (pc := 61) hc (q := 2) (x := x2) (lv' := [(2, .int (i3 (x2 + 1))), (0, .ref a0), (1, .int (i3 x1))]) dX0_judge_61 rfl (by decide) rfl ?_
    refine ok_goto (pc := 64) (tgt := 26) hc dX0_judge_64 (by decide) ?_
    refine ok_lv [1, 2, 0] rfl ?_
    exact P
  · have P := P.2 c
    refine ok_aload_n (pc := 55) hc dX0_judge_55 rfl 0 rfl ?_
    refine ok_iload_n (pc := 56) hc dX0_judge_56 rfl 2 rfl ?_
    refine ok_put (pc := 57) hc fl_X0_155 dX0_judge_57 e1.1 up_self (by simp [List.length_set, z1]) (fun _ => rfl) (fun _ => rfl) ?_
    exact ok_vret (st := []) (pc := 60) hc hr dX0_judge_60 P

def spec_X0_judge (args : List Value) (n : Nat) (h : HP) (K : KT) : Prop := ∃ (b : Nat) (S : Stt) (c : Int), args = [.ref b, .int (i3 c)] ∧ BnA h n b S ∧ (0 ≤ c ∧ c ≤ 26) ∧ ∀ (h' : HP) (sat : Int) (G' : Nat → Int), BnK h' n b S sat (jud S c).1 (jud S c).2 G' → Fr h h' b (b + 27) → K (.inl none) n h'
theorem faultF_r {S : Stt} {m : Nat} {G : Nat → Int} {a : Nat} {p : Part} {st : Int} : 0 ≤ faultF S m G a p st ∧ faultF S m G a p st ≤ 5 := by
  unfold faultF
  split
  · split <;> omega
  · split
    · split <;> omega
    · split
      · split <;> omega
      · omega
theorem sp_X0_judge : Sp yX0_judge cX0_judge 3 none 3 71 0 0 spec_X0_judge := by
  refine sp_intro (by decide) (by rintro args n h K ⟨b, S, c, rfl, -⟩; exact Nat.le_of_ble_eq_true rfl) ?_
  rintro X args n h K hc hr ⟨b, S, c, rfl, ⟨sat, rsn, cul, G, hK⟩, hcc, kk⟩
  obtain ⟨F, D, N, hB, h3, hFit, -⟩ := id hK
  have hm := satN_lt c (nA S.1)
  have L : ∀ (j a : Nat) (G : Nat → Int) (hh : HP) (rsn : Int), a + j = nA S.1 → BnK hh n b S (satN c (nA S.1)) rsn (-1) G → (∀ k, k < 7 → G k = givC S c k) → jud S c = judL S (satN c (nA S.1)) (givC S c) c ((amps S.1).drop a) a → Fr h hh b (b + 27) → Ok X 0 0 26 [(0, .ref b), (1, .int (i3 c)), (2, .int (i3 a))] [] n hh := by
    intro j
    induction j with
    | zero =>
      intro a G hh rsn ha hK hG e hf
      have : a = nA S.1 := by omega
      subst this
      rw [← amps_len S.1, List.drop_length] at e
      obtain ⟨_, _, _, hB', -⟩ := id hK
      rw [e] at kk
      exact sX0_judge_26 hc hr hB'.1 rfl rfl ⟨R3_s (by omega), R3_s (by omega), fun _ => kk _ _ _ (hK.ub _ _ _) (hf.up (by omega)), fun c => absurd (Int.le_refl _) c⟩
    | succ j ih =>
      intro a G hh rsn ha hK hG e hf
      obtain ⟨_, _, _, hB', -⟩ := id hK
      obtain ⟨i, p, hA⟩ := AmpAt.ex (show a < nA S.1 by omega)
      have hs := st_r (c := c) (a := a)
      rw [drop_s hA.amps] at e
      have hG' : BdG G := fun j hj => by rw [hG j hj]; exact hB'.2.1.givC c j hj
      have eF := congrFun (congrFun (congrFun (faultF_g (S := S) (m := satN c (nA S.1)) hG) a) p) (c / 3 ^ a % 3)
      have er := faultF_r (S := S) (m := satN c (nA S.1)) (G := givC S c) (a := a) (p := p) (st := c / 3 ^ a % 3)
      refine sX0_judge_26 hc hr hB'.1 rfl rfl ⟨R3_s (by omega), R3_s (by omega), fun c => absurd c (by omega), fun _ => ?_⟩
      refine sX0_judge_34 hc hr hB'.1 rfl ⟨⟨⟨by omega, by omega⟩, by omega, by omega⟩, b, satN c (nA S.1), a, i, S, rsn, -1, G, p, c / 3 ^ a % 3, by rw [Int.toNat_natCast], hK, hm, hG', hA, hs, rfl, ?_⟩
      rw [eF]
      refine sX0_judge_45 hc hr hB'.1 rfl ⟨R3_s (by omega), fun z => ?_, fun z => ?_⟩
      · refine ih (a + 1) G _ _ (by omega) (hK.ub _ _ _) hG ?_ (hf.up (by omega))
        rw [e]
        show (if _ = 0 then _ else _) = _
        rw [if_pos z]
      · have e' : jud S c = (faultF S (satN c (nA S.1)) (givC S c) a p (c / 3 ^ a % 3), (a : Int)) := by
          rw [e]
          show (if _ = 0 then _ else _) = _
          rw [if_neg z]
        rw [e'] at kk
        exact kk _ _ _ ((hK.ub _ _ _).ub _ _ _) ((hf.up (by omega)).up (by omega))
  have hK1 := hK.ub sat rsn (-1)
  obtain ⟨_, _, _, hB1, -⟩ := id hK1
  refine sX0_judge_0 hc hr hB.1 rfl ⟨b, S, c, _, _, _, _, rfl, hK1, hcc, rfl, ?_⟩
  refine sX0_judge_10 hc hr hB1.1 rfl ⟨R3_s (by split <;> omega), fun z => ?_, fun z => ?_⟩
  · refine ⟨b, S, c, _, _, _, _, rfl, hK1, hcc, fun h' G' hK' hG' hf' => ⟨rfl, sX0_judge_24 hc hr ?_⟩⟩
    have z' : ¬ solD S.1 (satN c (nA S.1)) = 0 := fun q => z (by rw [if_pos q])
    refine L (nA S.1) 0 G' h' rsn (by omega) hK' hG' ?_ ((Fr.rf.up (by omega)).tr hf')
    unfold jud
    rw [if_neg z']
    rfl
  · have z' : solD S.1 (satN c (nA S.1)) = 0 := by
      by_cases q : solD S.1 (satN c (nA S.1)) = 0
      · exact q
      · rw [if_neg q] at z
        exact absurd z (by decide)
    have e : jud S c = (1, -1) := by unfold jud; rw [if_pos z']
    rw [e] at kk
    exact kk _ _ _ (hK1.ub _ _ _) ((Fr.rf.up (by omega)).up (by omega))
set_option maxHeartbeats 4000000 in
set_option maxRecDepth 100000 in
theorem sX0_holds_0 {X : Xt} {n : Nat} {h : HP} {a0 : Nat} {x1 : Int} {fs1 : List Value} (hc : Cx X cX0_holds RX0 2 4 93) {K : KT} (hr : CxR X (some .boolean) K) (e1 : At h n a0 (.inl (0, fs1))) (z1 : fs1.length = 8)
    (P : spec_X0_judge [.ref a0, .int (i3 x1)] n h (kc X 0 0 2 [(0, .ref a0), (1, .int (i3 x1))] [] n)) :
    Ok X 0 0 0 [(0, .ref a0), (1, .int (i3 x1))] [] n h := by
  refine ok_aload_n (pc := 0) hc dX0_holds_0 rfl 0 rfl ?_
  refine ok_iload_n (pc := 1) hc dX0_holds_1 rfl 1 rfl ?_
  exact ok_callV (pc := 2) (a := a0) (cb := 0) (sb := 0) (st := []) hc [.int (i3 x1)] cv_X0_149 sp_X0_judge (by decide) dX0_holds_2 rfl e1.1 e1.2 rfl rfl rfl (Nat.le_of_ble_eq_true rfl) P

set_option maxHeartbeats 4000000 in
set_option maxRecDepth 100000 in
theorem sX0_holds_5 {X : Xt} {n : Nat} {h : HP} {a0 : Nat} {x1 : Int} {fs1 : List Value} {iv2 : Int} (hc : Cx X cX0_holds RX0 2 4 93) {K : KT} (hr : CxR X (some .boolean) K) (e1 : At h n a0 (.inl (0, fs1))) (z1 : fs1.length = 8) (v1_6 : fs1[6]? = some (.int (i3 iv2)))
    (P : (R3 iv2) ∧ (¬ iv2 = 0 → K (.inl (some (.int (i3 0)))) n h) ∧ (iv2 = 0 → K (.inl (some (.int (i3 1)))) n h)) :
    Ok X 0 0 5 [(0, .ref a0), (1, .int (i3 x1))] [] n h := by
  refine ok_aload_n (pc := 5) hc dX0_holds_5 rfl 0 rfl ?_
  refine ok_get (pc := 6) hc fl_X0_152 dX0_holds_6 e1.1 e1.2 v1_6 ?_
  obtain ⟨r3, P⟩ := P
  refine zk_if_ne (pc := 9) (tgt := 16) hc dX0_holds_9 (by decide) r3 (fun c => ?_) (fun c => ?_)
  · have P := P.1 c
    refine ok_iconst (pc := 16) hc (v := i3 0) dX0_holds_16 (by decide) ?_
    exact ok_zret (st := []) (pc := 17) hc (nar_z (by decide)) hr dX0_holds_17 P
  · have P := P.2 c
    refine ok_iconst (pc := 12) hc (v := i3 1) dX0_holds_12 (by decide) ?_
    refine ok_goto (pc := 13) (tgt := 17) hc dX0_holds_13 (by decide) ?_
    exact ok_zret (st := []) (pc := 17) hc (nar_z (by decide)) hr dX0_holds_17 P

def spec_X0_holds (args : List Value) (n : Nat) (h : HP) (K : KT) : Prop := ∃ (b : Nat) (S : Stt) (c : Int), args = [.ref b, .int (i3 c)] ∧ BnA h n b S ∧ (0 ≤ c ∧ c ≤ 26) ∧ ∀ (h' : HP), BnA h' n b S → Fr h h' b (b + 27) → K (.inl (some (.int (i3 (if (jud S c).1 = 0 then 1 else 0))))) n h'
theorem jud_r (S : Stt) (c : Int) : 0 ≤ (jud S c).1 ∧ (jud S c).1 ≤ 5 := by
  have L : ∀ (l : List Part) (m a : Nat) (G : Nat → Int), 0 ≤ (judL S m G c l a).1 ∧ (judL S m G c l a).1 ≤ 5 := by
    intro l
    induction l with
    | nil => intro m a G; exact ⟨(by decide : (0 : Int) ≤ 0), (by decide : (0 : Int) ≤ 5)⟩
    | cons p l ih =>
      intro m a G
      unfold judL
      split
      · exact ih m (a + 1) G
      · exact faultF_r
  unfold jud
  split
  · exact ⟨(by decide : (0 : Int) ≤ 1), (by decide : (1 : Int) ≤ 5)⟩
  · exact L _ _ _ _
theorem sp_X0_holds : Sp yX0_holds cX0_holds 2 (some .boolean) 4 93 0 0 spec_X0_holds := by
  refine sp_intro (by decide) (by rintro args n h K ⟨b, S, c, rfl, -⟩; exact Nat.le_of_ble_eq_true rfl) ?_
  rintro X args n h K hc hr ⟨b, S, c, rfl, hA, hcc, kk⟩
  obtain ⟨_, _, _, _, _, _, _, hB, -⟩ := id hA
  refine sX0_holds_0 hc hr hB.1 rfl ⟨b, S, c, rfl, hA, hcc, fun h' sat G' hK hf => ⟨rfl, ?_⟩⟩
  obtain ⟨_, _, _, hB', -⟩ := id hK
  have hj := jud_r S c
  have kk := kk h' hK.a hf
  refine sX0_holds_5 hc hr hB'.1 rfl rfl ⟨R3_s (by omega), fun z => ?_, fun z => ?_⟩
  · rw [if_neg z] at kk
    exact kk
  · rw [if_pos z] at kk
    exact kk
