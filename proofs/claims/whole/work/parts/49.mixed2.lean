/-! part 49: the desk: mixedAmplifiers -/
theorem opAmp_ok {q : Dsk} {a w : Int} (ha : 0 ≤ a ∧ a < nA q.1.1) (hw : 0 ≤ w ∧ w ≤ 2) : ∃ z, opAmp q a w = .inl z := by
  unfold opAmp
  rw [if_neg (fun c => c ha)]
  rcases (by omega : w = 0 ∨ w = 1 ∨ w = 2) with rfl | rfl | rfl
  · exact ⟨_, rfl⟩
  · exact ⟨_, rfl⟩
  · rw [if_neg (by decide), if_neg (by decide), if_pos rfl]
    split
    · exact ⟨_, rfl⟩
    · exact ⟨_, rfl⟩
theorem ampIx_le : ∀ (ps : List Part) (a : Nat), ampIx ps a ≤ ps.length
  | [], _ => Nat.le_refl _
  | p :: ps, a => by
    unfold ampIx
    rw [List.length_cons]
    split
    · cases a with
      | zero => exact Nat.zero_le _
      | succ a => exact Nat.succ_le_succ (ampIx_le ps a)
    · exact Nat.succ_le_succ (ampIx_le ps a)
theorem opAmp_r {h : HP} {n : Nat} {q : Dsk} (hq : DkA h n q) {a w : Int} : R3 (unL (opAmp q a w)) := by
  have hl12 : q.1.1.length ≤ 12 := hq.2.2.2.2.2.2.1.1.1
  have hi := ampIx_le q.1.1 a.toNat
  have hs := st_r (c := q.1.2.2.1) (a := a.toNat)
  unfold opAmp
  split
  · exact R3_0
  · split
    · exact R3_s (by show -1000000 ≤ ((ampIx q.1.1 a.toNat : Nat) : Int) ∧ ((ampIx q.1.1 a.toNat : Nat) : Int) ≤ 1000000; omega)
    · split
      · exact R3_s (by show -1000000 ≤ q.1.2.2.1 / 3 ^ a.toNat % 3 ∧ q.1.2.2.1 / 3 ^ a.toNat % 3 ≤ 1000000; omega)
      · split
        · split
          · exact R3_0
          · exact R3_cmp
        · exact R3_0
def mixA (q : Dsk) : Nat → Nat → Int → Int
  | 0, _, x => x
  | j + 1, a, x => mixA q j (a + 1) (31 * (31 * (31 * x + unL (opAmp q a 0)) + unL (opAmp q a 1)) + unL (opAmp q a 2))
set_option maxHeartbeats 4000000 in
set_option maxRecDepth 100000 in
theorem sX6_mixedAmplifiers_0 {X : Xt} {n : Nat} {h : HP} {a0 : Nat} {l1 : Int} {bb : Nat} {sb9 : Nat} (hc : Cx X cX6_mixedAmplifiers RX6 7 7 112) {K : KT} (hr : CxR X (some .long) K) 
    (P : Ok X bb sb9 5 [(0, .ref a0), (1, .long (i6 l1)), (3, .long (i6 l1)), (5, .int (i3 0))] [] n h) :
    Ok X bb sb9 0 [(0, .ref a0), (1, .long (i6 l1))] [] n h := by
  refine ok_lload_n (pc := 0) hc dX6_mixedAmplifiers_0 rfl 1 rfl ?_
  refine ok_lstore_n (pc := 1) hc (lv' := [(3, .long (i6 l1)), (0, .ref a0), (1, .long (i6 l1))]) dX6_mixedAmplifiers_1 rfl (by decide) rfl ?_
  refine ok_iconst (pc := 2) hc (v := i3 0) dX6_mixedAmplifiers_2 (by decide) ?_
  refine ok_istore (pc := 3) hc (lv' := [(5, .int (i3 0)), (3, .long (i6 l1)), (0, .ref a0), (1, .long (i6 l1))]) dX6_mixedAmplifiers_3 (by decide) rfl ?_
  refine ok_lv [2, 3, 1, 0] rfl ?_
  exact P

set_option maxHeartbeats 4000000 in
set_option maxRecDepth 100000 in
theorem sX6_mixedAmplifiers_5 {X : Xt} {n : Nat} {h : HP} {a0 : Nat} {l1 : Int} {l3 : Int} {x5 : Int} {bb : Nat} {sb9 : Nat} {fs1 : List Value} {q2 : Nat} {fs3 : List Value} {iv4 : Int} (hc : Cx X cX6_mixedAmplifiers RX6 7 7 112) {K : KT} (hr : CxR X (some .long) K) (e1 : At h n a0 (.inl (6, fs1))) (z1 : fs1.length = 6) (v1_0 : fs1[0]? = some (.ref q2)) (e3 : At h n q2 (.inl (0, fs3))) (z3 : fs3.length = 8) (v3_2 : fs3[2]? = some (.int (i3 iv4)))
    (P : (R3 x5) ∧ (R3 iv4) ∧ (iv4 ≤ x5 → Ok X bb sb9 52 [(0, .ref a0), (1, .long (i6 l1)), (3, .long (i6 l3)), (5, .int (i3 x5))] [] n h) ∧ (¬ iv4 ≤ x5 → Ok X bb sb9 17 [(0, .ref a0), (1, .long (i6 l1)), (3, .long (i6 l3)), (5, .int (i3 x5))] [] n h)) :
    Ok X bb sb9 5 [(0, .ref a0), (1, .long (i6 l1)), (3, .long (i6 l3)), (5, .int (i3 x5))] [] n h := by
  refine ok_iload (pc := 5) hc dX6_mixedAmplifiers_5 3 rfl ?_
  refine ok_aload_n (pc := 7) hc dX6_mixedAmplifiers_7 rfl 0 rfl ?_
  refine ok_get (pc := 8) hc fl_X6_10 dX6_mixedAmplifiers_8 e1.1 e1.2 v1_0 ?_
  refine ok_get (pc := 11) hc fl_X6_213 dX6_mixedAmplifiers_11 e3.1 e3.2 v3_2 ?_
  obtain ⟨r5, P⟩ := P
  obtain ⟨r6, P⟩ := P
  refine zk_icmp_ge (pc := 14) (tgt := 52) hc dX6_mixedAmplifiers_14 (by decide) r5 r6 (fun c => ?_) (fun c => ?_)
  · have P := P.1 c
    exact P
  · have P := P.2 c
    exact P

set_option maxHeartbeats 4000000 in
set_option maxRecDepth 100000 in
theorem sX6_mixedAmplifiers_17 {X : Xt} {n : Nat} {h : HP} {a0 : Nat} {l1 : Int} {l3 : Int} {x5 : Int} {bb : Nat} {sb9 : Nat} (hc : Cx X cX6_mixedAmplifiers RX6 7 7 112) {K : KT} (hr : CxR X (some .long) K) 
    (P : Ok X bb sb9 20 [(0, .ref a0), (1, .long (i6 l1)), (3, .long (i6 l3)), (5, .int (i3 x5)), (6, .int (i3 0))] [] n h) :
    Ok X bb sb9 17 [(0, .ref a0), (1, .long (i6 l1)), (3, .long (i6 l3)), (5, .int (i3 x5))] [] n h := by
  refine ok_iconst (pc := 17) hc (v := i3 0) dX6_mixedAmplifiers_17 (by decide) ?_
  refine ok_istore (pc := 18) hc (lv' := [(6, .int (i3 0)), (0, .ref a0), (1, .long (i6 l1)), (3, .long (i6 l3)), (5, .int (i3 x5))]) dX6_mixedAmplifiers_18 (by decide) rfl ?_
  refine ok_lv [1, 2, 3, 4, 0] rfl ?_
  exact P

set_option maxHeartbeats 4000000 in
set_option maxRecDepth 100000 in
theorem sX6_mixedAmplifiers_20 {X : Xt} {n : Nat} {h : HP} {a0 : Nat} {l1 : Int} {l3 : Int} {x5 : Int} {x6 : Int} {bb : Nat} {sb9 : Nat} (hc : Cx X cX6_mixedAmplifiers RX6 7 7 112) {K : KT} (hr : CxR X (some .long) K) 
    (P : (R3 x6) ∧ (2 < x6 → Ok X bb sb9 46 [(0, .ref a0), (1, .long (i6 l1)), (3, .long (i6 l3)), (5, .int (i3 x5)), (6, .int (i3 x6))] [] n h) ∧ (¬ 2 < x6 → Ok X bb sb9 26 [(0, .ref a0), (1, .long (i6 l1)), (3, .long (i6 l3)), (5, .int (i3 x5)), (6, .int (i3 x6))] [] n h)) :
    Ok X bb sb9 20 [(0, .ref a0), (1, .long (i6 l1)), (3, .long (i6 l3)), (5, .int (i3 x5)), (6, .int (i3 x6))] [] n h := by
  refine ok_iload (pc := 20) hc dX6_mixedAmplifiers_20 4 rfl ?_
  refine ok_iconst (pc := 22) hc (v := i3 2) dX6_mixedAmplifiers_22 (by decide) ?_
  obtain ⟨r1, P⟩ := P
  refine zk_icmp_gt (pc := 23) (tgt := 46) hc dX6_mixedAmplifiers_23 (by decide) r1 ⟨by decide, by decide⟩ (fun c => ?_) (fun c => ?_)
  · have P := P.1 c
    exact P
  · have P := P.2 c
    exact P

set_option maxHeartbeats 4000000 in
set_option maxRecDepth 100000 in
theorem sX6_mixedAmplifiers_26 {X : Xt} {n : Nat} {h : HP} {a0 : Nat} {l1 : Int} {l3 : Int} {x5 : Int} {x6 : Int} {bb : Nat} {sb9 : Nat} {fs1 : List Value} (hc : Cx X cX6_mixedAmplifiers RX6 7 7 112) {K : KT} (hr : CxR X (some .long) K) (e1 : At h n a0 (.inl (6, fs1))) (z1 : fs1.length = 6)
    (P : spec_X6_amplifier [.ref a0, .int (i3 x5), .int (i3 x6)] n h (kc X bb sb9 32 [(0, .ref a0), (1, .long (i6 l1)), (3, .long (i6 l3)), (5, .int (i3 x5)), (6, .int (i3 x6))] [.long (i6 l3)] n)) :
    Ok X (bb + 1) (sb9 + 6) 26 [(0, .ref a0), (1, .long (i6 l1)), (3, .long (i6 l3)), (5, .int (i3 x5)), (6, .int (i3 x6))] [] n h := by
  refine ok_lload_n (pc := 26) hc dX6_mixedAmplifiers_26 rfl 2 rfl ?_
  refine ok_aload_n (pc := 27) hc dX6_mixedAmplifiers_27 rfl 0 rfl ?_
  refine ok_iload (pc := 28) hc dX6_mixedAmplifiers_28 3 rfl ?_
  refine ok_iload (pc := 30) hc dX6_mixedAmplifiers_30 4 rfl ?_
  exact ok_callV (pc := 32) (a := a0) (cb := bb) (sb := sb9) (st := [.long (i6 l3)]) hc [.int (i3 x5), .int (i3 x6)] cv_X6_306 sp_X6_amplifier (by decide) dX6_mixedAmplifiers_32 rfl e1.1 e1.2 rfl rfl rfl (Nat.le_of_ble_eq_true rfl) P

set_option maxHeartbeats 4000000 in
set_option maxRecDepth 100000 in
theorem sX6_mixedAmplifiers_35 {X : Xt} {n : Nat} {h : HP} {a0 : Nat} {l1 : Int} {l3 : Int} {x5 : Int} {x6 : Int} {t0 : Int} {tl1 : Int} {bb : Nat} {sb9 : Nat} (hc : Cx X cX6_mixedAmplifiers RX6 7 7 112) {K : KT} (hr : CxR X (some .long) K) 
    (P : (R3 t0) ∧ Ok X bb sb9 20 [(0, .ref a0), (1, .long (i6 l1)), (3, .long (i6 (31 * tl1 + t0))), (5, .int (i3 x5)), (6, .int (i3 (x6 + 1)))] [] n h) :
    Ok X bb sb9 35 [(0, .ref a0), (1, .long (i6 l1)), (3, .long (i6 l3)), (5, .int (i3 x5)), (6, .int (i3 x6))] [.int (i3 t0), .long (i6 tl1)] n h := by
  obtain ⟨r1, P⟩ := P
  refine zk_i2l (pc := 35) hc dX6_mixedAmplifiers_35 r1 ?_
  refine ok_callS (pc := 36) (cb := bb) (sb := sb9) (st := []) hc [.long (i6 tl1), .long (i6 t0)] cs_X6_272 sp_X6_mixed (by decide) dX6_mixedAmplifiers_36 rfl rfl rfl rfl (Nat.le_of_ble_eq_true rfl) (⟨_, _, rfl, rfl, ?_⟩)
  show Ok X bb sb9 (36 + 3) [(0, .ref a0), (1, .long (i6 l1)), (3, .long (i6 l3)), (5, .int (i3 x5)), (6, .int (i3 x6))] [.long (i6 (31 * tl1 + t0))] n h
  refine ok_lstore_n (pc := 39) hc (lv' := [(3, .long (i6 (31 * tl1 + t0))), (0, .ref a0), (1, .long (i6 l1)), (5, .int (i3 x5)), (6, .int (i3 x6))]) dX6_mixedAmplifiers_39 rfl (by decide) rfl ?_
  refine zk_iinc (pc := 40) hc (q := 4) (x := x6) (lv' := [(6, .int (i3 (x6 + 1))), (3, .long (i6 (31 * tl1 + t0))), (0, .ref a0), (1, .long (i6 l1)), (5, .int (i3 x5))]) dX6_mixedAmplifiers_40 rfl (by decide) rfl ?_
  refine ok_goto (pc := 43) (tgt := 20) hc dX6_mixedAmplifiers_43 (by decide) ?_
  refine ok_lv [2, 3, 1, 4, 0] rfl ?_
  exact P

set_option maxHeartbeats 4000000 in
set_option maxRecDepth 100000 in
theorem sX6_mixedAmplifiers_46 {X : Xt} {n : Nat} {h : HP} {a0 : Nat} {l1 : Int} {l3 : Int} {x5 : Int} {x6 : Int} {bb : Nat} {sb9 : Nat} (hc : Cx X cX6_mixedAmplifiers RX6 7 7 112) {K : KT} (hr : CxR X (some .long) K) 
    (P : Ok X bb sb9 5 [(0, .ref a0), (1, .long (i6 l1)), (3, .long (i6 l3)), (5, .int (i3 (x5 + 1)))] [] n h) :
    Ok X bb sb9 46 [(0, .ref a0), (1, .long (i6 l1)), (3, .long (i6 l3)), (5, .int (i3 x5)), (6, .int (i3 x6))] [] n h := by
  refine zk_iinc (pc := 46) hc (q := 3) (x := x5) (lv' := [(5, .int (i3 (x5 + 1))), (0, .ref a0), (1, .long (i6 l1)), (3, .long (i6 l3)), (6, .int (i3 x6))]) dX6_mixedAmplifiers_46 rfl (by decide) rfl ?_
  refine ok_goto (pc := 49) (tgt := 5) hc dX6_mixedAmplifiers_49 (by decide) ?_
  refine ok_lv [1, 2, 3, 0] rfl ?_
  exact P

set_option maxHeartbeats 4000000 in
set_option maxRecDepth 100000 in
theorem sX6_mixedAmplifiers_52 {X : Xt} {n : Nat} {h : HP} {a0 : Nat} {l1 : Int} {l3 : Int} {x5 : Int} {bb : Nat} {sb9 : Nat} (hc : Cx X cX6_mixedAmplifiers RX6 7 7 112) {K : KT} (hr : CxR X (some .long) K) 
    (P : K (.inl (some (.long (i6 l3)))) n h) :
    Ok X bb sb9 52 [(0, .ref a0), (1, .long (i6 l1)), (3, .long (i6 l3)), (5, .int (i3 x5))] [] n h := by
  refine ok_lload_n (pc := 52) hc dX6_mixedAmplifiers_52 rfl 2 rfl ?_
  exact ok_lret (st := []) (pc := 53) hc hr dX6_mixedAmplifiers_53 P

def spec_X6_mixedAmplifiers (args : List Value) (n : Nat) (h : HP) (K : KT) : Prop := ∃ (q : Dsk) (x : Int), args = [.ref 0, .long (i6 x)] ∧ DkA h n q ∧ ∀ h', DkA h' n q → Fr h h' 0 127 → K (.inl (some (.long (i6 (mixA q (nA q.1.1) 0 x))))) n h'
theorem sp_X6_mixedAmplifiers : Sp yX6_mixedAmplifiers cX6_mixedAmplifiers 7 (some .long) 7 112 9 54 spec_X6_mixedAmplifiers := by
  refine sp_intro (by decide) (by rintro args n h K ⟨q, x, rfl, -⟩; exact Nat.le_of_ble_eq_true rfl) ?_
  rintro X args n h K hc hr ⟨q, x, rfl, hq, kk⟩
  have h3 : nA q.1.1 ≤ 3 := hq.2.2.2.2.2.2.1.1.2.1
  have one : ∀ (b s a w : Nat) (y : Int) (hh : HP), a < nA q.1.1 → w ≤ 2 → DkA hh n q → (∀ h', DkA h' n q → Fr hh h' 0 127 → Ok X b s 20 [(0, .ref 0), (1, .long (i6 x)), (3, .long (i6 (31 * y + unL (opAmp q a w)))), (5, .int (i3 a)), (6, .int (i3 (w + 1 : Nat)))] [] n h') → Ok X (b + 1) (s + 6) 20 [(0, .ref 0), (1, .long (i6 x)), (3, .long (i6 y)), (5, .int (i3 a)), (6, .int (i3 w))] [] n hh := by
    intro b s a w y hh ha hw hq P
    refine sX6_mixedAmplifiers_20 (bb := b + 1) (sb9 := s + 6) hc hr ⟨R3_s (by omega), fun c => absurd c (by omega), fun _ => ?_⟩
    refine sX6_mixedAmplifiers_26 (bb := b) (sb9 := s) hc hr hq.1 rfl ⟨q, a, w, rfl, R3_s (by omega), R3_s (by omega), hq, fun h' hq' f' => ?_⟩
    rw [oV_un (opAmp_ok (by omega) (by omega))]
    exact ⟨rfl, sX6_mixedAmplifiers_35 hc hr ⟨opAmp_r hq, P h' hq' f'⟩⟩
  have L : ∀ (j a : Nat) (y : Int) (hh : HP), a + j = nA q.1.1 → DkA hh n q → Fr h hh 0 127 → mixA q j a y = mixA q (nA q.1.1) 0 x → Ok X (3 * j) (18 * j) 5 [(0, .ref 0), (1, .long (i6 x)), (3, .long (i6 y)), (5, .int (i3 a))] [] n hh := by
    intro j
    induction j with
    | zero =>
      intro a y hh haj hq hf e
      have : a = nA q.1.1 := by omega
      subst this
      obtain ⟨_, _, _, _, hK⟩ := id hq.2.1
      obtain ⟨_, _, _, hB, -⟩ := id hK
      have kk := kk hh hq hf
      rw [← e] at kk
      exact sX6_mixedAmplifiers_5 hc hr hq.1 rfl rfl hB.1 rfl rfl ⟨R3_s (by omega), R3_s (by omega), fun _ => sX6_mixedAmplifiers_52 hc hr kk, fun c => absurd (Int.le_refl _) c⟩
    | succ j ih =>
      intro a y hh haj hq hf e
      obtain ⟨_, _, _, _, hK⟩ := id hq.2.1
      obtain ⟨_, _, _, hB, -⟩ := id hK
      refine sX6_mixedAmplifiers_5 (bb := 3 * j + 1 + 1 + 1) (sb9 := 18 * j + 6 + 6 + 6) hc hr hq.1 rfl rfl hB.1 rfl rfl ⟨R3_s (by omega), R3_s (by omega), fun c => absurd c (by omega), fun _ => ?_⟩
      refine sX6_mixedAmplifiers_17 hc hr (one _ _ a 0 y _ (by omega) (by omega) hq fun h1 hq1 f1 => one _ _ a 1 _ _ (by omega) (by omega) hq1 fun h2 hq2 f2 => one _ _ a 2 _ _ (by omega) (by omega) hq2 fun h3 hq3 f3 => ?_)
      exact sX6_mixedAmplifiers_20 hc hr ⟨R3_s (by omega), fun _ => sX6_mixedAmplifiers_46 hc hr (ih (a + 1) _ _ (by omega) hq3 (((hf.tr f1).tr f2).tr f3) e), fun c => absurd c (by omega)⟩
  exact sX6_mixedAmplifiers_0 (bb := 9) (sb9 := 54) hc hr ((L (nA q.1.1) 0 x h (by omega) hq Fr.rf rfl).up (by omega) (by omega))
