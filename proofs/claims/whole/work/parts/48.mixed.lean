/-! part 48: the desk: mixedParts, mixedVoltages, mixedAmplifiers -/
def unL : Int ⊕ String → Int
  | .inl z => z
  | .inr _ => 0
theorem oL_un {r : Int ⊕ String} (h : ∃ z, r = .inl z) : oL r = .inl (some (.long (i6 (unL r)))) := by
  obtain ⟨z, rfl⟩ := h
  rfl
theorem oV_un {r : Int ⊕ String} (h : ∃ z, r = .inl z) : oV r = .inl (some (.int (i3 (unL r)))) := by
  obtain ⟨z, rfl⟩ := h
  rfl
theorem opVolt_ok {q : Dsk} {k w : Int} (hk : 0 ≤ k ∧ k < 7) (hw : w = 0 ∨ w = 1) : ∃ z, opVolt q k w = .inl z := by
  unfold opVolt
  rw [if_neg (fun c => c hk), if_neg (fun c => c hw)]
  split
  · exact ⟨_, rfl⟩
  · exact ⟨_, rfl⟩
/-- j steps of the voltages' hash, from the node k on -/
def mixV (q : Dsk) : Nat → Nat → Int → Int
  | 0, _, x => x
  | j + 1, k, x => mixV q j (k + 1) (31 * (31 * x + unL (opVolt q k 0)) + unL (opVolt q k 1))
set_option maxHeartbeats 4000000 in
set_option maxRecDepth 100000 in
theorem sX6_mixedVoltages_0 {X : Xt} {n : Nat} {h : HP} {a0 : Nat} {l1 : Int} {bb : Nat} {sb9 : Nat} (hc : Cx X cX6_mixedVoltages RX6 6 8 132) {K : KT} (hr : CxR X (some .long) K) 
    (P : Ok X bb sb9 5 [(0, .ref a0), (1, .long (i6 l1)), (3, .long (i6 l1)), (5, .int (i3 0))] [] n h) :
    Ok X bb sb9 0 [(0, .ref a0), (1, .long (i6 l1))] [] n h := by
  refine ok_lload_n (pc := 0) hc dX6_mixedVoltages_0 rfl 1 rfl ?_
  refine ok_lstore_n (pc := 1) hc (lv' := [(3, .long (i6 l1)), (0, .ref a0), (1, .long (i6 l1))]) dX6_mixedVoltages_1 rfl (by decide) rfl ?_
  refine ok_iconst (pc := 2) hc (v := i3 0) dX6_mixedVoltages_2 (by decide) ?_
  refine ok_istore (pc := 3) hc (lv' := [(5, .int (i3 0)), (3, .long (i6 l1)), (0, .ref a0), (1, .long (i6 l1))]) dX6_mixedVoltages_3 (by decide) rfl ?_
  refine ok_lv [2, 3, 1, 0] rfl ?_
  exact P

set_option maxHeartbeats 4000000 in
set_option maxRecDepth 100000 in
theorem sX6_mixedVoltages_5 {X : Xt} {n : Nat} {h : HP} {a0 : Nat} {l1 : Int} {l3 : Int} {x5 : Int} {bb : Nat} {sb9 : Nat} (hc : Cx X cX6_mixedVoltages RX6 6 8 132) {K : KT} (hr : CxR X (some .long) K) 
    (P : (R3 x5) ∧ (7 ≤ x5 → K (.inl (some (.long (i6 l3)))) n h) ∧ (¬ 7 ≤ x5 → Ok X bb sb9 12 [(0, .ref a0), (1, .long (i6 l1)), (3, .long (i6 l3)), (5, .int (i3 x5))] [] n h)) :
    Ok X bb sb9 5 [(0, .ref a0), (1, .long (i6 l1)), (3, .long (i6 l3)), (5, .int (i3 x5))] [] n h := by
  refine ok_iload (pc := 5) hc dX6_mixedVoltages_5 3 rfl ?_
  refine ok_bipush (pc := 7) hc (v := i3 7) dX6_mixedVoltages_7 (by decide) ?_
  obtain ⟨r1, P⟩ := P
  refine zk_icmp_ge (pc := 9) (tgt := 42) hc dX6_mixedVoltages_9 (by decide) r1 ⟨by decide, by decide⟩ (fun c => ?_) (fun c => ?_)
  · have P := P.1 c
    refine ok_lload_n (pc := 42) hc dX6_mixedVoltages_42 rfl 2 rfl ?_
    exact ok_lret (st := []) (pc := 43) hc hr dX6_mixedVoltages_43 P
  · have P := P.2 c
    exact P

set_option maxHeartbeats 4000000 in
set_option maxRecDepth 100000 in
theorem sX6_mixedVoltages_12 {X : Xt} {n : Nat} {h : HP} {a0 : Nat} {l1 : Int} {l3 : Int} {x5 : Int} {bb : Nat} {sb9 : Nat} {fs1 : List Value} (hc : Cx X cX6_mixedVoltages RX6 6 8 132) {K : KT} (hr : CxR X (some .long) K) (e1 : At h n a0 (.inl (6, fs1))) (z1 : fs1.length = 6)
    (P : spec_X6_voltage [.ref a0, .int (i3 x5), .int (i3 0)] n h (kc X bb sb9 17 [(0, .ref a0), (1, .long (i6 l1)), (3, .long (i6 l3)), (5, .int (i3 x5))] [.long (i6 l3)] n)) :
    Ok X (bb + 2) (sb9 + 12) 12 [(0, .ref a0), (1, .long (i6 l1)), (3, .long (i6 l3)), (5, .int (i3 x5))] [] n h := by
  refine ok_lload_n (pc := 12) hc dX6_mixedVoltages_12 rfl 2 rfl ?_
  refine ok_aload_n (pc := 13) hc dX6_mixedVoltages_13 rfl 0 rfl ?_
  refine ok_iload (pc := 14) hc dX6_mixedVoltages_14 3 rfl ?_
  refine ok_iconst (pc := 16) hc (v := i3 0) dX6_mixedVoltages_16 (by decide) ?_
  exact ok_callV (pc := 17) (a := a0) (cb := bb) (sb := sb9) (st := [.long (i6 l3)]) hc [.int (i3 x5), .int (i3 0)] cv_X6_263 sp_X6_voltage (by decide) dX6_mixedVoltages_17 rfl e1.1 e1.2 rfl rfl rfl (Nat.le_of_ble_eq_true rfl) P

set_option maxHeartbeats 4000000 in
set_option maxRecDepth 100000 in
theorem sX6_mixedVoltages_20 {X : Xt} {n : Nat} {h : HP} {a0 : Nat} {l1 : Int} {l3 : Int} {x5 : Int} {tl0 : Int} {tl1 : Int} {bb : Nat} {sb9 : Nat} {fs1 : List Value} (hc : Cx X cX6_mixedVoltages RX6 6 8 132) {K : KT} (hr : CxR X (some .long) K) (e1 : At h n a0 (.inl (6, fs1))) (z1 : fs1.length = 6)
    (P : spec_X6_voltage [.ref a0, .int (i3 x5), .int (i3 1)] n h (kc X bb sb9 29 [(0, .ref a0), (1, .long (i6 l1)), (3, .long (i6 (31 * tl1 + tl0))), (5, .int (i3 x5))] [.long (i6 (31 * tl1 + tl0))] n)) :
    Ok X (bb + 2) (sb9 + 12) 20 [(0, .ref a0), (1, .long (i6 l1)), (3, .long (i6 l3)), (5, .int (i3 x5))] [.long (i6 tl0), .long (i6 tl1)] n h := by
  refine ok_callS (pc := 20) (cb := (bb + 2)) (sb := (sb9 + 12)) (st := []) hc [.long (i6 tl1), .long (i6 tl0)] cs_X6_272 sp_X6_mixed (by decide) dX6_mixedVoltages_20 rfl rfl rfl rfl (Nat.le_of_ble_eq_true rfl) (⟨_, _, rfl, rfl, ?_⟩)
  show Ok X (bb + 2) (sb9 + 12) (20 + 3) [(0, .ref a0), (1, .long (i6 l1)), (3, .long (i6 l3)), (5, .int (i3 x5))] [.long (i6 (31 * tl1 + tl0))] n h
  refine ok_lstore_n (pc := 23) hc (lv' := [(3, .long (i6 (31 * tl1 + tl0))), (0, .ref a0), (1, .long (i6 l1)), (5, .int (i3 x5))]) dX6_mixedVoltages_23 rfl (by decide) rfl ?_
  refine ok_lload_n (pc := 24) hc dX6_mixedVoltages_24 rfl 0 rfl ?_
  refine ok_aload_n (pc := 25) hc dX6_mixedVoltages_25 rfl 1 rfl ?_
  refine ok_iload (pc := 26) hc dX6_mixedVoltages_26 3 rfl ?_
  refine ok_iconst (pc := 28) hc (v := i3 1) dX6_mixedVoltages_28 (by decide) ?_
  refine ok_lv [1, 2, 0, 3] rfl ?_
  exact ok_callV (pc := 29) (a := a0) (cb := bb) (sb := sb9) (st := [.long (i6 (31 * tl1 + tl0))]) hc [.int (i3 x5), .int (i3 1)] cv_X6_263 sp_X6_voltage (by decide) dX6_mixedVoltages_29 rfl e1.1 e1.2 rfl rfl rfl (Nat.le_of_ble_eq_true rfl) P

set_option maxHeartbeats 4000000 in
set_option maxRecDepth 100000 in
theorem sX6_mixedVoltages_32 {X : Xt} {n : Nat} {h : HP} {a0 : Nat} {l1 : Int} {l3 : Int} {x5 : Int} {tl0 : Int} {tl1 : Int} {bb : Nat} {sb9 : Nat} (hc : Cx X cX6_mixedVoltages RX6 6 8 132) {K : KT} (hr : CxR X (some .long) K) 
    (P : Ok X bb sb9 5 [(0, .ref a0), (1, .long (i6 l1)), (3, .long (i6 (31 * tl1 + tl0))), (5, .int (i3 (x5 + 1)))] [] n h) :
    Ok X bb sb9 32 [(0, .ref a0), (1, .long (i6 l1)), (3, .long (i6 l3)), (5, .int (i3 x5))] [.long (i6 tl0), .long (i6 tl1)] n h := by
  refine ok_callS (pc := 32) (cb := bb) (sb := sb9) (st := []) hc [.long (i6 tl1), .long (i6 tl0)] cs_X6_272 sp_X6_mixed (by decide) dX6_mixedVoltages_32 rfl rfl rfl rfl (Nat.le_of_ble_eq_true rfl) (⟨_, _, rfl, rfl, ?_⟩)
  show Ok X bb sb9 (32 + 3) [(0, .ref a0), (1, .long (i6 l1)), (3, .long (i6 l3)), (5, .int (i3 x5))] [.long (i6 (31 * tl1 + tl0))] n h
  refine ok_lstore_n (pc := 35) hc (lv' := [(3, .long (i6 (31 * tl1 + tl0))), (0, .ref a0), (1, .long (i6 l1)), (5, .int (i3 x5))]) dX6_mixedVoltages_35 rfl (by decide) rfl ?_
  refine zk_iinc (pc := 36) hc (q := 3) (x := x5) (lv' := [(5, .int (i3 (x5 + 1))), (3, .long (i6 (31 * tl1 + tl0))), (0, .ref a0), (1, .long (i6 l1))]) dX6_mixedVoltages_36 rfl (by decide) rfl ?_
  refine ok_goto (pc := 39) (tgt := 5) hc dX6_mixedVoltages_39 (by decide) ?_
  refine ok_lv [2, 3, 1, 0] rfl ?_
  exact P

def spec_X6_mixedVoltages (args : List Value) (n : Nat) (h : HP) (K : KT) : Prop := ∃ (q : Dsk) (x : Int), args = [.ref 0, .long (i6 x)] ∧ DkA h n q ∧ ∀ h', DkA h' n q → Fr h h' 0 127 → K (.inl (some (.long (i6 (mixV q 7 0 x))))) n h'
theorem sp_X6_mixedVoltages : Sp yX6_mixedVoltages cX6_mixedVoltages 6 (some .long) 8 132 28 168 spec_X6_mixedVoltages := by
  refine sp_intro (by decide) (by rintro args n h K ⟨q, x, rfl, -⟩; exact Nat.le_of_ble_eq_true rfl) ?_
  rintro X args n h K hc hr ⟨q, x, rfl, hq, kk⟩
  have L : ∀ (j k : Nat) (y : Int) (hh : HP), k + j = 7 → DkA hh n q → Fr h hh 0 127 → mixV q j k y = mixV q 7 0 x → Ok X (4 * j) (24 * j) 5 [(0, .ref 0), (1, .long (i6 x)), (3, .long (i6 y)), (5, .int (i3 k))] [] n hh := by
    intro j
    induction j with
    | zero =>
      intro k y hh hkj hq hf e
      have : k = 7 := by omega
      subst this
      have kk := kk hh hq hf
      rw [← e] at kk
      exact sX6_mixedVoltages_5 hc hr ⟨R3_s (by omega), fun _ => kk, fun c => absurd c (by omega)⟩
    | succ j ih =>
      intro k y hh hkj hq hf e
      refine sX6_mixedVoltages_5 (bb := 4 * j + 2 + 2) (sb9 := 24 * j + 12 + 12) hc hr ⟨R3_s (by omega), fun c => absurd c (by omega), fun _ => ?_⟩
      refine sX6_mixedVoltages_12 (bb := 4 * j + 2) (sb9 := 24 * j + 12) hc hr hq.1 rfl ⟨q, k, 0, rfl, R3_s (by omega), R3_0, hq, fun h1 hq1 f1 => ?_⟩
      rw [oL_un (opVolt_ok (by omega) (Or.inl rfl))]
      refine ⟨rfl, sX6_mixedVoltages_20 (bb := 4 * j) (sb9 := 24 * j) hc hr hq1.1 rfl ⟨q, k, 1, rfl, R3_s (by omega), R3_s (by omega), hq1, fun h2 hq2 f2 => ?_⟩⟩
      rw [oL_un (opVolt_ok (by omega) (Or.inr rfl))]
      exact ⟨rfl, sX6_mixedVoltages_32 hc hr (ih (k + 1) _ h2 (by omega) hq2 ((hf.tr f1).tr f2) e)⟩
  exact sX6_mixedVoltages_0 (bb := 28) (sb9 := 168) hc hr (L 7 0 x h rfl hq Fr.rf rfl)
theorem opPart_ok {q : Dsk} {k w : Int} (hk : 0 ≤ k ∧ k < q.1.1.length) (hw : 0 ≤ w ∧ w ≤ 3) : ∃ z, opPart q k w = .inl z := by
  unfold opPart
  cases hp : prt q.1.1 k with
  | none => exact absurd hk (prt_none hp)
  | some p =>
    simp only
    rcases (by omega : w = 0 ∨ w = 1 ∨ w = 2 ∨ w = 3) with rfl | rfl | rfl | rfl
    · exact ⟨_, rfl⟩
    · exact ⟨_, rfl⟩
    · exact ⟨_, rfl⟩
    · exact ⟨_, rfl⟩
def mixP (q : Dsk) : Nat → Nat → Int → Int
  | 0, _, x => x
  | j + 1, k, x => mixP q j (k + 1) (31 * (31 * (31 * (31 * x + unL (opPart q k 0)) + unL (opPart q k 1)) + unL (opPart q k 2)) + unL (opPart q k 3))
theorem Ok.up {X : Xt} {cb sb cb' sb' pc n : Nat} {lv : List (Nat × Value)} {st : List Value} {h : HP} (p : Ok X cb sb pc lv st n h) (h1 : cb ≤ cb') (h2 : sb ≤ sb') : Ok X cb' sb' pc lv st n h := by
  obtain ⟨p', l, e, R, s, m, args, below, meth, c, D, bs, A0, n0, Q⟩ := X
  intro A cy H locs ls cells slots g1 g2 g3 g4 hw hS hl g5 g6
  exact p A cy H locs ls cells slots g1 g2 g3 g4 hw hS hl (Nat.le_trans (Nat.add_le_add_left h1 cells) g5) (Nat.le_trans (Nat.add_le_add_left h2 slots) g6)
set_option maxHeartbeats 4000000 in
set_option maxRecDepth 100000 in
theorem sX6_mixedParts_0 {X : Xt} {n : Nat} {h : HP} {a0 : Nat} {l1 : Int} {bb : Nat} {sb9 : Nat} (hc : Cx X cX6_mixedParts RX6 7 8 133) {K : KT} (hr : CxR X (some .long) K) 
    (P : Ok X bb sb9 5 [(0, .ref a0), (1, .long (i6 l1)), (3, .long (i6 l1)), (5, .int (i3 0))] [] n h) :
    Ok X bb sb9 0 [(0, .ref a0), (1, .long (i6 l1))] [] n h := by
  refine ok_lload_n (pc := 0) hc dX6_mixedParts_0 rfl 1 rfl ?_
  refine ok_lstore_n (pc := 1) hc (lv' := [(3, .long (i6 l1)), (0, .ref a0), (1, .long (i6 l1))]) dX6_mixedParts_1 rfl (by decide) rfl ?_
  refine ok_iconst (pc := 2) hc (v := i3 0) dX6_mixedParts_2 (by decide) ?_
  refine ok_istore (pc := 3) hc (lv' := [(5, .int (i3 0)), (3, .long (i6 l1)), (0, .ref a0), (1, .long (i6 l1))]) dX6_mixedParts_3 (by decide) rfl ?_
  refine ok_lv [2, 3, 1, 0] rfl ?_
  exact P

set_option maxHeartbeats 4000000 in
set_option maxRecDepth 100000 in
theorem sX6_mixedParts_5 {X : Xt} {n : Nat} {h : HP} {a0 : Nat} {l1 : Int} {l3 : Int} {x5 : Int} {bb : Nat} {sb9 : Nat} {fs1 : List Value} {q2 : Nat} {fs3 : List Value} {q4 : Nat} {fs5 : List Value} {q6 : Nat} {fs7 : List Value} {iv8 : Int} (hc : Cx X cX6_mixedParts RX6 7 8 133) {K : KT} (hr : CxR X (some .long) K) (e1 : At h n a0 (.inl (6, fs1))) (z1 : fs1.length = 6) (v1_0 : fs1[0]? = some (.ref q2)) (e3 : At h n q2 (.inl (0, fs3))) (z3 : fs3.length = 8) (v3_0 : fs3[0]? = some (.ref q4)) (e5 : At h n q4 (.inl (4, fs5))) (z5 : fs5.length = 4) (v5_0 : fs5[0]? = some (.ref q6)) (e7 : At h n q6 (.inl (2, fs7))) (z7 : fs7.length = 5) (v7_4 : fs7[4]? = some (.int (i3 iv8)))
    (P : (R3 x5) ∧ (R3 iv8) ∧ (iv8 ≤ x5 → Ok X bb sb9 58 [(0, .ref a0), (1, .long (i6 l1)), (3, .long (i6 l3)), (5, .int (i3 x5))] [] n h) ∧ (¬ iv8 ≤ x5 → Ok X bb sb9 23 [(0, .ref a0), (1, .long (i6 l1)), (3, .long (i6 l3)), (5, .int (i3 x5))] [] n h)) :
    Ok X bb sb9 5 [(0, .ref a0), (1, .long (i6 l1)), (3, .long (i6 l3)), (5, .int (i3 x5))] [] n h := by
  refine ok_iload (pc := 5) hc dX6_mixedParts_5 3 rfl ?_
  refine ok_aload_n (pc := 7) hc dX6_mixedParts_7 rfl 0 rfl ?_
  refine ok_get (pc := 8) hc fl_X6_10 dX6_mixedParts_8 e1.1 e1.2 v1_0 ?_
  refine ok_get (pc := 11) hc fl_X6_43 dX6_mixedParts_11 e3.1 e3.2 v3_0 ?_
  refine ok_get (pc := 14) hc fl_X6_47 dX6_mixedParts_14 e5.1 e5.2 v5_0 ?_
  refine ok_get (pc := 17) hc fl_X6_51 dX6_mixedParts_17 e7.1 e7.2 v7_4 ?_
  obtain ⟨r9, P⟩ := P
  obtain ⟨r10, P⟩ := P
  refine zk_icmp_ge (pc := 20) (tgt := 58) hc dX6_mixedParts_20 (by decide) r9 r10 (fun c => ?_) (fun c => ?_)
  · have P := P.1 c
    exact P
  · have P := P.2 c
    exact P

set_option maxHeartbeats 4000000 in
set_option maxRecDepth 100000 in
theorem sX6_mixedParts_23 {X : Xt} {n : Nat} {h : HP} {a0 : Nat} {l1 : Int} {l3 : Int} {x5 : Int} {bb : Nat} {sb9 : Nat} (hc : Cx X cX6_mixedParts RX6 7 8 133) {K : KT} (hr : CxR X (some .long) K) 
    (P : Ok X bb sb9 26 [(0, .ref a0), (1, .long (i6 l1)), (3, .long (i6 l3)), (5, .int (i3 x5)), (6, .int (i3 0))] [] n h) :
    Ok X bb sb9 23 [(0, .ref a0), (1, .long (i6 l1)), (3, .long (i6 l3)), (5, .int (i3 x5))] [] n h := by
  refine ok_iconst (pc := 23) hc (v := i3 0) dX6_mixedParts_23 (by decide) ?_
  refine ok_istore (pc := 24) hc (lv' := [(6, .int (i3 0)), (0, .ref a0), (1, .long (i6 l1)), (3, .long (i6 l3)), (5, .int (i3 x5))]) dX6_mixedParts_24 (by decide) rfl ?_
  refine ok_lv [1, 2, 3, 4, 0] rfl ?_
  exact P

set_option maxHeartbeats 4000000 in
set_option maxRecDepth 100000 in
theorem sX6_mixedParts_26 {X : Xt} {n : Nat} {h : HP} {a0 : Nat} {l1 : Int} {l3 : Int} {x5 : Int} {x6 : Int} {bb : Nat} {sb9 : Nat} (hc : Cx X cX6_mixedParts RX6 7 8 133) {K : KT} (hr : CxR X (some .long) K) 
    (P : (R3 x6) ∧ (3 < x6 → Ok X bb sb9 52 [(0, .ref a0), (1, .long (i6 l1)), (3, .long (i6 l3)), (5, .int (i3 x5)), (6, .int (i3 x6))] [] n h) ∧ (¬ 3 < x6 → Ok X bb sb9 32 [(0, .ref a0), (1, .long (i6 l1)), (3, .long (i6 l3)), (5, .int (i3 x5)), (6, .int (i3 x6))] [] n h)) :
    Ok X bb sb9 26 [(0, .ref a0), (1, .long (i6 l1)), (3, .long (i6 l3)), (5, .int (i3 x5)), (6, .int (i3 x6))] [] n h := by
  refine ok_iload (pc := 26) hc dX6_mixedParts_26 4 rfl ?_
  refine ok_iconst (pc := 28) hc (v := i3 3) dX6_mixedParts_28 (by decide) ?_
  obtain ⟨r1, P⟩ := P
  refine zk_icmp_gt (pc := 29) (tgt := 52) hc dX6_mixedParts_29 (by decide) r1 ⟨by decide, by decide⟩ (fun c => ?_) (fun c => ?_)
  · have P := P.1 c
    exact P
  · have P := P.2 c
    exact P

set_option maxHeartbeats 4000000 in
set_option maxRecDepth 100000 in
theorem sX6_mixedParts_32 {X : Xt} {n : Nat} {h : HP} {a0 : Nat} {l1 : Int} {l3 : Int} {x5 : Int} {x6 : Int} {bb : Nat} {sb9 : Nat} {fs1 : List Value} (hc : Cx X cX6_mixedParts RX6 7 8 133) {K : KT} (hr : CxR X (some .long) K) (e1 : At h n a0 (.inl (6, fs1))) (z1 : fs1.length = 6)
    (P : spec_X6_part [.ref a0, .int (i3 x5), .int (i3 x6)] n h (kc X bb sb9 38 [(0, .ref a0), (1, .long (i6 l1)), (3, .long (i6 l3)), (5, .int (i3 x5)), (6, .int (i3 x6))] [.long (i6 l3)] n)) :
    Ok X (bb + 2) (sb9 + 12) 32 [(0, .ref a0), (1, .long (i6 l1)), (3, .long (i6 l3)), (5, .int (i3 x5)), (6, .int (i3 x6))] [] n h := by
  refine ok_lload_n (pc := 32) hc dX6_mixedParts_32 rfl 2 rfl ?_
  refine ok_aload_n (pc := 33) hc dX6_mixedParts_33 rfl 0 rfl ?_
  refine ok_iload (pc := 34) hc dX6_mixedParts_34 3 rfl ?_
  refine ok_iload (pc := 36) hc dX6_mixedParts_36 4 rfl ?_
  exact ok_callV (pc := 38) (a := a0) (cb := bb) (sb := sb9) (st := [.long (i6 l3)]) hc [.int (i3 x5), .int (i3 x6)] cv_X6_303 sp_X6_part (by decide) dX6_mixedParts_38 rfl e1.1 e1.2 rfl rfl rfl (Nat.le_of_ble_eq_true rfl) P

set_option maxHeartbeats 4000000 in
set_option maxRecDepth 100000 in
theorem sX6_mixedParts_41 {X : Xt} {n : Nat} {h : HP} {a0 : Nat} {l1 : Int} {l3 : Int} {x5 : Int} {x6 : Int} {t0 : Int} {tl1 : Int} {bb : Nat} {sb9 : Nat} (hc : Cx X cX6_mixedParts RX6 7 8 133) {K : KT} (hr : CxR X (some .long) K) 
    (P : (R3 t0) ∧ Ok X bb sb9 26 [(0, .ref a0), (1, .long (i6 l1)), (3, .long (i6 (31 * tl1 + t0))), (5, .int (i3 x5)), (6, .int (i3 (x6 + 1)))] [] n h) :
    Ok X bb sb9 41 [(0, .ref a0), (1, .long (i6 l1)), (3, .long (i6 l3)), (5, .int (i3 x5)), (6, .int (i3 x6))] [.int (i3 t0), .long (i6 tl1)] n h := by
  obtain ⟨r1, P⟩ := P
  refine zk_i2l (pc := 41) hc dX6_mixedParts_41 r1 ?_
  refine ok_callS (pc := 42) (cb := bb) (sb := sb9) (st := []) hc [.long (i6 tl1), .long (i6 t0)] cs_X6_272 sp_X6_mixed (by decide) dX6_mixedParts_42 rfl rfl rfl rfl (Nat.le_of_ble_eq_true rfl) (⟨_, _, rfl, rfl, ?_⟩)
  show Ok X bb sb9 (42 + 3) [(0, .ref a0), (1, .long (i6 l1)), (3, .long (i6 l3)), (5, .int (i3 x5)), (6, .int (i3 x6))] [.long (i6 (31 * tl1 + t0))] n h
  refine ok_lstore_n (pc := 45) hc (lv' := [(3, .long (i6 (31 * tl1 + t0))), (0, .ref a0), (1, .long (i6 l1)), (5, .int (i3 x5)), (6, .int (i3 x6))]) dX6_mixedParts_45 rfl (by decide) rfl ?_
  refine zk_iinc (pc := 46) hc (q := 4) (x := x6) (lv' := [(6, .int (i3 (x6 + 1))), (3, .long (i6 (31 * tl1 + t0))), (0, .ref a0), (1, .long (i6 l1)), (5, .int (i3 x5))]) dX6_mixedParts_46 rfl (by decide) rfl ?_
  refine ok_goto (pc := 49) (tgt := 26) hc dX6_mixedParts_49 (by decide) ?_
  refine ok_lv [2, 3, 1, 4, 0] rfl ?_
  exact P

set_option maxHeartbeats 4000000 in
set_option maxRecDepth 100000 in
theorem sX6_mixedParts_52 {X : Xt} {n : Nat} {h : HP} {a0 : Nat} {l1 : Int} {l3 : Int} {x5 : Int} {x6 : Int} {bb : Nat} {sb9 : Nat} (hc : Cx X cX6_mixedParts RX6 7 8 133) {K : KT} (hr : CxR X (some .long) K) 
    (P : Ok X bb sb9 5 [(0, .ref a0), (1, .long (i6 l1)), (3, .long (i6 l3)), (5, .int (i3 (x5 + 1)))] [] n h) :
    Ok X bb sb9 52 [(0, .ref a0), (1, .long (i6 l1)), (3, .long (i6 l3)), (5, .int (i3 x5)), (6, .int (i3 x6))] [] n h := by
  refine zk_iinc (pc := 52) hc (q := 3) (x := x5) (lv' := [(5, .int (i3 (x5 + 1))), (0, .ref a0), (1, .long (i6 l1)), (3, .long (i6 l3)), (6, .int (i3 x6))]) dX6_mixedParts_52 rfl (by decide) rfl ?_
  refine ok_goto (pc := 55) (tgt := 5) hc dX6_mixedParts_55 (by decide) ?_
  refine ok_lv [1, 2, 3, 0] rfl ?_
  exact P

set_option maxHeartbeats 4000000 in
set_option maxRecDepth 100000 in
theorem sX6_mixedParts_58 {X : Xt} {n : Nat} {h : HP} {a0 : Nat} {l1 : Int} {l3 : Int} {x5 : Int} {bb : Nat} {sb9 : Nat} (hc : Cx X cX6_mixedParts RX6 7 8 133) {K : KT} (hr : CxR X (some .long) K) 
    (P : K (.inl (some (.long (i6 l3)))) n h) :
    Ok X bb sb9 58 [(0, .ref a0), (1, .long (i6 l1)), (3, .long (i6 l3)), (5, .int (i3 x5))] [] n h := by
  refine ok_lload_n (pc := 58) hc dX6_mixedParts_58 rfl 2 rfl ?_
  exact ok_lret (st := []) (pc := 59) hc hr dX6_mixedParts_59 P

def spec_X6_mixedParts (args : List Value) (n : Nat) (h : HP) (K : KT) : Prop := ∃ (q : Dsk) (x : Int), args = [.ref 0, .long (i6 x)] ∧ DkA h n q ∧ K (.inl (some (.long (i6 (mixP q q.1.1.length 0 x))))) n h
theorem opPart_r {h : HP} {n : Nat} {q : Dsk} (hq : DkA h n q) {k w : Int} : R3 (unL (opPart q k w)) := by
  unfold opPart
  cases hp : prt q.1.1 k with
  | none => exact R3_0
  | some p =>
    have hPW : PW p := (hq.2.2.2.2.2.2.1.1.2.2.1 p (List.mem_of_getElem? (prt_some hp).2)).1
    have hb := hPW.b
    simp only
    split
    · exact R3_s (by show -1000000 ≤ p.1 ∧ p.1 ≤ 1000000; omega)
    · split
      · exact R3_s (by show -1000000 ≤ p.2.1 ∧ p.2.1 ≤ 1000000; omega)
      · split
        · exact R3_s (by show -1000000 ≤ p.2.2.1 ∧ p.2.2.1 ≤ 1000000; omega)
        · split
          · exact R3_s (by show -1000000 ≤ p.2.2.2 ∧ p.2.2.2 ≤ 1000000; omega)
          · exact R3_0
theorem sp_X6_mixedParts : Sp yX6_mixedParts cX6_mixedParts 7 (some .long) 8 133 96 576 spec_X6_mixedParts := by
  refine sp_intro (by decide) (by rintro args n h K ⟨q, x, rfl, -⟩; exact Nat.le_of_ble_eq_true rfl) ?_
  rintro X args n h K hc hr ⟨q, x, rfl, hq, kk⟩
  obtain ⟨_, _, _, _, _, _, _, _, hB⟩ := hq.parts
  have hl12 : q.1.1.length ≤ 12 := hq.2.2.2.2.2.2.1.1.1
  have one : ∀ (b s k w : Nat) (y : Int), k < q.1.1.length → w ≤ 3 → Ok X b s 26 [(0, .ref 0), (1, .long (i6 x)), (3, .long (i6 (31 * y + unL (opPart q k w)))), (5, .int (i3 k)), (6, .int (i3 (w + 1 : Nat)))] [] n h → Ok X (b + 2) (s + 12) 26 [(0, .ref 0), (1, .long (i6 x)), (3, .long (i6 y)), (5, .int (i3 k)), (6, .int (i3 w))] [] n h := by
    intro b s k w y hk hw P
    refine sX6_mixedParts_26 (bb := b + 2) (sb9 := s + 12) hc hr ⟨R3_s (by omega), fun c => absurd c (by omega), fun _ => ?_⟩
    refine sX6_mixedParts_32 (bb := b) (sb9 := s) hc hr hq.1 rfl ⟨q, k, w, rfl, R3_s (by omega), R3_s (by omega), hq, ?_⟩
    rw [oV_un (opPart_ok (by omega) (by omega))]
    exact ⟨rfl, sX6_mixedParts_41 hc hr ⟨opPart_r hq, P⟩⟩
  have L : ∀ (j k : Nat) (y : Int), k + j = q.1.1.length → mixP q j k y = mixP q q.1.1.length 0 x → Ok X (8 * j) (48 * j) 5 [(0, .ref 0), (1, .long (i6 x)), (3, .long (i6 y)), (5, .int (i3 k))] [] n h := by
    intro j
    induction j with
    | zero =>
      intro k y hkj e
      have : k = q.1.1.length := by omega
      subst this
      rw [← e] at kk
      exact sX6_mixedParts_5 hc hr hq.1 rfl rfl hB.1 rfl rfl hB.2.1.1 rfl rfl hB.2.1.2.1.obj rfl rfl ⟨R3_s (by omega), R3_s (by omega), fun _ => sX6_mixedParts_58 hc hr kk, fun c => absurd (Int.le_refl _) c⟩
    | succ j ih =>
      intro k y hkj e
      refine sX6_mixedParts_5 (bb := 8 * j + 2 + 2 + 2 + 2) (sb9 := 48 * j + 12 + 12 + 12 + 12) hc hr hq.1 rfl rfl hB.1 rfl rfl hB.2.1.1 rfl rfl hB.2.1.2.1.obj rfl rfl ⟨R3_s (by omega), R3_s (by omega), fun c => absurd c (by omega), fun _ => ?_⟩
      refine sX6_mixedParts_23 hc hr (one _ _ k 0 y (by omega) (by omega) (one _ _ k 1 _ (by omega) (by omega) (one _ _ k 2 _ (by omega) (by omega) (one _ _ k 3 _ (by omega) (by omega) ?_))))
      exact sX6_mixedParts_26 hc hr ⟨R3_s (by omega), fun _ => sX6_mixedParts_52 hc hr (ih (k + 1) _ (by omega) e), fun c => absurd c (by omega)⟩
  exact sX6_mixedParts_0 (bb := 96) (sb9 := 576) hc hr ((L q.1.1.length 0 x (by omega) rfl).up (by omega) (by omega))
