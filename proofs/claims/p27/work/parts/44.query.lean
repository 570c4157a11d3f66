/-! part 44: the desk: voltage, inCase, why, concerned, part, count, amplifier -/
theorem DkA.now {h h' : HP} {n : Nat} {q : Dsk} (p : DkA h n q) (hA : BnA h' n 1 q.1) (f : Fr h h' 1 28) : DkA h' n q := by
  obtain ⟨h0, hN, ⟨T, hT⟩, hI, hH, hM, hG⟩ := p
  exact ⟨h0.fr f (by omega), hA, ⟨T, hT.fr f (by omega)⟩, hI.fr f (by omega), hH.fr f (by omega), hM.fr f (by omega), hG⟩
set_option maxHeartbeats 4000000 in
set_option maxRecDepth 100000 in
theorem sX6_requireNode_0 {X : Xt} {n : Nat} {h : HP} {x0 : Int} (hc : Cx X cX6_requireNode RX6 1 6 90) {K : KT} (hr : CxR X none K) 
    (P : (R3 x0) ∧ (x0 < 0 → K (.inr "java/lang/IndexOutOfBoundsException") n h) ∧ (¬ x0 < 0 → (R3 x0) ∧ (x0 < 7 → K (.inl none) n h) ∧ (¬ x0 < 7 → K (.inr "java/lang/IndexOutOfBoundsException") n h))) :
    Ok X 1 6 0 [(0, .int (i3 x0))] [] n h := by
  refine ok_iload_n (pc := 0) hc dX6_requireNode_0 rfl 0 rfl ?_
  obtain ⟨r1, P⟩ := P
  refine zk_if_lt (pc := 1) (tgt := 10) hc dX6_requireNode_1 (by decide) r1 (fun c => ?_) (fun c => ?_)
  · have P := P.1 c
    exact ok_throwW (pc := 10) hc hr th_IOE rfl (is := 324) (text := "there is no such node") (by decide) dX6_requireNode_10 dX6_requireNode_13 dX6_requireNode_14 dX6_requireNode_17 dX6_requireNode_20 (by decide) (by decide) (by decide) (by decide) P
  · have P := P.2 c
    refine ok_iload_n (pc := 4) hc dX6_requireNode_4 rfl 0 rfl ?_
    refine ok_bipush (pc := 5) hc (v := i3 7) dX6_requireNode_5 (by decide) ?_
    obtain ⟨r2, P⟩ := P
    refine zk_icmp_lt (pc := 7) (tgt := 21) hc dX6_requireNode_7 (by decide) r2 ⟨by decide, by decide⟩ (fun c => ?_) (fun c => ?_)
    · have P := P.1 c
      exact ok_vret (st := []) (pc := 21) hc hr dX6_requireNode_21 P
    · have P := P.2 c
      exact ok_throwW (pc := 10) hc hr th_IOE rfl (is := 324) (text := "there is no such node") (by decide) dX6_requireNode_10 dX6_requireNode_13 dX6_requireNode_14 dX6_requireNode_17 dX6_requireNode_20 (by decide) (by decide) (by decide) (by decide) P

def spec_X6_requireNode (args : List Value) (n : Nat) (h : HP) (K : KT) : Prop := ∃ (x : Int), args = [.int (i3 x)] ∧ R3 x ∧ (0 ≤ x ∧ x < 7 → K (.inl none) n h) ∧ (¬ (0 ≤ x ∧ x < 7) → K (.inr eIO) n h)
theorem sp_X6_requireNode : Sp yX6_requireNode cX6_requireNode 1 none 6 90 1 6 spec_X6_requireNode := by
  refine sp_intro (by decide) (by rintro args n h K ⟨x, rfl, -⟩; exact Nat.le_of_ble_eq_true rfl) ?_
  rintro X args n h K hc hr ⟨x, rfl, hx, k1, k2⟩
  exact sX6_requireNode_0 hc hr ⟨hx, fun c => k2 (by omega), fun c => ⟨hx, fun c2 => k1 (by omega), fun c2 => k2 (by omega)⟩⟩
set_option maxHeartbeats 4000000 in
set_option maxRecDepth 100000 in
theorem sX6_requireFractionSide_0 {X : Xt} {n : Nat} {h : HP} {x0 : Int} (hc : Cx X cX6_requireFractionSide RX6 1 6 90) {K : KT} (hr : CxR X none K) 
    (P : (R3 x0) ∧ (x0 = 0 → K (.inl none) n h) ∧ (¬ x0 = 0 → (R3 x0) ∧ (x0 = 1 → K (.inl none) n h) ∧ (¬ x0 = 1 → K (.inr "java/lang/IllegalArgumentException") n h))) :
    Ok X 1 6 0 [(0, .int (i3 x0))] [] n h := by
  refine ok_iload_n (pc := 0) hc dX6_requireFractionSide_0 rfl 0 rfl ?_
  obtain ⟨r1, P⟩ := P
  refine zk_if_eq (pc := 1) (tgt := 20) hc dX6_requireFractionSide_1 (by decide) r1 (fun c => ?_) (fun c => ?_)
  · have P := P.1 c
    exact ok_vret (st := []) (pc := 20) hc hr dX6_requireFractionSide_20 P
  · have P := P.2 c
    refine ok_iload_n (pc := 4) hc dX6_requireFractionSide_4 rfl 0 rfl ?_
    refine ok_iconst (pc := 5) hc (v := i3 1) dX6_requireFractionSide_5 (by decide) ?_
    obtain ⟨r2, P⟩ := P
    refine zk_icmp_eq (pc := 6) (tgt := 20) hc dX6_requireFractionSide_6 (by decide) r2 ⟨by decide, by decide⟩ (fun c => ?_) (fun c => ?_)
    · have P := P.1 c
      exact ok_vret (st := []) (pc := 20) hc hr dX6_requireFractionSide_20 P
    · have P := P.2 c
      exact ok_throwW (pc := 9) hc hr th_IAE rfl (is := 326) (text := "what is 0 or 1") (by decide) dX6_requireFractionSide_9 dX6_requireFractionSide_12 dX6_requireFractionSide_13 dX6_requireFractionSide_16 dX6_requireFractionSide_19 (by decide) (by decide) (by decide) (by decide) P

def spec_X6_requireFractionSide (args : List Value) (n : Nat) (h : HP) (K : KT) : Prop := ∃ (x : Int), args = [.int (i3 x)] ∧ R3 x ∧ (x = 0 ∨ x = 1 → K (.inl none) n h) ∧ (¬ (x = 0 ∨ x = 1) → K (.inr eIA) n h)
theorem sp_X6_requireFractionSide : Sp yX6_requireFractionSide cX6_requireFractionSide 1 none 6 90 1 6 spec_X6_requireFractionSide := by
  refine sp_intro (by decide) (by rintro args n h K ⟨x, rfl, -⟩; exact Nat.le_of_ble_eq_true rfl) ?_
  rintro X args n h K hc hr ⟨x, rfl, hx, k1, k2⟩
  exact sX6_requireFractionSide_0 hc hr ⟨hx, fun c => k1 (by omega), fun c => ⟨hx, fun c2 => k1 (by omega), fun c2 => k2 (by omega)⟩⟩
set_option maxHeartbeats 4000000 in
set_option maxRecDepth 100000 in
theorem sX6_requireCase_0 {X : Xt} {n : Nat} {h : HP} {a0 : Nat} {x1 : Int} {fs2 : List Value} {q3 : Nat} {fs4 : List Value} (hc : Cx X cX6_requireCase RX6 2 6 90) {K : KT} (hr : CxR X none K) (e2 : At h n a0 (.inl (6, fs2))) (z2 : fs2.length = 6) (v2_0 : fs2[0]? = some (.ref q3)) (e4 : At h n q3 (.inl (0, fs4))) (z4 : fs4.length = 8)
    (P : (R3 x1) ∧ (x1 < 0 → K (.inr "java/lang/IndexOutOfBoundsException") n h) ∧ (¬ x1 < 0 → spec_X0_cases [.ref q3] n h (kc X 1 6 9 [(0, .ref a0), (1, .int (i3 x1))] [.int (i3 x1)] n))) :
    Ok X 1 6 0 [(0, .ref a0), (1, .int (i3 x1))] [] n h := by
  refine ok_iload_n (pc := 0) hc dX6_requireCase_0 rfl 1 rfl ?_
  obtain ⟨r1, P⟩ := P
  refine zk_if_lt (pc := 1) (tgt := 15) hc dX6_requireCase_1 (by decide) r1 (fun c => ?_) (fun c => ?_)
  · have P := P.1 c
    exact ok_throwW (pc := 15) hc hr th_IOE rfl (is := 322) (text := "there is no such case") (by decide) dX6_requireCase_15 dX6_requireCase_18 dX6_requireCase_19 dX6_requireCase_22 dX6_requireCase_25 (by decide) (by decide) (by decide) (by decide) P
  · have P := P.2 c
    refine ok_iload_n (pc := 4) hc dX6_requireCase_4 rfl 1 rfl ?_
    refine ok_aload_n (pc := 5) hc dX6_requireCase_5 rfl 0 rfl ?_
    refine ok_get (pc := 6) hc fl_X6_10 dX6_requireCase_6 e2.1 e2.2 v2_0 ?_
    exact ok_callV (pc := 9) (a := q3) (cb := 1) (sb := 6) (st := [.int (i3 x1)]) hc [] cv_X6_286 sp_X0_cases (by decide) dX6_requireCase_9 rfl e4.1 e4.2 rfl rfl rfl (Nat.le_of_ble_eq_true rfl) P

set_option maxHeartbeats 4000000 in
set_option maxRecDepth 100000 in
theorem sX6_requireCase_12 {X : Xt} {n : Nat} {h : HP} {a0 : Nat} {x1 : Int} {t0 : Int} {t1 : Int} (hc : Cx X cX6_requireCase RX6 2 6 90) {K : KT} (hr : CxR X none K) 
    (P : (R3 t1) ∧ (R3 t0) ∧ (t1 < t0 → K (.inl none) n h) ∧ (¬ t1 < t0 → K (.inr "java/lang/IndexOutOfBoundsException") n h)) :
    Ok X 1 6 12 [(0, .ref a0), (1, .int (i3 x1))] [.int (i3 t0), .int (i3 t1)] n h := by
  obtain ⟨r1, P⟩ := P
  obtain ⟨r2, P⟩ := P
  refine zk_icmp_lt (pc := 12) (tgt := 26) hc dX6_requireCase_12 (by decide) r1 r2 (fun c => ?_) (fun c => ?_)
  · have P := P.1 c
    exact ok_vret (st := []) (pc := 26) hc hr dX6_requireCase_26 P
  · have P := P.2 c
    exact ok_throwW (pc := 15) hc hr th_IOE rfl (is := 322) (text := "there is no such case") (by decide) dX6_requireCase_15 dX6_requireCase_18 dX6_requireCase_19 dX6_requireCase_22 dX6_requireCase_25 (by decide) (by decide) (by decide) (by decide) P

def spec_X6_requireCase (args : List Value) (n : Nat) (h : HP) (K : KT) : Prop := ∃ (q : Dsk) (x : Int), args = [.ref 0, .int (i3 x)] ∧ R3 x ∧ DkA h n q ∧ (0 ≤ x ∧ x < 3 ^ nA q.1.1 → K (.inl none) n h) ∧ (¬ (0 ≤ x ∧ x < 3 ^ nA q.1.1) → K (.inr eIO) n h)
theorem c27 {k : Nat} (h : k ≤ 3) : (3 : Int) ^ k ≤ 27 := by
  rcases (by omega : k = 0 ∨ k = 1 ∨ k = 2 ∨ k = 3) with e | e | e | e <;> rw [e] <;> decide
theorem sp_X6_requireCase : Sp yX6_requireCase cX6_requireCase 2 none 6 90 1 6 spec_X6_requireCase := by
  refine sp_intro (by decide) (by rintro args n h K ⟨q, x, rfl, -⟩; exact Nat.le_of_ble_eq_true rfl) ?_
  rintro X args n h K hc hr ⟨q, x, rfl, hx, hq, k1, k2⟩
  obtain ⟨_, _, _, _, hK⟩ := id hq.2.1
  obtain ⟨_, _, _, hB, h3, -⟩ := id hK
  have p3 := c27 h3
  have p0 := pow3_pos (nA q.1.1)
  refine sX6_requireCase_0 hc hr hq.1 rfl rfl hB.1 rfl ⟨hx, fun c => k2 (by omega), fun c => ⟨1, q.1, _, _, _, _, rfl, hK, rfl, sX6_requireCase_12 hc hr ⟨hx, R3_s (by omega), fun c2 => k1 (by omega), fun c2 => k2 (by omega)⟩⟩⟩
set_option maxHeartbeats 4000000 in
set_option maxRecDepth 100000 in
theorem sX6_voltage_0 {X : Xt} {n : Nat} {h : HP} {a0 : Nat} {x1 : Int} {x2 : Int} (hc : Cx X cX6_voltage RX6 3 7 110) {K : KT} (hr : CxR X (some .long) K) 
    (P : spec_X6_requireNode [.int (i3 x1)] n h (kc X 1 6 1 [(0, .ref a0), (1, .int (i3 x1)), (2, .int (i3 x2))] [] n)) :
    Ok X 2 12 0 [(0, .ref a0), (1, .int (i3 x1)), (2, .int (i3 x2))] [] n h := by
  refine ok_iload_n (pc := 0) hc dX6_voltage_0 rfl 1 rfl ?_
  exact ok_callS (pc := 1) (cb := 1) (sb := 6) (st := []) hc [.int (i3 x1)] cs_X6_173 sp_X6_requireNode (by decide) dX6_voltage_1 rfl rfl rfl rfl (Nat.le_of_ble_eq_true rfl) P

set_option maxHeartbeats 4000000 in
set_option maxRecDepth 100000 in
theorem sX6_voltage_4 {X : Xt} {n : Nat} {h : HP} {a0 : Nat} {x1 : Int} {x2 : Int} (hc : Cx X cX6_voltage RX6 3 7 110) {K : KT} (hr : CxR X (some .long) K) 
    (P : spec_X6_requireFractionSide [.int (i3 x2)] n h (kc X 0 0 5 [(0, .ref a0), (1, .int (i3 x1)), (2, .int (i3 x2))] [] n)) :
    Ok X 1 6 4 [(0, .ref a0), (1, .int (i3 x1)), (2, .int (i3 x2))] [] n h := by
  refine ok_iload_n (pc := 4) hc dX6_voltage_4 rfl 2 rfl ?_
  exact ok_callS (pc := 5) (cb := 0) (sb := 0) (st := []) hc [.int (i3 x2)] cs_X6_176 sp_X6_requireFractionSide (by decide) dX6_voltage_5 rfl rfl rfl rfl (Nat.le_of_ble_eq_true rfl) P

set_option maxHeartbeats 4000000 in
set_option maxRecDepth 100000 in
theorem sX6_voltage_8 {X : Xt} {n : Nat} {h : HP} {a0 : Nat} {x1 : Int} {x2 : Int} {fs1 : List Value} {q2 : Nat} {fs3 : List Value} {q4 : Nat} {fs5 : List Value} {iv6 : Int} {iv8 : Int} (hc : Cx X cX6_voltage RX6 3 7 110) {K : KT} (hr : CxR X (some .long) K) (e1 : At h n a0 (.inl (6, fs1))) (z1 : fs1.length = 6) (v1_0 : fs1[0]? = some (.ref q2)) (e3 : At h n q2 (.inl (0, fs3))) (z3 : fs3.length = 8) (v3_0 : fs3[0]? = some (.ref q4)) (e5 : At h n q4 (.inl (4, fs5))) (z5 : fs5.length = 4) (v5_3 : fs5[3]? = some (.int (i3 iv6))) (v5_2 : fs5[2]? = some (.int (i3 iv8)))
    (P : (R3 iv6) ∧ (¬ iv6 = 0 → spec_X0_nodeVoltage [.ref q2, .int (i3 iv8), .int (i3 x1), .int (i3 x2)] n h (kc X 0 0 39 [(0, .ref a0), (1, .int (i3 x1)), (2, .int (i3 x2))] [] n)) ∧ (iv6 = 0 → K (.inl (some (.long (i6 0)))) n h)) :
    Ok X 0 0 8 [(0, .ref a0), (1, .int (i3 x1)), (2, .int (i3 x2))] [] n h := by
  refine ok_aload_n (pc := 8) hc dX6_voltage_8 rfl 0 rfl ?_
  refine ok_get (pc := 9) hc fl_X6_10 dX6_voltage_9 e1.1 e1.2 v1_0 ?_
  refine ok_get (pc := 12) hc fl_X6_43 dX6_voltage_12 e3.1 e3.2 v3_0 ?_
  refine ok_get (pc := 15) hc fl_X6_179 dX6_voltage_15 e5.1 e5.2 v5_3 ?_
  obtain ⟨r7, P⟩ := P
  refine zk_if_ne (pc := 18) (tgt := 23) hc dX6_voltage_18 (by decide) r7 (fun c => ?_) (fun c => ?_)
  · have P := P.1 c
    refine ok_aload_n (pc := 23) hc dX6_voltage_23 rfl 0 rfl ?_
    refine ok_get (pc := 24) hc fl_X6_10 dX6_voltage_24 e1.1 e1.2 v1_0 ?_
    refine ok_aload_n (pc := 27) hc dX6_voltage_27 rfl 0 rfl ?_
    refine ok_get (pc := 28) hc fl_X6_10 dX6_voltage_28 e1.1 e1.2 v1_0 ?_
    refine ok_get (pc := 31) hc fl_X6_43 dX6_voltage_31 e3.1 e3.2 v3_0 ?_
    refine ok_get (pc := 34) hc fl_X6_133 dX6_voltage_34 e5.1 e5.2 v5_2 ?_
    refine ok_iload_n (pc := 37) hc dX6_voltage_37 rfl 1 rfl ?_
    refine ok_iload_n (pc := 38) hc dX6_voltage_38 rfl 2 rfl ?_
    exact ok_callV (pc := 39) (a := q2) (cb := 0) (sb := 0) (st := []) hc [.int (i3 iv8), .int (i3 x1), .int (i3 x2)] cv_X6_183 sp_X0_nodeVoltage (by decide) dX6_voltage_39 rfl e3.1 e3.2 rfl rfl rfl (Nat.le_of_ble_eq_true rfl) P
  · have P := P.2 c
    refine ok_lconst (pc := 21) hc (v := i6 0) dX6_voltage_21 (by decide) ?_
    exact ok_lret (st := []) (pc := 22) hc hr dX6_voltage_22 P

set_option maxHeartbeats 4000000 in
set_option maxRecDepth 100000 in
theorem sX6_voltage_42 {X : Xt} {n : Nat} {h : HP} {a0 : Nat} {x1 : Int} {x2 : Int} {tl0 : Int} (hc : Cx X cX6_voltage RX6 3 7 110) {K : KT} (hr : CxR X (some .long) K) 
    (P : K (.inl (some (.long (i6 tl0)))) n h) :
    Ok X 0 0 42 [(0, .ref a0), (1, .int (i3 x1)), (2, .int (i3 x2))] [.long (i6 tl0)] n h := by
  exact ok_lret (st := []) (pc := 42) hc hr dX6_voltage_42 P

def opVolt (q : Dsk) (k w : Int) : Int ⊕ String := if ¬ (0 ≤ k ∧ k < 7) then .inr eIO else if ¬ (w = 0 ∨ w = 1) then .inr eIA else if q.1.2.2.2 = 0 then .inl 0 else .inl (nodeV q.1 q.1.2.2.1 k w)
def spec_X6_voltage (args : List Value) (n : Nat) (h : HP) (K : KT) : Prop := ∃ (q : Dsk) (k w : Int), args = [.ref 0, .int (i3 k), .int (i3 w)] ∧ R3 k ∧ R3 w ∧ DkA h n q ∧ ∀ h', DkA h' n q → Fr h h' 0 127 → K (oL (opVolt q k w)) n h'
theorem sp_X6_voltage : Sp yX6_voltage cX6_voltage 3 (some .long) 7 110 2 12 spec_X6_voltage := by
  refine sp_intro (by decide) (by rintro args n h K ⟨q, k, w, rfl, -⟩; exact Nat.le_of_ble_eq_true rfl) ?_
  rintro X args n h K hc hr ⟨q, k, w, rfl, hk, hw, hq, kk⟩
  obtain ⟨_, _, _, _, _, _, _, _, hB⟩ := hq.parts
  unfold opVolt at kk
  refine sX6_voltage_0 hc hr ⟨k, rfl, hk, fun c => ⟨rfl, ?_⟩, fun c => ?_⟩
  · rw [if_neg (fun z => z c)] at kk
    refine sX6_voltage_4 hc hr ⟨w, rfl, hw, fun c2 => ⟨rfl, ?_⟩, fun c2 => ?_⟩
    · rw [if_neg (fun z => z c2)] at kk
      have hs := hB.2.1.2.2.2.2
      refine sX6_voltage_8 hc hr hq.1 rfl rfl hB.1 rfl rfl hB.2.1.1 rfl rfl rfl ⟨R3_s (by omega), fun z => ?_, fun z => ?_⟩
      · rw [if_neg z] at kk
        exact ⟨1, q.1, q.1.2.2.1, k, w, rfl, hq.2.1, hB.2.1.2.2.2.1, by omega, hw, fun h' hA f => ⟨rfl, sX6_voltage_42 hc hr (kk h' (hq.now hA f) (f.sub (by omega) (by omega)))⟩⟩
      · rw [if_pos z] at kk
        exact kk h hq Fr.rf
    · rw [if_pos c2] at kk
      exact ⟨rfl, okT_out hc hr (kk h hq Fr.rf)⟩
  · rw [if_pos c] at kk
    exact ⟨rfl, okT_out hc hr (kk h hq Fr.rf)⟩
set_option maxHeartbeats 4000000 in
set_option maxRecDepth 100000 in
theorem sX6_inCase_0 {X : Xt} {n : Nat} {h : HP} {a0 : Nat} {x1 : Int} {x2 : Int} {x3 : Int} {fs1 : List Value} (hc : Cx X cX6_inCase RX6 4 7 111) {K : KT} (hr : CxR X (some .long) K) (e1 : At h n a0 (.inl (6, fs1))) (z1 : fs1.length = 6)
    (P : spec_X6_requireCase [.ref a0, .int (i3 x1)] n h (kc X 2 12 2 [(0, .ref a0), (1, .int (i3 x1)), (2, .int (i3 x2)), (3, .int (i3 x3))] [] n)) :
    Ok X 3 18 0 [(0, .ref a0), (1, .int (i3 x1)), (2, .int (i3 x2)), (3, .int (i3 x3))] [] n h := by
  refine ok_aload_n (pc := 0) hc dX6_inCase_0 rfl 0 rfl ?_
  refine ok_iload_n (pc := 1) hc dX6_inCase_1 rfl 1 rfl ?_
  exact ok_callV (pc := 2) (a := a0) (cb := 2) (sb := 12) (st := []) hc [.int (i3 x1)] cv_X6_233 sp_X6_requireCase (by decide) dX6_inCase_2 rfl e1.1 e1.2 rfl rfl rfl (Nat.le_of_ble_eq_true rfl) P

set_option maxHeartbeats 4000000 in
set_option maxRecDepth 100000 in
theorem sX6_inCase_5 {X : Xt} {n : Nat} {h : HP} {a0 : Nat} {x1 : Int} {x2 : Int} {x3 : Int} (hc : Cx X cX6_inCase RX6 4 7 111) {K : KT} (hr : CxR X (some .long) K) 
    (P : spec_X6_requireNode [.int (i3 x2)] n h (kc X 1 6 6 [(0, .ref a0), (1, .int (i3 x1)), (2, .int (i3 x2)), (3, .int (i3 x3))] [] n)) :
    Ok X 2 12 5 [(0, .ref a0), (1, .int (i3 x1)), (2, .int (i3 x2)), (3, .int (i3 x3))] [] n h := by
  refine ok_iload_n (pc := 5) hc dX6_inCase_5 rfl 2 rfl ?_
  exact ok_callS (pc := 6) (cb := 1) (sb := 6) (st := []) hc [.int (i3 x2)] cs_X6_173 sp_X6_requireNode (by decide) dX6_inCase_6 rfl rfl rfl rfl (Nat.le_of_ble_eq_true rfl) P

set_option maxHeartbeats 4000000 in
set_option maxRecDepth 100000 in
theorem sX6_inCase_9 {X : Xt} {n : Nat} {h : HP} {a0 : Nat} {x1 : Int} {x2 : Int} {x3 : Int} (hc : Cx X cX6_inCase RX6 4 7 111) {K : KT} (hr : CxR X (some .long) K) 
    (P : spec_X6_requireFractionSide [.int (i3 x3)] n h (kc X 0 0 10 [(0, .ref a0), (1, .int (i3 x1)), (2, .int (i3 x2)), (3, .int (i3 x3))] [] n)) :
    Ok X 1 6 9 [(0, .ref a0), (1, .int (i3 x1)), (2, .int (i3 x2)), (3, .int (i3 x3))] [] n h := by
  refine ok_iload_n (pc := 9) hc dX6_inCase_9 rfl 3 rfl ?_
  exact ok_callS (pc := 10) (cb := 0) (sb := 0) (st := []) hc [.int (i3 x3)] cs_X6_176 sp_X6_requireFractionSide (by decide) dX6_inCase_10 rfl rfl rfl rfl (Nat.le_of_ble_eq_true rfl) P

set_option maxHeartbeats 4000000 in
set_option maxRecDepth 100000 in
theorem sX6_inCase_13 {X : Xt} {n : Nat} {h : HP} {a0 : Nat} {x1 : Int} {x2 : Int} {x3 : Int} {fs1 : List Value} {q2 : Nat} {fs3 : List Value} (hc : Cx X cX6_inCase RX6 4 7 111) {K : KT} (hr : CxR X (some .long) K) (e1 : At h n a0 (.inl (6, fs1))) (z1 : fs1.length = 6) (v1_0 : fs1[0]? = some (.ref q2)) (e3 : At h n q2 (.inl (0, fs3))) (z3 : fs3.length = 8)
    (P : spec_X0_nodeVoltage [.ref q2, .int (i3 x1), .int (i3 x2), .int (i3 x3)] n h (kc X 0 0 20 [(0, .ref a0), (1, .int (i3 x1)), (2, .int (i3 x2)), (3, .int (i3 x3))] [] n)) :
    Ok X 0 0 13 [(0, .ref a0), (1, .int (i3 x1)), (2, .int (i3 x2)), (3, .int (i3 x3))] [] n h := by
  refine ok_aload_n (pc := 13) hc dX6_inCase_13 rfl 0 rfl ?_
  refine ok_get (pc := 14) hc fl_X6_10 dX6_inCase_14 e1.1 e1.2 v1_0 ?_
  refine ok_iload_n (pc := 17) hc dX6_inCase_17 rfl 1 rfl ?_
  refine ok_iload_n (pc := 18) hc dX6_inCase_18 rfl 2 rfl ?_
  refine ok_iload_n (pc := 19) hc dX6_inCase_19 rfl 3 rfl ?_
  exact ok_callV (pc := 20) (a := q2) (cb := 0) (sb := 0) (st := []) hc [.int (i3 x1), .int (i3 x2), .int (i3 x3)] cv_X6_183 sp_X0_nodeVoltage (by decide) dX6_inCase_20 rfl e3.1 e3.2 rfl rfl rfl (Nat.le_of_ble_eq_true rfl) P

set_option maxHeartbeats 4000000 in
set_option maxRecDepth 100000 in
theorem sX6_inCase_23 {X : Xt} {n : Nat} {h : HP} {a0 : Nat} {x1 : Int} {x2 : Int} {x3 : Int} {tl0 : Int} (hc : Cx X cX6_inCase RX6 4 7 111) {K : KT} (hr : CxR X (some .long) K) 
    (P : K (.inl (some (.long (i6 tl0)))) n h) :
    Ok X 0 0 23 [(0, .ref a0), (1, .int (i3 x1)), (2, .int (i3 x2)), (3, .int (i3 x3))] [.long (i6 tl0)] n h := by
  exact ok_lret (st := []) (pc := 23) hc hr dX6_inCase_23 P

def opCase (q : Dsk) (c k w : Int) : Int ⊕ String := if ¬ (0 ≤ c ∧ c < 3 ^ nA q.1.1) then .inr eIO else if ¬ (0 ≤ k ∧ k < 7) then .inr eIO else if ¬ (w = 0 ∨ w = 1) then .inr eIA else .inl (nodeV q.1 c k w)
def spec_X6_inCase (args : List Value) (n : Nat) (h : HP) (K : KT) : Prop := ∃ (q : Dsk) (c k w : Int), args = [.ref 0, .int (i3 c), .int (i3 k), .int (i3 w)] ∧ R3 c ∧ R3 k ∧ R3 w ∧ DkA h n q ∧ ∀ h', DkA h' n q → Fr h h' 0 127 → K (oL (opCase q c k w)) n h'
theorem sp_X6_inCase : Sp yX6_inCase cX6_inCase 4 (some .long) 7 111 3 18 spec_X6_inCase := by
  refine sp_intro (by decide) (by rintro args n h K ⟨q, c, k, w, rfl, -⟩; exact Nat.le_of_ble_eq_true rfl) ?_
  rintro X args n h K hc hr ⟨q, cs, k, w, rfl, hcs, hk, hw, hq, kk⟩
  obtain ⟨_, _, _, _, hK⟩ := id hq.2.1
  obtain ⟨_, _, _, hB, h3, -⟩ := id hK
  have p3 := c27 h3
  unfold opCase at kk
  refine sX6_inCase_0 hc hr hq.1 rfl ⟨q, cs, rfl, hcs, hq, fun c => ⟨rfl, ?_⟩, fun c => ?_⟩
  · rw [if_neg (fun z => z c)] at kk
    refine sX6_inCase_5 hc hr ⟨k, rfl, hk, fun c1 => ⟨rfl, ?_⟩, fun c1 => ?_⟩
    · rw [if_neg (fun z => z c1)] at kk
      refine sX6_inCase_9 hc hr ⟨w, rfl, hw, fun c2 => ⟨rfl, ?_⟩, fun c2 => ?_⟩
      · rw [if_neg (fun z => z c2)] at kk
        exact sX6_inCase_13 hc hr hq.1 rfl rfl hB.1 rfl ⟨1, q.1, cs, k, w, rfl, hq.2.1, by omega, by omega, hw, fun h' hA f => ⟨rfl, sX6_inCase_23 hc hr (kk h' (hq.now hA f) (f.sub (by omega) (by omega)))⟩⟩
      · rw [if_pos c2] at kk
        exact ⟨rfl, okT_out hc hr (kk h hq Fr.rf)⟩
    · rw [if_pos c1] at kk
      exact ⟨rfl, okT_out hc hr (kk h hq Fr.rf)⟩
  · rw [if_pos c] at kk
    exact ⟨rfl, okT_out hc hr (kk h hq Fr.rf)⟩
set_option maxHeartbeats 4000000 in
set_option maxRecDepth 100000 in
theorem sX6_why_0 {X : Xt} {n : Nat} {h : HP} {a0 : Nat} {x1 : Int} {fs1 : List Value} (hc : Cx X cX6_why RX6 2 7 111) {K : KT} (hr : CxR X (some .int) K) (e1 : At h n a0 (.inl (6, fs1))) (z1 : fs1.length = 6)
    (P : spec_X6_requireCase [.ref a0, .int (i3 x1)] n h (kc X 0 0 2 [(0, .ref a0), (1, .int (i3 x1))] [] n)) :
    Ok X 1 6 0 [(0, .ref a0), (1, .int (i3 x1))] [] n h := by
  refine ok_aload_n (pc := 0) hc dX6_why_0 rfl 0 rfl ?_
  refine ok_iload_n (pc := 1) hc dX6_why_1 rfl 1 rfl ?_
  exact ok_callV (pc := 2) (a := a0) (cb := 0) (sb := 0) (st := []) hc [.int (i3 x1)] cv_X6_233 sp_X6_requireCase (by decide) dX6_why_2 rfl e1.1 e1.2 rfl rfl rfl (Nat.le_of_ble_eq_true rfl) P

set_option maxHeartbeats 4000000 in
set_option maxRecDepth 100000 in
theorem sX6_why_5 {X : Xt} {n : Nat} {h : HP} {a0 : Nat} {x1 : Int} {fs1 : List Value} {q2 : Nat} {fs3 : List Value} (hc : Cx X cX6_why RX6 2 7 111) {K : KT} (hr : CxR X (some .int) K) (e1 : At h n a0 (.inl (6, fs1))) (z1 : fs1.length = 6) (v1_0 : fs1[0]? = some (.ref q2)) (e3 : At h n q2 (.inl (0, fs3))) (z3 : fs3.length = 8)
    (P : spec_X0_judge [.ref q2, .int (i3 x1)] n h (kc X 0 0 10 [(0, .ref a0), (1, .int (i3 x1))] [] n)) :
    Ok X 0 0 5 [(0, .ref a0), (1, .int (i3 x1))] [] n h := by
  refine ok_aload_n (pc := 5) hc dX6_why_5 rfl 0 rfl ?_
  refine ok_get (pc := 6) hc fl_X6_10 dX6_why_6 e1.1 e1.2 v1_0 ?_
  refine ok_iload_n (pc := 9) hc dX6_why_9 rfl 1 rfl ?_
  exact ok_callV (pc := 10) (a := q2) (cb := 0) (sb := 0) (st := []) hc [.int (i3 x1)] cv_X6_236 sp_X0_judge (by decide) dX6_why_10 rfl e3.1 e3.2 rfl rfl rfl (Nat.le_of_ble_eq_true rfl) P

set_option maxHeartbeats 4000000 in
set_option maxRecDepth 100000 in
theorem sX6_why_13 {X : Xt} {n : Nat} {h : HP} {a0 : Nat} {x1 : Int} {fs1 : List Value} {q2 : Nat} {fs3 : List Value} {iv4 : Int} (hc : Cx X cX6_why RX6 2 7 111) {K : KT} (hr : CxR X (some .int) K) (e1 : At h n a0 (.inl (6, fs1))) (z1 : fs1.length = 6) (v1_0 : fs1[0]? = some (.ref q2)) (e3 : At h n q2 (.inl (0, fs3))) (z3 : fs3.length = 8) (v3_6 : fs3[6]? = some (.int (i3 iv4)))
    (P : K (.inl (some (.int (i3 iv4)))) n h) :
    Ok X 0 0 13 [(0, .ref a0), (1, .int (i3 x1))] [] n h := by
  refine ok_aload_n (pc := 13) hc dX6_why_13 rfl 0 rfl ?_
  refine ok_get (pc := 14) hc fl_X6_10 dX6_why_14 e1.1 e1.2 v1_0 ?_
  refine ok_get (pc := 17) hc fl_X6_239 dX6_why_17 e3.1 e3.2 v3_6 ?_
  exact ok_iret (st := []) (pc := 20) hc hr dX6_why_20 P

def opWhy (q : Dsk) (c : Int) : Int ⊕ String := if ¬ (0 ≤ c ∧ c < 3 ^ nA q.1.1) then .inr eIO else .inl (jud q.1 c).1
def spec_X6_why (args : List Value) (n : Nat) (h : HP) (K : KT) : Prop := ∃ (q : Dsk) (c : Int), args = [.ref 0, .int (i3 c)] ∧ R3 c ∧ DkA h n q ∧ ∀ h', DkA h' n q → Fr h h' 0 127 → K (oV (opWhy q c)) n h'
theorem sp_X6_why : Sp yX6_why cX6_why 2 (some .int) 7 111 1 6 spec_X6_why := by
  refine sp_intro (by decide) (by rintro args n h K ⟨q, c, rfl, -⟩; exact Nat.le_of_ble_eq_true rfl) ?_
  rintro X args n h K hc hr ⟨q, cs, rfl, hcs, hq, kk⟩
  obtain ⟨_, _, _, _, hK⟩ := id hq.2.1
  obtain ⟨_, _, _, hB, h3, -⟩ := id hK
  have p3 := c27 h3
  unfold opWhy at kk
  refine sX6_why_0 hc hr hq.1 rfl ⟨q, cs, rfl, hcs, hq, fun c => ⟨rfl, ?_⟩, fun c => ?_⟩
  · rw [if_neg (fun z => z c)] at kk
    refine sX6_why_5 hc hr hq.1 rfl rfl hB.1 rfl ⟨1, q.1, cs, rfl, hq.2.1, by omega, fun h' sat G hK' f => ⟨rfl, ?_⟩⟩
    obtain ⟨_, _, _, hB', -⟩ := id hK'
    have hq' := hq.now hK'.a f
    exact sX6_why_13 hc hr hq'.1 rfl rfl hB'.1 rfl rfl (kk h' hq' (f.sub (by omega) (by omega)))
  · rw [if_pos c] at kk
    exact ⟨rfl, okT_out hc hr (kk h hq Fr.rf)⟩
set_option maxHeartbeats 4000000 in
set_option maxRecDepth 100000 in
theorem sX6_concerned_0 {X : Xt} {n : Nat} {h : HP} {a0 : Nat} {x1 : Int} {fs1 : List Value} (hc : Cx X cX6_concerned RX6 2 7 111) {K : KT} (hr : CxR X (some .int) K) (e1 : At h n a0 (.inl (6, fs1))) (z1 : fs1.length = 6)
    (P : spec_X6_requireCase [.ref a0, .int (i3 x1)] n h (kc X 0 0 2 [(0, .ref a0), (1, .int (i3 x1))] [] n)) :
    Ok X 1 6 0 [(0, .ref a0), (1, .int (i3 x1))] [] n h := by
  refine ok_aload_n (pc := 0) hc dX6_concerned_0 rfl 0 rfl ?_
  refine ok_iload_n (pc := 1) hc dX6_concerned_1 rfl 1 rfl ?_
  exact ok_callV (pc := 2) (a := a0) (cb := 0) (sb := 0) (st := []) hc [.int (i3 x1)] cv_X6_233 sp_X6_requireCase (by decide) dX6_concerned_2 rfl e1.1 e1.2 rfl rfl rfl (Nat.le_of_ble_eq_true rfl) P

set_option maxHeartbeats 4000000 in
set_option maxRecDepth 100000 in
theorem sX6_concerned_5 {X : Xt} {n : Nat} {h : HP} {a0 : Nat} {x1 : Int} {fs1 : List Value} {q2 : Nat} {fs3 : List Value} (hc : Cx X cX6_concerned RX6 2 7 111) {K : KT} (hr : CxR X (some .int) K) (e1 : At h n a0 (.inl (6, fs1))) (z1 : fs1.length = 6) (v1_0 : fs1[0]? = some (.ref q2)) (e3 : At h n q2 (.inl (0, fs3))) (z3 : fs3.length = 8)
    (P : spec_X0_judge [.ref q2, .int (i3 x1)] n h (kc X 0 0 10 [(0, .ref a0), (1, .int (i3 x1))] [] n)) :
    Ok X 0 0 5 [(0, .ref a0), (1, .int (i3 x1))] [] n h := by
  refine ok_aload_n (pc := 5) hc dX6_concerned_5 rfl 0 rfl ?_
  refine ok_get (pc := 6) hc fl_X6_10 dX6_concerned_6 e1.1 e1.2 v1_0 ?_
  refine ok_iload_n (pc := 9) hc dX6_concerned_9 rfl 1 rfl ?_
  exact ok_callV (pc := 10) (a := q2) (cb := 0) (sb := 0) (st := []) hc [.int (i3 x1)] cv_X6_236 sp_X0_judge (by decide) dX6_concerned_10 rfl e3.1 e3.2 rfl rfl rfl (Nat.le_of_ble_eq_true rfl) P

set_option maxHeartbeats 4000000 in
set_option maxRecDepth 100000 in
theorem sX6_concerned_13 {X : Xt} {n : Nat} {h : HP} {a0 : Nat} {x1 : Int} {fs1 : List Value} {q2 : Nat} {fs3 : List Value} {iv4 : Int} (hc : Cx X cX6_concerned RX6 2 7 111) {K : KT} (hr : CxR X (some .int) K) (e1 : At h n a0 (.inl (6, fs1))) (z1 : fs1.length = 6) (v1_0 : fs1[0]? = some (.ref q2)) (e3 : At h n q2 (.inl (0, fs3))) (z3 : fs3.length = 8) (v3_7 : fs3[7]? = some (.int (i3 iv4)))
    (P : K (.inl (some (.int (i3 iv4)))) n h) :
    Ok X 0 0 13 [(0, .ref a0), (1, .int (i3 x1))] [] n h := by
  refine ok_aload_n (pc := 13) hc dX6_concerned_13 rfl 0 rfl ?_
  refine ok_get (pc := 14) hc fl_X6_10 dX6_concerned_14 e1.1 e1.2 v1_0 ?_
  refine ok_get (pc := 17) hc fl_X6_242 dX6_concerned_17 e3.1 e3.2 v3_7 ?_
  exact ok_iret (st := []) (pc := 20) hc hr dX6_concerned_20 P

def opConc (q : Dsk) (c : Int) : Int ⊕ String := if ¬ (0 ≤ c ∧ c < 3 ^ nA q.1.1) then .inr eIO else .inl (jud q.1 c).2
def spec_X6_concerned (args : List Value) (n : Nat) (h : HP) (K : KT) : Prop := ∃ (q : Dsk) (c : Int), args = [.ref 0, .int (i3 c)] ∧ R3 c ∧ DkA h n q ∧ ∀ h', DkA h' n q → Fr h h' 0 127 → K (oV (opConc q c)) n h'
theorem sp_X6_concerned : Sp yX6_concerned cX6_concerned 2 (some .int) 7 111 1 6 spec_X6_concerned := by
  refine sp_intro (by decide) (by rintro args n h K ⟨q, c, rfl, -⟩; exact Nat.le_of_ble_eq_true rfl) ?_
  rintro X args n h K hc hr ⟨q, cs, rfl, hcs, hq, kk⟩
  obtain ⟨_, _, _, _, hK⟩ := id hq.2.1
  obtain ⟨_, _, _, hB, h3, -⟩ := id hK
  have p3 := c27 h3
  unfold opConc at kk
  refine sX6_concerned_0 hc hr hq.1 rfl ⟨q, cs, rfl, hcs, hq, fun c => ⟨rfl, ?_⟩, fun c => ?_⟩
  · rw [if_neg (fun z => z c)] at kk
    refine sX6_concerned_5 hc hr hq.1 rfl rfl hB.1 rfl ⟨1, q.1, cs, rfl, hq.2.1, by omega, fun h' sat G hK' f => ⟨rfl, ?_⟩⟩
    obtain ⟨_, _, _, hB', -⟩ := id hK'
    have hq' := hq.now hK'.a f
    exact sX6_concerned_13 hc hr hq'.1 rfl rfl hB'.1 rfl rfl (kk h' hq' (f.sub (by omega) (by omega)))
  · rw [if_pos c] at kk
    exact ⟨rfl, okT_out hc hr (kk h hq Fr.rf)⟩
set_option maxHeartbeats 4000000 in
set_option maxRecDepth 100000 in
theorem sX6_part_0 {X : Xt} {n : Nat} {h : HP} {a0 : Nat} {x1 : Int} {x2 : Int} {fs1 : List Value} (hc : Cx X cX6_part RX6 3 7 111) {K : KT} (hr : CxR X (some .int) K) (e1 : At h n a0 (.inl (6, fs1))) (z1 : fs1.length = 6)
    (P : spec_X6_requirePart [.ref a0, .int (i3 x1)] n h (kc X 1 6 2 [(0, .ref a0), (1, .int (i3 x1)), (2, .int (i3 x2))] [] n)) :
    Ok X 2 12 0 [(0, .ref a0), (1, .int (i3 x1)), (2, .int (i3 x2))] [] n h := by
  refine ok_aload_n (pc := 0) hc dX6_part_0 rfl 0 rfl ?_
  refine ok_iload_n (pc := 1) hc dX6_part_1 rfl 1 rfl ?_
  exact ok_callV (pc := 2) (a := a0) (cb := 1) (sb := 6) (st := []) hc [.int (i3 x1)] cv_X6_111 sp_X6_requirePart (by decide) dX6_part_2 rfl e1.1 e1.2 rfl rfl rfl (Nat.le_of_ble_eq_true rfl) P

set_option maxHeartbeats 4000000 in
set_option maxRecDepth 100000 in
theorem sX6_part_5 {X : Xt} {n : Nat} {h : HP} {a0 : Nat} {x1 : Int} {x2 : Int} {fs2 : List Value} {q3 : Nat} {fs4 : List Value} {q5 : Nat} {fs6 : List Value} {q7 : Nat} {fs8 : List Value} {q9 : Nat} {len10 : Nat} {f10 : Nat → Int} {q11 : Nat} {len12 : Nat} {f12 : Nat → Int} {q13 : Nat} {len14 : Nat} {f14 : Nat → Int} {q15 : Nat} {len16 : Nat} {f16 : Nat → Int} (hc : Cx X cX6_part RX6 3 7 111) {K : KT} (hr : CxR X (some .int) K) (e2 : At h n a0 (.inl (6, fs2))) (z2 : fs2.length = 6) (v2_0 : fs2[0]? = some (.ref q3)) (e4 : At h n q3 (.inl (0, fs4))) (z4 : fs4.length = 8) (v4_0 : fs4[0]? = some (.ref q5)) (e6 : At h n q5 (.inl (4, fs6))) (z6 : fs6.length = 4) (v6_0 : fs6[0]? = some (.ref q7)) (e8 : At h n q7 (.inl (2, fs8))) (z8 : fs8.length = 5) (v8_0 : fs8[0]? = some (.ref q9)) (e10 : At h n q9 (ai len10 f10)) (v8_1 : fs8[1]? = some (.ref q11)) (e12 : At h n q11 (ai len12 f12)) (v8_2 : fs8[2]? = some (.ref q13)) (e14 : At h n q13 (ai len14 f14)) (v8_3 : fs8[3]? = some (.ref q15)) (e16 : At h n q15 (ai len16 f16))
    (P : (R3 x2) ∧ (x2 < 0 ∨ 3 < x2 → K (.inr "java/lang/IllegalArgumentException") n h) ∧ (x2 = 0 → (Ix x1 len10) ∧ K (.inl (some (.int (i3 (f10 (x1 : Int).toNat))))) n h) ∧ (x2 = 1 → (Ix x1 len12) ∧ K (.inl (some (.int (i3 (f12 (x1 : Int).toNat))))) n h) ∧ (x2 = 2 → (Ix x1 len14) ∧ K (.inl (some (.int (i3 (f14 (x1 : Int).toNat))))) n h) ∧ (x2 = 3 → (Ix x1 len16) ∧ K (.inl (some (.int (i3 (f16 (x1 : Int).toNat))))) n h)) :
    Ok X 1 6 5 [(0, .ref a0), (1, .int (i3 x1)), (2, .int (i3 x2))] [] n h := by
  refine ok_iload_n (pc := 5) hc dX6_part_5 rfl 2 rfl ?_
  obtain ⟨r1, P⟩ := P
  rcases (show (x2 < 0 ∨ 3 < x2) ∨ x2 = 0 ∨ x2 = 1 ∨ x2 = 2 ∨ x2 = 3 by omega) with c | c | c | c | c
  · have P := P.1 c
    refine ok_tableOut (pc := 6) (tgt := 100) hc dX6_part_6 (by rw [i3_toInt r1]; exact c) (by decide) ?_
    exact ok_throw (pc := 100) hc hr th_IAE rfl (is := 245) (text := "what is 0 to 3") (by decide) dX6_part_100 dX6_part_103 dX6_part_104 dX6_part_106 dX6_part_109 (by decide) (by decide) (by decide) (by decide) P
  · have P := P.2.1 c
    refine ok_tableIn (pc := 6) (off := 30) (tgt := 36) hc dX6_part_6 (by rw [i3_toInt r1, c]; decide) (by rw [i3_toInt r1, c]; decide) (by rw [i3_toInt r1, c]; rfl) (by decide) ?_
    refine ok_aload_n (pc := 36) hc dX6_part_36 rfl 0 rfl ?_
    refine ok_get (pc := 37) hc fl_X6_10 dX6_part_37 e2.1 e2.2 v2_0 ?_
    refine ok_get (pc := 40) hc fl_X6_43 dX6_part_40 e4.1 e4.2 v4_0 ?_
    refine ok_get (pc := 43) hc fl_X6_47 dX6_part_43 e6.1 e6.2 v6_0 ?_
    refine ok_get (pc := 46) hc fl_X6_187 dX6_part_46 e8.1 e8.2 v8_0 ?_
    refine ok_iload_n (pc := 49) hc dX6_part_49 rfl 1 rfl ?_
    obtain ⟨r, P⟩ := P
    refine zk_iald (pc := 50) hc dX6_part_50 e10.1 e10.2 r ?_
    exact ok_iret (st := []) (pc := 51) hc hr dX6_part_51 P
  · have P := P.2.2.1 c
    refine ok_tableIn (pc := 6) (off := 46) (tgt := 52) hc dX6_part_6 (by rw [i3_toInt r1, c]; decide) (by rw [i3_toInt r1, c]; decide) (by rw [i3_toInt r1, c]; rfl) (by decide) ?_
    refine ok_aload_n (pc := 52) hc dX6_part_52 rfl 0 rfl ?_
    refine ok_get (pc := 53) hc fl_X6_10 dX6_part_53 e2.1 e2.2 v2_0 ?_
    refine ok_get (pc := 56) hc fl_X6_43 dX6_part_56 e4.1 e4.2 v4_0 ?_
    refine ok_get (pc := 59) hc fl_X6_47 dX6_part_59 e6.1 e6.2 v6_0 ?_
    refine ok_get (pc := 62) hc fl_X6_195 dX6_part_62 e8.1 e8.2 v8_1 ?_
    refine ok_iload_n (pc := 65) hc dX6_part_65 rfl 1 rfl ?_
    obtain ⟨r, P⟩ := P
    refine zk_iald (pc := 66) hc dX6_part_66 e12.1 e12.2 r ?_
    exact ok_iret (st := []) (pc := 67) hc hr dX6_part_67 P
  · have P := P.2.2.2.1 c
    refine ok_tableIn (pc := 6) (off := 62) (tgt := 68) hc dX6_part_6 (by rw [i3_toInt r1, c]; decide) (by rw [i3_toInt r1, c]; decide) (by rw [i3_toInt r1, c]; rfl) (by decide) ?_
    refine ok_aload_n (pc := 68) hc dX6_part_68 rfl 0 rfl ?_
    refine ok_get (pc := 69) hc fl_X6_10 dX6_part_69 e2.1 e2.2 v2_0 ?_
    refine ok_get (pc := 72) hc fl_X6_43 dX6_part_72 e4.1 e4.2 v4_0 ?_
    refine ok_get (pc := 75) hc fl_X6_47 dX6_part_75 e6.1 e6.2 v6_0 ?_
    refine ok_get (pc := 78) hc fl_X6_202 dX6_part_78 e8.1 e8.2 v8_2 ?_
    refine ok_iload_n (pc := 81) hc dX6_part_81 rfl 1 rfl ?_
    obtain ⟨r, P⟩ := P
    refine zk_iald (pc := 82) hc dX6_part_82 e14.1 e14.2 r ?_
    exact ok_iret (st := []) (pc := 83) hc hr dX6_part_83 P
  · have P := P.2.2.2.2 c
    refine ok_tableIn (pc := 6) (off := 78) (tgt := 84) hc dX6_part_6 (by rw [i3_toInt r1, c]; decide) (by rw [i3_toInt r1, c]; decide) (by rw [i3_toInt r1, c]; rfl) (by decide) ?_
    refine ok_aload_n (pc := 84) hc dX6_part_84 rfl 0 rfl ?_
    refine ok_get (pc := 85) hc fl_X6_10 dX6_part_85 e2.1 e2.2 v2_0 ?_
    refine ok_get (pc := 88) hc fl_X6_43 dX6_part_88 e4.1 e4.2 v4_0 ?_
    refine ok_get (pc := 91) hc fl_X6_47 dX6_part_91 e6.1 e6.2 v6_0 ?_
    refine ok_get (pc := 94) hc fl_X6_102 dX6_part_94 e8.1 e8.2 v8_3 ?_
    refine ok_iload_n (pc := 97) hc dX6_part_97 rfl 1 rfl ?_
    obtain ⟨r, P⟩ := P
    refine zk_iald (pc := 98) hc dX6_part_98 e16.1 e16.2 r ?_
    exact ok_iret (st := []) (pc := 99) hc hr dX6_part_99 P

def opPart (q : Dsk) (x w : Int) : Int ⊕ String := match prt q.1.1 x with
  | none => .inr eIO
  | some p => if w = 0 then .inl p.1 else if w = 1 then .inl p.2.1 else if w = 2 then .inl p.2.2.1 else if w = 3 then .inl p.2.2.2 else .inr eIA
def spec_X6_part (args : List Value) (n : Nat) (h : HP) (K : KT) : Prop := ∃ (q : Dsk) (x w : Int), args = [.ref 0, .int (i3 x), .int (i3 w)] ∧ R3 x ∧ R3 w ∧ DkA h n q ∧ K (oV (opPart q x w)) n h
theorem sp_X6_part : Sp yX6_part cX6_part 3 (some .int) 7 111 2 12 spec_X6_part := by
  refine sp_intro (by decide) (by rintro args n h K ⟨q, x, w, rfl, -⟩; exact Nat.le_of_ble_eq_true rfl) ?_
  rintro X args n h K hc hr ⟨q, x, w, rfl, hx, hw3, hq, kk⟩
  obtain ⟨_, _, _, _, _, _, _, _, hB⟩ := hq.parts
  unfold opPart at kk
  cases hp : prt q.1.1 x with
  | none =>
    rw [hp] at kk
    exact sX6_part_0 hc hr hq.1 rfl ⟨q, x, rfl, hx, hq, fun c => absurd c (prt_none hp), fun _ => ⟨rfl, okT_out hc hr kk⟩⟩
  | some p =>
    rw [hp] at kk
    simp only at kk
    obtain ⟨hr1, hp1⟩ := prt_some hp
    obtain ⟨k, f, s, t, E, E1, E2, E3, E4, hv, hw, hl, hcap⟩ := id hB.2.1.2.1
    have hpe := Option.some.inj ((hv x.toNat (by omega)).symm.trans hp1)
    refine sX6_part_0 hc hr hq.1 rfl ⟨q, x, rfl, hx, hq, fun _ => ⟨rfl, ?_⟩, fun c => absurd hr1 c⟩
    have ix : Ix x 12 := ⟨by omega, by omega, by omega⟩
    refine sX6_part_5 hc hr hq.1 rfl rfl hB.1 rfl rfl hB.2.1.1 rfl rfl E rfl rfl E1 rfl E2 rfl E3 rfl E4 ⟨hw3, fun c => ?_, fun c => ⟨ix, ?_⟩, fun c => ⟨ix, ?_⟩, fun c => ⟨ix, ?_⟩, fun c => ⟨ix, ?_⟩⟩
    · rw [if_neg (by omega), if_neg (by omega), if_neg (by omega), if_neg (by omega)] at kk
      exact kk
    · rw [if_pos c, ← hpe] at kk
      exact kk
    · rw [if_neg (by omega), if_pos c, ← hpe] at kk
      exact kk
    · rw [if_neg (by omega), if_neg (by omega), if_pos c, ← hpe] at kk
      exact kk
    · rw [if_neg (by omega), if_neg (by omega), if_neg (by omega), if_pos c, ← hpe] at kk
      exact kk
