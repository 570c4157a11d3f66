/-! part 51: the desk: meanVoltage -/
/-- a node's voltage as a double -/
def vD (q : Dsk) (k : Nat) : UInt64 := FP.ddiv (FP.l2d (i6 (unL (opVolt q k 0)))) (FP.l2d (i6 (unL (opVolt q k 1))))
def meanN (q : Dsk) (m : Int) : Nat → Nat → UInt64 → UInt64
  | 0, _, w => w
  | j + 1, k, w => meanN q m j (k + 1) (if bcon m k = 0 then w else FP.dadd w (vD q k))
/-- no step of the sum is a NaN -/
def MnOk (q : Dsk) (m : Int) : Nat → Nat → UInt64 → Prop
  | 0, _, w => vf_n64 (FP.ddiv w (FP.i2d (i3 (nodesN m))))
  | j + 1, k, w => (bcon m k = 0 ∧ MnOk q m j (k + 1) w) ∨ (¬ bcon m k = 0 ∧ vf_n64 (vD q k) ∧ vf_n64 (FP.dadd w (vD q k)) ∧ MnOk q m j (k + 1) (FP.dadd w (vD q k)))
def meanD (q : Dsk) : UInt64 := if q.1.2.2.2 = 0 then FP.dconst0 else if nodesN (usedM q.1.1) = 0 then FP.dconst0 else FP.ddiv (meanN q (usedM q.1.1) 6 1 FP.dconst0) (FP.i2d (i3 (nodesN (usedM q.1.1))))
set_option maxHeartbeats 4000000 in
set_option maxRecDepth 100000 in
theorem sX6_meanVoltage_0 {X : Xt} {n : Nat} {h : HP} {a0 : Nat} {bb : Nat} {sb9 : Nat} {fs1 : List Value} {q2 : Nat} {fs3 : List Value} {q4 : Nat} {fs5 : List Value} {iv6 : Int} (hc : Cx X cX6_meanVoltage RX6 6 8 132) {K : KT} (hr : CxR X (some .double) K) (e1 : At h n a0 (.inl (6, fs1))) (z1 : fs1.length = 6) (v1_0 : fs1[0]? = some (.ref q2)) (e3 : At h n q2 (.inl (0, fs3))) (z3 : fs3.length = 8) (v3_0 : fs3[0]? = some (.ref q4)) (e5 : At h n q4 (.inl (4, fs5))) (z5 : fs5.length = 4) (v5_3 : fs5[3]? = some (.int (i3 iv6)))
    (P : (R3 iv6) ∧ (¬ iv6 = 0 → Ok X bb sb9 15 [(0, .ref a0)] [] n h) ∧ (iv6 = 0 → K (.inl (some (.double FP.dconst0))) n h)) :
    Ok X bb sb9 0 [(0, .ref a0)] [] n h := by
  refine ok_aload_n (pc := 0) hc dX6_meanVoltage_0 rfl 0 rfl ?_
  refine ok_get (pc := 1) hc fl_X6_10 dX6_meanVoltage_1 e1.1 e1.2 v1_0 ?_
  refine ok_get (pc := 4) hc fl_X6_43 dX6_meanVoltage_4 e3.1 e3.2 v3_0 ?_
  refine ok_get (pc := 7) hc fl_X6_179 dX6_meanVoltage_7 e5.1 e5.2 v5_3 ?_
  obtain ⟨r7, P⟩ := P
  refine zk_if_ne (pc := 10) (tgt := 15) hc dX6_meanVoltage_10 (by decide) r7 (fun c => ?_) (fun c => ?_)
  · have P := P.1 c
    exact P
  · have P := P.2 c
    refine ok_dconst0 (pc := 13) hc dX6_meanVoltage_13 ?_
    exact ok_dret (st := []) (pc := 14) hc hr dX6_meanVoltage_14 P

set_option maxHeartbeats 4000000 in
set_option maxRecDepth 100000 in
theorem sX6_meanVoltage_15 {X : Xt} {n : Nat} {h : HP} {a0 : Nat} {bb : Nat} {sb9 : Nat} {fs1 : List Value} {q2 : Nat} {fs3 : List Value} {q4 : Nat} {fs5 : List Value} {q6 : Nat} {fs7 : List Value} (hc : Cx X cX6_meanVoltage RX6 6 8 132) {K : KT} (hr : CxR X (some .double) K) (e1 : At h n a0 (.inl (6, fs1))) (z1 : fs1.length = 6) (v1_0 : fs1[0]? = some (.ref q2)) (e3 : At h n q2 (.inl (0, fs3))) (z3 : fs3.length = 8) (v3_0 : fs3[0]? = some (.ref q4)) (e5 : At h n q4 (.inl (4, fs5))) (z5 : fs5.length = 4) (v5_0 : fs5[0]? = some (.ref q6)) (e7 : At h n q6 (.inl (2, fs7))) (z7 : fs7.length = 5)
    (P : spec_X2_usedNodes [.ref q6] n h (kc X bb sb9 25 [(0, .ref a0)] [] n)) :
    Ok X bb sb9 15 [(0, .ref a0)] [] n h := by
  refine ok_aload_n (pc := 15) hc dX6_meanVoltage_15 rfl 0 rfl ?_
  refine ok_get (pc := 16) hc fl_X6_10 dX6_meanVoltage_16 e1.1 e1.2 v1_0 ?_
  refine ok_get (pc := 19) hc fl_X6_43 dX6_meanVoltage_19 e3.1 e3.2 v3_0 ?_
  refine ok_get (pc := 22) hc fl_X6_47 dX6_meanVoltage_22 e5.1 e5.2 v5_0 ?_
  exact ok_callV (pc := 25) (a := q6) (cb := bb) (sb := sb9) (st := []) hc [] cv_X6_253 sp_X2_usedNodes (by decide) dX6_meanVoltage_25 rfl e7.1 e7.2 rfl rfl rfl (Nat.le_of_ble_eq_true rfl) P

set_option maxHeartbeats 4000000 in
set_option maxRecDepth 100000 in
theorem sX6_meanVoltage_28 {X : Xt} {n : Nat} {h : HP} {a0 : Nat} {t0 : Int} {bb : Nat} {sb9 : Nat} (hc : Cx X cX6_meanVoltage RX6 6 8 132) {K : KT} (hr : CxR X (some .double) K) 
    (P : spec_J6_bitCount_0f7a4 [.int (i3 t0)] n h (kc X bb sb9 30 [(0, .ref a0), (1, .int (i3 t0))] [] n)) :
    Ok X bb sb9 28 [(0, .ref a0)] [.int (i3 t0)] n h := by
  refine ok_istore_n (pc := 28) hc (lv' := [(1, .int (i3 t0)), (0, .ref a0)]) dX6_meanVoltage_28 rfl (by decide) rfl ?_
  refine ok_iload_n (pc := 29) hc dX6_meanVoltage_29 rfl 0 rfl ?_
  refine ok_lv [1, 0] rfl ?_
  exact ok_callS (pc := 30) (cb := bb) (sb := sb9) (st := []) hc [.int (i3 t0)] cs_X6_258 sp_J6_bitCount_0f7a4 (by decide) dX6_meanVoltage_30 rfl rfl rfl rfl (Nat.le_of_ble_eq_true rfl) P

set_option maxHeartbeats 4000000 in
set_option maxRecDepth 100000 in
theorem sX6_meanVoltage_33 {X : Xt} {n : Nat} {h : HP} {a0 : Nat} {x1 : Int} {t0 : Int} {bb : Nat} {sb9 : Nat} (hc : Cx X cX6_meanVoltage RX6 6 8 132) {K : KT} (hr : CxR X (some .double) K) 
    (P : (R3 t0) ∧ (¬ t0 = 0 → Ok X bb sb9 45 [(0, .ref a0), (1, .int (i3 x1)), (2, .int (i3 t0)), (3, .double FP.dconst0), (5, .int (i3 1))] [] n h) ∧ (t0 = 0 → K (.inl (some (.double FP.dconst0))) n h)) :
    Ok X bb sb9 33 [(0, .ref a0), (1, .int (i3 x1))] [.int (i3 t0)] n h := by
  refine ok_istore_n (pc := 33) hc (lv' := [(2, .int (i3 t0)), (0, .ref a0), (1, .int (i3 x1))]) dX6_meanVoltage_33 rfl (by decide) rfl ?_
  refine ok_iload_n (pc := 34) hc dX6_meanVoltage_34 rfl 0 rfl ?_
  obtain ⟨r1, P⟩ := P
  refine zk_if_ne (pc := 35) (tgt := 40) hc dX6_meanVoltage_35 (by decide) r1 (fun c => ?_) (fun c => ?_)
  · have P := P.1 c
    refine ok_dconst0 (pc := 40) hc dX6_meanVoltage_40 ?_
    refine ok_dstore_n (pc := 41) hc (lv' := [(3, .double FP.dconst0), (2, .int (i3 t0)), (0, .ref a0), (1, .int (i3 x1))]) dX6_meanVoltage_41 rfl (by decide) rfl ?_
    refine ok_iconst (pc := 42) hc (v := i3 1) dX6_meanVoltage_42 (by decide) ?_
    refine ok_istore (pc := 43) hc (lv' := [(5, .int (i3 1)), (3, .double FP.dconst0), (2, .int (i3 t0)), (0, .ref a0), (1, .int (i3 x1))]) dX6_meanVoltage_43 (by decide) rfl ?_
    refine ok_lv [3, 4, 2, 1, 0] rfl ?_
    exact P
  · have P := P.2 c
    refine ok_dconst0 (pc := 38) hc dX6_meanVoltage_38 ?_
    exact ok_dret (st := []) (pc := 39) hc hr dX6_meanVoltage_39 P

set_option maxHeartbeats 4000000 in
set_option maxRecDepth 100000 in
theorem sX6_meanVoltage_45 {X : Xt} {n : Nat} {h : HP} {a0 : Nat} {x1 : Int} {x2 : Int} {w3 : UInt64} {x5 : Int} {bb : Nat} {sb9 : Nat} (hc : Cx X cX6_meanVoltage RX6 6 8 132) {K : KT} (hr : CxR X (some .double) K) 
    (P : (R3 x5) ∧ (7 ≤ x5 → Ok X bb sb9 87 [(0, .ref a0), (1, .int (i3 x1)), (2, .int (i3 x2)), (3, .double w3), (5, .int (i3 x5))] [] n h) ∧ (¬ 7 ≤ x5 → Ok X bb sb9 52 [(0, .ref a0), (1, .int (i3 x1)), (2, .int (i3 x2)), (3, .double w3), (5, .int (i3 x5))] [] n h)) :
    Ok X bb sb9 45 [(0, .ref a0), (1, .int (i3 x1)), (2, .int (i3 x2)), (3, .double w3), (5, .int (i3 x5))] [] n h := by
  refine ok_iload (pc := 45) hc dX6_meanVoltage_45 4 rfl ?_
  refine ok_bipush (pc := 47) hc (v := i3 7) dX6_meanVoltage_47 (by decide) ?_
  obtain ⟨r1, P⟩ := P
  refine zk_icmp_ge (pc := 49) (tgt := 87) hc dX6_meanVoltage_49 (by decide) r1 ⟨by decide, by decide⟩ (fun c => ?_) (fun c => ?_)
  · have P := P.1 c
    exact P
  · have P := P.2 c
    exact P

set_option maxHeartbeats 4000000 in
set_option maxRecDepth 100000 in
theorem sX6_meanVoltage_52 {X : Xt} {n : Nat} {h : HP} {a0 : Nat} {x1 : Int} {x2 : Int} {w3 : UInt64} {x5 : Int} {bb : Nat} {sb9 : Nat} (hc : Cx X cX6_meanVoltage RX6 6 8 132) {K : KT} (hr : CxR X (some .double) K) 
    (P : (R3 (bcon x1 x5)) ∧ ((bcon x1 x5) = 0 → Ok X bb sb9 81 [(0, .ref a0), (1, .int (i3 x1)), (2, .int (i3 x2)), (3, .double w3), (5, .int (i3 x5))] [] n h) ∧ (¬ (bcon x1 x5) = 0 → Ok X bb sb9 61 [(0, .ref a0), (1, .int (i3 x1)), (2, .int (i3 x2)), (3, .double w3), (5, .int (i3 x5))] [] n h)) :
    Ok X bb sb9 52 [(0, .ref a0), (1, .int (i3 x1)), (2, .int (i3 x2)), (3, .double w3), (5, .int (i3 x5))] [] n h := by
  refine ok_iload_n (pc := 52) hc dX6_meanVoltage_52 rfl 1 rfl ?_
  refine ok_iload (pc := 53) hc dX6_meanVoltage_53 4 rfl ?_
  refine ok_callS (pc := 55) (cb := bb) (sb := sb9) (st := []) hc [.int (i3 x1), .int (i3 x5)] cs_X6_155 sp_X6_contains (by decide) dX6_meanVoltage_55 rfl rfl rfl rfl (Nat.le_of_ble_eq_true rfl) (⟨_, _, rfl, rfl, ?_⟩)
  show Ok X bb sb9 (55 + 3) [(0, .ref a0), (1, .int (i3 x1)), (2, .int (i3 x2)), (3, .double w3), (5, .int (i3 x5))] [.int (i3 (bcon x1 x5))] n h
  obtain ⟨r1, P⟩ := P
  refine zk_if_eq (pc := 58) (tgt := 81) hc dX6_meanVoltage_58 (by decide) r1 (fun c => ?_) (fun c => ?_)
  · have P := P.1 c
    exact P
  · have P := P.2 c
    exact P

set_option maxHeartbeats 4000000 in
set_option maxRecDepth 100000 in
theorem sX6_meanVoltage_61 {X : Xt} {n : Nat} {h : HP} {a0 : Nat} {x1 : Int} {x2 : Int} {w3 : UInt64} {x5 : Int} {bb : Nat} {sb9 : Nat} {fs1 : List Value} (hc : Cx X cX6_meanVoltage RX6 6 8 132) {K : KT} (hr : CxR X (some .double) K) (e1 : At h n a0 (.inl (6, fs1))) (z1 : fs1.length = 6)
    (P : spec_X6_voltage [.ref a0, .int (i3 x5), .int (i3 0)] n h (kc X bb sb9 66 [(0, .ref a0), (1, .int (i3 x1)), (2, .int (i3 x2)), (3, .double w3), (5, .int (i3 x5))] [.double w3] n)) :
    Ok X (bb + 2) (sb9 + 12) 61 [(0, .ref a0), (1, .int (i3 x1)), (2, .int (i3 x2)), (3, .double w3), (5, .int (i3 x5))] [] n h := by
  refine ok_dload_n (pc := 61) hc dX6_meanVoltage_61 rfl 3 rfl ?_
  refine ok_aload_n (pc := 62) hc dX6_meanVoltage_62 rfl 0 rfl ?_
  refine ok_iload (pc := 63) hc dX6_meanVoltage_63 4 rfl ?_
  refine ok_iconst (pc := 65) hc (v := i3 0) dX6_meanVoltage_65 (by decide) ?_
  exact ok_callV (pc := 66) (a := a0) (cb := bb) (sb := sb9) (st := [.double w3]) hc [.int (i3 x5), .int (i3 0)] cv_X6_263 sp_X6_voltage (by decide) dX6_meanVoltage_66 rfl e1.1 e1.2 rfl rfl rfl (Nat.le_of_ble_eq_true rfl) P

set_option maxHeartbeats 4000000 in
set_option maxRecDepth 100000 in
theorem sX6_meanVoltage_69 {X : Xt} {n : Nat} {h : HP} {a0 : Nat} {x1 : Int} {x2 : Int} {w3 : UInt64} {x5 : Int} {tl0 : Int} {td1 : UInt64} {bb : Nat} {sb9 : Nat} {fs1 : List Value} (hc : Cx X cX6_meanVoltage RX6 6 8 132) {K : KT} (hr : CxR X (some .double) K) (e1 : At h n a0 (.inl (6, fs1))) (z1 : fs1.length = 6)
    (P : spec_X6_voltage [.ref a0, .int (i3 x5), .int (i3 1)] n h (kc X bb sb9 74 [(0, .ref a0), (1, .int (i3 x1)), (2, .int (i3 x2)), (3, .double w3), (5, .int (i3 x5))] [.double (FP.l2d (i6 tl0)), .double td1] n)) :
    Ok X (bb + 2) (sb9 + 12) 69 [(0, .ref a0), (1, .int (i3 x1)), (2, .int (i3 x2)), (3, .double w3), (5, .int (i3 x5))] [.long (i6 tl0), .double td1] n h := by
  refine ok_l2d (pc := 69) hc dX6_meanVoltage_69 ?_
  refine ok_aload_n (pc := 70) hc dX6_meanVoltage_70 rfl 0 rfl ?_
  refine ok_iload (pc := 71) hc dX6_meanVoltage_71 4 rfl ?_
  refine ok_iconst (pc := 73) hc (v := i3 1) dX6_meanVoltage_73 (by decide) ?_
  exact ok_callV (pc := 74) (a := a0) (cb := bb) (sb := sb9) (st := [.double (FP.l2d (i6 tl0)), .double td1]) hc [.int (i3 x5), .int (i3 1)] cv_X6_263 sp_X6_voltage (by decide) dX6_meanVoltage_74 rfl e1.1 e1.2 rfl rfl rfl (Nat.le_of_ble_eq_true rfl) P

set_option maxHeartbeats 4000000 in
set_option maxRecDepth 100000 in
theorem sX6_meanVoltage_77 {X : Xt} {n : Nat} {h : HP} {a0 : Nat} {x1 : Int} {x2 : Int} {w3 : UInt64} {x5 : Int} {tl0 : Int} {td1 : UInt64} {td2 : UInt64} {bb : Nat} {sb9 : Nat} (hc : Cx X cX6_meanVoltage RX6 6 8 132) {K : KT} (hr : CxR X (some .double) K) 
    (P : (vf_n64 (FP.ddiv td1 (FP.l2d (i6 tl0)))) ∧ (vf_n64 (FP.dadd td2 (FP.ddiv td1 (FP.l2d (i6 tl0))))) ∧ Ok X bb sb9 81 [(0, .ref a0), (1, .int (i3 x1)), (2, .int (i3 x2)), (3, .double (FP.dadd td2 (FP.ddiv td1 (FP.l2d (i6 tl0))))), (5, .int (i3 x5))] [] n h) :
    Ok X bb sb9 77 [(0, .ref a0), (1, .int (i3 x1)), (2, .int (i3 x2)), (3, .double w3), (5, .int (i3 x5))] [.long (i6 tl0), .double td1, .double td2] n h := by
  refine ok_l2d (pc := 77) hc dX6_meanVoltage_77 ?_
  obtain ⟨r, P⟩ := P
  refine ok_ddiv (pc := 78) hc dX6_meanVoltage_78 r ?_
  obtain ⟨r, P⟩ := P
  refine ok_dadd (pc := 79) hc dX6_meanVoltage_79 r ?_
  refine ok_dstore_n (pc := 80) hc (lv' := [(3, .double (FP.dadd td2 (FP.ddiv td1 (FP.l2d (i6 tl0))))), (0, .ref a0), (1, .int (i3 x1)), (2, .int (i3 x2)), (5, .int (i3 x5))]) dX6_meanVoltage_80 rfl (by decide) rfl ?_
  refine ok_lv [1, 2, 3, 0, 4] rfl ?_
  exact P

set_option maxHeartbeats 4000000 in
set_option maxRecDepth 100000 in
theorem sX6_meanVoltage_81 {X : Xt} {n : Nat} {h : HP} {a0 : Nat} {x1 : Int} {x2 : Int} {w3 : UInt64} {x5 : Int} {bb : Nat} {sb9 : Nat} (hc : Cx X cX6_meanVoltage RX6 6 8 132) {K : KT} (hr : CxR X (some .double) K) 
    (P : Ok X bb sb9 45 [(0, .ref a0), (1, .int (i3 x1)), (2, .int (i3 x2)), (3, .double w3), (5, .int (i3 (x5 + 1)))] [] n h) :
    Ok X bb sb9 81 [(0, .ref a0), (1, .int (i3 x1)), (2, .int (i3 x2)), (3, .double w3), (5, .int (i3 x5))] [] n h := by
  refine zk_iinc (pc := 81) hc (q := 4) (x := x5) (lv' := [(5, .int (i3 (x5 + 1))), (0, .ref a0), (1, .int (i3 x1)), (2, .int (i3 x2)), (3, .double w3)]) dX6_meanVoltage_81 rfl (by decide) rfl ?_
  refine ok_goto (pc := 84) (tgt := 45) hc dX6_meanVoltage_84 (by decide) ?_
  refine ok_lv [1, 2, 3, 4, 0] rfl ?_
  exact P

set_option maxHeartbeats 4000000 in
set_option maxRecDepth 100000 in
theorem sX6_meanVoltage_87 {X : Xt} {n : Nat} {h : HP} {a0 : Nat} {x1 : Int} {x2 : Int} {w3 : UInt64} {x5 : Int} {bb : Nat} {sb9 : Nat} (hc : Cx X cX6_meanVoltage RX6 6 8 132) {K : KT} (hr : CxR X (some .double) K) 
    (P : (vf_n64 (FP.ddiv w3 (FP.i2d (i3 x2)))) ∧ K (.inl (some (.double (FP.ddiv w3 (FP.i2d (i3 x2)))))) n h) :
    Ok X bb sb9 87 [(0, .ref a0), (1, .int (i3 x1)), (2, .int (i3 x2)), (3, .double w3), (5, .int (i3 x5))] [] n h := by
  refine ok_dload_n (pc := 87) hc dX6_meanVoltage_87 rfl 3 rfl ?_
  refine ok_iload_n (pc := 88) hc dX6_meanVoltage_88 rfl 2 rfl ?_
  refine ok_i2d (pc := 89) hc dX6_meanVoltage_89 ?_
  obtain ⟨r, P⟩ := P
  refine ok_ddiv (pc := 90) hc dX6_meanVoltage_90 r ?_
  exact ok_dret (st := []) (pc := 91) hc hr dX6_meanVoltage_91 P

def spec_X6_meanVoltage (args : List Value) (n : Nat) (h : HP) (K : KT) : Prop := ∃ (q : Dsk), args = [.ref 0] ∧ DkA h n q ∧ (¬ q.1.2.2.2 = 0 → ¬ nodesN (usedM q.1.1) = 0 → MnOk q (usedM q.1.1) 6 1 FP.dconst0) ∧ ∀ h', DkA h' n q → Fr h h' 0 127 → K (.inl (some (.double (meanD q)))) n h'
theorem sp_X6_meanVoltage : Sp yX6_meanVoltage cX6_meanVoltage 6 (some .double) 8 132 24 144 spec_X6_meanVoltage := by
  refine sp_intro (by decide) (by rintro args n h K ⟨q, rfl, -⟩; exact Nat.le_of_ble_eq_true rfl) ?_
  rintro X args n h K hc hr ⟨q, rfl, hq, hM, kk⟩
  obtain ⟨_, _, _, _, _, _, _, _, hB⟩ := hq.parts
  have hs := hB.2.1.2.2.2.2
  unfold meanD at kk
  have hmk : Mk (usedM q.1.1) := Mk.gnd (Mk.uf (fun p hp => (hq.2.2.2.2.2.2.1.1.2.2.1 p hp).1) 0 Mk0)
  have hnr := nodesN_r (usedM q.1.1)
  refine sX6_meanVoltage_0 (bb := 24) (sb9 := 144) hc hr hq.1 rfl rfl hB.1 rfl rfl hB.2.1.1 rfl rfl ⟨R3_s (by omega), fun c => ?_, fun c => ?_⟩
  · rw [if_neg c] at kk
    refine sX6_meanVoltage_15 hc hr hq.1 rfl rfl hB.1 rfl rfl hB.2.1.1 rfl rfl hB.2.1.2.1.obj rfl ⟨3, 12, q.1.1, rfl, hB.2.1.2.1, rfl, ?_⟩
    refine sX6_meanVoltage_28 hc hr ⟨usedM q.1.1, rfl, hmk, rfl, ?_⟩
    refine sX6_meanVoltage_33 hc hr ⟨R3_s (by omega), fun c2 => ?_, fun c2 => ?_⟩
    · rw [if_neg c2] at kk
      have L : ∀ (j k : Nat) (w : UInt64) (hh : HP), k + j = 7 → DkA hh n q → Fr h hh 0 127 → MnOk q (usedM q.1.1) j k w → meanN q (usedM q.1.1) j k w = meanN q (usedM q.1.1) 6 1 FP.dconst0 → Ok X (4 * j) (24 * j) 45 [(0, .ref 0), (1, .int (i3 (usedM q.1.1))), (2, .int (i3 (nodesN (usedM q.1.1)))), (3, .double w), (5, .int (i3 k))] [] n hh := by
        intro j
        induction j with
        | zero =>
          intro k w hh hkj hq hf ho e
          have : k = 7 := by omega
          subst this
          have kk := kk hh hq hf
          rw [← e] at kk
          exact sX6_meanVoltage_45 hc hr ⟨R3_s (by omega), fun _ => sX6_meanVoltage_87 hc hr ⟨ho, kk⟩, fun c => absurd c (by omega)⟩
        | succ j ih =>
          intro k w hh hkj hq hf ho e
          have e1 : meanN q (usedM q.1.1) (j + 1) k w = meanN q (usedM q.1.1) j (k + 1) (if bcon (usedM q.1.1) k = 0 then w else FP.dadd w (vD q k)) := rfl
          rw [e1] at e
          have b01 := bcon01 (usedM q.1.1) k
          refine sX6_meanVoltage_45 (bb := 4 * j + 2 + 2) (sb9 := 24 * j + 12 + 12) hc hr ⟨R3_s (by omega), fun c => absurd c (by omega), fun _ => ?_⟩
          refine sX6_meanVoltage_52 hc hr ⟨R3_s (by rcases b01 with z | z <;> omega), fun z => ?_, fun z => ?_⟩
          · rw [if_pos z] at e
            rcases ho with ⟨_, ho⟩ | ⟨z2, _⟩
            · exact sX6_meanVoltage_81 hc hr ((ih (k + 1) w hh (by omega) hq hf ho e).up (by omega) (by omega))
            · exact absurd z z2
          · rw [if_neg z] at e
            rcases ho with ⟨z2, _⟩ | ⟨_, o1, o2, ho⟩
            · exact absurd z2 z
            · refine sX6_meanVoltage_61 (bb := 4 * j + 2) (sb9 := 24 * j + 12) hc hr hq.1 rfl ⟨q, k, 0, rfl, R3_s (by omega), R3_0, hq, fun h1 hq1 f1 => ?_⟩
              rw [oL_un (opVolt_ok (by omega) (Or.inl rfl))]
              refine ⟨rfl, sX6_meanVoltage_69 (bb := 4 * j) (sb9 := 24 * j) hc hr hq1.1 rfl ⟨q, k, 1, rfl, R3_s (by omega), R3_s (by omega), hq1, fun h2 hq2 f2 => ?_⟩⟩
              rw [oL_un (opVolt_ok (by omega) (Or.inr rfl))]
              exact ⟨rfl, sX6_meanVoltage_77 hc hr ⟨o1, o2, sX6_meanVoltage_81 hc hr (ih (k + 1) _ h2 (by omega) hq2 ((hf.tr f1).tr f2) ho e)⟩⟩
      exact L 6 1 FP.dconst0 h rfl hq Fr.rf (hM c c2) rfl
    · rw [if_pos c2] at kk
      exact kk h hq Fr.rf
  · rw [if_pos c] at kk
    exact kk h hq Fr.rf
