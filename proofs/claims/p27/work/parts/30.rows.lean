/-! part 30: class Replies: writeRows -/
def startM (bal : Int) : Mat := fun i => if bcon bal i = 0 then va_up (va_up (fun _ => 0) i 1) (7 + i) 1 else fun _ => 0
def putP (bal c : Int) (Mo : Mat × Nat) (p : Part) : Mat × Nat := if p.1 = 0 then (joinM bal (joinM bal Mo.1 p.2.1.toNat p.2.2.1.toNat p.2.2.2) p.2.2.1.toNat p.2.1.toNat p.2.2.2, Mo.2) else if p.1 = 2 then (if bcon c Mo.2 = 0 then eqM Mo.1 p.2.1.toNat p.2.2.1.toNat p.2.2.2.toNat else Mo.1, Mo.2 + 1) else Mo
/-- the nodes whose currents balance -/
def balM (ps : List Part) : Int := band (usedM ps) (bxor (drivenM ps) (-1))
def rowsM (c : Int) (ps : List Part) : Mat := (ps.foldl (putP (balM ps) c) (startM (balM ps), 0)).1
set_option maxHeartbeats 4000000 in
set_option maxRecDepth 100000 in
theorem sX3_writeRows_0 {X : Xt} {n : Nat} {h : HP} {a0 : Nat} {a1 : Nat} {x2 : Int} {fs1 : List Value} (hc : Cx X cX3_writeRows RX3 6 2 47) {K : KT} (hr : CxR X none K) (e1 : At h n a1 (.inl (2, fs1))) (z1 : fs1.length = 5)
    (P : spec_X2_usedNodes [.ref a1] n h (kc X 0 0 1 [(0, .ref a0), (1, .ref a1), (2, .int (i3 x2))] [] n)) :
    Ok X 0 0 0 [(0, .ref a0), (1, .ref a1), (2, .int (i3 x2))] [] n h := by
  refine ok_aload_n (pc := 0) hc dX3_writeRows_0 rfl 1 rfl ?_
  exact ok_callV (pc := 1) (a := a1) (cb := 0) (sb := 0) (st := []) hc [] cv_X3_41 sp_X2_usedNodes (by decide) dX3_writeRows_1 rfl e1.1 e1.2 rfl rfl rfl (Nat.le_of_ble_eq_true rfl) P

set_option maxHeartbeats 4000000 in
set_option maxRecDepth 100000 in
theorem sX3_writeRows_4 {X : Xt} {n : Nat} {h : HP} {a0 : Nat} {a1 : Nat} {x2 : Int} {t0 : Int} {fs1 : List Value} (hc : Cx X cX3_writeRows RX3 6 2 47) {K : KT} (hr : CxR X none K) (e1 : At h n a1 (.inl (2, fs1))) (z1 : fs1.length = 5)
    (P : spec_X2_drivenNodes [.ref a1] n h (kc X 0 0 5 [(0, .ref a0), (1, .ref a1), (2, .int (i3 x2))] [.int (i3 t0)] n)) :
    Ok X 0 0 4 [(0, .ref a0), (1, .ref a1), (2, .int (i3 x2))] [.int (i3 t0)] n h := by
  refine ok_aload_n (pc := 4) hc dX3_writeRows_4 rfl 1 rfl ?_
  exact ok_callV (pc := 5) (a := a1) (cb := 0) (sb := 0) (st := [.int (i3 t0)]) hc [] cv_X3_47 sp_X2_drivenNodes (by decide) dX3_writeRows_5 rfl e1.1 e1.2 rfl rfl rfl (Nat.le_of_ble_eq_true rfl) P

set_option maxHeartbeats 4000000 in
set_option maxRecDepth 100000 in
theorem sX3_writeRows_8 {X : Xt} {n : Nat} {h : HP} {a0 : Nat} {a1 : Nat} {x2 : Int} {t0 : Int} {t1 : Int} (hc : Cx X cX3_writeRows RX3 6 2 47) {K : KT} (hr : CxR X none K) 
    (P : Ok X 0 0 15 [(0, .ref a0), (1, .ref a1), (2, .int (i3 x2)), (3, .int (i3 (band t1 (bxor t0 (-1))))), (4, .int (i3 0))] [] n h) :
    Ok X 0 0 8 [(0, .ref a0), (1, .ref a1), (2, .int (i3 x2))] [.int (i3 t0), .int (i3 t1)] n h := by
  refine ok_iconst (pc := 8) hc (v := i3 (-1)) dX3_writeRows_8 (by decide) ?_
  refine zk_ixor (pc := 9) hc dX3_writeRows_9 ?_
  refine zk_iand (pc := 10) hc dX3_writeRows_10 ?_
  refine ok_istore_n (pc := 11) hc (lv' := [(3, .int (i3 (band t1 (bxor t0 (-1))))), (0, .ref a0), (1, .ref a1), (2, .int (i3 x2))]) dX3_writeRows_11 rfl (by decide) rfl ?_
  refine ok_iconst (pc := 12) hc (v := i3 0) dX3_writeRows_12 (by decide) ?_
  refine ok_istore (pc := 13) hc (lv' := [(4, .int (i3 0)), (3, .int (i3 (band t1 (bxor t0 (-1))))), (0, .ref a0), (1, .ref a1), (2, .int (i3 x2))]) dX3_writeRows_13 (by decide) rfl ?_
  refine ok_lv [2, 3, 4, 1, 0] rfl ?_
  exact P

set_option maxHeartbeats 4000000 in
set_option maxRecDepth 100000 in
theorem sX3_writeRows_15 {X : Xt} {n : Nat} {h : HP} {a0 : Nat} {a1 : Nat} {x2 : Int} {x3 : Int} {x4 : Int} (hc : Cx X cX3_writeRows RX3 6 2 47) {K : KT} (hr : CxR X none K) 
    (P : (R3 x4) ∧ (7 ≤ x4 → Ok X 0 0 54 [(0, .ref a0), (1, .ref a1), (2, .int (i3 x2)), (3, .int (i3 x3)), (4, .int (i3 x4))] [] n h) ∧ (¬ 7 ≤ x4 → Ok X 0 0 22 [(0, .ref a0), (1, .ref a1), (2, .int (i3 x2)), (3, .int (i3 x3)), (4, .int (i3 x4))] [] n h)) :
    Ok X 0 0 15 [(0, .ref a0), (1, .ref a1), (2, .int (i3 x2)), (3, .int (i3 x3)), (4, .int (i3 x4))] [] n h := by
  refine ok_iload (pc := 15) hc dX3_writeRows_15 4 rfl ?_
  refine ok_bipush (pc := 17) hc (v := i3 7) dX3_writeRows_17 (by decide) ?_
  obtain ⟨r1, P⟩ := P
  refine zk_icmp_ge (pc := 19) (tgt := 54) hc dX3_writeRows_19 (by decide) r1 ⟨by decide, by decide⟩ (fun c => ?_) (fun c => ?_)
  · have P := P.1 c
    exact P
  · have P := P.2 c
    exact P

set_option maxHeartbeats 4000000 in
set_option maxRecDepth 100000 in
theorem sX3_writeRows_22 {X : Xt} {n : Nat} {h : HP} {a0 : Nat} {a1 : Nat} {x2 : Int} {x3 : Int} {x4 : Int} {fs1 : List Value} {q2 : Nat} {len3 : Nat} {f3 : Nat → Option Nat} {q4 : Nat} (hc : Cx X cX3_writeRows RX3 6 2 47) {K : KT} (hr : CxR X none K) (e1 : At h n a0 (.inl (3, fs1))) (z1 : fs1.length = 3) (v1_2 : fs1[2]? = some (.ref q2)) (e3 : At h n q2 (.inr (4, len3, .inr (.inr f3)))) (g5 : (f3 (x4 : Int).toNat) = some q4)
    (P : (Ix x4 len3) ∧ spec_J7_fill_d0a16 [.ref q4, .long (i6 0)] n h (kc X 0 0 30 [(0, .ref a0), (1, .ref a1), (2, .int (i3 x2)), (3, .int (i3 x3)), (4, .int (i3 x4))] [] n)) :
    Ok X 0 0 22 [(0, .ref a0), (1, .ref a1), (2, .int (i3 x2)), (3, .int (i3 x3)), (4, .int (i3 x4))] [] n h := by
  refine ok_aload_n (pc := 22) hc dX3_writeRows_22 rfl 0 rfl ?_
  refine ok_get (pc := 23) hc fl_X3_20 dX3_writeRows_23 e1.1 e1.2 v1_2 ?_
  refine ok_iload (pc := 26) hc dX3_writeRows_26 4 rfl ?_
  obtain ⟨r, P⟩ := P
  refine zk_aald (pc := 28) hc dX3_writeRows_28 e3.1 e3.2 rfl r g5 ?_
  refine ok_lconst (pc := 29) hc (v := i6 0) dX3_writeRows_29 (by decide) ?_
  exact ok_callS (pc := 30) (cb := 0) (sb := 0) (st := []) hc [.ref q4, .long (i6 0)] cs_X3_50 sp_J7_fill_d0a16 (by decide) dX3_writeRows_30 rfl rfl rfl rfl (Nat.le_of_ble_eq_true rfl) P

set_option maxHeartbeats 4000000 in
set_option maxRecDepth 100000 in
theorem sX3_writeRows_33 {X : Xt} {n : Nat} {h : HP} {a0 : Nat} {a1 : Nat} {x2 : Int} {x3 : Int} {x4 : Int} {fs2 : List Value} (hc : Cx X cX3_writeRows RX3 6 2 47) {K : KT} (hr : CxR X none K) (e2 : At h n a0 (.inl (3, fs2))) (z2 : fs2.length = 3)
    (P : (R3 (bcon x3 x4)) ∧ (¬ (bcon x3 x4) = 0 → Ok X 0 0 15 [(0, .ref a0), (1, .ref a1), (2, .int (i3 x2)), (3, .int (i3 x3)), (4, .int (i3 (x4 + 1)))] [] n h) ∧ ((bcon x3 x4) = 0 → spec_X3_giveVoltage [.ref a0, .int (i3 x4)] n h (kc X 0 0 45 [(0, .ref a0), (1, .ref a1), (2, .int (i3 x2)), (3, .int (i3 x3)), (4, .int (i3 x4))] [] n))) :
    Ok X 0 0 33 [(0, .ref a0), (1, .ref a1), (2, .int (i3 x2)), (3, .int (i3 x3)), (4, .int (i3 x4))] [] n h := by
  refine ok_iload_n (pc := 33) hc dX3_writeRows_33 rfl 3 rfl ?_
  refine ok_iload (pc := 34) hc dX3_writeRows_34 4 rfl ?_
  refine ok_callN (pc := 36) (cb := 0) (sb := 0) (st := []) hc [.int (i3 x3), .int (i3 x4)] cn_X3_56 sp_X6_contains (by decide) dX3_writeRows_36 rfl rfl rfl rfl (Nat.le_of_ble_eq_true rfl) (⟨_, _, rfl, rfl, ?_⟩)
  show Ok X 0 0 (36 + 3) [(0, .ref a0), (1, .ref a1), (2, .int (i3 x2)), (3, .int (i3 x3)), (4, .int (i3 x4))] [.int (i3 (bcon x3 x4))] n h
  obtain ⟨r1, P⟩ := P
  refine zk_if_ne (pc := 39) (tgt := 48) hc dX3_writeRows_39 (by decide) r1 (fun c => ?_) (fun c => ?_)
  · have P := P.1 c
    refine zk_iinc (pc := 48) hc (q := 4) (x := x4) (lv' := [(4, .int (i3 (x4 + 1))), (0, .ref a0), (1, .ref a1), (2, .int (i3 x2)), (3, .int (i3 x3))]) dX3_writeRows_48 rfl (by decide) rfl ?_
    refine ok_goto (pc := 51) (tgt := 15) hc dX3_writeRows_51 (by decide) ?_
    refine ok_lv [1, 2, 3, 4, 0] rfl ?_
    exact P
  · have P := P.2 c
    refine ok_aload_n (pc := 42) hc dX3_writeRows_42 rfl 0 rfl ?_
    refine ok_iload (pc := 43) hc dX3_writeRows_43 4 rfl ?_
    exact ok_callV (pc := 45) (a := a0) (cb := 0) (sb := 0) (st := []) hc [.int (i3 x4)] cv_X3_60 sp_X3_giveVoltage (by decide) dX3_writeRows_45 rfl e2.1 e2.2 rfl rfl rfl (Nat.le_of_ble_eq_true rfl) P

set_option maxHeartbeats 4000000 in
set_option maxRecDepth 100000 in
theorem sX3_writeRows_48 {X : Xt} {n : Nat} {h : HP} {a0 : Nat} {a1 : Nat} {x2 : Int} {x3 : Int} {x4 : Int} (hc : Cx X cX3_writeRows RX3 6 2 47) {K : KT} (hr : CxR X none K) 
    (P : Ok X 0 0 15 [(0, .ref a0), (1, .ref a1), (2, .int (i3 x2)), (3, .int (i3 x3)), (4, .int (i3 (x4 + 1)))] [] n h) :
    Ok X 0 0 48 [(0, .ref a0), (1, .ref a1), (2, .int (i3 x2)), (3, .int (i3 x3)), (4, .int (i3 x4))] [] n h := by
  refine zk_iinc (pc := 48) hc (q := 4) (x := x4) (lv' := [(4, .int (i3 (x4 + 1))), (0, .ref a0), (1, .ref a1), (2, .int (i3 x2)), (3, .int (i3 x3))]) dX3_writeRows_48 rfl (by decide) rfl ?_
  refine ok_goto (pc := 51) (tgt := 15) hc dX3_writeRows_51 (by decide) ?_
  refine ok_lv [1, 2, 3, 4, 0] rfl ?_
  exact P

set_option maxHeartbeats 4000000 in
set_option maxRecDepth 100000 in
theorem sX3_writeRows_54 {X : Xt} {n : Nat} {h : HP} {a0 : Nat} {a1 : Nat} {x2 : Int} {x3 : Int} {x4 : Int} (hc : Cx X cX3_writeRows RX3 6 2 47) {K : KT} (hr : CxR X none K) 
    (P : Ok X 0 0 60 [(0, .ref a0), (1, .ref a1), (2, .int (i3 x2)), (3, .int (i3 x3)), (4, .int (i3 0)), (5, .int (i3 0))] [] n h) :
    Ok X 0 0 54 [(0, .ref a0), (1, .ref a1), (2, .int (i3 x2)), (3, .int (i3 x3)), (4, .int (i3 x4))] [] n h := by
  refine ok_iconst (pc := 54) hc (v := i3 0) dX3_writeRows_54 (by decide) ?_
  refine ok_istore (pc := 55) hc (lv' := [(4, .int (i3 0)), (0, .ref a0), (1, .ref a1), (2, .int (i3 x2)), (3, .int (i3 x3))]) dX3_writeRows_55 (by decide) rfl ?_
  refine ok_iconst (pc := 57) hc (v := i3 0) dX3_writeRows_57 (by decide) ?_
  refine ok_istore (pc := 58) hc (lv' := [(5, .int (i3 0)), (4, .int (i3 0)), (0, .ref a0), (1, .ref a1), (2, .int (i3 x2)), (3, .int (i3 x3))]) dX3_writeRows_58 (by decide) rfl ?_
  refine ok_lv [2, 3, 4, 5, 1, 0] rfl ?_
  exact P

set_option maxHeartbeats 4000000 in
set_option maxRecDepth 100000 in
theorem sX3_writeRows_60 {X : Xt} {n : Nat} {h : HP} {a0 : Nat} {a1 : Nat} {x2 : Int} {x3 : Int} {x4 : Int} {x5 : Int} {fs1 : List Value} {iv2 : Int} (hc : Cx X cX3_writeRows RX3 6 2 47) {K : KT} (hr : CxR X none K) (e1 : At h n a1 (.inl (2, fs1))) (z1 : fs1.length = 5) (v1_4 : fs1[4]? = some (.int (i3 iv2)))
    (P : (R3 x5) ∧ (R3 iv2) ∧ (iv2 ≤ x5 → K (.inl none) n h) ∧ (¬ iv2 ≤ x5 → Ok X 0 0 69 [(0, .ref a0), (1, .ref a1), (2, .int (i3 x2)), (3, .int (i3 x3)), (4, .int (i3 x4)), (5, .int (i3 x5))] [] n h)) :
    Ok X 0 0 60 [(0, .ref a0), (1, .ref a1), (2, .int (i3 x2)), (3, .int (i3 x3)), (4, .int (i3 x4)), (5, .int (i3 x5))] [] n h := by
  refine ok_iload (pc := 60) hc dX3_writeRows_60 5 rfl ?_
  refine ok_aload_n (pc := 62) hc dX3_writeRows_62 rfl 1 rfl ?_
  refine ok_get (pc := 63) hc fl_X3_64 dX3_writeRows_63 e1.1 e1.2 v1_4 ?_
  obtain ⟨r3, P⟩ := P
  obtain ⟨r4, P⟩ := P
  refine zk_icmp_ge (pc := 66) (tgt := 188) hc dX3_writeRows_66 (by decide) r3 r4 (fun c => ?_) (fun c => ?_)
  · have P := P.1 c
    exact ok_vret (st := []) (pc := 188) hc hr dX3_writeRows_188 P
  · have P := P.2 c
    exact P

set_option maxHeartbeats 4000000 in
set_option maxRecDepth 100000 in
theorem sX3_writeRows_69 {X : Xt} {n : Nat} {h : HP} {a0 : Nat} {a1 : Nat} {x2 : Int} {x3 : Int} {x4 : Int} {x5 : Int} {fs1 : List Value} {q2 : Nat} {len3 : Nat} {f3 : Nat → Int} (hc : Cx X cX3_writeRows RX3 6 2 47) {K : KT} (hr : CxR X none K) (e1 : At h n a1 (.inl (2, fs1))) (z1 : fs1.length = 5) (v1_0 : fs1[0]? = some (.ref q2)) (e3 : At h n q2 (ai len3 f3))
    (P : (Ix x5 len3) ∧ (R3 (f3 (x5 : Int).toNat)) ∧ (¬ (f3 (x5 : Int).toNat) = 0 → Ok X 0 0 134 [(0, .ref a0), (1, .ref a1), (2, .int (i3 x2)), (3, .int (i3 x3)), (4, .int (i3 x4)), (5, .int (i3 x5))] [] n h) ∧ ((f3 (x5 : Int).toNat) = 0 → Ok X 0 0 79 [(0, .ref a0), (1, .ref a1), (2, .int (i3 x2)), (3, .int (i3 x3)), (4, .int (i3 x4)), (5, .int (i3 x5))] [] n h)) :
    Ok X 0 0 69 [(0, .ref a0), (1, .ref a1), (2, .int (i3 x2)), (3, .int (i3 x3)), (4, .int (i3 x4)), (5, .int (i3 x5))] [] n h := by
  refine ok_aload_n (pc := 69) hc dX3_writeRows_69 rfl 1 rfl ?_
  refine ok_get (pc := 70) hc fl_X3_68 dX3_writeRows_70 e1.1 e1.2 v1_0 ?_
  refine ok_iload (pc := 73) hc dX3_writeRows_73 5 rfl ?_
  obtain ⟨r, P⟩ := P
  refine zk_iald (pc := 75) hc dX3_writeRows_75 e3.1 e3.2 r ?_
  obtain ⟨r4, P⟩ := P
  refine zk_if_ne (pc := 76) (tgt := 134) hc dX3_writeRows_76 (by decide) r4 (fun c => ?_) (fun c => ?_)
  · have P := P.1 c
    exact P
  · have P := P.2 c
    exact P

set_option maxHeartbeats 4000000 in
set_option maxRecDepth 100000 in
theorem sX3_writeRows_79 {X : Xt} {n : Nat} {h : HP} {a0 : Nat} {a1 : Nat} {x2 : Int} {x3 : Int} {x4 : Int} {x5 : Int} {fs1 : List Value} {q2 : Nat} {len3 : Nat} {f3 : Nat → Int} {q4 : Nat} {len5 : Nat} {f5 : Nat → Int} {q6 : Nat} {len7 : Nat} {f7 : Nat → Int} {fs8 : List Value} (hc : Cx X cX3_writeRows RX3 6 2 47) {K : KT} (hr : CxR X none K) (e1 : At h n a1 (.inl (2, fs1))) (z1 : fs1.length = 5) (v1_1 : fs1[1]? = some (.ref q2)) (e3 : At h n q2 (ai len3 f3)) (v1_2 : fs1[2]? = some (.ref q4)) (e5 : At h n q4 (ai len5 f5)) (v1_3 : fs1[3]? = some (.ref q6)) (e7 : At h n q6 (ai len7 f7)) (e8 : At h n a0 (.inl (3, fs8))) (z8 : fs8.length = 3)
    (P : (Ix x5 len3) ∧ (Ix x5 len5) ∧ (Ix x5 len7) ∧ spec_X3_join [.ref a0, .int (i3 (f3 (x5 : Int).toNat)), .int (i3 (f5 (x5 : Int).toNat)), .int (i3 (f7 (x5 : Int).toNat)), .int (i3 x3)] n h (kc X 0 0 102 [(0, .ref a0), (1, .ref a1), (2, .int (i3 x2)), (3, .int (i3 x3)), (4, .int (i3 x4)), (5, .int (i3 x5))] [] n)) :
    Ok X 0 0 79 [(0, .ref a0), (1, .ref a1), (2, .int (i3 x2)), (3, .int (i3 x3)), (4, .int (i3 x4)), (5, .int (i3 x5))] [] n h := by
  refine ok_aload_n (pc := 79) hc dX3_writeRows_79 rfl 0 rfl ?_
  refine ok_aload_n (pc := 80) hc dX3_writeRows_80 rfl 1 rfl ?_
  refine ok_get (pc := 81) hc fl_X3_72 dX3_writeRows_81 e1.1 e1.2 v1_1 ?_
  refine ok_iload (pc := 84) hc dX3_writeRows_84 5 rfl ?_
  obtain ⟨r, P⟩ := P
  refine zk_iald (pc := 86) hc dX3_writeRows_86 e3.1 e3.2 r ?_
  refine ok_aload_n (pc := 87) hc dX3_writeRows_87 rfl 1 rfl ?_
  refine ok_get (pc := 88) hc fl_X3_75 dX3_writeRows_88 e1.1 e1.2 v1_2 ?_
  refine ok_iload (pc := 91) hc dX3_writeRows_91 5 rfl ?_
  obtain ⟨r, P⟩ := P
  refine zk_iald (pc := 93) hc dX3_writeRows_93 e5.1 e5.2 r ?_
  refine ok_aload_n (pc := 94) hc dX3_writeRows_94 rfl 1 rfl ?_
  refine ok_get (pc := 95) hc fl_X3_78 dX3_writeRows_95 e1.1 e1.2 v1_3 ?_
  refine ok_iload (pc := 98) hc dX3_writeRows_98 5 rfl ?_
  obtain ⟨r, P⟩ := P
  refine zk_iald (pc := 100) hc dX3_writeRows_100 e7.1 e7.2 r ?_
  refine ok_iload_n (pc := 101) hc dX3_writeRows_101 rfl 3 rfl ?_
  exact ok_callV (pc := 102) (a := a0) (cb := 0) (sb := 0) (st := []) hc [.int (i3 (f3 (x5 : Int).toNat)), .int (i3 (f5 (x5 : Int).toNat)), .int (i3 (f7 (x5 : Int).toNat)), .int (i3 x3)] cv_X3_81 sp_X3_join (by decide) dX3_writeRows_102 rfl e8.1 e8.2 rfl rfl rfl (Nat.le_of_ble_eq_true rfl) P

set_option maxHeartbeats 4000000 in
set_option maxRecDepth 100000 in
theorem sX3_writeRows_105 {X : Xt} {n : Nat} {h : HP} {a0 : Nat} {a1 : Nat} {x2 : Int} {x3 : Int} {x4 : Int} {x5 : Int} {fs1 : List Value} {q2 : Nat} {len3 : Nat} {f3 : Nat → Int} {q4 : Nat} {len5 : Nat} {f5 : Nat → Int} {q6 : Nat} {len7 : Nat} {f7 : Nat → Int} {fs8 : List Value} (hc : Cx X cX3_writeRows RX3 6 2 47) {K : KT} (hr : CxR X none K) (e1 : At h n a1 (.inl (2, fs1))) (z1 : fs1.length = 5) (v1_2 : fs1[2]? = some (.ref q2)) (e3 : At h n q2 (ai len3 f3)) (v1_1 : fs1[1]? = some (.ref q4)) (e5 : At h n q4 (ai len5 f5)) (v1_3 : fs1[3]? = some (.ref q6)) (e7 : At h n q6 (ai len7 f7)) (e8 : At h n a0 (.inl (3, fs8))) (z8 : fs8.length = 3)
    (P : (Ix x5 len3) ∧ (Ix x5 len5) ∧ (Ix x5 len7) ∧ spec_X3_join [.ref a0, .int (i3 (f3 (x5 : Int).toNat)), .int (i3 (f5 (x5 : Int).toNat)), .int (i3 (f7 (x5 : Int).toNat)), .int (i3 x3)] n h (kc X 0 0 128 [(0, .ref a0), (1, .ref a1), (2, .int (i3 x2)), (3, .int (i3 x3)), (4, .int (i3 x4)), (5, .int (i3 x5))] [] n)) :
    Ok X 0 0 105 [(0, .ref a0), (1, .ref a1), (2, .int (i3 x2)), (3, .int (i3 x3)), (4, .int (i3 x4)), (5, .int (i3 x5))] [] n h := by
  refine ok_aload_n (pc := 105) hc dX3_writeRows_105 rfl 0 rfl ?_
  refine ok_aload_n (pc := 106) hc dX3_writeRows_106 rfl 1 rfl ?_
  refine ok_get (pc := 107) hc fl_X3_75 dX3_writeRows_107 e1.1 e1.2 v1_2 ?_
  refine ok_iload (pc := 110) hc dX3_writeRows_110 5 rfl ?_
  obtain ⟨r, P⟩ := P
  refine zk_iald (pc := 112) hc dX3_writeRows_112 e3.1 e3.2 r ?_
  refine ok_aload_n (pc := 113) hc dX3_writeRows_113 rfl 1 rfl ?_
  refine ok_get (pc := 114) hc fl_X3_72 dX3_writeRows_114 e1.1 e1.2 v1_1 ?_
  refine ok_iload (pc := 117) hc dX3_writeRows_117 5 rfl ?_
  obtain ⟨r, P⟩ := P
  refine zk_iald (pc := 119) hc dX3_writeRows_119 e5.1 e5.2 r ?_
  refine ok_aload_n (pc := 120) hc dX3_writeRows_120 rfl 1 rfl ?_
  refine ok_get (pc := 121) hc fl_X3_78 dX3_writeRows_121 e1.1 e1.2 v1_3 ?_
  refine ok_iload (pc := 124) hc dX3_writeRows_124 5 rfl ?_
  obtain ⟨r, P⟩ := P
  refine zk_iald (pc := 126) hc dX3_writeRows_126 e7.1 e7.2 r ?_
  refine ok_iload_n (pc := 127) hc dX3_writeRows_127 rfl 3 rfl ?_
  exact ok_callV (pc := 128) (a := a0) (cb := 0) (sb := 0) (st := []) hc [.int (i3 (f3 (x5 : Int).toNat)), .int (i3 (f5 (x5 : Int).toNat)), .int (i3 (f7 (x5 : Int).toNat)), .int (i3 x3)] cv_X3_81 sp_X3_join (by decide) dX3_writeRows_128 rfl e8.1 e8.2 rfl rfl rfl (Nat.le_of_ble_eq_true rfl) P

set_option maxHeartbeats 4000000 in
set_option maxRecDepth 100000 in
theorem sX3_writeRows_131 {X : Xt} {n : Nat} {h : HP} {a0 : Nat} {a1 : Nat} {x2 : Int} {x3 : Int} {x4 : Int} {x5 : Int} (hc : Cx X cX3_writeRows RX3 6 2 47) {K : KT} (hr : CxR X none K) 
    (P : Ok X 0 0 60 [(0, .ref a0), (1, .ref a1), (2, .int (i3 x2)), (3, .int (i3 x3)), (4, .int (i3 x4)), (5, .int (i3 (x5 + 1)))] [] n h) :
    Ok X 0 0 131 [(0, .ref a0), (1, .ref a1), (2, .int (i3 x2)), (3, .int (i3 x3)), (4, .int (i3 x4)), (5, .int (i3 x5))] [] n h := by
  refine ok_goto (pc := 131) (tgt := 182) hc dX3_writeRows_131 (by decide) ?_
  refine zk_iinc (pc := 182) hc (q := 5) (x := x5) (lv' := [(5, .int (i3 (x5 + 1))), (0, .ref a0), (1, .ref a1), (2, .int (i3 x2)), (3, .int (i3 x3)), (4, .int (i3 x4))]) dX3_writeRows_182 rfl (by decide) rfl ?_
  refine ok_goto (pc := 185) (tgt := 60) hc dX3_writeRows_185 (by decide) ?_
  refine ok_lv [1, 2, 3, 4, 5, 0] rfl ?_
  exact P

set_option maxHeartbeats 4000000 in
set_option maxRecDepth 100000 in
theorem sX3_writeRows_134 {X : Xt} {n : Nat} {h : HP} {a0 : Nat} {a1 : Nat} {x2 : Int} {x3 : Int} {x4 : Int} {x5 : Int} {fs1 : List Value} {q2 : Nat} {len3 : Nat} {f3 : Nat → Int} (hc : Cx X cX3_writeRows RX3 6 2 47) {K : KT} (hr : CxR X none K) (e1 : At h n a1 (.inl (2, fs1))) (z1 : fs1.length = 5) (v1_0 : fs1[0]? = some (.ref q2)) (e3 : At h n q2 (ai len3 f3))
    (P : (Ix x5 len3) ∧ (R3 (f3 (x5 : Int).toNat)) ∧ (¬ (f3 (x5 : Int).toNat) = 2 → Ok X 0 0 60 [(0, .ref a0), (1, .ref a1), (2, .int (i3 x2)), (3, .int (i3 x3)), (4, .int (i3 x4)), (5, .int (i3 (x5 + 1)))] [] n h) ∧ ((f3 (x5 : Int).toNat) = 2 → (R3 (bcon x2 x4)) ∧ (¬ (bcon x2 x4) = 0 → Ok X 0 0 60 [(0, .ref a0), (1, .ref a1), (2, .int (i3 x2)), (3, .int (i3 x3)), (4, .int (i3 (x4 + 1))), (5, .int (i3 (x5 + 1)))] [] n h) ∧ ((bcon x2 x4) = 0 → Ok X 0 0 154 [(0, .ref a0), (1, .ref a1), (2, .int (i3 x2)), (3, .int (i3 x3)), (4, .int (i3 x4)), (5, .int (i3 x5))] [] n h))) :
    Ok X 0 0 134 [(0, .ref a0), (1, .ref a1), (2, .int (i3 x2)), (3, .int (i3 x3)), (4, .int (i3 x4)), (5, .int (i3 x5))] [] n h := by
  refine ok_aload_n (pc := 134) hc dX3_writeRows_134 rfl 1 rfl ?_
  refine ok_get (pc := 135) hc fl_X3_68 dX3_writeRows_135 e1.1 e1.2 v1_0 ?_
  refine ok_iload (pc := 138) hc dX3_writeRows_138 5 rfl ?_
  obtain ⟨r, P⟩ := P
  refine zk_iald (pc := 140) hc dX3_writeRows_140 e3.1 e3.2 r ?_
  refine ok_iconst (pc := 141) hc (v := i3 2) dX3_writeRows_141 (by decide) ?_
  obtain ⟨r4, P⟩ := P
  refine zk_icmp_ne (pc := 142) (tgt := 182) hc dX3_writeRows_142 (by decide) r4 ⟨by decide, by decide⟩ (fun c => ?_) (fun c => ?_)
  · have P := P.1 c
    refine zk_iinc (pc := 182) hc (q := 5) (x := x5) (lv' := [(5, .int (i3 (x5 + 1))), (0, .ref a0), (1, .ref a1), (2, .int (i3 x2)), (3, .int (i3 x3)), (4, .int (i3 x4))]) dX3_writeRows_182 rfl (by decide) rfl ?_
    refine ok_goto (pc := 185) (tgt := 60) hc dX3_writeRows_185 (by decide) ?_
    refine ok_lv [1, 2, 3, 4, 5, 0] rfl ?_
    exact P
  · have P := P.2 c
    refine ok_iload_n (pc := 145) hc dX3_writeRows_145 rfl 2 rfl ?_
    refine ok_iload (pc := 146) hc dX3_writeRows_146 4 rfl ?_
    refine ok_callN (pc := 148) (cb := 0) (sb := 0) (st := []) hc [.int (i3 x2), .int (i3 x4)] cn_X3_56 sp_X6_contains (by decide) dX3_writeRows_148 rfl rfl rfl rfl (Nat.le_of_ble_eq_true rfl) (⟨_, _, rfl, rfl, ?_⟩)
    show Ok X 0 0 (148 + 3) [(0, .ref a0), (1, .ref a1), (2, .int (i3 x2)), (3, .int (i3 x3)), (4, .int (i3 x4)), (5, .int (i3 x5))] [.int (i3 (bcon x2 x4))] n h
    obtain ⟨r5, P⟩ := P
    refine zk_if_ne (pc := 151) (tgt := 179) hc dX3_writeRows_151 (by decide) r5 (fun c => ?_) (fun c => ?_)
    · have P := P.1 c
      refine zk_iinc (pc := 179) hc (q := 4) (x := x4) (lv' := [(4, .int (i3 (x4 + 1))), (0, .ref a0), (1, .ref a1), (2, .int (i3 x2)), (3, .int (i3 x3)), (5, .int (i3 x5))]) dX3_writeRows_179 rfl (by decide) rfl ?_
      refine zk_iinc (pc := 182) hc (q := 5) (x := x5) (lv' := [(5, .int (i3 (x5 + 1))), (4, .int (i3 (x4 + 1))), (0, .ref a0), (1, .ref a1), (2, .int (i3 x2)), (3, .int (i3 x3))]) dX3_writeRows_182 rfl (by decide) rfl ?_
      refine ok_goto (pc := 185) (tgt := 60) hc dX3_writeRows_185 (by decide) ?_
      refine ok_lv [2, 3, 4, 5, 1, 0] rfl ?_
      exact P
    · have P := P.2 c
      exact P

set_option maxHeartbeats 4000000 in
set_option maxRecDepth 100000 in
theorem sX3_writeRows_154 {X : Xt} {n : Nat} {h : HP} {a0 : Nat} {a1 : Nat} {x2 : Int} {x3 : Int} {x4 : Int} {x5 : Int} {fs1 : List Value} {q2 : Nat} {len3 : Nat} {f3 : Nat → Int} {q4 : Nat} {len5 : Nat} {f5 : Nat → Int} {q6 : Nat} {len7 : Nat} {f7 : Nat → Int} {fs8 : List Value} (hc : Cx X cX3_writeRows RX3 6 2 47) {K : KT} (hr : CxR X none K) (e1 : At h n a1 (.inl (2, fs1))) (z1 : fs1.length = 5) (v1_1 : fs1[1]? = some (.ref q2)) (e3 : At h n q2 (ai len3 f3)) (v1_2 : fs1[2]? = some (.ref q4)) (e5 : At h n q4 (ai len5 f5)) (v1_3 : fs1[3]? = some (.ref q6)) (e7 : At h n q6 (ai len7 f7)) (e8 : At h n a0 (.inl (3, fs8))) (z8 : fs8.length = 3)
    (P : (Ix x5 len3) ∧ (Ix x5 len5) ∧ (Ix x5 len7) ∧ spec_X3_equateInputs [.ref a0, .int (i3 (f3 (x5 : Int).toNat)), .int (i3 (f5 (x5 : Int).toNat)), .int (i3 (f7 (x5 : Int).toNat))] n h (kc X 0 0 176 [(0, .ref a0), (1, .ref a1), (2, .int (i3 x2)), (3, .int (i3 x3)), (4, .int (i3 x4)), (5, .int (i3 x5))] [] n)) :
    Ok X 0 0 154 [(0, .ref a0), (1, .ref a1), (2, .int (i3 x2)), (3, .int (i3 x3)), (4, .int (i3 x4)), (5, .int (i3 x5))] [] n h := by
  refine ok_aload_n (pc := 154) hc dX3_writeRows_154 rfl 0 rfl ?_
  refine ok_aload_n (pc := 155) hc dX3_writeRows_155 rfl 1 rfl ?_
  refine ok_get (pc := 156) hc fl_X3_72 dX3_writeRows_156 e1.1 e1.2 v1_1 ?_
  refine ok_iload (pc := 159) hc dX3_writeRows_159 5 rfl ?_
  obtain ⟨r, P⟩ := P
  refine zk_iald (pc := 161) hc dX3_writeRows_161 e3.1 e3.2 r ?_
  refine ok_aload_n (pc := 162) hc dX3_writeRows_162 rfl 1 rfl ?_
  refine ok_get (pc := 163) hc fl_X3_75 dX3_writeRows_163 e1.1 e1.2 v1_2 ?_
  refine ok_iload (pc := 166) hc dX3_writeRows_166 5 rfl ?_
  obtain ⟨r, P⟩ := P
  refine zk_iald (pc := 168) hc dX3_writeRows_168 e5.1 e5.2 r ?_
  refine ok_aload_n (pc := 169) hc dX3_writeRows_169 rfl 1 rfl ?_
  refine ok_get (pc := 170) hc fl_X3_78 dX3_writeRows_170 e1.1 e1.2 v1_3 ?_
  refine ok_iload (pc := 173) hc dX3_writeRows_173 5 rfl ?_
  obtain ⟨r, P⟩ := P
  refine zk_iald (pc := 175) hc dX3_writeRows_175 e7.1 e7.2 r ?_
  exact ok_callV (pc := 176) (a := a0) (cb := 0) (sb := 0) (st := []) hc [.int (i3 (f3 (x5 : Int).toNat)), .int (i3 (f5 (x5 : Int).toNat)), .int (i3 (f7 (x5 : Int).toNat))] cv_X3_85 sp_X3_equateInputs (by decide) dX3_writeRows_176 rfl e8.1 e8.2 rfl rfl rfl (Nat.le_of_ble_eq_true rfl) P

set_option maxHeartbeats 4000000 in
set_option maxRecDepth 100000 in
theorem sX3_writeRows_179 {X : Xt} {n : Nat} {h : HP} {a0 : Nat} {a1 : Nat} {x2 : Int} {x3 : Int} {x4 : Int} {x5 : Int} (hc : Cx X cX3_writeRows RX3 6 2 47) {K : KT} (hr : CxR X none K) 
    (P : Ok X 0 0 60 [(0, .ref a0), (1, .ref a1), (2, .int (i3 x2)), (3, .int (i3 x3)), (4, .int (i3 (x4 + 1))), (5, .int (i3 (x5 + 1)))] [] n h) :
    Ok X 0 0 179 [(0, .ref a0), (1, .ref a1), (2, .int (i3 x2)), (3, .int (i3 x3)), (4, .int (i3 x4)), (5, .int (i3 x5))] [] n h := by
  refine zk_iinc (pc := 179) hc (q := 4) (x := x4) (lv' := [(4, .int (i3 (x4 + 1))), (0, .ref a0), (1, .ref a1), (2, .int (i3 x2)), (3, .int (i3 x3)), (5, .int (i3 x5))]) dX3_writeRows_179 rfl (by decide) rfl ?_
  refine zk_iinc (pc := 182) hc (q := 5) (x := x5) (lv' := [(5, .int (i3 (x5 + 1))), (4, .int (i3 (x4 + 1))), (0, .ref a0), (1, .ref a1), (2, .int (i3 x2)), (3, .int (i3 x3))]) dX3_writeRows_182 rfl (by decide) rfl ?_
  refine ok_goto (pc := 185) (tgt := 60) hc dX3_writeRows_185 (by decide) ?_
  refine ok_lv [2, 3, 4, 5, 1, 0] rfl ?_
  exact P

def spec_X3_writeRows (args : List Value) (n : Nat) (h : HP) (K : KT) : Prop := ∃ (r a cap : Nat) (c : Int) (M : Mat) (ps : List Part), args = [.ref r, .ref a, .int (i3 c)] ∧ RwA h n r M ∧ PtA h n a cap ps ∧ (a + 4 < r ∨ r + 18 < a) ∧ ∀ h', RwA h' n r (rowsM c ps) → Fr h h' (r + 11) (r + 18) → K (.inl none) n h'
theorem sp_X3_writeRows : Sp yX3_writeRows cX3_writeRows 6 none 2 47 0 0 spec_X3_writeRows := by
  refine sp_intro (by decide) (by rintro args n h K ⟨r, a, cap, c, M, ps, rfl, -⟩; exact Nat.le_of_ble_eq_true rfl) ?_
  rintro X args n h K hc hr ⟨r, a, cap, c, M, ps, rfl, hM, hA, hd, kk⟩
  obtain ⟨k, f, s, t, E, E1, E2, E3, E4, hv, hw, hl, hcap⟩ := id hA
  have L60 : ∀ (j i : Nat) (N : Mat) (o : Nat) (hh : HP), i + j = ps.length → o ≤ i → RwA hh n r N → Fr h hh (r + 11) (r + 18) → ((ps.drop i).foldl (putP (balM ps) c) (N, o)).1 = rowsM c ps → Ok X 0 0 60 [(0, .ref r), (1, .ref a), (2, .int (i3 c)), (3, .int (i3 (balM ps))), (4, .int (i3 o)), (5, .int (i3 i))] [] n hh := by
    intro j
    induction j with
    | zero =>
      intro i N o hh hi ho hN hf e
      have : i = ps.length := by omega
      subst this
      rw [List.drop_length] at e
      have e' : N = rowsM c ps := e
      subst e'
      exact sX3_writeRows_60 hc hr (E.fr hf (by omega)) rfl rfl ⟨R3_s (by omega), R3_s (by omega), fun _ => kk hh hN hf, fun c => absurd (Int.le_refl _) c⟩
    | succ j ih =>
      intro i N o hh hi ho hN hf e
      have hp := hv i (by omega)
      have hPW := hw _ (List.mem_of_getElem? hp)
      have hb := hPW.b
      simp only at hb
      rw [drop_s hp, List.foldl_cons] at e
      obtain ⟨g, σ, R, hS, -⟩ := hN.s
      have F := E.fr hf (show a < r + 11 ∨ r + 18 < a by omega)
      have F1 := E1.fr hf (show a + 1 < r + 11 ∨ r + 18 < a + 1 by omega)
      have F2 := E2.fr hf (show a + 2 < r + 11 ∨ r + 18 < a + 2 by omega)
      have F3 := E3.fr hf (show a + 3 < r + 11 ∨ r + 18 < a + 3 by omega)
      have F4 := E4.fr hf (show a + 4 < r + 11 ∨ r + 18 < a + 4 by omega)
      refine sX3_writeRows_60 hc hr F rfl rfl ⟨R3_s (by omega), R3_s (by omega), fun c => absurd c (by omega), fun _ => ?_⟩
      refine sX3_writeRows_69 hc hr F rfl rfl F1 ⟨⟨by omega, by omega, by omega⟩, R3_s (by simp only [Int.toNat_natCast]; omega), fun z => ?_, fun z => ?_⟩
      all_goals simp only [Int.toNat_natCast] at z
      · refine sX3_writeRows_134 hc hr F rfl rfl F1 ⟨⟨by omega, by omega, by omega⟩, R3_s (by simp only [Int.toNat_natCast]; omega), fun y => ?_, fun y => ?_⟩
        all_goals simp only [Int.toNat_natCast] at y
        · refine ih (i + 1) N o hh (by omega) (by omega) hN hf ?_
          rw [← e]
          unfold putP
          simp only [if_neg z, if_neg y]
        · unfold PW at hPW
          simp only at hPW
          refine ⟨R3_s (by rcases bcon01 c o with q | q <;> omega), fun x => ?_, fun x => ?_⟩
          · refine ih (i + 1) N (o + 1) hh (by omega) (by omega) hN hf ?_
            rw [← e]
            unfold putP
            simp only [if_neg z, if_pos y, if_neg x]
          · refine sX3_writeRows_154 hc hr F rfl rfl F2 rfl F3 rfl F4 hS.1 rfl ⟨⟨by omega, by omega, by omega⟩, ⟨by omega, by omega, by omega⟩, ⟨by omega, by omega, by omega⟩, r, (f i).toNat, (s i).toNat, (t i).toNat, N, ?_, by omega, by omega, by omega, hN, fun h' hN' hf' => ⟨rfl, ?_⟩⟩
            · simp only [Int.toNat_natCast]
              rw [Int.toNat_of_nonneg (by omega), Int.toNat_of_nonneg (by omega), Int.toNat_of_nonneg (by omega)]
            · refine sX3_writeRows_179 hc hr (ih (i + 1) _ (o + 1) h' (by omega) (by omega) hN' (hf.tr hf') ?_)
              rw [← e]
              unfold putP
              simp only [if_neg z, if_pos y, if_pos x]
      · unfold PW at hPW
        simp only at hPW
        refine sX3_writeRows_79 hc hr F rfl rfl F2 rfl F3 rfl F4 hS.1 rfl ⟨⟨by omega, by omega, by omega⟩, ⟨by omega, by omega, by omega⟩, ⟨by omega, by omega, by omega⟩, r, (f i).toNat, (s i).toNat, t i, balM ps, N, ?_, by omega, by omega, R3_s (by omega), hN, fun h' hN' hf' => ⟨rfl, ?_⟩⟩
        · simp only [Int.toNat_natCast]
          rw [Int.toNat_of_nonneg (by omega), Int.toNat_of_nonneg (by omega)]
        · obtain ⟨g', σ', R', hS', -⟩ := hN'.s
          refine sX3_writeRows_105 hc hr (F.fr hf' (by omega)) rfl rfl (F3.fr hf' (by omega)) rfl (F2.fr hf' (by omega)) rfl (F4.fr hf' (by omega)) hS'.1 rfl ⟨⟨by omega, by omega, by omega⟩, ⟨by omega, by omega, by omega⟩, ⟨by omega, by omega, by omega⟩, r, (s i).toNat, (f i).toNat, t i, balM ps, _, ?_, by omega, by omega, R3_s (by omega), hN', fun h2 hN2 hf2 => ⟨rfl, ?_⟩⟩
          · simp only [Int.toNat_natCast]
            rw [Int.toNat_of_nonneg (by omega), Int.toNat_of_nonneg (by omega)]
          · refine sX3_writeRows_131 hc hr (ih (i + 1) _ o h2 (by omega) (by omega) hN2 ((hf.tr hf').tr hf2) ?_)
            rw [← e]
            unfold putP
            simp only [if_pos z]
  have L15 : ∀ (j i : Nat) (N : Mat) (hh : HP), i + j = 7 → RwA hh n r N → Fr h hh (r + 11) (r + 18) → (∀ a b, a < i → b < 14 → N a b = startM (balM ps) a b) → Ok X 0 0 15 [(0, .ref r), (1, .ref a), (2, .int (i3 c)), (3, .int (i3 (balM ps))), (4, .int (i3 i))] [] n hh := by
    intro j
    induction j with
    | zero =>
      intro i N hh hi hN hf e
      have : i = 7 := by omega
      subst this
      exact sX3_writeRows_15 hc hr ⟨R3_s (by omega), fun _ => sX3_writeRows_54 hc hr (L60 ps.length 0 (startM (balM ps)) 0 hh (by omega) (by omega) (hN.eq e) hf rfl), fun c => absurd c (by omega)⟩
    | succ j ih =>
      intro i N hh hi hN hf e
      obtain ⟨g, σ, R, hS, hR⟩ := hN.s
      have gi : g (i : Int).toNat = some (r + 12 + σ i) := by rw [Int.toNat_natCast]; exact (hS.2.2.1 i (by omega)).1
      have si := (hS.2.2.1 i (by omega)).2
      refine sX3_writeRows_15 hc hr ⟨R3_s (by omega), fun c => absurd c (by omega), fun _ => ?_⟩
      refine sX3_writeRows_22 hc hr hS.1 rfl rfl hS.2.1 gi ⟨⟨by omega, by omega, by omega⟩, r + 12 + σ i, 14, R i, 0, rfl, hS.2.2.2.2 i (by omega), by omega, fun G hG => ⟨rfl, ?_⟩⟩
      have hS1 := hS.put (F := G) (show i < 7 by omega)
      have hN1 : RwA _ n r (va_up N i (fun _ => 0)) := hS1.a (fun a b ha hb => by
        by_cases z : a = i
        · subst z
          rw [up_self, up_self]
          exact hG b hb
        · rw [up_ne z, up_ne z]
          exact hR a b ha hb)
      have hf1 : Fr h (va_up hh (r + 12 + σ i) (al 14 G)) (r + 11) (r + 18) := hf.up (by omega)
      refine sX3_writeRows_33 hc hr hS1.1 rfl ⟨R3_s (by rcases bcon01 (balM ps) i with q | q <;> omega), fun z => ?_, fun z => ?_⟩
      · refine ih (i + 1) _ _ (by omega) hN1 hf1 (fun a b ha hb => ?_)
        by_cases y : a = i
        · subst y
          rw [up_self]
          unfold startM
          rw [if_neg z]
        · rw [up_ne y]
          exact e a b (by omega) hb
      · refine ⟨r, i, _, rfl, by omega, hN1, fun h' hN' hf' => ⟨rfl, sX3_writeRows_48 hc hr (ih (i + 1) _ h' (by omega) hN' (hf1.tr hf') (fun a b ha hb => ?_))⟩⟩
        unfold giveM
        by_cases y : a = i
        · subst y
          rw [up_self, up_self]
          unfold startM
          rw [if_pos z]
        · rw [up_ne y, up_ne y]
          exact e a b (by omega) hb
  refine sX3_writeRows_0 hc hr E rfl ⟨a, cap, ps, rfl, hA, rfl, sX3_writeRows_4 hc hr E rfl ⟨a, cap, ps, rfl, hA, rfl, sX3_writeRows_8 hc hr ?_⟩⟩
  exact L15 7 0 M h rfl hM Fr.rf (fun a b ha _ => absurd ha (Nat.not_lt_zero a))
