/-! part 45: the desk: count, amplifier, current -/
def holdN (S : Stt) : Nat → Int
  | 0 => 0
  | c + 1 => holdN S c + (if (jud S c).1 = 0 then 1 else 0)
def detN (S : Stt) : Nat → Int
  | 0 => 0
  | c + 1 => detN S c + (if solD S.1 (satN c (nA S.1)) = 0 then 0 else 1)
theorem holdN_r (S : Stt) : ∀ c : Nat, 0 ≤ holdN S c ∧ holdN S c ≤ c
  | 0 => ⟨(by decide : (0 : Int) ≤ 0), (by decide : (0 : Int) ≤ 0)⟩
  | c + 1 => by
    have := holdN_r S c
    unfold holdN
    split <;> omega
theorem detN_r (S : Stt) : ∀ c : Nat, 0 ≤ detN S c ∧ detN S c ≤ c
  | 0 => ⟨(by decide : (0 : Int) ≤ 0), (by decide : (0 : Int) ≤ 0)⟩
  | c + 1 => by
    have := detN_r S c
    unfold detN
    split <;> omega
theorem p3c (k : Nat) : ((3 : Int) ^ k) = ((3 ^ k : Nat) : Int) := by rw [Int.natCast_pow]; rfl
set_option maxHeartbeats 4000000 in
set_option maxRecDepth 100000 in
theorem sX6_holdingCases_0 {X : Xt} {n : Nat} {h : HP} {a0 : Nat} (hc : Cx X cX6_holdingCases RX6 3 4 93) {K : KT} (hr : CxR X (some .int) K) 
    (P : Ok X 0 0 4 [(0, .ref a0), (1, .int (i3 0)), (2, .int (i3 0))] [] n h) :
    Ok X 0 0 0 [(0, .ref a0)] [] n h := by
  refine ok_iconst (pc := 0) hc (v := i3 0) dX6_holdingCases_0 (by decide) ?_
  refine ok_istore_n (pc := 1) hc (lv' := [(1, .int (i3 0)), (0, .ref a0)]) dX6_holdingCases_1 rfl (by decide) rfl ?_
  refine ok_iconst (pc := 2) hc (v := i3 0) dX6_holdingCases_2 (by decide) ?_
  refine ok_istore_n (pc := 3) hc (lv' := [(2, .int (i3 0)), (1, .int (i3 0)), (0, .ref a0)]) dX6_holdingCases_3 rfl (by decide) rfl ?_
  refine ok_lv [2, 1, 0] rfl ?_
  exact P

set_option maxHeartbeats 4000000 in
set_option maxRecDepth 100000 in
theorem sX6_holdingCases_4 {X : Xt} {n : Nat} {h : HP} {a0 : Nat} {x1 : Int} {x2 : Int} {fs1 : List Value} {q2 : Nat} {fs3 : List Value} (hc : Cx X cX6_holdingCases RX6 3 4 93) {K : KT} (hr : CxR X (some .int) K) (e1 : At h n a0 (.inl (6, fs1))) (z1 : fs1.length = 6) (v1_0 : fs1[0]? = some (.ref q2)) (e3 : At h n q2 (.inl (0, fs3))) (z3 : fs3.length = 8)
    (P : spec_X0_cases [.ref q2] n h (kc X 0 0 9 [(0, .ref a0), (1, .int (i3 x1)), (2, .int (i3 x2))] [.int (i3 x2)] n)) :
    Ok X 0 0 4 [(0, .ref a0), (1, .int (i3 x1)), (2, .int (i3 x2))] [] n h := by
  refine ok_iload_n (pc := 4) hc dX6_holdingCases_4 rfl 2 rfl ?_
  refine ok_aload_n (pc := 5) hc dX6_holdingCases_5 rfl 0 rfl ?_
  refine ok_get (pc := 6) hc fl_X6_10 dX6_holdingCases_6 e1.1 e1.2 v1_0 ?_
  exact ok_callV (pc := 9) (a := q2) (cb := 0) (sb := 0) (st := [.int (i3 x2)]) hc [] cv_X6_286 sp_X0_cases (by decide) dX6_holdingCases_9 rfl e3.1 e3.2 rfl rfl rfl (Nat.le_of_ble_eq_true rfl) P

set_option maxHeartbeats 4000000 in
set_option maxRecDepth 100000 in
theorem sX6_holdingCases_12 {X : Xt} {n : Nat} {h : HP} {a0 : Nat} {x1 : Int} {x2 : Int} {t0 : Int} {t1 : Int} {fs3 : List Value} {q4 : Nat} {fs5 : List Value} (hc : Cx X cX6_holdingCases RX6 3 4 93) {K : KT} (hr : CxR X (some .int) K) (e3 : At h n a0 (.inl (6, fs3))) (z3 : fs3.length = 6) (v3_0 : fs3[0]? = some (.ref q4)) (e5 : At h n q4 (.inl (0, fs5))) (z5 : fs5.length = 8)
    (P : (R3 t1) ∧ (R3 t0) ∧ (t0 ≤ t1 → K (.inl (some (.int (i3 x1)))) n h) ∧ (¬ t0 ≤ t1 → spec_X0_judge [.ref q4, .int (i3 x2)] n h (kc X 0 0 20 [(0, .ref a0), (1, .int (i3 x1)), (2, .int (i3 x2))] [] n))) :
    Ok X 0 0 12 [(0, .ref a0), (1, .int (i3 x1)), (2, .int (i3 x2))] [.int (i3 t0), .int (i3 t1)] n h := by
  obtain ⟨r1, P⟩ := P
  obtain ⟨r2, P⟩ := P
  refine zk_icmp_ge (pc := 12) (tgt := 42) hc dX6_holdingCases_12 (by decide) r1 r2 (fun c => ?_) (fun c => ?_)
  · have P := P.1 c
    refine ok_iload_n (pc := 42) hc dX6_holdingCases_42 rfl 1 rfl ?_
    exact ok_iret (st := []) (pc := 43) hc hr dX6_holdingCases_43 P
  · have P := P.2 c
    refine ok_aload_n (pc := 15) hc dX6_holdingCases_15 rfl 0 rfl ?_
    refine ok_get (pc := 16) hc fl_X6_10 dX6_holdingCases_16 e3.1 e3.2 v3_0 ?_
    refine ok_iload_n (pc := 19) hc dX6_holdingCases_19 rfl 2 rfl ?_
    exact ok_callV (pc := 20) (a := q4) (cb := 0) (sb := 0) (st := []) hc [.int (i3 x2)] cv_X6_236 sp_X0_judge (by decide) dX6_holdingCases_20 rfl e5.1 e5.2 rfl rfl rfl (Nat.le_of_ble_eq_true rfl) P

set_option maxHeartbeats 4000000 in
set_option maxRecDepth 100000 in
theorem sX6_holdingCases_23 {X : Xt} {n : Nat} {h : HP} {a0 : Nat} {x1 : Int} {x2 : Int} {fs1 : List Value} {q2 : Nat} {fs3 : List Value} {iv4 : Int} (hc : Cx X cX6_holdingCases RX6 3 4 93) {K : KT} (hr : CxR X (some .int) K) (e1 : At h n a0 (.inl (6, fs1))) (z1 : fs1.length = 6) (v1_0 : fs1[0]? = some (.ref q2)) (e3 : At h n q2 (.inl (0, fs3))) (z3 : fs3.length = 8) (v3_6 : fs3[6]? = some (.int (i3 iv4)))
    (P : (R3 iv4) ∧ (¬ iv4 = 0 → Ok X 0 0 4 [(0, .ref a0), (1, .int (i3 x1)), (2, .int (i3 (x2 + 1)))] [] n h) ∧ (iv4 = 0 → Ok X 0 0 4 [(0, .ref a0), (1, .int (i3 (x1 + 1))), (2, .int (i3 (x2 + 1)))] [] n h)) :
    Ok X 0 0 23 [(0, .ref a0), (1, .int (i3 x1)), (2, .int (i3 x2))] [] n h := by
  refine ok_aload_n (pc := 23) hc dX6_holdingCases_23 rfl 0 rfl ?_
  refine ok_get (pc := 24) hc fl_X6_10 dX6_holdingCases_24 e1.1 e1.2 v1_0 ?_
  refine ok_get (pc := 27) hc fl_X6_239 dX6_holdingCases_27 e3.1 e3.2 v3_6 ?_
  obtain ⟨r5, P⟩ := P
  refine zk_if_ne (pc := 30) (tgt := 36) hc dX6_holdingCases_30 (by decide) r5 (fun c => ?_) (fun c => ?_)
  · have P := P.1 c
    refine zk_iinc (pc := 36) hc (q := 2) (x := x2) (lv' := [(2, .int (i3 (x2 + 1))), (0, .ref a0), (1, .int (i3 x1))]) dX6_holdingCases_36 rfl (by decide) rfl ?_
    refine ok_goto (pc := 39) (tgt := 4) hc dX6_holdingCases_39 (by decide) ?_
    refine ok_lv [1, 2, 0] rfl ?_
    exact P
  · have P := P.2 c
    refine zk_iinc (pc := 33) hc (q := 1) (x := x1) (lv' := [(1, .int (i3 (x1 + 1))), (0, .ref a0), (2, .int (i3 x2))]) dX6_holdingCases_33 rfl (by decide) rfl ?_
    refine zk_iinc (pc := 36) hc (q := 2) (x := x2) (lv' := [(2, .int (i3 (x2 + 1))), (1, .int (i3 (x1 + 1))), (0, .ref a0)]) dX6_holdingCases_36 rfl (by decide) rfl ?_
    refine ok_goto (pc := 39) (tgt := 4) hc dX6_holdingCases_39 (by decide) ?_
    refine ok_lv [2, 1, 0] rfl ?_
    exact P

def spec_X6_holdingCases (args : List Value) (n : Nat) (h : HP) (K : KT) : Prop := ∃ (q : Dsk), args = [.ref 0] ∧ DkA h n q ∧ ∀ h', DkA h' n q → Fr h h' 0 127 → K (.inl (some (.int (i3 (holdN q.1 (3 ^ nA q.1.1)))))) n h'
theorem sp_X6_holdingCases : Sp yX6_holdingCases cX6_holdingCases 3 (some .int) 4 93 0 0 spec_X6_holdingCases := by
  refine sp_intro (by decide) (by rintro args n h K ⟨q, rfl, -⟩; exact Nat.le_of_ble_eq_true rfl) ?_
  rintro X args n h K hc hr ⟨q, rfl, hq, kk⟩
  have h3 : nA q.1.1 ≤ 3 := hq.2.2.2.2.2.2.1.1.2.1
  have h27 := pow27 h3
  have ec := p3c (nA q.1.1)
  have p0 := pow3_pos (nA q.1.1)
  have p3 := c27 h3
  have L : ∀ (j c : Nat) (hh : HP), c + j = 3 ^ nA q.1.1 → DkA hh n q → Fr h hh 0 127 → Ok X 0 0 4 [(0, .ref 0), (1, .int (i3 (holdN q.1 c))), (2, .int (i3 c))] [] n hh := by
    intro j
    induction j with
    | zero =>
      intro c hh hcj hq' hf
      have : c = 3 ^ nA q.1.1 := by omega
      subst this
      obtain ⟨_, _, _, _, hK⟩ := id hq'.2.1
      obtain ⟨_, _, _, hB, -⟩ := id hK
      refine sX6_holdingCases_4 hc hr hq'.1 rfl rfl hB.1 rfl ⟨1, q.1, _, _, _, _, rfl, hK, rfl, ?_⟩
      exact sX6_holdingCases_12 hc hr hq'.1 rfl rfl hB.1 rfl ⟨R3_s (by omega), R3_s (by omega), fun _ => kk hh hq' hf, fun z => absurd z (by omega)⟩
    | succ j ih =>
      intro c hh hcj hq' hf
      obtain ⟨_, _, _, _, hK⟩ := id hq'.2.1
      obtain ⟨_, _, _, hB, -⟩ := id hK
      have jr := jud_r q.1 c
      refine sX6_holdingCases_4 hc hr hq'.1 rfl rfl hB.1 rfl ⟨1, q.1, _, _, _, _, rfl, hK, rfl, ?_⟩
      refine sX6_holdingCases_12 hc hr hq'.1 rfl rfl hB.1 rfl ⟨R3_s (by omega), R3_s (by omega), fun z => absurd z (by omega), fun _ => ⟨1, q.1, c, rfl, hq'.2.1, by omega, fun h' sat G hK' f => ⟨rfl, ?_⟩⟩⟩
      obtain ⟨_, _, _, hB', -⟩ := id hK'
      have hq2 := hq'.now hK'.a f
      have hf2 := hf.tr (f.sub (show 0 ≤ 1 by omega) (show 28 ≤ 127 by omega))
      have i1 := ih (c + 1) h' (by omega) hq2 hf2
      rw [show holdN q.1 (c + 1) = holdN q.1 c + (if (jud q.1 c).1 = 0 then 1 else 0) from rfl] at i1
      refine sX6_holdingCases_23 hc hr hq2.1 rfl rfl hB'.1 rfl rfl ⟨R3_s (by omega), fun z => ?_, fun z => ?_⟩
      · rw [if_neg z, Int.add_zero] at i1
        exact i1
      · rw [if_pos z] at i1
        exact i1
  exact sX6_holdingCases_0 hc hr (L (3 ^ nA q.1.1) 0 h (by omega) hq Fr.rf)
set_option maxHeartbeats 4000000 in
set_option maxRecDepth 100000 in
theorem sX6_determinedCases_0 {X : Xt} {n : Nat} {h : HP} {a0 : Nat} (hc : Cx X cX6_determinedCases RX6 3 3 65) {K : KT} (hr : CxR X (some .int) K) 
    (P : Ok X 0 0 4 [(0, .ref a0), (1, .int (i3 0)), (2, .int (i3 0))] [] n h) :
    Ok X 0 0 0 [(0, .ref a0)] [] n h := by
  refine ok_iconst (pc := 0) hc (v := i3 0) dX6_determinedCases_0 (by decide) ?_
  refine ok_istore_n (pc := 1) hc (lv' := [(1, .int (i3 0)), (0, .ref a0)]) dX6_determinedCases_1 rfl (by decide) rfl ?_
  refine ok_iconst (pc := 2) hc (v := i3 0) dX6_determinedCases_2 (by decide) ?_
  refine ok_istore_n (pc := 3) hc (lv' := [(2, .int (i3 0)), (1, .int (i3 0)), (0, .ref a0)]) dX6_determinedCases_3 rfl (by decide) rfl ?_
  refine ok_lv [2, 1, 0] rfl ?_
  exact P

set_option maxHeartbeats 4000000 in
set_option maxRecDepth 100000 in
theorem sX6_determinedCases_4 {X : Xt} {n : Nat} {h : HP} {a0 : Nat} {x1 : Int} {x2 : Int} {fs1 : List Value} {q2 : Nat} {fs3 : List Value} (hc : Cx X cX6_determinedCases RX6 3 3 65) {K : KT} (hr : CxR X (some .int) K) (e1 : At h n a0 (.inl (6, fs1))) (z1 : fs1.length = 6) (v1_0 : fs1[0]? = some (.ref q2)) (e3 : At h n q2 (.inl (0, fs3))) (z3 : fs3.length = 8)
    (P : spec_X0_cases [.ref q2] n h (kc X 0 0 9 [(0, .ref a0), (1, .int (i3 x1)), (2, .int (i3 x2))] [.int (i3 x2)] n)) :
    Ok X 0 0 4 [(0, .ref a0), (1, .int (i3 x1)), (2, .int (i3 x2))] [] n h := by
  refine ok_iload_n (pc := 4) hc dX6_determinedCases_4 rfl 2 rfl ?_
  refine ok_aload_n (pc := 5) hc dX6_determinedCases_5 rfl 0 rfl ?_
  refine ok_get (pc := 6) hc fl_X6_10 dX6_determinedCases_6 e1.1 e1.2 v1_0 ?_
  exact ok_callV (pc := 9) (a := q2) (cb := 0) (sb := 0) (st := [.int (i3 x2)]) hc [] cv_X6_286 sp_X0_cases (by decide) dX6_determinedCases_9 rfl e3.1 e3.2 rfl rfl rfl (Nat.le_of_ble_eq_true rfl) P

set_option maxHeartbeats 4000000 in
set_option maxRecDepth 100000 in
theorem sX6_determinedCases_12 {X : Xt} {n : Nat} {h : HP} {a0 : Nat} {x1 : Int} {x2 : Int} {t0 : Int} {t1 : Int} {fs3 : List Value} {q4 : Nat} {fs5 : List Value} (hc : Cx X cX6_determinedCases RX6 3 3 65) {K : KT} (hr : CxR X (some .int) K) (e3 : At h n a0 (.inl (6, fs3))) (z3 : fs3.length = 6) (v3_0 : fs3[0]? = some (.ref q4)) (e5 : At h n q4 (.inl (0, fs5))) (z5 : fs5.length = 8)
    (P : (R3 t1) ∧ (R3 t0) ∧ (t0 ≤ t1 → K (.inl (some (.int (i3 x1)))) n h) ∧ (¬ t0 ≤ t1 → spec_X0_isDetermined [.ref q4, .int (i3 x2)] n h (kc X 0 0 20 [(0, .ref a0), (1, .int (i3 x1)), (2, .int (i3 x2))] [] n))) :
    Ok X 0 0 12 [(0, .ref a0), (1, .int (i3 x1)), (2, .int (i3 x2))] [.int (i3 t0), .int (i3 t1)] n h := by
  obtain ⟨r1, P⟩ := P
  obtain ⟨r2, P⟩ := P
  refine zk_icmp_ge (pc := 12) (tgt := 35) hc dX6_determinedCases_12 (by decide) r1 r2 (fun c => ?_) (fun c => ?_)
  · have P := P.1 c
    refine ok_iload_n (pc := 35) hc dX6_determinedCases_35 rfl 1 rfl ?_
    exact ok_iret (st := []) (pc := 36) hc hr dX6_determinedCases_36 P
  · have P := P.2 c
    refine ok_aload_n (pc := 15) hc dX6_determinedCases_15 rfl 0 rfl ?_
    refine ok_get (pc := 16) hc fl_X6_10 dX6_determinedCases_16 e3.1 e3.2 v3_0 ?_
    refine ok_iload_n (pc := 19) hc dX6_determinedCases_19 rfl 2 rfl ?_
    exact ok_callV (pc := 20) (a := q4) (cb := 0) (sb := 0) (st := []) hc [.int (i3 x2)] cv_X6_309 sp_X0_isDetermined (by decide) dX6_determinedCases_20 rfl e5.1 e5.2 rfl rfl rfl (Nat.le_of_ble_eq_true rfl) P

set_option maxHeartbeats 4000000 in
set_option maxRecDepth 100000 in
theorem sX6_determinedCases_23 {X : Xt} {n : Nat} {h : HP} {a0 : Nat} {x1 : Int} {x2 : Int} {t0 : Int} (hc : Cx X cX6_determinedCases RX6 3 3 65) {K : KT} (hr : CxR X (some .int) K) 
    (P : (R3 t0) ∧ (t0 = 0 → Ok X 0 0 4 [(0, .ref a0), (1, .int (i3 x1)), (2, .int (i3 (x2 + 1)))] [] n h) ∧ (¬ t0 = 0 → Ok X 0 0 4 [(0, .ref a0), (1, .int (i3 (x1 + 1))), (2, .int (i3 (x2 + 1)))] [] n h)) :
    Ok X 0 0 23 [(0, .ref a0), (1, .int (i3 x1)), (2, .int (i3 x2))] [.int (i3 t0)] n h := by
  obtain ⟨r1, P⟩ := P
  refine zk_if_eq (pc := 23) (tgt := 29) hc dX6_determinedCases_23 (by decide) r1 (fun c => ?_) (fun c => ?_)
  · have P := P.1 c
    refine zk_iinc (pc := 29) hc (q := 2) (x := x2) (lv' := [(2, .int (i3 (x2 + 1))), (0, .ref a0), (1, .int (i3 x1))]) dX6_determinedCases_29 rfl (by decide) rfl ?_
    refine ok_goto (pc := 32) (tgt := 4) hc dX6_determinedCases_32 (by decide) ?_
    refine ok_lv [1, 2, 0] rfl ?_
    exact P
  · have P := P.2 c
    refine zk_iinc (pc := 26) hc (q := 1) (x := x1) (lv' := [(1, .int (i3 (x1 + 1))), (0, .ref a0), (2, .int (i3 x2))]) dX6_determinedCases_26 rfl (by decide) rfl ?_
    refine zk_iinc (pc := 29) hc (q := 2) (x := x2) (lv' := [(2, .int (i3 (x2 + 1))), (1, .int (i3 (x1 + 1))), (0, .ref a0)]) dX6_determinedCases_29 rfl (by decide) rfl ?_
    refine ok_goto (pc := 32) (tgt := 4) hc dX6_determinedCases_32 (by decide) ?_
    refine ok_lv [2, 1, 0] rfl ?_
    exact P

def spec_X6_determinedCases (args : List Value) (n : Nat) (h : HP) (K : KT) : Prop := ∃ (q : Dsk), args = [.ref 0] ∧ DkA h n q ∧ K (.inl (some (.int (i3 (detN q.1 (3 ^ nA q.1.1)))))) n h
theorem sp_X6_determinedCases : Sp yX6_determinedCases cX6_determinedCases 3 (some .int) 3 65 0 0 spec_X6_determinedCases := by
  refine sp_intro (by decide) (by rintro args n h K ⟨q, rfl, -⟩; exact Nat.le_of_ble_eq_true rfl) ?_
  rintro X args n h K hc hr ⟨q, rfl, hq', kk⟩
  have h3 : nA q.1.1 ≤ 3 := hq'.2.2.2.2.2.2.1.1.2.1
  have h27 := pow27 h3
  have ec := p3c (nA q.1.1)
  have p0 := pow3_pos (nA q.1.1)
  have p3 := c27 h3
  obtain ⟨_, _, _, _, hK⟩ := id hq'.2.1
  obtain ⟨_, _, _, hB, -⟩ := id hK
  have L : ∀ (j c : Nat), c + j = 3 ^ nA q.1.1 → Ok X 0 0 4 [(0, .ref 0), (1, .int (i3 (detN q.1 c))), (2, .int (i3 c))] [] n h := by
    intro j
    induction j with
    | zero =>
      intro c hcj
      have : c = 3 ^ nA q.1.1 := by omega
      subst this
      refine sX6_determinedCases_4 hc hr hq'.1 rfl rfl hB.1 rfl ⟨1, q.1, _, _, _, _, rfl, hK, rfl, ?_⟩
      exact sX6_determinedCases_12 hc hr hq'.1 rfl rfl hB.1 rfl ⟨R3_s (by omega), R3_s (by omega), fun _ => kk, fun z => absurd z (by omega)⟩
    | succ j ih =>
      intro c hcj
      refine sX6_determinedCases_4 hc hr hq'.1 rfl rfl hB.1 rfl ⟨1, q.1, _, _, _, _, rfl, hK, rfl, ?_⟩
      refine sX6_determinedCases_12 hc hr hq'.1 rfl rfl hB.1 rfl ⟨R3_s (by omega), R3_s (by omega), fun z => absurd z (by omega), fun _ => ⟨1, q.1, c, _, _, _, _, rfl, hK, by omega, rfl, ?_⟩⟩
      have i1 := ih (c + 1) (by omega)
      rw [show detN q.1 (c + 1) = detN q.1 c + (if solD q.1.1 (satN c (nA q.1.1)) = 0 then 0 else 1) from rfl] at i1
      refine sX6_determinedCases_23 hc hr ⟨R3_s (by split <;> omega), fun z => ?_, fun z => ?_⟩
      · by_cases y : solD q.1.1 (satN c (nA q.1.1)) = 0
        · rw [if_pos y, Int.add_zero] at i1
          exact i1
        · rw [if_neg y] at z
          exact absurd z (by decide)
      · by_cases y : solD q.1.1 (satN c (nA q.1.1)) = 0
        · exact absurd (by rw [if_pos y]) z
        · rw [if_neg y] at i1
          exact i1
  exact sX6_determinedCases_0 hc hr (L (3 ^ nA q.1.1) 0 (by omega))
set_option maxHeartbeats 4000000 in
set_option maxRecDepth 100000 in
theorem sX6_count_0 {X : Xt} {n : Nat} {h : HP} {a0 : Nat} {x1 : Int} {fs2 : List Value} {q3 : Nat} {fs4 : List Value} {q5 : Nat} {fs6 : List Value} {q7 : Nat} {fs8 : List Value} {iv9 : Int} {iv10 : Int} {iv11 : Int} {iv12 : Int} {iv13 : Int} {q15 : Nat} {fs16 : List Value} {iv17 : Int} {iv18 : Int} (hc : Cx X cX6_count RX6 2 6 115) {K : KT} (hr : CxR X (some .int) K) (e2 : At h n a0 (.inl (6, fs2))) (z2 : fs2.length = 6) (v2_0 : fs2[0]? = some (.ref q3)) (e4 : At h n q3 (.inl (0, fs4))) (z4 : fs4.length = 8) (v4_0 : fs4[0]? = some (.ref q5)) (e6 : At h n q5 (.inl (4, fs6))) (z6 : fs6.length = 4) (v6_0 : fs6[0]? = some (.ref q7)) (e8 : At h n q7 (.inl (2, fs8))) (z8 : fs8.length = 5) (v8_4 : fs8[4]? = some (.int (i3 iv9))) (v4_2 : fs4[2]? = some (.int (i3 iv10))) (v6_1 : fs6[1]? = some (.int (i3 iv11))) (v6_2 : fs6[2]? = some (.int (i3 iv12))) (v6_3 : fs6[3]? = some (.int (i3 iv13))) (v2_3 : fs2[3]? = some (.ref q15)) (e16 : At h n q15 (.inl (1, fs16))) (z16 : fs16.length = 3) (v16_2 : fs16[2]? = some (.int (i3 iv17))) (v2_5 : fs2[5]? = some (.int (i3 iv18)))
    (P : (R3 x1) ∧ (x1 < 0 ∨ 9 < x1 → K (.inr "java/lang/IllegalArgumentException") n h) ∧ (x1 = 0 → K (.inl (some (.int (i3 iv9)))) n h) ∧ (x1 = 1 → K (.inl (some (.int (i3 iv10)))) n h) ∧ (x1 = 2 → K (.inl (some (.int (i3 iv11)))) n h) ∧ (x1 = 3 → K (.inl (some (.int (i3 iv12)))) n h) ∧ (x1 = 4 → (R3 iv13) ∧ (iv13 = 0 → K (.inl (some (.int (i3 0)))) n h) ∧ (¬ iv13 = 0 → K (.inl (some (.int (i3 1)))) n h)) ∧ (x1 = 5 → spec_X6_holdingCases [.ref a0] n h (kc X 1 6 120 [(0, .ref a0), (1, .int (i3 x1))] [] n)) ∧ (x1 = 6 → spec_X6_determinedCases [.ref a0] n h (kc X 1 6 125 [(0, .ref a0), (1, .int (i3 x1))] [] n)) ∧ (x1 = 7 → spec_X2_usedNodes [.ref q7] n h (kc X 1 6 139 [(0, .ref a0), (1, .int (i3 x1))] [] n)) ∧ (x1 = 8 → K (.inl (some (.int (i3 iv17)))) n h) ∧ (x1 = 9 → K (.inl (some (.int (i3 iv18)))) n h)) :
    Ok X 1 6 0 [(0, .ref a0), (1, .int (i3 x1))] [] n h := by
  refine ok_iload_n (pc := 0) hc dX6_count_0 rfl 1 rfl ?_
  obtain ⟨r1, P⟩ := P
  rcases (show (x1 < 0 ∨ 9 < x1) ∨ x1 = 0 ∨ x1 = 1 ∨ x1 = 2 ∨ x1 = 3 ∨ x1 = 4 ∨ x1 = 5 ∨ x1 = 6 ∨ x1 = 7 ∨ x1 = 8 ∨ x1 = 9 by omega) with c | c | c | c | c | c | c | c | c | c | c
  · have P := P.1 c
    refine ok_tableOut (pc := 1) (tgt := 156) hc dX6_count_1 (by rw [i3_toInt r1]; exact c) (by decide) ?_
    exact ok_throwW (pc := 156) hc hr th_IAE rfl (is := 256) (text := "what is 0 to 9") (by decide) dX6_count_156 dX6_count_159 dX6_count_160 dX6_count_163 dX6_count_166 (by decide) (by decide) (by decide) (by decide) P
  · have P := P.2.1 c
    refine ok_tableIn (pc := 1) (off := 55) (tgt := 56) hc dX6_count_1 (by rw [i3_toInt r1, c]; decide) (by rw [i3_toInt r1, c]; decide) (by rw [i3_toInt r1, c]; rfl) (by decide) ?_
    refine ok_aload_n (pc := 56) hc dX6_count_56 rfl 0 rfl ?_
    refine ok_get (pc := 57) hc fl_X6_10 dX6_count_57 e2.1 e2.2 v2_0 ?_
    refine ok_get (pc := 60) hc fl_X6_43 dX6_count_60 e4.1 e4.2 v4_0 ?_
    refine ok_get (pc := 63) hc fl_X6_47 dX6_count_63 e6.1 e6.2 v6_0 ?_
    refine ok_get (pc := 66) hc fl_X6_51 dX6_count_66 e8.1 e8.2 v8_4 ?_
    exact ok_iret (st := []) (pc := 69) hc hr dX6_count_69 P
  · have P := P.2.2.1 c
    refine ok_tableIn (pc := 1) (off := 69) (tgt := 70) hc dX6_count_1 (by rw [i3_toInt r1, c]; decide) (by rw [i3_toInt r1, c]; decide) (by rw [i3_toInt r1, c]; rfl) (by decide) ?_
    refine ok_aload_n (pc := 70) hc dX6_count_70 rfl 0 rfl ?_
    refine ok_get (pc := 71) hc fl_X6_10 dX6_count_71 e2.1 e2.2 v2_0 ?_
    refine ok_get (pc := 74) hc fl_X6_213 dX6_count_74 e4.1 e4.2 v4_2 ?_
    exact ok_iret (st := []) (pc := 77) hc hr dX6_count_77 P
  · have P := P.2.2.2.1 c
    refine ok_tableIn (pc := 1) (off := 77) (tgt := 78) hc dX6_count_1 (by rw [i3_toInt r1, c]; decide) (by rw [i3_toInt r1, c]; decide) (by rw [i3_toInt r1, c]; rfl) (by decide) ?_
    refine ok_aload_n (pc := 78) hc dX6_count_78 rfl 0 rfl ?_
    refine ok_get (pc := 79) hc fl_X6_10 dX6_count_79 e2.1 e2.2 v2_0 ?_
    refine ok_get (pc := 82) hc fl_X6_43 dX6_count_82 e4.1 e4.2 v4_0 ?_
    refine ok_get (pc := 85) hc fl_X6_108 dX6_count_85 e6.1 e6.2 v6_1 ?_
    exact ok_iret (st := []) (pc := 88) hc hr dX6_count_88 P
  · have P := P.2.2.2.2.1 c
    refine ok_tableIn (pc := 1) (off := 88) (tgt := 89) hc dX6_count_1 (by rw [i3_toInt r1, c]; decide) (by rw [i3_toInt r1, c]; decide) (by rw [i3_toInt r1, c]; rfl) (by decide) ?_
    refine ok_aload_n (pc := 89) hc dX6_count_89 rfl 0 rfl ?_
    refine ok_get (pc := 90) hc fl_X6_10 dX6_count_90 e2.1 e2.2 v2_0 ?_
    refine ok_get (pc := 93) hc fl_X6_43 dX6_count_93 e4.1 e4.2 v4_0 ?_
    refine ok_get (pc := 96) hc fl_X6_133 dX6_count_96 e6.1 e6.2 v6_2 ?_
    exact ok_iret (st := []) (pc := 99) hc hr dX6_count_99 P
  · have P := P.2.2.2.2.2.1 c
    refine ok_tableIn (pc := 1) (off := 99) (tgt := 100) hc dX6_count_1 (by rw [i3_toInt r1, c]; decide) (by rw [i3_toInt r1, c]; decide) (by rw [i3_toInt r1, c]; rfl) (by decide) ?_
    refine ok_aload_n (pc := 100) hc dX6_count_100 rfl 0 rfl ?_
    refine ok_get (pc := 101) hc fl_X6_10 dX6_count_101 e2.1 e2.2 v2_0 ?_
    refine ok_get (pc := 104) hc fl_X6_43 dX6_count_104 e4.1 e4.2 v4_0 ?_
    refine ok_get (pc := 107) hc fl_X6_179 dX6_count_107 e6.1 e6.2 v6_3 ?_
    obtain ⟨r14, P⟩ := P
    refine zk_if_eq (pc := 110) (tgt := 117) hc dX6_count_110 (by decide) r14 (fun c => ?_) (fun c => ?_)
    · have P := P.1 c
      refine ok_iconst (pc := 117) hc (v := i3 0) dX6_count_117 (by decide) ?_
      exact ok_iret (st := []) (pc := 118) hc hr dX6_count_118 P
    · have P := P.2 c
      refine ok_iconst (pc := 113) hc (v := i3 1) dX6_count_113 (by decide) ?_
      refine ok_goto (pc := 114) (tgt := 118) hc dX6_count_114 (by decide) ?_
      exact ok_iret (st := []) (pc := 118) hc hr dX6_count_118 P
  · have P := P.2.2.2.2.2.2.1 c
    refine ok_tableIn (pc := 1) (off := 118) (tgt := 119) hc dX6_count_1 (by rw [i3_toInt r1, c]; decide) (by rw [i3_toInt r1, c]; decide) (by rw [i3_toInt r1, c]; rfl) (by decide) ?_
    refine ok_aload_n (pc := 119) hc dX6_count_119 rfl 0 rfl ?_
    exact ok_callV (pc := 120) (a := a0) (cb := 1) (sb := 6) (st := []) hc [] cv_X6_247 sp_X6_holdingCases (by decide) dX6_count_120 rfl e2.1 e2.2 rfl rfl rfl (Nat.le_of_ble_eq_true rfl) P
  · have P := P.2.2.2.2.2.2.2.1 c
    refine ok_tableIn (pc := 1) (off := 123) (tgt := 124) hc dX6_count_1 (by rw [i3_toInt r1, c]; decide) (by rw [i3_toInt r1, c]; decide) (by rw [i3_toInt r1, c]; rfl) (by decide) ?_
    refine ok_aload_n (pc := 124) hc dX6_count_124 rfl 0 rfl ?_
    exact ok_callV (pc := 125) (a := a0) (cb := 1) (sb := 6) (st := []) hc [] cv_X6_250 sp_X6_determinedCases (by decide) dX6_count_125 rfl e2.1 e2.2 rfl rfl rfl (Nat.le_of_ble_eq_true rfl) P
  · have P := P.2.2.2.2.2.2.2.2.1 c
    refine ok_tableIn (pc := 1) (off := 128) (tgt := 129) hc dX6_count_1 (by rw [i3_toInt r1, c]; decide) (by rw [i3_toInt r1, c]; decide) (by rw [i3_toInt r1, c]; rfl) (by decide) ?_
    refine ok_aload_n (pc := 129) hc dX6_count_129 rfl 0 rfl ?_
    refine ok_get (pc := 130) hc fl_X6_10 dX6_count_130 e2.1 e2.2 v2_0 ?_
    refine ok_get (pc := 133) hc fl_X6_43 dX6_count_133 e4.1 e4.2 v4_0 ?_
    refine ok_get (pc := 136) hc fl_X6_47 dX6_count_136 e6.1 e6.2 v6_0 ?_
    exact ok_callV (pc := 139) (a := q7) (cb := 1) (sb := 6) (st := []) hc [] cv_X6_253 sp_X2_usedNodes (by decide) dX6_count_139 rfl e8.1 e8.2 rfl rfl rfl (Nat.le_of_ble_eq_true rfl) P
  · have P := P.2.2.2.2.2.2.2.2.2.1 c
    refine ok_tableIn (pc := 1) (off := 142) (tgt := 143) hc dX6_count_1 (by rw [i3_toInt r1, c]; decide) (by rw [i3_toInt r1, c]; decide) (by rw [i3_toInt r1, c]; rfl) (by decide) ?_
    refine ok_aload_n (pc := 143) hc dX6_count_143 rfl 0 rfl ?_
    refine ok_get (pc := 144) hc fl_X6_29 dX6_count_144 e2.1 e2.2 v2_3 ?_
    refine ok_get (pc := 147) hc fl_X6_136 dX6_count_147 e16.1 e16.2 v16_2 ?_
    exact ok_iret (st := []) (pc := 150) hc hr dX6_count_150 P
  · have P := P.2.2.2.2.2.2.2.2.2.2 c
    refine ok_tableIn (pc := 1) (off := 150) (tgt := 151) hc dX6_count_1 (by rw [i3_toInt r1, c]; decide) (by rw [i3_toInt r1, c]; decide) (by rw [i3_toInt r1, c]; rfl) (by decide) ?_
    refine ok_aload_n (pc := 151) hc dX6_count_151 rfl 0 rfl ?_
    refine ok_get (pc := 152) hc fl_X6_152 dX6_count_152 e2.1 e2.2 v2_5 ?_
    exact ok_iret (st := []) (pc := 155) hc hr dX6_count_155 P

set_option maxHeartbeats 4000000 in
set_option maxRecDepth 100000 in
theorem sX6_count_123 {X : Xt} {n : Nat} {h : HP} {a0 : Nat} {x1 : Int} {t0 : Int} (hc : Cx X cX6_count RX6 2 6 115) {K : KT} (hr : CxR X (some .int) K) 
    (P : K (.inl (some (.int (i3 t0)))) n h) :
    Ok X 1 6 123 [(0, .ref a0), (1, .int (i3 x1))] [.int (i3 t0)] n h := by
  exact ok_iret (st := []) (pc := 123) hc hr dX6_count_123 P

set_option maxHeartbeats 4000000 in
set_option maxRecDepth 100000 in
theorem sX6_count_128 {X : Xt} {n : Nat} {h : HP} {a0 : Nat} {x1 : Int} {t0 : Int} (hc : Cx X cX6_count RX6 2 6 115) {K : KT} (hr : CxR X (some .int) K) 
    (P : K (.inl (some (.int (i3 t0)))) n h) :
    Ok X 1 6 128 [(0, .ref a0), (1, .int (i3 x1))] [.int (i3 t0)] n h := by
  exact ok_iret (st := []) (pc := 128) hc hr dX6_count_128 P

set_option maxHeartbeats 4000000 in
set_option maxRecDepth 100000 in
theorem sX6_count_142 {X : Xt} {n : Nat} {h : HP} {a0 : Nat} {x1 : Int} {t0 : Int} (hc : Cx X cX6_count RX6 2 6 115) {K : KT} (hr : CxR X (some .int) K) 
    (P : K (.inl (some (.int (i3 t0)))) n h) :
    Ok X 1 6 142 [(0, .ref a0), (1, .int (i3 x1))] [.int (i3 t0)] n h := by
  exact ok_iret (st := []) (pc := 142) hc hr dX6_count_142 P

def opCount (q : Dsk) (w : Int) : Int ⊕ String := if w = 0 then .inl q.1.1.length else if w = 1 then .inl (nA q.1.1) else if w = 2 then .inl q.1.2.1 else if w = 3 then .inl q.1.2.2.1 else if w = 4 then .inl q.1.2.2.2 else if w = 5 then .inl (holdN q.1 (3 ^ nA q.1.1)) else if w = 6 then .inl (detN q.1 (3 ^ nA q.1.1)) else if w = 7 then .inl (usedM q.1.1) else if w = 8 then .inl q.2.1.length else if w = 9 then .inl q.2.2.2.1 else .inr eIA
def spec_X6_count (args : List Value) (n : Nat) (h : HP) (K : KT) : Prop := ∃ (q : Dsk) (w : Int), args = [.ref 0, .int (i3 w)] ∧ R3 w ∧ DkA h n q ∧ ∀ h', DkA h' n q → Fr h h' 0 127 → K (oV (opCount q w)) n h'
theorem sp_X6_count : Sp yX6_count cX6_count 2 (some .int) 6 115 1 6 spec_X6_count := by
  refine sp_intro (by decide) (by rintro args n h K ⟨q, w, rfl, -⟩; exact Nat.le_of_ble_eq_true rfl) ?_
  rintro X args n h K hc hr ⟨q, w, rfl, hw, hq, kk⟩
  obtain ⟨_, _, _, _, hK⟩ := id hq.2.1
  obtain ⟨_, _, _, hB, -⟩ := id hK
  obtain ⟨o, hHo⟩ := hq.2.2.2.2.1.obj
  have hs := hB.2.1.2.2.2.2
  refine sX6_count_0 hc hr hq.1 rfl rfl hB.1 rfl rfl hB.2.1.1 rfl rfl hB.2.1.2.1.obj rfl rfl rfl rfl rfl rfl rfl hHo rfl rfl rfl ⟨hw, fun c => ?_, fun c => ?_, fun c => ?_, fun c => ?_, fun c => ?_, fun c => ⟨R3_s (by omega), fun z => ?_, fun z => ?_⟩, fun c => ⟨q, rfl, hq, fun h' hq' f => ⟨rfl, sX6_count_123 hc hr ?_⟩⟩, fun c => ⟨q, rfl, hq, rfl, sX6_count_128 hc hr ?_⟩, fun c => ⟨3, 12, q.1.1, rfl, hB.2.1.2.1, rfl, sX6_count_142 hc hr ?_⟩, fun c => ?_, fun c => ?_⟩
  · have := kk h hq Fr.rf
    unfold opCount at this
    rw [if_neg (by omega), if_neg (by omega), if_neg (by omega), if_neg (by omega), if_neg (by omega), if_neg (by omega), if_neg (by omega), if_neg (by omega), if_neg (by omega), if_neg (by omega)] at this
    exact this
  · subst c
    exact kk h hq Fr.rf
  · subst c
    exact kk h hq Fr.rf
  · subst c
    exact kk h hq Fr.rf
  · subst c
    exact kk h hq Fr.rf
  · subst c
    have := kk h hq Fr.rf
    rw [show opCount q 4 = .inl q.1.2.2.2 from rfl, z] at this
    exact this
  · subst c
    have := kk h hq Fr.rf
    rw [show opCount q 4 = .inl q.1.2.2.2 from rfl, show q.1.2.2.2 = 1 by omega] at this
    exact this
  · subst c
    exact kk h' hq' f
  · subst c
    exact kk h hq Fr.rf
  · subst c
    exact kk h hq Fr.rf
  · subst c
    exact kk h hq Fr.rf
  · subst c
    exact kk h hq Fr.rf
def ampIx : List Part → Nat → Nat
  | [], _ => 0
  | p :: ps, a => if p.1 = 2 then (match a with | 0 => 0 | a + 1 => ampIx ps a + 1) else ampIx ps a + 1
theorem AmpAt.ix : ∀ {ps : List Part} {a i : Nat} {p : Part}, AmpAt ps a i p → i = ampIx ps a
  | [], a, i, p, h => by simp [AmpAt] at h
  | q :: ps, a, i, p, h => by
    obtain ⟨h1, h2, h3⟩ := h
    unfold ampIx
    cases i with
    | zero =>
      have e := Option.some.inj h1
      subst e
      have : a = 0 := h3.symm
      subst this
      rw [if_pos h2]
    | succ i =>
      rw [List.take_succ_cons, show q :: ps.take i = [q] ++ ps.take i from rfl, nA_app, nA_one] at h3
      by_cases c : q.1 = 2
      · rw [if_pos c] at h3 ⊢
        cases a with
        | zero => omega
        | succ a => rw [AmpAt.ix (ps := ps) (a := a) (i := i) ⟨h1, h2, by omega⟩]
      · rw [if_neg c] at h3 ⊢
        rw [AmpAt.ix (ps := ps) (a := a) (i := i) ⟨h1, h2, by omega⟩]
set_option maxHeartbeats 4000000 in
set_option maxRecDepth 100000 in
theorem sX6_amplifier_0 {X : Xt} {n : Nat} {h : HP} {a0 : Nat} {x1 : Int} {x2 : Int} {fs2 : List Value} {q3 : Nat} {fs4 : List Value} {iv5 : Int} {q9 : Nat} {len10 : Nat} {f10 : Nat → Int} {q11 : Nat} {fs12 : List Value} {iv13 : Int} {iv14 : Int} (hc : Cx X cX6_amplifier RX6 3 6 90) {K : KT} (hr : CxR X (some .int) K) (e2 : At h n a0 (.inl (6, fs2))) (z2 : fs2.length = 6) (v2_0 : fs2[0]? = some (.ref q3)) (e4 : At h n q3 (.inl (0, fs4))) (z4 : fs4.length = 8) (v4_2 : fs4[2]? = some (.int (i3 iv5))) (v4_1 : fs4[1]? = some (.ref q9)) (e10 : At h n q9 (ai len10 f10)) (v4_0 : fs4[0]? = some (.ref q11)) (e12 : At h n q11 (.inl (4, fs12))) (z12 : fs12.length = 4) (v12_2 : fs12[2]? = some (.int (i3 iv13))) (v12_3 : fs12[3]? = some (.int (i3 iv14)))
    (P : (R3 x1) ∧ (x1 < 0 → K (.inr "java/lang/IndexOutOfBoundsException") n h) ∧ (¬ x1 < 0 → (R3 x1) ∧ (R3 iv5) ∧ (x1 < iv5 → (R3 x2) ∧ (x2 < 0 ∨ 2 < x2 → K (.inr "java/lang/IllegalArgumentException") n h) ∧ (x2 = 0 → (Ix x1 len10) ∧ K (.inl (some (.int (i3 (f10 (x1 : Int).toNat))))) n h) ∧ (x2 = 1 → ((0 ≤ iv13 ∧ iv13 ≤ 2147483647) ∧ 0 ≤ x1 ∧ x1 < 4) ∧ K (.inl (some (.int (i3 (iv13 / 3 ^ (x1).toNat % 3))))) n h) ∧ (x2 = 2 → (R3 iv14) ∧ (iv14 = 0 → K (.inl (some (.int (i3 0)))) n h) ∧ (¬ iv14 = 0 → spec_X0_inputSign [.ref q3, .int (i3 x1)] n h (kc X 1 6 95 [(0, .ref a0), (1, .int (i3 x1)), (2, .int (i3 x2))] [] n)))) ∧ (¬ x1 < iv5 → K (.inr "java/lang/IndexOutOfBoundsException") n h))) :
    Ok X 1 6 0 [(0, .ref a0), (1, .int (i3 x1)), (2, .int (i3 x2))] [] n h := by
  refine ok_iload_n (pc := 0) hc dX6_amplifier_0 rfl 1 rfl ?_
  obtain ⟨r1, P⟩ := P
  refine zk_if_lt (pc := 1) (tgt := 15) hc dX6_amplifier_1 (by decide) r1 (fun c => ?_) (fun c => ?_)
  · have P := P.1 c
    exact ok_throw (pc := 15) hc hr th_IOE rfl (is := 218) (text := "there is no such amplifier") (by decide) dX6_amplifier_15 dX6_amplifier_18 dX6_amplifier_19 dX6_amplifier_21 dX6_amplifier_24 (by decide) (by decide) (by decide) (by decide) P
  · have P := P.2 c
    refine ok_iload_n (pc := 4) hc dX6_amplifier_4 rfl 1 rfl ?_
    refine ok_aload_n (pc := 5) hc dX6_amplifier_5 rfl 0 rfl ?_
    refine ok_get (pc := 6) hc fl_X6_10 dX6_amplifier_6 e2.1 e2.2 v2_0 ?_
    refine ok_get (pc := 9) hc fl_X6_213 dX6_amplifier_9 e4.1 e4.2 v4_2 ?_
    obtain ⟨r6, P⟩ := P
    obtain ⟨r7, P⟩ := P
    refine zk_icmp_lt (pc := 12) (tgt := 25) hc dX6_amplifier_12 (by decide) r6 r7 (fun c => ?_) (fun c => ?_)
    · have P := P.1 c
      refine ok_iload_n (pc := 25) hc dX6_amplifier_25 rfl 2 rfl ?_
      obtain ⟨r8, P⟩ := P
      rcases (show (x2 < 0 ∨ 2 < x2) ∨ x2 = 0 ∨ x2 = 1 ∨ x2 = 2 by omega) with c | c | c | c
      · have P := P.1 c
        refine ok_tableOut (pc := 26) (tgt := 103) hc dX6_amplifier_26 (by rw [i3_toInt r8]; exact c) (by decide) ?_
        exact ok_throw (pc := 103) hc hr th_IAE rfl (is := 231) (text := "what is 0 to 2") (by decide) dX6_amplifier_103 dX6_amplifier_106 dX6_amplifier_107 dX6_amplifier_109 dX6_amplifier_112 (by decide) (by decide) (by decide) (by decide) P
      · have P := P.2.1 c
        refine ok_tableIn (pc := 26) (off := 26) (tgt := 52) hc dX6_amplifier_26 (by rw [i3_toInt r8, c]; decide) (by rw [i3_toInt r8, c]; decide) (by rw [i3_toInt r8, c]; rfl) (by decide) ?_
        refine ok_aload_n (pc := 52) hc dX6_amplifier_52 rfl 0 rfl ?_
        refine ok_get (pc := 53) hc fl_X6_10 dX6_amplifier_53 e2.1 e2.2 v2_0 ?_
        refine ok_get (pc := 56) hc fl_X6_221 dX6_amplifier_56 e4.1 e4.2 v4_1 ?_
        refine ok_iload_n (pc := 59) hc dX6_amplifier_59 rfl 1 rfl ?_
        obtain ⟨r, P⟩ := P
        refine zk_iald (pc := 60) hc dX6_amplifier_60 e10.1 e10.2 r ?_
        exact ok_iret (st := []) (pc := 61) hc hr dX6_amplifier_61 P
      · have P := P.2.2.1 c
        refine ok_tableIn (pc := 26) (off := 36) (tgt := 62) hc dX6_amplifier_26 (by rw [i3_toInt r8, c]; decide) (by rw [i3_toInt r8, c]; decide) (by rw [i3_toInt r8, c]; rfl) (by decide) ?_
        refine ok_aload_n (pc := 62) hc dX6_amplifier_62 rfl 0 rfl ?_
        refine ok_get (pc := 63) hc fl_X6_10 dX6_amplifier_63 e2.1 e2.2 v2_0 ?_
        refine ok_get (pc := 66) hc fl_X6_43 dX6_amplifier_66 e4.1 e4.2 v4_0 ?_
        refine ok_get (pc := 69) hc fl_X6_133 dX6_amplifier_69 e12.1 e12.2 v12_2 ?_
        refine ok_iload_n (pc := 72) hc dX6_amplifier_72 rfl 1 rfl ?_
        obtain ⟨r0, P⟩ := P
        refine ok_callS (pc := 73) (cb := 1) (sb := 6) (st := []) hc [.int (i3 iv13), .int (i3 x1)] cs_X6_224 sp_X6_stateIn (by decide) dX6_amplifier_73 rfl rfl rfl rfl (Nat.le_of_ble_eq_true rfl) (⟨_, _, rfl, r0, rfl, ?_⟩)
        show Ok X 1 6 (73 + 3) [(0, .ref a0), (1, .int (i3 x1)), (2, .int (i3 x2))] [.int (i3 (iv13 / 3 ^ (x1).toNat % 3))] n h
        exact ok_iret (st := []) (pc := 76) hc hr dX6_amplifier_76 P
      · have P := P.2.2.2 c
        refine ok_tableIn (pc := 26) (off := 51) (tgt := 77) hc dX6_amplifier_26 (by rw [i3_toInt r8, c]; decide) (by rw [i3_toInt r8, c]; decide) (by rw [i3_toInt r8, c]; rfl) (by decide) ?_
        refine ok_aload_n (pc := 77) hc dX6_amplifier_77 rfl 0 rfl ?_
        refine ok_get (pc := 78) hc fl_X6_10 dX6_amplifier_78 e2.1 e2.2 v2_0 ?_
        refine ok_get (pc := 81) hc fl_X6_43 dX6_amplifier_81 e4.1 e4.2 v4_0 ?_
        refine ok_get (pc := 84) hc fl_X6_179 dX6_amplifier_84 e12.1 e12.2 v12_3 ?_
        obtain ⟨r15, P⟩ := P
        refine zk_if_eq (pc := 87) (tgt := 101) hc dX6_amplifier_87 (by decide) r15 (fun c => ?_) (fun c => ?_)
        · have P := P.1 c
          refine ok_iconst (pc := 101) hc (v := i3 0) dX6_amplifier_101 (by decide) ?_
          exact ok_iret (st := []) (pc := 102) hc hr dX6_amplifier_102 P
        · have P := P.2 c
          refine ok_aload_n (pc := 90) hc dX6_amplifier_90 rfl 0 rfl ?_
          refine ok_get (pc := 91) hc fl_X6_10 dX6_amplifier_91 e2.1 e2.2 v2_0 ?_
          refine ok_iload_n (pc := 94) hc dX6_amplifier_94 rfl 1 rfl ?_
          exact ok_callV (pc := 95) (a := q3) (cb := 1) (sb := 6) (st := []) hc [.int (i3 x1)] cv_X6_228 sp_X0_inputSign (by decide) dX6_amplifier_95 rfl e4.1 e4.2 rfl rfl rfl (Nat.le_of_ble_eq_true rfl) P
    · have P := P.2 c
      exact ok_throw (pc := 15) hc hr th_IOE rfl (is := 218) (text := "there is no such amplifier") (by decide) dX6_amplifier_15 dX6_amplifier_18 dX6_amplifier_19 dX6_amplifier_21 dX6_amplifier_24 (by decide) (by decide) (by decide) (by decide) P

set_option maxHeartbeats 4000000 in
set_option maxRecDepth 100000 in
theorem sX6_amplifier_98 {X : Xt} {n : Nat} {h : HP} {a0 : Nat} {x1 : Int} {x2 : Int} {t0 : Int} (hc : Cx X cX6_amplifier RX6 3 6 90) {K : KT} (hr : CxR X (some .int) K) 
    (P : K (.inl (some (.int (i3 t0)))) n h) :
    Ok X 1 6 98 [(0, .ref a0), (1, .int (i3 x1)), (2, .int (i3 x2))] [.int (i3 t0)] n h := by
  refine ok_goto (pc := 98) (tgt := 102) hc dX6_amplifier_98 (by decide) ?_
  exact ok_iret (st := []) (pc := 102) hc hr dX6_amplifier_102 P

def opAmp (q : Dsk) (a w : Int) : Int ⊕ String := if ¬ (0 ≤ a ∧ a < nA q.1.1) then .inr eIO else if w = 0 then .inl (ampIx q.1.1 a.toNat) else if w = 1 then .inl (q.1.2.2.1 / 3 ^ a.toNat % 3) else if w = 2 then (if q.1.2.2.2 = 0 then .inl 0 else .inl (signP q.1.1 (satN q.1.2.2.1 (nA q.1.1)) (givC q.1 q.1.2.2.1) (((amps q.1.1)[a.toNat]?).getD (0, 0, 0, 0)))) else .inr eIA
def spec_X6_amplifier (args : List Value) (n : Nat) (h : HP) (K : KT) : Prop := ∃ (q : Dsk) (a w : Int), args = [.ref 0, .int (i3 a), .int (i3 w)] ∧ R3 a ∧ R3 w ∧ DkA h n q ∧ ∀ h', DkA h' n q → Fr h h' 0 127 → K (oV (opAmp q a w)) n h'
theorem sp_X6_amplifier : Sp yX6_amplifier cX6_amplifier 3 (some .int) 6 90 1 6 spec_X6_amplifier := by
  refine sp_intro (by decide) (by rintro args n h K ⟨q, a, w, rfl, -⟩; exact Nat.le_of_ble_eq_true rfl) ?_
  rintro X args n h K hc hr ⟨q, a, w, rfl, ha, hw, hq, kk⟩
  obtain ⟨_, _, _, _, hK⟩ := id hq.2.1
  obtain ⟨F, _, _, hB, h3, _, hF, -⟩ := id hK
  have hs := hB.2.1.2.2.2.2
  have hpr := hB.2.1.2.2.2.1
  have bad : ¬ (0 ≤ a ∧ a < nA q.1.1) → K (.inr eIO) n h := by
    intro c
    have := kk h hq Fr.rf
    unfold opAmp at this
    rw [if_pos c] at this
    exact this
  refine sX6_amplifier_0 hc hr hq.1 rfl rfl hB.1 rfl rfl rfl hB.2.2.1 rfl hB.2.1.1 rfl rfl rfl ⟨ha, fun c => bad (by omega), fun c => ⟨ha, R3_s (by omega), fun c1 => ?_, fun c1 => bad (by omega)⟩⟩
  obtain ⟨i, p, hA⟩ := AmpAt.ex (show a.toNat < nA q.1.1 by omega)
  have hFa : F a.toNat = (ampIx q.1.1 a.toNat : Nat) := by rw [hF _ _ _ hA, hA.ix]
  have go : ∀ h', DkA h' n q → Fr h h' 0 127 → K (oV (if w = 0 then .inl (ampIx q.1.1 a.toNat) else if w = 1 then .inl (q.1.2.2.1 / 3 ^ a.toNat % 3) else if w = 2 then (if q.1.2.2.2 = 0 then .inl 0 else .inl (signP q.1.1 (satN q.1.2.2.1 (nA q.1.1)) (givC q.1 q.1.2.2.1) p)) else .inr eIA)) n h' := by
    intro h' hq' f
    have := kk h' hq' f
    unfold opAmp at this
    rw [if_neg (by omega), hA.amps] at this
    exact this
  refine ⟨hw, fun z => ?_, fun z => ⟨⟨by omega, by omega, by omega⟩, ?_⟩, fun z => ⟨⟨⟨by omega, by omega⟩, by omega, by omega⟩, ?_⟩, fun z => ⟨R3_s (by omega), fun y => ?_, fun y => ⟨1, a.toNat, i, q.1, p, by rw [Int.toNat_of_nonneg (by omega)], hq.2.1, hA, fun h' hA' f => ⟨rfl, sX6_amplifier_98 hc hr ?_⟩⟩⟩⟩
  · have := go h hq Fr.rf
    rw [if_neg (by omega), if_neg (by omega), if_neg (by omega)] at this
    exact this
  · have := go h hq Fr.rf
    rw [if_pos z] at this
    rw [hFa]
    exact this
  · have := go h hq Fr.rf
    rw [if_neg (by omega), if_pos z] at this
    exact this
  · have := go h hq Fr.rf
    rw [if_neg (by omega), if_neg (by omega), if_pos z, if_pos y] at this
    exact this
  · have := go h' (hq.now hA' f) (f.sub (by omega) (by omega))
    rw [if_neg (by omega), if_neg (by omega), if_pos z, if_neg y] at this
    exact this
