/-! part 63: the reference: isAt -/
set_option maxHeartbeats 4000000 in
set_option maxRecDepth 100000 in
theorem sX7_isAt_0 {X : Xt} {n : Nat} {h : HP} {a0 : Nat} {x1 : Int} {x2 : Int} {fs1 : List Value} (hc : Cx X cX7_isAt RX7 3 2 44) {K : KT} (hr : CxR X (some .boolean) K) (e1 : At h n a0 (.inl (7, fs1))) (z1 : fs1.length = 24)
    (P : spec_X7_of [.ref a0, .int (i3 x1), .int (i3 1)] n h (kc X 0 0 3 [(0, .ref a0), (1, .int (i3 x1)), (2, .int (i3 x2))] [] n)) :
    Ok X 0 0 0 [(0, .ref a0), (1, .int (i3 x1)), (2, .int (i3 x2))] [] n h := by
  refine ok_aload_n (pc := 0) hc dX7_isAt_0 rfl 0 rfl ?_
  refine ok_iload_n (pc := 1) hc dX7_isAt_1 rfl 1 rfl ?_
  refine ok_iconst (pc := 2) hc (v := i3 1) dX7_isAt_2 (by decide) ?_
  exact ok_callV (pc := 3) (a := a0) (cb := 0) (sb := 0) (st := []) hc [.int (i3 x1), .int (i3 1)] cv_X7_49 sp_X7_of (by decide) dX7_isAt_3 rfl e1.1 e1.2 rfl rfl rfl (Nat.le_of_ble_eq_true rfl) P

set_option maxHeartbeats 4000000 in
set_option maxRecDepth 100000 in
theorem sX7_isAt_6 {X : Xt} {n : Nat} {h : HP} {a0 : Nat} {x1 : Int} {x2 : Int} {t0 : Int} (hc : Cx X cX7_isAt RX7 3 2 44) {K : KT} (hr : CxR X (some .boolean) K) 
    (P : (R3 t0) ∧ (R3 x2) ∧ (t0 = x2 → Ok X 0 0 48 [(0, .ref a0), (1, .int (i3 x1)), (2, .int (i3 x2))] [] n h) ∧ (¬ t0 = x2 → Ok X 0 0 10 [(0, .ref a0), (1, .int (i3 x1)), (2, .int (i3 x2))] [] n h)) :
    Ok X 0 0 6 [(0, .ref a0), (1, .int (i3 x1)), (2, .int (i3 x2))] [.int (i3 t0)] n h := by
  refine ok_iload_n (pc := 6) hc dX7_isAt_6 rfl 2 rfl ?_
  obtain ⟨r1, P⟩ := P
  obtain ⟨r2, P⟩ := P
  refine zk_icmp_eq (pc := 7) (tgt := 48) hc dX7_isAt_7 (by decide) r1 r2 (fun c => ?_) (fun c => ?_)
  · have P := P.1 c
    exact P
  · have P := P.2 c
    exact P

set_option maxHeartbeats 4000000 in
set_option maxRecDepth 100000 in
theorem sX7_isAt_10 {X : Xt} {n : Nat} {h : HP} {a0 : Nat} {x1 : Int} {x2 : Int} {fs1 : List Value} (hc : Cx X cX7_isAt RX7 3 2 44) {K : KT} (hr : CxR X (some .boolean) K) (e1 : At h n a0 (.inl (7, fs1))) (z1 : fs1.length = 24)
    (P : spec_X7_is [.ref a0, .int (i3 x1), .int (i3 1)] n h (kc X 0 0 13 [(0, .ref a0), (1, .int (i3 x1)), (2, .int (i3 x2))] [] n)) :
    Ok X 0 0 10 [(0, .ref a0), (1, .int (i3 x1)), (2, .int (i3 x2))] [] n h := by
  refine ok_aload_n (pc := 10) hc dX7_isAt_10 rfl 0 rfl ?_
  refine ok_iload_n (pc := 11) hc dX7_isAt_11 rfl 1 rfl ?_
  refine ok_iconst (pc := 12) hc (v := i3 1) dX7_isAt_12 (by decide) ?_
  exact ok_callV (pc := 13) (a := a0) (cb := 0) (sb := 0) (st := []) hc [.int (i3 x1), .int (i3 1)] cv_X7_60 sp_X7_is (by decide) dX7_isAt_13 rfl e1.1 e1.2 rfl rfl rfl (Nat.le_of_ble_eq_true rfl) P

set_option maxHeartbeats 4000000 in
set_option maxRecDepth 100000 in
theorem sX7_isAt_16 {X : Xt} {n : Nat} {h : HP} {a0 : Nat} {x1 : Int} {x2 : Int} {t0 : Int} (hc : Cx X cX7_isAt RX7 3 2 44) {K : KT} (hr : CxR X (some .boolean) K) 
    (P : (R3 t0) ∧ (¬ t0 = 0 → Ok X 0 0 29 [(0, .ref a0), (1, .int (i3 x1)), (2, .int (i3 x2))] [] n h) ∧ (t0 = 0 → Ok X 0 0 19 [(0, .ref a0), (1, .int (i3 x1)), (2, .int (i3 x2))] [] n h)) :
    Ok X 0 0 16 [(0, .ref a0), (1, .int (i3 x1)), (2, .int (i3 x2))] [.int (i3 t0)] n h := by
  obtain ⟨r1, P⟩ := P
  refine zk_if_ne (pc := 16) (tgt := 29) hc dX7_isAt_16 (by decide) r1 (fun c => ?_) (fun c => ?_)
  · have P := P.1 c
    exact P
  · have P := P.2 c
    exact P

set_option maxHeartbeats 4000000 in
set_option maxRecDepth 100000 in
theorem sX7_isAt_19 {X : Xt} {n : Nat} {h : HP} {a0 : Nat} {x1 : Int} {x2 : Int} {fs1 : List Value} (hc : Cx X cX7_isAt RX7 3 2 44) {K : KT} (hr : CxR X (some .boolean) K) (e1 : At h n a0 (.inl (7, fs1))) (z1 : fs1.length = 24)
    (P : spec_X7_of [.ref a0, .int (i3 x1), .int (i3 2)] n h (kc X 0 0 22 [(0, .ref a0), (1, .int (i3 x1)), (2, .int (i3 x2))] [] n)) :
    Ok X 0 0 19 [(0, .ref a0), (1, .int (i3 x1)), (2, .int (i3 x2))] [] n h := by
  refine ok_aload_n (pc := 19) hc dX7_isAt_19 rfl 0 rfl ?_
  refine ok_iload_n (pc := 20) hc dX7_isAt_20 rfl 1 rfl ?_
  refine ok_iconst (pc := 21) hc (v := i3 2) dX7_isAt_21 (by decide) ?_
  exact ok_callV (pc := 22) (a := a0) (cb := 0) (sb := 0) (st := []) hc [.int (i3 x1), .int (i3 2)] cv_X7_49 sp_X7_of (by decide) dX7_isAt_22 rfl e1.1 e1.2 rfl rfl rfl (Nat.le_of_ble_eq_true rfl) P

set_option maxHeartbeats 4000000 in
set_option maxRecDepth 100000 in
theorem sX7_isAt_25 {X : Xt} {n : Nat} {h : HP} {a0 : Nat} {x1 : Int} {x2 : Int} {t0 : Int} (hc : Cx X cX7_isAt RX7 3 2 44) {K : KT} (hr : CxR X (some .boolean) K) 
    (P : (R3 t0) ∧ (R3 x2) ∧ (t0 = x2 → Ok X 0 0 48 [(0, .ref a0), (1, .int (i3 x1)), (2, .int (i3 x2))] [] n h) ∧ (¬ t0 = x2 → Ok X 0 0 29 [(0, .ref a0), (1, .int (i3 x1)), (2, .int (i3 x2))] [] n h)) :
    Ok X 0 0 25 [(0, .ref a0), (1, .int (i3 x1)), (2, .int (i3 x2))] [.int (i3 t0)] n h := by
  refine ok_iload_n (pc := 25) hc dX7_isAt_25 rfl 2 rfl ?_
  obtain ⟨r1, P⟩ := P
  obtain ⟨r2, P⟩ := P
  refine zk_icmp_eq (pc := 26) (tgt := 48) hc dX7_isAt_26 (by decide) r1 r2 (fun c => ?_) (fun c => ?_)
  · have P := P.1 c
    exact P
  · have P := P.2 c
    exact P

set_option maxHeartbeats 4000000 in
set_option maxRecDepth 100000 in
theorem sX7_isAt_29 {X : Xt} {n : Nat} {h : HP} {a0 : Nat} {x1 : Int} {x2 : Int} {fs1 : List Value} (hc : Cx X cX7_isAt RX7 3 2 44) {K : KT} (hr : CxR X (some .boolean) K) (e1 : At h n a0 (.inl (7, fs1))) (z1 : fs1.length = 24)
    (P : spec_X7_is [.ref a0, .int (i3 x1), .int (i3 2)] n h (kc X 0 0 32 [(0, .ref a0), (1, .int (i3 x1)), (2, .int (i3 x2))] [] n)) :
    Ok X 0 0 29 [(0, .ref a0), (1, .int (i3 x1)), (2, .int (i3 x2))] [] n h := by
  refine ok_aload_n (pc := 29) hc dX7_isAt_29 rfl 0 rfl ?_
  refine ok_iload_n (pc := 30) hc dX7_isAt_30 rfl 1 rfl ?_
  refine ok_iconst (pc := 31) hc (v := i3 2) dX7_isAt_31 (by decide) ?_
  exact ok_callV (pc := 32) (a := a0) (cb := 0) (sb := 0) (st := []) hc [.int (i3 x1), .int (i3 2)] cv_X7_60 sp_X7_is (by decide) dX7_isAt_32 rfl e1.1 e1.2 rfl rfl rfl (Nat.le_of_ble_eq_true rfl) P

set_option maxHeartbeats 4000000 in
set_option maxRecDepth 100000 in
theorem sX7_isAt_35 {X : Xt} {n : Nat} {h : HP} {a0 : Nat} {x1 : Int} {x2 : Int} {t0 : Int} (hc : Cx X cX7_isAt RX7 3 2 44) {K : KT} (hr : CxR X (some .boolean) K) 
    (P : (R3 t0) ∧ (t0 = 0 → Ok X 0 0 52 [(0, .ref a0), (1, .int (i3 x1)), (2, .int (i3 x2))] [] n h) ∧ (¬ t0 = 0 → Ok X 0 0 38 [(0, .ref a0), (1, .int (i3 x1)), (2, .int (i3 x2))] [] n h)) :
    Ok X 0 0 35 [(0, .ref a0), (1, .int (i3 x1)), (2, .int (i3 x2))] [.int (i3 t0)] n h := by
  obtain ⟨r1, P⟩ := P
  refine zk_if_eq (pc := 35) (tgt := 52) hc dX7_isAt_35 (by decide) r1 (fun c => ?_) (fun c => ?_)
  · have P := P.1 c
    exact P
  · have P := P.2 c
    exact P

set_option maxHeartbeats 4000000 in
set_option maxRecDepth 100000 in
theorem sX7_isAt_38 {X : Xt} {n : Nat} {h : HP} {a0 : Nat} {x1 : Int} {x2 : Int} {fs1 : List Value} (hc : Cx X cX7_isAt RX7 3 2 44) {K : KT} (hr : CxR X (some .boolean) K) (e1 : At h n a0 (.inl (7, fs1))) (z1 : fs1.length = 24)
    (P : spec_X7_of [.ref a0, .int (i3 x1), .int (i3 3)] n h (kc X 0 0 41 [(0, .ref a0), (1, .int (i3 x1)), (2, .int (i3 x2))] [] n)) :
    Ok X 0 0 38 [(0, .ref a0), (1, .int (i3 x1)), (2, .int (i3 x2))] [] n h := by
  refine ok_aload_n (pc := 38) hc dX7_isAt_38 rfl 0 rfl ?_
  refine ok_iload_n (pc := 39) hc dX7_isAt_39 rfl 1 rfl ?_
  refine ok_iconst (pc := 40) hc (v := i3 3) dX7_isAt_40 (by decide) ?_
  exact ok_callV (pc := 41) (a := a0) (cb := 0) (sb := 0) (st := []) hc [.int (i3 x1), .int (i3 3)] cv_X7_49 sp_X7_of (by decide) dX7_isAt_41 rfl e1.1 e1.2 rfl rfl rfl (Nat.le_of_ble_eq_true rfl) P

set_option maxHeartbeats 4000000 in
set_option maxRecDepth 100000 in
theorem sX7_isAt_44 {X : Xt} {n : Nat} {h : HP} {a0 : Nat} {x1 : Int} {x2 : Int} {t0 : Int} (hc : Cx X cX7_isAt RX7 3 2 44) {K : KT} (hr : CxR X (some .boolean) K) 
    (P : (R3 t0) ∧ (R3 x2) ∧ (¬ t0 = x2 → Ok X 0 0 52 [(0, .ref a0), (1, .int (i3 x1)), (2, .int (i3 x2))] [] n h) ∧ (t0 = x2 → Ok X 0 0 48 [(0, .ref a0), (1, .int (i3 x1)), (2, .int (i3 x2))] [] n h)) :
    Ok X 0 0 44 [(0, .ref a0), (1, .int (i3 x1)), (2, .int (i3 x2))] [.int (i3 t0)] n h := by
  refine ok_iload_n (pc := 44) hc dX7_isAt_44 rfl 2 rfl ?_
  obtain ⟨r1, P⟩ := P
  obtain ⟨r2, P⟩ := P
  refine zk_icmp_ne (pc := 45) (tgt := 52) hc dX7_isAt_45 (by decide) r1 r2 (fun c => ?_) (fun c => ?_)
  · have P := P.1 c
    exact P
  · have P := P.2 c
    exact P

set_option maxHeartbeats 4000000 in
set_option maxRecDepth 100000 in
theorem sX7_isAt_48 {X : Xt} {n : Nat} {h : HP} {a0 : Nat} {x1 : Int} {x2 : Int} (hc : Cx X cX7_isAt RX7 3 2 44) {K : KT} (hr : CxR X (some .boolean) K) 
    (P : K (.inl (some (.int (i3 1)))) n h) :
    Ok X 0 0 48 [(0, .ref a0), (1, .int (i3 x1)), (2, .int (i3 x2))] [] n h := by
  refine ok_iconst (pc := 48) hc (v := i3 1) dX7_isAt_48 (by decide) ?_
  refine ok_goto (pc := 49) (tgt := 53) hc dX7_isAt_49 (by decide) ?_
  exact ok_zret (st := []) (pc := 53) hc (nar_z (by decide)) hr dX7_isAt_53 P

set_option maxHeartbeats 4000000 in
set_option maxRecDepth 100000 in
theorem sX7_isAt_52 {X : Xt} {n : Nat} {h : HP} {a0 : Nat} {x1 : Int} {x2 : Int} (hc : Cx X cX7_isAt RX7 3 2 44) {K : KT} (hr : CxR X (some .boolean) K) 
    (P : K (.inl (some (.int (i3 0)))) n h) :
    Ok X 0 0 52 [(0, .ref a0), (1, .int (i3 x1)), (2, .int (i3 x2))] [] n h := by
  refine ok_iconst (pc := 52) hc (v := i3 0) dX7_isAt_52 (by decide) ?_
  exact ok_zret (st := []) (pc := 53) hc (nar_z (by decide)) hr dX7_isAt_53 P

/-- is the part at the node k -/
def atB (p : Part) (k : Int) : Bool := decide (p.2.1 = k) || (decide (p.1 ≠ 1) && decide (p.2.2.1 = k)) || (decide (p.1 = 2) && decide (p.2.2.2 = k))
def spec_X7_isAt (args : List Value) (n : Nat) (h : HP) (K : KT) : Prop := ∃ (m i : Nat) (Z : Nat → Int) (ps : List Part) (p : Part) (k : Int), args = [.ref m, .int (i3 i), .int (i3 k)] ∧ ZAt h n m Z ∧ ZPs Z ps ∧ ps[i]? = some p ∧ R3 k ∧ K (.inl (some (.int (i3 (bz (atB p k)))))) n h
theorem sp_X7_isAt : Sp yX7_isAt cX7_isAt 3 (some .boolean) 2 44 0 0 spec_X7_isAt := by
  refine sp_intro (by decide) (by rintro args n h K ⟨m, i, Z, ps, p, k, rfl, -⟩; exact Nat.le_of_ble_eq_true rfl) ?_
  rintro X args n h K hc hr ⟨m, i, Z, ps, p, k, rfl, hZ, hP, hp, hk, kk⟩
  obtain ⟨fs, z, h1, h2, h3, h4⟩ := id hZ
  have hi := (List.getElem?_eq_some_iff.mp hp).1
  have hl := hP.2.1
  have hpe := Option.some.inj ((hP.2.2.1 i hi).symm.trans hp)
  have hb := (hP.2.2.2 p (List.mem_of_getElem? hp)).b
  have e1 : Z (4 * (i : Int) + 1).toNat = p.2.1 := by rw [show (4 * (i : Int) + 1).toNat = 4 * i + 1 by omega, ← hpe]
  have e2 : Z (4 * (i : Int) + 2).toNat = p.2.2.1 := by rw [show (4 * (i : Int) + 2).toNat = 4 * i + 2 by omega, ← hpe]
  have e3 : Z (4 * (i : Int) + 3).toNat = p.2.2.2 := by rw [show (4 * (i : Int) + 3).toNat = 4 * i + 3 by omega, ← hpe]
  have q1 := hP.is hp 1
  have q2 := hP.is hp 2
  have yes : atB p k = true → Ok X 0 0 48 [(0, .ref m), (1, .int (i3 i)), (2, .int (i3 k))] [] n h := by
    intro e
    rw [e] at kk
    exact sX7_isAt_48 hc hr kk
  have no : atB p k = false → Ok X 0 0 52 [(0, .ref m), (1, .int (i3 i)), (2, .int (i3 k))] [] n h := by
    intro e
    rw [e] at kk
    exact sX7_isAt_52 hc hr kk
  have last : ¬ p.2.1 = k → ¬ (p.1 ≠ 1 ∧ p.2.2.1 = k) → Ok X 0 0 29 [(0, .ref m), (1, .int (i3 i)), (2, .int (i3 k))] [] n h := by
    intro c1 c2
    refine sX7_isAt_29 hc hr h1 h2 ⟨m, Z, i, 2, rfl, hZ, by omega, R3_s (by omega), q2.2, rfl, ?_⟩
    rw [q2.1]
    refine sX7_isAt_35 hc hr ⟨R3_s (by split <;> omega), fun c => no ?_, fun c => ?_⟩
    · have : ¬ p.1 = 2 := fun y => absurd (by rw [if_pos y] at c; exact c) (by decide)
      unfold atB
      rw [decide_eq_false c1, decide_eq_false this, Bool.false_or, Bool.false_and, Bool.or_false, Bool.and_eq_false_iff]
      by_cases y : p.1 = 1
      · exact Or.inl (decide_eq_false (fun z => z y))
      · exact Or.inr (decide_eq_false (fun z => c2 ⟨y, z⟩))
    · have c22 : p.1 = 2 := by
        by_cases y : p.1 = 2
        · exact y
        · exact absurd (by rw [if_neg y]) c
      refine sX7_isAt_38 hc hr h1 h2 ⟨m, Z, i, 3, rfl, hZ, by omega, rfl, ?_⟩
      rw [e3]
      refine sX7_isAt_44 hc hr ⟨R3_s (by omega), hk, fun d => no ?_, fun d => yes ?_⟩
      · unfold atB
        rw [decide_eq_false c1, decide_eq_false d, decide_eq_false (fun z => c2 ⟨by omega, z⟩)]
        simp
      · unfold atB
        rw [decide_eq_true d, decide_eq_true c22]
        simp
  refine sX7_isAt_0 hc hr h1 h2 ⟨m, Z, i, 1, rfl, hZ, by omega, rfl, ?_⟩
  rw [e1]
  refine sX7_isAt_6 hc hr ⟨R3_s (by omega), hk, fun c1 => yes (by unfold atB; rw [decide_eq_true c1]; rfl), fun c1 => ?_⟩
  refine sX7_isAt_10 hc hr h1 h2 ⟨m, Z, i, 1, rfl, hZ, by omega, R3_s (by omega), q1.2, rfl, ?_⟩
  rw [q1.1]
  refine sX7_isAt_16 hc hr ⟨R3_s (by split <;> omega), fun c => last c1 ?_, fun c => ?_⟩
  · intro y
    rw [if_neg y.1] at c
    exact c rfl
  · have c11 : p.1 ≠ 1 := fun y => absurd (by rw [if_pos y] at c; exact c) (by decide)
    refine sX7_isAt_19 hc hr h1 h2 ⟨m, Z, i, 2, rfl, hZ, by omega, rfl, ?_⟩
    rw [e2]
    refine sX7_isAt_25 hc hr ⟨R3_s (by omega), hk, fun d => yes ?_, fun d => last c1 (fun y => d y.2)⟩
    unfold atB
    rw [decide_eq_true d, decide_eq_true c11]
    simp
