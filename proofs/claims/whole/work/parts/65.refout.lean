/-! part 65: the reference: isOutput -/
set_option maxHeartbeats 4000000 in
set_option maxRecDepth 100000 in
theorem sX7_isOutput_0 {X : Xt} {n : Nat} {h : HP} {a0 : Nat} {x1 : Int} (hc : Cx X cX7_isOutput RX7 4 2 44) {K : KT} (hr : CxR X (some .boolean) K) 
    (P : Ok X 0 0 4 [(0, .ref a0), (1, .int (i3 x1)), (2, .int (i3 0)), (3, .int (i3 0))] [] n h) :
    Ok X 0 0 0 [(0, .ref a0), (1, .int (i3 x1))] [] n h := by
  refine ok_iconst (pc := 0) hc (v := i3 0) dX7_isOutput_0 (by decide) ?_
  refine ok_istore_n (pc := 1) hc (lv' := [(2, .int (i3 0)), (0, .ref a0), (1, .int (i3 x1))]) dX7_isOutput_1 rfl (by decide) rfl ?_
  refine ok_iconst (pc := 2) hc (v := i3 0) dX7_isOutput_2 (by decide) ?_
  refine ok_istore_n (pc := 3) hc (lv' := [(3, .int (i3 0)), (2, .int (i3 0)), (0, .ref a0), (1, .int (i3 x1))]) dX7_isOutput_3 rfl (by decide) rfl ?_
  refine ok_lv [2, 3, 1, 0] rfl ?_
  exact P

set_option maxHeartbeats 4000000 in
set_option maxRecDepth 100000 in
theorem sX7_isOutput_4 {X : Xt} {n : Nat} {h : HP} {a0 : Nat} {x1 : Int} {x2 : Int} {x3 : Int} {fs1 : List Value} {q2 : Nat} {len3 : Nat} {f3 : Nat → Int} (hc : Cx X cX7_isOutput RX7 4 2 44) {K : KT} (hr : CxR X (some .boolean) K) (e1 : At h n a0 (.inl (7, fs1))) (z1 : fs1.length = 24) (v1_1 : fs1[1]? = some (.ref q2)) (e3 : At h n q2 (ai len3 f3))
    (P : (Ix 48 len3) ∧ (R3 x3) ∧ (R3 (f3 (48 : Int).toNat)) ∧ ((f3 (48 : Int).toNat) ≤ x3 → Ok X 0 0 50 [(0, .ref a0), (1, .int (i3 x1)), (2, .int (i3 x2)), (3, .int (i3 x3))] [] n h) ∧ (¬ (f3 (48 : Int).toNat) ≤ x3 → Ok X 0 0 15 [(0, .ref a0), (1, .int (i3 x1)), (2, .int (i3 x2)), (3, .int (i3 x3))] [] n h)) :
    Ok X 0 0 4 [(0, .ref a0), (1, .int (i3 x1)), (2, .int (i3 x2)), (3, .int (i3 x3))] [] n h := by
  refine ok_iload_n (pc := 4) hc dX7_isOutput_4 rfl 3 rfl ?_
  refine ok_aload_n (pc := 5) hc dX7_isOutput_5 rfl 0 rfl ?_
  refine ok_get (pc := 6) hc fl_X7_7 dX7_isOutput_6 e1.1 e1.2 v1_1 ?_
  refine ok_bipush (pc := 9) hc (v := i3 48) dX7_isOutput_9 (by decide) ?_
  obtain ⟨r, P⟩ := P
  refine zk_iald (pc := 11) hc dX7_isOutput_11 e3.1 e3.2 r ?_
  obtain ⟨r4, P⟩ := P
  obtain ⟨r5, P⟩ := P
  refine zk_icmp_ge (pc := 12) (tgt := 50) hc dX7_isOutput_12 (by decide) r4 r5 (fun c => ?_) (fun c => ?_)
  · have P := P.1 c
    exact P
  · have P := P.2 c
    exact P

set_option maxHeartbeats 4000000 in
set_option maxRecDepth 100000 in
theorem sX7_isOutput_15 {X : Xt} {n : Nat} {h : HP} {a0 : Nat} {x1 : Int} {x2 : Int} {x3 : Int} (hc : Cx X cX7_isOutput RX7 4 2 44) {K : KT} (hr : CxR X (some .boolean) K) 
    (P : (R3 x2) ∧ (¬ x2 = 0 → Ok X 0 0 38 [(0, .ref a0), (1, .int (i3 x1)), (2, .int (i3 x2)), (3, .int (i3 x3))] [] n h) ∧ (x2 = 0 → Ok X 0 0 19 [(0, .ref a0), (1, .int (i3 x1)), (2, .int (i3 x2)), (3, .int (i3 x3))] [] n h)) :
    Ok X 0 0 15 [(0, .ref a0), (1, .int (i3 x1)), (2, .int (i3 x2)), (3, .int (i3 x3))] [] n h := by
  refine ok_iload_n (pc := 15) hc dX7_isOutput_15 rfl 2 rfl ?_
  obtain ⟨r1, P⟩ := P
  refine zk_if_ne (pc := 16) (tgt := 38) hc dX7_isOutput_16 (by decide) r1 (fun c => ?_) (fun c => ?_)
  · have P := P.1 c
    exact P
  · have P := P.2 c
    exact P

set_option maxHeartbeats 4000000 in
set_option maxRecDepth 100000 in
theorem sX7_isOutput_19 {X : Xt} {n : Nat} {h : HP} {a0 : Nat} {x1 : Int} {x2 : Int} {x3 : Int} {fs1 : List Value} (hc : Cx X cX7_isOutput RX7 4 2 44) {K : KT} (hr : CxR X (some .boolean) K) (e1 : At h n a0 (.inl (7, fs1))) (z1 : fs1.length = 24)
    (P : spec_X7_is [.ref a0, .int (i3 x3), .int (i3 2)] n h (kc X 0 0 22 [(0, .ref a0), (1, .int (i3 x1)), (2, .int (i3 x2)), (3, .int (i3 x3))] [] n)) :
    Ok X 0 0 19 [(0, .ref a0), (1, .int (i3 x1)), (2, .int (i3 x2)), (3, .int (i3 x3))] [] n h := by
  refine ok_aload_n (pc := 19) hc dX7_isOutput_19 rfl 0 rfl ?_
  refine ok_iload_n (pc := 20) hc dX7_isOutput_20 rfl 3 rfl ?_
  refine ok_iconst (pc := 21) hc (v := i3 2) dX7_isOutput_21 (by decide) ?_
  exact ok_callV (pc := 22) (a := a0) (cb := 0) (sb := 0) (st := []) hc [.int (i3 x3), .int (i3 2)] cv_X7_60 sp_X7_is (by decide) dX7_isOutput_22 rfl e1.1 e1.2 rfl rfl rfl (Nat.le_of_ble_eq_true rfl) P

set_option maxHeartbeats 4000000 in
set_option maxRecDepth 100000 in
theorem sX7_isOutput_25 {X : Xt} {n : Nat} {h : HP} {a0 : Nat} {x1 : Int} {x2 : Int} {x3 : Int} {t0 : Int} (hc : Cx X cX7_isOutput RX7 4 2 44) {K : KT} (hr : CxR X (some .boolean) K) 
    (P : (R3 t0) ∧ (t0 = 0 → Ok X 0 0 42 [(0, .ref a0), (1, .int (i3 x1)), (2, .int (i3 x2)), (3, .int (i3 x3))] [] n h) ∧ (¬ t0 = 0 → Ok X 0 0 28 [(0, .ref a0), (1, .int (i3 x1)), (2, .int (i3 x2)), (3, .int (i3 x3))] [] n h)) :
    Ok X 0 0 25 [(0, .ref a0), (1, .int (i3 x1)), (2, .int (i3 x2)), (3, .int (i3 x3))] [.int (i3 t0)] n h := by
  obtain ⟨r1, P⟩ := P
  refine zk_if_eq (pc := 25) (tgt := 42) hc dX7_isOutput_25 (by decide) r1 (fun c => ?_) (fun c => ?_)
  · have P := P.1 c
    exact P
  · have P := P.2 c
    exact P

set_option maxHeartbeats 4000000 in
set_option maxRecDepth 100000 in
theorem sX7_isOutput_28 {X : Xt} {n : Nat} {h : HP} {a0 : Nat} {x1 : Int} {x2 : Int} {x3 : Int} {fs1 : List Value} (hc : Cx X cX7_isOutput RX7 4 2 44) {K : KT} (hr : CxR X (some .boolean) K) (e1 : At h n a0 (.inl (7, fs1))) (z1 : fs1.length = 24)
    (P : spec_X7_of [.ref a0, .int (i3 x3), .int (i3 3)] n h (kc X 0 0 31 [(0, .ref a0), (1, .int (i3 x1)), (2, .int (i3 x2)), (3, .int (i3 x3))] [] n)) :
    Ok X 0 0 28 [(0, .ref a0), (1, .int (i3 x1)), (2, .int (i3 x2)), (3, .int (i3 x3))] [] n h := by
  refine ok_aload_n (pc := 28) hc dX7_isOutput_28 rfl 0 rfl ?_
  refine ok_iload_n (pc := 29) hc dX7_isOutput_29 rfl 3 rfl ?_
  refine ok_iconst (pc := 30) hc (v := i3 3) dX7_isOutput_30 (by decide) ?_
  exact ok_callV (pc := 31) (a := a0) (cb := 0) (sb := 0) (st := []) hc [.int (i3 x3), .int (i3 3)] cv_X7_49 sp_X7_of (by decide) dX7_isOutput_31 rfl e1.1 e1.2 rfl rfl rfl (Nat.le_of_ble_eq_true rfl) P

set_option maxHeartbeats 4000000 in
set_option maxRecDepth 100000 in
theorem sX7_isOutput_34 {X : Xt} {n : Nat} {h : HP} {a0 : Nat} {x1 : Int} {x2 : Int} {x3 : Int} {t0 : Int} (hc : Cx X cX7_isOutput RX7 4 2 44) {K : KT} (hr : CxR X (some .boolean) K) 
    (P : (R3 t0) ∧ (R3 x1) ∧ (¬ t0 = x1 → Ok X 0 0 42 [(0, .ref a0), (1, .int (i3 x1)), (2, .int (i3 x2)), (3, .int (i3 x3))] [] n h) ∧ (t0 = x1 → Ok X 0 0 38 [(0, .ref a0), (1, .int (i3 x1)), (2, .int (i3 x2)), (3, .int (i3 x3))] [] n h)) :
    Ok X 0 0 34 [(0, .ref a0), (1, .int (i3 x1)), (2, .int (i3 x2)), (3, .int (i3 x3))] [.int (i3 t0)] n h := by
  refine ok_iload_n (pc := 34) hc dX7_isOutput_34 rfl 1 rfl ?_
  obtain ⟨r1, P⟩ := P
  obtain ⟨r2, P⟩ := P
  refine zk_icmp_ne (pc := 35) (tgt := 42) hc dX7_isOutput_35 (by decide) r1 r2 (fun c => ?_) (fun c => ?_)
  · have P := P.1 c
    exact P
  · have P := P.2 c
    exact P

set_option maxHeartbeats 4000000 in
set_option maxRecDepth 100000 in
theorem sX7_isOutput_38 {X : Xt} {n : Nat} {h : HP} {a0 : Nat} {x1 : Int} {x2 : Int} {x3 : Int} (hc : Cx X cX7_isOutput RX7 4 2 44) {K : KT} (hr : CxR X (some .boolean) K) 
    (P : Ok X 0 0 4 [(0, .ref a0), (1, .int (i3 x1)), (2, .int (i3 1)), (3, .int (i3 (x3 + 1)))] [] n h) :
    Ok X 0 0 38 [(0, .ref a0), (1, .int (i3 x1)), (2, .int (i3 x2)), (3, .int (i3 x3))] [] n h := by
  refine ok_iconst (pc := 38) hc (v := i3 1) dX7_isOutput_38 (by decide) ?_
  refine ok_goto (pc := 39) (tgt := 43) hc dX7_isOutput_39 (by decide) ?_
  refine ok_istore_n (pc := 43) hc (lv' := [(2, .int (i3 1)), (0, .ref a0), (1, .int (i3 x1)), (3, .int (i3 x3))]) dX7_isOutput_43 rfl (by decide) rfl ?_
  refine zk_iinc (pc := 44) hc (q := 3) (x := x3) (lv' := [(3, .int (i3 (x3 + 1))), (2, .int (i3 1)), (0, .ref a0), (1, .int (i3 x1))]) dX7_isOutput_44 rfl (by decide) rfl ?_
  refine ok_goto (pc := 47) (tgt := 4) hc dX7_isOutput_47 (by decide) ?_
  refine ok_lv [2, 3, 1, 0] rfl ?_
  exact P

set_option maxHeartbeats 4000000 in
set_option maxRecDepth 100000 in
theorem sX7_isOutput_42 {X : Xt} {n : Nat} {h : HP} {a0 : Nat} {x1 : Int} {x2 : Int} {x3 : Int} (hc : Cx X cX7_isOutput RX7 4 2 44) {K : KT} (hr : CxR X (some .boolean) K) 
    (P : Ok X 0 0 4 [(0, .ref a0), (1, .int (i3 x1)), (2, .int (i3 0)), (3, .int (i3 (x3 + 1)))] [] n h) :
    Ok X 0 0 42 [(0, .ref a0), (1, .int (i3 x1)), (2, .int (i3 x2)), (3, .int (i3 x3))] [] n h := by
  refine ok_iconst (pc := 42) hc (v := i3 0) dX7_isOutput_42 (by decide) ?_
  refine ok_istore_n (pc := 43) hc (lv' := [(2, .int (i3 0)), (0, .ref a0), (1, .int (i3 x1)), (3, .int (i3 x3))]) dX7_isOutput_43 rfl (by decide) rfl ?_
  refine zk_iinc (pc := 44) hc (q := 3) (x := x3) (lv' := [(3, .int (i3 (x3 + 1))), (2, .int (i3 0)), (0, .ref a0), (1, .int (i3 x1))]) dX7_isOutput_44 rfl (by decide) rfl ?_
  refine ok_goto (pc := 47) (tgt := 4) hc dX7_isOutput_47 (by decide) ?_
  refine ok_lv [2, 3, 1, 0] rfl ?_
  exact P

set_option maxHeartbeats 4000000 in
set_option maxRecDepth 100000 in
theorem sX7_isOutput_50 {X : Xt} {n : Nat} {h : HP} {a0 : Nat} {x1 : Int} {x2 : Int} {x3 : Int} (hc : Cx X cX7_isOutput RX7 4 2 44) {K : KT} (hr : CxR X (some .boolean) K) 
    (P : (x2 = 0 ∨ x2 = 1) ∧ K (.inl (some (.int (i3 x2)))) n h) :
    Ok X 0 0 50 [(0, .ref a0), (1, .int (i3 x1)), (2, .int (i3 x2)), (3, .int (i3 x3))] [] n h := by
  refine ok_iload_n (pc := 50) hc dX7_isOutput_50 rfl 2 rfl ?_
  obtain ⟨r, P⟩ := P
  exact ok_zret (st := []) (pc := 51) hc (nar_z r) hr dX7_isOutput_51 P

def outB (p : Part) (k : Int) : Bool := decide (p.1 = 2) && decide (p.2.2.2 = k)
def spec_X7_isOutput (args : List Value) (n : Nat) (h : HP) (K : KT) : Prop := ∃ (m : Nat) (Z : Nat → Int) (ps : List Part) (k : Int), args = [.ref m, .int (i3 k)] ∧ ZAt h n m Z ∧ ZPs Z ps ∧ R3 k ∧ K (.inl (some (.int (i3 (bz (ps.any (fun p => outB p k))))))) n h
theorem sp_X7_isOutput : Sp yX7_isOutput cX7_isOutput 4 (some .boolean) 2 44 0 0 spec_X7_isOutput := by
  refine sp_intro (by decide) (by rintro args n h K ⟨m, Z, ps, k, rfl, -⟩; exact Nat.le_of_ble_eq_true rfl) ?_
  rintro X args n h K hc hr ⟨m, Z, ps, k, rfl, hZ, hP, hk, kk⟩
  obtain ⟨fs, z, h1, h2, h3, h4⟩ := id hZ
  have e48 : Z (48 : Int).toNat = ps.length := hP.1
  have hl := hP.2.1
  have L : ∀ (j i : Nat), i + j = ps.length → Ok X 0 0 4 [(0, .ref m), (1, .int (i3 k)), (2, .int (i3 (bz ((ps.take i).any (fun p => outB p k))))), (3, .int (i3 i))] [] n h := by
    intro j
    induction j with
    | zero =>
      intro i hi
      have : i = ps.length := by omega
      subst this
      rw [List.take_length]
      refine sX7_isOutput_4 hc hr h1 h2 h3 h4 ⟨⟨by decide, by decide, by decide⟩, R3_s (by omega), R3_s (by omega), fun _ => sX7_isOutput_50 hc hr ⟨?_, kk⟩, fun c => absurd (by omega) c⟩
      cases ps.any (fun p => outB p k) with
      | true => exact Or.inr rfl
      | false => exact Or.inl rfl
    | succ j ih =>
      intro i hi
      have hp := hP.2.2.1 i (by omega)
      have hb := (hP.2.2.2 _ (List.mem_of_getElem? hp)).b
      simp only at hb
      have q2 := hP.is hp 2
      have i1 := ih (i + 1) (by omega)
      have e3 : (4 * (i : Int) + 3).toNat = 4 * i + 3 := by omega
      rw [take_s hp, List.any_append, List.any_cons, List.any_nil, Bool.or_false] at i1
      refine sX7_isOutput_4 hc hr h1 h2 h3 h4 ⟨⟨by decide, by decide, by decide⟩, R3_s (by omega), R3_s (by omega), fun c => absurd c (by omega), fun _ => ?_⟩
      refine sX7_isOutput_15 hc hr ⟨bz01 _, fun c => ?_, fun c => ?_⟩
      · have e : (ps.take i).any (fun p => outB p k) = true := by
          cases e : (ps.take i).any (fun p => outB p k) with
          | true => rfl
          | false => exact absurd (bz0.mpr e) c
        rw [e, Bool.true_or] at i1
        exact sX7_isOutput_38 hc hr i1
      · have e := bz0.mp c
        rw [e, Bool.false_or] at i1
        refine sX7_isOutput_19 hc hr h1 h2 ⟨m, Z, i, 2, rfl, hZ, by omega, R3_s (by omega), q2.2, rfl, ?_⟩
        rw [q2.1]
        refine sX7_isOutput_25 hc hr ⟨R3_s (by split <;> omega), fun d => ?_, fun d => ?_⟩
        · have y : ¬ Z (4 * i) = 2 := fun y => absurd (by simp only [if_pos y] at d; exact d) (by decide)
          unfold outB at i1
          simp only [decide_eq_false y, Bool.false_and] at i1
          exact sX7_isOutput_42 hc hr i1
        · have y : Z (4 * i) = 2 := by
            by_cases y : Z (4 * i) = 2
            · exact y
            · exact absurd (by simp only [if_neg y]) d
          refine sX7_isOutput_28 hc hr h1 h2 ⟨m, Z, i, 3, rfl, hZ, by omega, rfl, ?_⟩
          rw [e3]
          unfold outB at i1
          refine sX7_isOutput_34 hc hr ⟨R3_s (by omega), hk, fun w => ?_, fun w => ?_⟩
          · simp only [decide_eq_true y, decide_eq_false w, Bool.and_false] at i1
            exact sX7_isOutput_42 hc hr i1
          · simp only [decide_eq_true y, decide_eq_true w, Bool.and_true] at i1
            exact sX7_isOutput_38 hc hr i1
  exact sX7_isOutput_0 hc hr (L ps.length 0 (by omega))
