/-! part 62: the reference: amplifiers, cases -/
/-- the numbers Z hold the parts ps -/
def ZPs (Z : Nat → Int) (ps : List Part) : Prop := Z 48 = ps.length ∧ ps.length ≤ 12 ∧ (∀ i, i < ps.length → ps[i]? = some (Z (4 * i), Z (4 * i + 1), Z (4 * i + 2), Z (4 * i + 3))) ∧ ∀ p ∈ ps, PW p
theorem ZPs.is {Z : Nat → Int} {ps : List Part} (h : ZPs Z ps) {i : Nat} {p : Part} (hp : ps[i]? = some p) (k : Int) : isZ Z i k = (if p.1 = k then 1 else 0) ∧ R3 (Z (4 * (i : Int)).toNat) := by
  have hi := (List.getElem?_eq_some_iff.mp hp).1
  have hpe := Option.some.inj ((h.2.2.1 i hi).symm.trans hp)
  have hb := (h.2.2.2 p (List.mem_of_getElem? hp)).b
  have e : (4 * (i : Int)).toNat = 4 * i := by omega
  have ek : Z (4 * i) = p.1 := by rw [← hpe]
  unfold isZ
  rw [e, ek]
  exact ⟨rfl, R3_s (by omega)⟩
set_option maxHeartbeats 4000000 in
set_option maxRecDepth 100000 in
theorem sX7_amplifiers_0 {X : Xt} {n : Nat} {h : HP} {a0 : Nat} (hc : Cx X cX7_amplifiers RX7 3 2 44) {K : KT} (hr : CxR X (some .int) K) 
    (P : Ok X 0 0 4 [(0, .ref a0), (1, .int (i3 0)), (2, .int (i3 0))] [] n h) :
    Ok X 0 0 0 [(0, .ref a0)] [] n h := by
  refine ok_iconst (pc := 0) hc (v := i3 0) dX7_amplifiers_0 (by decide) ?_
  refine ok_istore_n (pc := 1) hc (lv' := [(1, .int (i3 0)), (0, .ref a0)]) dX7_amplifiers_1 rfl (by decide) rfl ?_
  refine ok_iconst (pc := 2) hc (v := i3 0) dX7_amplifiers_2 (by decide) ?_
  refine ok_istore_n (pc := 3) hc (lv' := [(2, .int (i3 0)), (1, .int (i3 0)), (0, .ref a0)]) dX7_amplifiers_3 rfl (by decide) rfl ?_
  refine ok_lv [2, 1, 0] rfl ?_
  exact P

set_option maxHeartbeats 4000000 in
set_option maxRecDepth 100000 in
theorem sX7_amplifiers_4 {X : Xt} {n : Nat} {h : HP} {a0 : Nat} {x1 : Int} {x2 : Int} {fs1 : List Value} {q2 : Nat} {len3 : Nat} {f3 : Nat → Int} (hc : Cx X cX7_amplifiers RX7 3 2 44) {K : KT} (hr : CxR X (some .int) K) (e1 : At h n a0 (.inl (7, fs1))) (z1 : fs1.length = 24) (v1_1 : fs1[1]? = some (.ref q2)) (e3 : At h n q2 (ai len3 f3))
    (P : (Ix 48 len3) ∧ (R3 x2) ∧ (R3 (f3 (48 : Int).toNat)) ∧ ((f3 (48 : Int).toNat) ≤ x2 → K (.inl (some (.int (i3 x1)))) n h) ∧ (¬ (f3 (48 : Int).toNat) ≤ x2 → Ok X 0 0 15 [(0, .ref a0), (1, .int (i3 x1)), (2, .int (i3 x2))] [] n h)) :
    Ok X 0 0 4 [(0, .ref a0), (1, .int (i3 x1)), (2, .int (i3 x2))] [] n h := by
  refine ok_iload_n (pc := 4) hc dX7_amplifiers_4 rfl 2 rfl ?_
  refine ok_aload_n (pc := 5) hc dX7_amplifiers_5 rfl 0 rfl ?_
  refine ok_get (pc := 6) hc fl_X7_7 dX7_amplifiers_6 e1.1 e1.2 v1_1 ?_
  refine ok_bipush (pc := 9) hc (v := i3 48) dX7_amplifiers_9 (by decide) ?_
  obtain ⟨r, P⟩ := P
  refine zk_iald (pc := 11) hc dX7_amplifiers_11 e3.1 e3.2 r ?_
  obtain ⟨r4, P⟩ := P
  obtain ⟨r5, P⟩ := P
  refine zk_icmp_ge (pc := 12) (tgt := 38) hc dX7_amplifiers_12 (by decide) r4 r5 (fun c => ?_) (fun c => ?_)
  · have P := P.1 c
    refine ok_iload_n (pc := 38) hc dX7_amplifiers_38 rfl 1 rfl ?_
    exact ok_iret (st := []) (pc := 39) hc hr dX7_amplifiers_39 P
  · have P := P.2 c
    exact P

set_option maxHeartbeats 4000000 in
set_option maxRecDepth 100000 in
theorem sX7_amplifiers_15 {X : Xt} {n : Nat} {h : HP} {a0 : Nat} {x1 : Int} {x2 : Int} {fs1 : List Value} (hc : Cx X cX7_amplifiers RX7 3 2 44) {K : KT} (hr : CxR X (some .int) K) (e1 : At h n a0 (.inl (7, fs1))) (z1 : fs1.length = 24)
    (P : spec_X7_is [.ref a0, .int (i3 x2), .int (i3 2)] n h (kc X 0 0 19 [(0, .ref a0), (1, .int (i3 x1)), (2, .int (i3 x2))] [.int (i3 x1)] n)) :
    Ok X 0 0 15 [(0, .ref a0), (1, .int (i3 x1)), (2, .int (i3 x2))] [] n h := by
  refine ok_iload_n (pc := 15) hc dX7_amplifiers_15 rfl 1 rfl ?_
  refine ok_aload_n (pc := 16) hc dX7_amplifiers_16 rfl 0 rfl ?_
  refine ok_iload_n (pc := 17) hc dX7_amplifiers_17 rfl 2 rfl ?_
  refine ok_iconst (pc := 18) hc (v := i3 2) dX7_amplifiers_18 (by decide) ?_
  exact ok_callV (pc := 19) (a := a0) (cb := 0) (sb := 0) (st := [.int (i3 x1)]) hc [.int (i3 x2), .int (i3 2)] cv_X7_60 sp_X7_is (by decide) dX7_amplifiers_19 rfl e1.1 e1.2 rfl rfl rfl (Nat.le_of_ble_eq_true rfl) P

set_option maxHeartbeats 4000000 in
set_option maxRecDepth 100000 in
theorem sX7_amplifiers_22 {X : Xt} {n : Nat} {h : HP} {a0 : Nat} {x1 : Int} {x2 : Int} {t0 : Int} {t1 : Int} (hc : Cx X cX7_amplifiers RX7 3 2 44) {K : KT} (hr : CxR X (some .int) K) 
    (P : (R3 t0) ∧ (t0 = 0 → Ok X 0 0 4 [(0, .ref a0), (1, .int (i3 (t1 + 0))), (2, .int (i3 (x2 + 1)))] [] n h) ∧ (¬ t0 = 0 → Ok X 0 0 4 [(0, .ref a0), (1, .int (i3 (t1 + 1))), (2, .int (i3 (x2 + 1)))] [] n h)) :
    Ok X 0 0 22 [(0, .ref a0), (1, .int (i3 x1)), (2, .int (i3 x2))] [.int (i3 t0), .int (i3 t1)] n h := by
  obtain ⟨r1, P⟩ := P
  refine zk_if_eq (pc := 22) (tgt := 29) hc dX7_amplifiers_22 (by decide) r1 (fun c => ?_) (fun c => ?_)
  · have P := P.1 c
    refine ok_iconst (pc := 29) hc (v := i3 0) dX7_amplifiers_29 (by decide) ?_
    refine zk_iadd (pc := 30) hc dX7_amplifiers_30 ?_
    refine ok_istore_n (pc := 31) hc (lv' := [(1, .int (i3 (t1 + 0))), (0, .ref a0), (2, .int (i3 x2))]) dX7_amplifiers_31 rfl (by decide) rfl ?_
    refine zk_iinc (pc := 32) hc (q := 2) (x := x2) (lv' := [(2, .int (i3 (x2 + 1))), (1, .int (i3 (t1 + 0))), (0, .ref a0)]) dX7_amplifiers_32 rfl (by decide) rfl ?_
    refine ok_goto (pc := 35) (tgt := 4) hc dX7_amplifiers_35 (by decide) ?_
    refine ok_lv [2, 1, 0] rfl ?_
    exact P
  · have P := P.2 c
    refine ok_iconst (pc := 25) hc (v := i3 1) dX7_amplifiers_25 (by decide) ?_
    refine ok_goto (pc := 26) (tgt := 30) hc dX7_amplifiers_26 (by decide) ?_
    refine zk_iadd (pc := 30) hc dX7_amplifiers_30 ?_
    refine ok_istore_n (pc := 31) hc (lv' := [(1, .int (i3 (t1 + 1))), (0, .ref a0), (2, .int (i3 x2))]) dX7_amplifiers_31 rfl (by decide) rfl ?_
    refine zk_iinc (pc := 32) hc (q := 2) (x := x2) (lv' := [(2, .int (i3 (x2 + 1))), (1, .int (i3 (t1 + 1))), (0, .ref a0)]) dX7_amplifiers_32 rfl (by decide) rfl ?_
    refine ok_goto (pc := 35) (tgt := 4) hc dX7_amplifiers_35 (by decide) ?_
    refine ok_lv [2, 1, 0] rfl ?_
    exact P

def spec_X7_amplifiers (args : List Value) (n : Nat) (h : HP) (K : KT) : Prop := ∃ (m : Nat) (Z : Nat → Int) (ps : List Part), args = [.ref m] ∧ ZAt h n m Z ∧ ZPs Z ps ∧ K (.inl (some (.int (i3 (nA ps))))) n h
theorem sp_X7_amplifiers : Sp yX7_amplifiers cX7_amplifiers 3 (some .int) 2 44 0 0 spec_X7_amplifiers := by
  refine sp_intro (by decide) (by rintro args n h K ⟨m, Z, ps, rfl, -⟩; exact Nat.le_of_ble_eq_true rfl) ?_
  rintro X args n h K hc hr ⟨m, Z, ps, rfl, hZ, hP, kk⟩
  obtain ⟨fs, z, h1, h2, h3, h4⟩ := id hZ
  have e48 : Z (48 : Int).toNat = ps.length := hP.1
  have hl := hP.2.1
  have L : ∀ (j i : Nat), i + j = ps.length → Ok X 0 0 4 [(0, .ref m), (1, .int (i3 (nA (ps.take i)))), (2, .int (i3 i))] [] n h := by
    intro j
    induction j with
    | zero =>
      intro i hi
      have : i = ps.length := by omega
      subst this
      rw [List.take_length]
      exact sX7_amplifiers_4 hc hr h1 h2 h3 h4 ⟨⟨by decide, by decide, by decide⟩, R3_s (by omega), R3_s (by omega), fun _ => kk, fun c => absurd (by omega) c⟩
    | succ j ih =>
      intro i hi
      have hp := hP.2.2.1 i (by omega)
      have q := hP.is hp 2
      have i1 := ih (i + 1) (by omega)
      rw [take_s hp, nA_app, nA_one] at i1
      refine sX7_amplifiers_4 hc hr h1 h2 h3 h4 ⟨⟨by decide, by decide, by decide⟩, R3_s (by omega), R3_s (by omega), fun c => absurd c (by omega), fun _ => ?_⟩
      refine sX7_amplifiers_15 hc hr h1 h2 ⟨m, Z, i, 2, rfl, hZ, by omega, R3_s (by omega), q.2, rfl, ?_⟩
      rw [q.1]
      refine sX7_amplifiers_22 hc hr ⟨R3_s (by split <;> omega), fun c => ?_, fun c => ?_⟩
      · by_cases y : Z (4 * i) = 2
        · rw [if_pos y] at c
          exact absurd c (by decide)
        · rw [if_neg y] at i1
          rw [Int.add_zero]
          exact i1
      · by_cases y : Z (4 * i) = 2
        · rw [if_pos y] at i1
          exact i1
        · exact absurd (by rw [if_neg y]) c
  exact sX7_amplifiers_0 hc hr (L ps.length 0 (by omega))
set_option maxHeartbeats 4000000 in
set_option maxRecDepth 100000 in
theorem sX7_cases_0 {X : Xt} {n : Nat} {h : HP} {a0 : Nat} (hc : Cx X cX7_cases RX7 3 3 66) {K : KT} (hr : CxR X (some .int) K) 
    (P : Ok X 0 0 4 [(0, .ref a0), (1, .int (i3 1)), (2, .int (i3 0))] [] n h) :
    Ok X 0 0 0 [(0, .ref a0)] [] n h := by
  refine ok_iconst (pc := 0) hc (v := i3 1) dX7_cases_0 (by decide) ?_
  refine ok_istore_n (pc := 1) hc (lv' := [(1, .int (i3 1)), (0, .ref a0)]) dX7_cases_1 rfl (by decide) rfl ?_
  refine ok_iconst (pc := 2) hc (v := i3 0) dX7_cases_2 (by decide) ?_
  refine ok_istore_n (pc := 3) hc (lv' := [(2, .int (i3 0)), (1, .int (i3 1)), (0, .ref a0)]) dX7_cases_3 rfl (by decide) rfl ?_
  refine ok_lv [2, 1, 0] rfl ?_
  exact P

set_option maxHeartbeats 4000000 in
set_option maxRecDepth 100000 in
theorem sX7_cases_4 {X : Xt} {n : Nat} {h : HP} {a0 : Nat} {x1 : Int} {x2 : Int} {fs1 : List Value} (hc : Cx X cX7_cases RX7 3 3 66) {K : KT} (hr : CxR X (some .int) K) (e1 : At h n a0 (.inl (7, fs1))) (z1 : fs1.length = 24)
    (P : spec_X7_amplifiers [.ref a0] n h (kc X 0 0 6 [(0, .ref a0), (1, .int (i3 x1)), (2, .int (i3 x2))] [.int (i3 x2)] n)) :
    Ok X 0 0 4 [(0, .ref a0), (1, .int (i3 x1)), (2, .int (i3 x2))] [] n h := by
  refine ok_iload_n (pc := 4) hc dX7_cases_4 rfl 2 rfl ?_
  refine ok_aload_n (pc := 5) hc dX7_cases_5 rfl 0 rfl ?_
  exact ok_callV (pc := 6) (a := a0) (cb := 0) (sb := 0) (st := [.int (i3 x2)]) hc [] cv_X7_64 sp_X7_amplifiers (by decide) dX7_cases_6 rfl e1.1 e1.2 rfl rfl rfl (Nat.le_of_ble_eq_true rfl) P

set_option maxHeartbeats 4000000 in
set_option maxRecDepth 100000 in
theorem sX7_cases_9 {X : Xt} {n : Nat} {h : HP} {a0 : Nat} {x1 : Int} {x2 : Int} {t0 : Int} {t1 : Int} (hc : Cx X cX7_cases RX7 3 3 66) {K : KT} (hr : CxR X (some .int) K) 
    (P : (R3 t1) ∧ (R3 t0) ∧ (t0 ≤ t1 → K (.inl (some (.int (i3 x1)))) n h) ∧ (¬ t0 ≤ t1 → Ok X 0 0 4 [(0, .ref a0), (1, .int (i3 (x1 * 3))), (2, .int (i3 (x2 + 1)))] [] n h)) :
    Ok X 0 0 9 [(0, .ref a0), (1, .int (i3 x1)), (2, .int (i3 x2))] [.int (i3 t0), .int (i3 t1)] n h := by
  obtain ⟨r1, P⟩ := P
  obtain ⟨r2, P⟩ := P
  refine zk_icmp_ge (pc := 9) (tgt := 22) hc dX7_cases_9 (by decide) r1 r2 (fun c => ?_) (fun c => ?_)
  · have P := P.1 c
    refine ok_iload_n (pc := 22) hc dX7_cases_22 rfl 1 rfl ?_
    exact ok_iret (st := []) (pc := 23) hc hr dX7_cases_23 P
  · have P := P.2 c
    refine ok_iload_n (pc := 12) hc dX7_cases_12 rfl 1 rfl ?_
    refine ok_iconst (pc := 13) hc (v := i3 3) dX7_cases_13 (by decide) ?_
    refine zk_imul (pc := 14) hc dX7_cases_14 ?_
    refine ok_istore_n (pc := 15) hc (lv' := [(1, .int (i3 (x1 * 3))), (0, .ref a0), (2, .int (i3 x2))]) dX7_cases_15 rfl (by decide) rfl ?_
    refine zk_iinc (pc := 16) hc (q := 2) (x := x2) (lv' := [(2, .int (i3 (x2 + 1))), (1, .int (i3 (x1 * 3))), (0, .ref a0)]) dX7_cases_16 rfl (by decide) rfl ?_
    refine ok_goto (pc := 19) (tgt := 4) hc dX7_cases_19 (by decide) ?_
    refine ok_lv [2, 1, 0] rfl ?_
    exact P

def spec_X7_cases (args : List Value) (n : Nat) (h : HP) (K : KT) : Prop := ∃ (m : Nat) (Z : Nat → Int) (ps : List Part), args = [.ref m] ∧ ZAt h n m Z ∧ ZPs Z ps ∧ K (.inl (some (.int (i3 ((3 : Int) ^ nA ps))))) n h
theorem sp_X7_cases : Sp yX7_cases cX7_cases 3 (some .int) 3 66 0 0 spec_X7_cases := by
  refine sp_intro (by decide) (by rintro args n h K ⟨m, Z, ps, rfl, -⟩; exact Nat.le_of_ble_eq_true rfl) ?_
  rintro X args n h K hc hr ⟨m, Z, ps, rfl, hZ, hP, kk⟩
  obtain ⟨fs, z, h1, h2, h3, h4⟩ := id hZ
  have hl := hP.2.1
  have hn := nA_le ps
  have L : ∀ (j i : Nat), i + j = nA ps → Ok X 0 0 4 [(0, .ref m), (1, .int (i3 ((3 : Int) ^ i))), (2, .int (i3 i))] [] n h := by
    intro j
    induction j with
    | zero =>
      intro i hi
      have : i = nA ps := by omega
      subst this
      exact sX7_cases_4 hc hr h1 h2 ⟨m, Z, ps, rfl, hZ, hP, rfl, sX7_cases_9 hc hr ⟨R3_s (by omega), R3_s (by omega), fun _ => kk, fun c => absurd (Int.le_refl _) c⟩⟩
    | succ j ih =>
      intro i hi
      exact sX7_cases_4 hc hr h1 h2 ⟨m, Z, ps, rfl, hZ, hP, rfl, sX7_cases_9 hc hr ⟨R3_s (by omega), R3_s (by omega), fun c => absurd c (by omega), fun _ => ih (i + 1) (by omega)⟩⟩
  exact sX7_cases_0 hc hr (L (nA ps) 0 (by omega))
