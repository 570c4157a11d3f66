/-! part 36: class Bench: settle, inputSign, nodeVoltage -/
def chgN (c d : Int) : Nat → Int
  | 0 => 0
  | a + 1 => chgN c d a + (if c / 3 ^ a % 3 = d / 3 ^ a % 3 then 0 else 1)
theorem chgN_r (c d : Int) : ∀ a : Nat, 0 ≤ chgN c d a ∧ chgN c d a ≤ a
  | 0 => ⟨(by decide : (0 : Int) ≤ 0), (by decide : (0 : Int) ≤ 0)⟩
  | a + 1 => by
    have := chgN_r c d a
    unfold chgN
    split <;> omega
set_option maxHeartbeats 4000000 in
set_option maxRecDepth 100000 in
theorem sX0_changesTo_0 {X : Xt} {n : Nat} {h : HP} {a0 : Nat} {x1 : Int} (hc : Cx X cX0_changesTo RX0 4 1 21) {K : KT} (hr : CxR X (some .int) K) 
    (P : Ok X 0 0 4 [(0, .ref a0), (1, .int (i3 x1)), (2, .int (i3 0)), (3, .int (i3 0))] [] n h) :
    Ok X 0 0 0 [(0, .ref a0), (1, .int (i3 x1))] [] n h := by
  refine ok_iconst (pc := 0) hc (v := i3 0) dX0_changesTo_0 (by decide) ?_
  refine ok_istore_n (pc := 1) hc (lv' := [(2, .int (i3 0)), (0, .ref a0), (1, .int (i3 x1))]) dX0_changesTo_1 rfl (by decide) rfl ?_
  refine ok_iconst (pc := 2) hc (v := i3 0) dX0_changesTo_2 (by decide) ?_
  refine ok_istore_n (pc := 3) hc (lv' := [(3, .int (i3 0)), (2, .int (i3 0)), (0, .ref a0), (1, .int (i3 x1))]) dX0_changesTo_3 rfl (by decide) rfl ?_
  refine ok_lv [2, 3, 1, 0] rfl ?_
  exact P

set_option maxHeartbeats 4000000 in
set_option maxRecDepth 100000 in
theorem sX0_changesTo_4 {X : Xt} {n : Nat} {h : HP} {a0 : Nat} {x1 : Int} {x2 : Int} {x3 : Int} {fs1 : List Value} {iv2 : Int} {q5 : Nat} {fs6 : List Value} {iv7 : Int} (hc : Cx X cX0_changesTo RX0 4 1 21) {K : KT} (hr : CxR X (some .int) K) (e1 : At h n a0 (.inl (0, fs1))) (z1 : fs1.length = 8) (v1_2 : fs1[2]? = some (.int (i3 iv2))) (v1_0 : fs1[0]? = some (.ref q5)) (e6 : At h n q5 (.inl (4, fs6))) (z6 : fs6.length = 4) (v6_2 : fs6[2]? = some (.int (i3 iv7)))
    (P : (R3 x3) ∧ (R3 iv2) ∧ (iv2 ≤ x3 → K (.inl (some (.int (i3 x2)))) n h) ∧ (¬ iv2 ≤ x3 → ((0 ≤ x1 ∧ x1 ≤ 2147483647) ∧ 0 ≤ x3 ∧ x3 < 4) ∧ ((0 ≤ iv7 ∧ iv7 ≤ 2147483647) ∧ 0 ≤ x3 ∧ x3 < 4) ∧ (R3 (x1 / 3 ^ (x3).toNat % 3)) ∧ (R3 (iv7 / 3 ^ (x3).toNat % 3)) ∧ ((x1 / 3 ^ (x3).toNat % 3) = (iv7 / 3 ^ (x3).toNat % 3) → Ok X 0 0 4 [(0, .ref a0), (1, .int (i3 x1)), (2, .int (i3 x2)), (3, .int (i3 (x3 + 1)))] [] n h) ∧ (¬ (x1 / 3 ^ (x3).toNat % 3) = (iv7 / 3 ^ (x3).toNat % 3) → Ok X 0 0 4 [(0, .ref a0), (1, .int (i3 x1)), (2, .int (i3 (x2 + 1))), (3, .int (i3 (x3 + 1)))] [] n h))) :
    Ok X 0 0 4 [(0, .ref a0), (1, .int (i3 x1)), (2, .int (i3 x2)), (3, .int (i3 x3))] [] n h := by
  refine ok_iload_n (pc := 4) hc dX0_changesTo_4 rfl 3 rfl ?_
  refine ok_aload_n (pc := 5) hc dX0_changesTo_5 rfl 0 rfl ?_
  refine ok_get (pc := 6) hc fl_X0_40 dX0_changesTo_6 e1.1 e1.2 v1_2 ?_
  obtain ⟨r3, P⟩ := P
  obtain ⟨r4, P⟩ := P
  refine zk_icmp_ge (pc := 9) (tgt := 40) hc dX0_changesTo_9 (by decide) r3 r4 (fun c => ?_) (fun c => ?_)
  · have P := P.1 c
    refine ok_iload_n (pc := 40) hc dX0_changesTo_40 rfl 2 rfl ?_
    exact ok_iret (st := []) (pc := 41) hc hr dX0_changesTo_41 P
  · have P := P.2 c
    refine ok_iload_n (pc := 12) hc dX0_changesTo_12 rfl 1 rfl ?_
    refine ok_iload_n (pc := 13) hc dX0_changesTo_13 rfl 3 rfl ?_
    obtain ⟨r0, P⟩ := P
    refine ok_callN (pc := 14) (cb := 0) (sb := 0) (st := []) hc [.int (i3 x1), .int (i3 x3)] cn_X0_81 sp_X6_stateIn (by decide) dX0_changesTo_14 rfl rfl rfl rfl (Nat.le_of_ble_eq_true rfl) (⟨_, _, rfl, r0, rfl, ?_⟩)
    show Ok X 0 0 (14 + 3) [(0, .ref a0), (1, .int (i3 x1)), (2, .int (i3 x2)), (3, .int (i3 x3))] [.int (i3 (x1 / 3 ^ (x3).toNat % 3))] n h
    refine ok_aload_n (pc := 17) hc dX0_changesTo_17 rfl 0 rfl ?_
    refine ok_get (pc := 18) hc fl_X0_12 dX0_changesTo_18 e1.1 e1.2 v1_0 ?_
    refine ok_get (pc := 21) hc fl_X0_62 dX0_changesTo_21 e6.1 e6.2 v6_2 ?_
    refine ok_iload_n (pc := 24) hc dX0_changesTo_24 rfl 3 rfl ?_
    obtain ⟨r0, P⟩ := P
    refine ok_callN (pc := 25) (cb := 0) (sb := 0) (st := [.int (i3 (x1 / 3 ^ (x3).toNat % 3))]) hc [.int (i3 iv7), .int (i3 x3)] cn_X0_81 sp_X6_stateIn (by decide) dX0_changesTo_25 rfl rfl rfl rfl (Nat.le_of_ble_eq_true rfl) (⟨_, _, rfl, r0, rfl, ?_⟩)
    show Ok X 0 0 (25 + 3) [(0, .ref a0), (1, .int (i3 x1)), (2, .int (i3 x2)), (3, .int (i3 x3))] [.int (i3 (iv7 / 3 ^ (x3).toNat % 3)), .int (i3 (x1 / 3 ^ (x3).toNat % 3))] n h
    obtain ⟨r8, P⟩ := P
    obtain ⟨r9, P⟩ := P
    refine zk_icmp_eq (pc := 28) (tgt := 34) hc dX0_changesTo_28 (by decide) r8 r9 (fun c => ?_) (fun c => ?_)
    · have P := P.1 c
      refine zk_iinc (pc := 34) hc (q := 3) (x := x3) (lv' := [(3, .int (i3 (x3 + 1))), (0, .ref a0), (1, .int (i3 x1)), (2, .int (i3 x2))]) dX0_changesTo_34 rfl (by decide) rfl ?_
      refine ok_goto (pc := 37) (tgt := 4) hc dX0_changesTo_37 (by decide) ?_
      refine ok_lv [1, 2, 3, 0] rfl ?_
      exact P
    · have P := P.2 c
      refine zk_iinc (pc := 31) hc (q := 2) (x := x2) (lv' := [(2, .int (i3 (x2 + 1))), (0, .ref a0), (1, .int (i3 x1)), (3, .int (i3 x3))]) dX0_changesTo_31 rfl (by decide) rfl ?_
      refine zk_iinc (pc := 34) hc (q := 3) (x := x3) (lv' := [(3, .int (i3 (x3 + 1))), (2, .int (i3 (x2 + 1))), (0, .ref a0), (1, .int (i3 x1))]) dX0_changesTo_34 rfl (by decide) rfl ?_
      refine ok_goto (pc := 37) (tgt := 4) hc dX0_changesTo_37 (by decide) ?_
      refine ok_lv [2, 3, 1, 0] rfl ?_
      exact P

def spec_X0_changesTo (args : List Value) (n : Nat) (h : HP) (K : KT) : Prop := ∃ (b : Nat) (S : Stt) (c : Int), args = [.ref b, .int (i3 c)] ∧ BnA h n b S ∧ (0 ≤ c ∧ c ≤ 26) ∧ K (.inl (some (.int (i3 (chgN c S.2.2.1 (nA S.1)))))) n h
theorem sp_X0_changesTo : Sp yX0_changesTo cX0_changesTo 4 (some .int) 1 21 0 0 spec_X0_changesTo := by
  refine sp_intro (by decide) (by rintro args n h K ⟨b, S, c, rfl, -⟩; exact Nat.le_of_ble_eq_true rfl) ?_
  rintro X args n h K hc hr ⟨b, S, c, rfl, ⟨_, _, _, _, F, D, N, hB, h3, -⟩, hcc, kk⟩
  have hp := hB.2.1.2.2.2.1
  have L : ∀ (j a : Nat), a + j = nA S.1 → Ok X 0 0 4 [(0, .ref b), (1, .int (i3 c)), (2, .int (i3 (chgN c S.2.2.1 a))), (3, .int (i3 a))] [] n h := by
    intro j
    induction j with
    | zero =>
      intro a ha
      have : a = nA S.1 := by omega
      subst this
      exact sX0_changesTo_4 hc hr hB.1 rfl rfl rfl hB.2.1.1 rfl rfl ⟨R3_s (by omega), R3_s (by omega), fun _ => kk, fun c => absurd (Int.le_refl _) c⟩
    | succ j ih =>
      intro a ha
      have s1 := st_r (c := c) (a := a)
      have s2 := st_r (c := S.2.2.1) (a := a)
      refine sX0_changesTo_4 hc hr hB.1 rfl rfl rfl hB.2.1.1 rfl rfl ⟨R3_s (by omega), R3_s (by omega), fun c => absurd c (by omega), fun _ => ⟨⟨⟨by omega, by omega⟩, by omega, by omega⟩, ⟨⟨by omega, by omega⟩, by omega, by omega⟩, R3_s (by simp only [Int.toNat_natCast]; omega), R3_s (by simp only [Int.toNat_natCast]; omega), fun z => ?_, fun z => ?_⟩⟩
      all_goals simp only [Int.toNat_natCast] at z
      · have := ih (a + 1) (by omega)
        unfold chgN at this
        rw [if_pos z, Int.add_zero] at this
        exact this
      · have := ih (a + 1) (by omega)
        unfold chgN at this
        rw [if_neg z] at this
        exact this
  exact sX0_changesTo_0 hc hr (L (nA S.1) 0 (by omega))
def bestL (S : Stt) : Nat → Int → Int → Int → Int
  | 0, _, best, _ => best
  | f + 1, c, best, few => if few ≤ chgN c S.2.2.1 (nA S.1) then bestL S f (c + 1) best few else if (jud S c).1 = 0 then bestL S f (c + 1) c (chgN c S.2.2.1 (nA S.1)) else bestL S f (c + 1) best few
def bestOf (S : Stt) : Int := bestL S (3 ^ nA S.1) 0 (-1) 4
def setS (S : Stt) : Stt := if (jud S S.2.2.1).1 = 0 then (S.1, S.2.1, S.2.2.1, 1) else if bestOf S = -1 then (S.1, S.2.1, S.2.2.1, 0) else (S.1, S.2.1, bestOf S, 1)
theorem BnK.us {h : HP} {n b : Nat} {S : Stt} {sat rsn cul : Int} {G : Nat → Int} (p : BnK h n b S sat rsn cul G) {pr st : Int} (hp : 0 ≤ pr ∧ pr ≤ 26) (hs : st = 0 ∨ st = 1) : BnK (va_up h (b + 1) (.inl (4, [.ref (b + 2), .int (i3 S.2.1), .int (i3 pr), .int (i3 st)]))) n b (S.1, S.2.1, pr, st) sat rsn cul G := by
  obtain ⟨F, D, N, q, r⟩ := p
  have f : Fr h (va_up h (b + 1) (.inl (4, [.ref (b + 2), .int (i3 S.2.1), .int (i3 pr), .int (i3 st)]))) (b + 1) (b + 1) := Fr.rf.up (by omega)
  exact ⟨F, D, N, ⟨q.1.fr f (by omega), ⟨q.2.1.1.it, q.2.1.2.1.fr f (by omega), q.2.1.2.2.1, hp, hs⟩, q.2.2.1.fr f (by omega), q.2.2.2.1.fr f (by omega), q.2.2.2.2.fr f (by omega)⟩, r⟩
set_option maxHeartbeats 4000000 in
set_option maxRecDepth 100000 in
theorem sX0_settle_0 {X : Xt} {n : Nat} {h : HP} {a0 : Nat} {fs1 : List Value} {q2 : Nat} {fs3 : List Value} {iv4 : Int} (hc : Cx X cX0_settle RX0 5 5 114) {K : KT} (hr : CxR X none K) (e1 : At h n a0 (.inl (0, fs1))) (z1 : fs1.length = 8) (v1_0 : fs1[0]? = some (.ref q2)) (e3 : At h n q2 (.inl (4, fs3))) (z3 : fs3.length = 4) (v3_2 : fs3[2]? = some (.int (i3 iv4)))
    (P : spec_X0_holds [.ref a0, .int (i3 iv4)] n h (kc X 0 0 8 [(0, .ref a0)] [] n)) :
    Ok X 0 0 0 [(0, .ref a0)] [] n h := by
  refine ok_aload_n (pc := 0) hc dX0_settle_0 rfl 0 rfl ?_
  refine ok_aload_n (pc := 1) hc dX0_settle_1 rfl 0 rfl ?_
  refine ok_get (pc := 2) hc fl_X0_12 dX0_settle_2 e1.1 e1.2 v1_0 ?_
  refine ok_get (pc := 5) hc fl_X0_62 dX0_settle_5 e3.1 e3.2 v3_2 ?_
  exact ok_callV (pc := 8) (a := a0) (cb := 0) (sb := 0) (st := []) hc [.int (i3 iv4)] cv_X0_65 sp_X0_holds (by decide) dX0_settle_8 rfl e1.1 e1.2 rfl rfl rfl (Nat.le_of_ble_eq_true rfl) P

set_option maxHeartbeats 4000000 in
set_option maxRecDepth 100000 in
theorem sX0_settle_11 {X : Xt} {n : Nat} {h : HP} {a0 : Nat} {t0 : Int} {fs2 : List Value} {q3 : Nat} {fs4 : List Value} (hc : Cx X cX0_settle RX0 5 5 114) {K : KT} (hr : CxR X none K) (e2 : At h n a0 (.inl (0, fs2))) (z2 : fs2.length = 8) (v2_0 : fs2[0]? = some (.ref q3)) (e4 : At h n q3 (.inl (4, fs4))) (z4 : fs4.length = 4)
    (P : (R3 t0) ∧ (t0 = 0 → Ok X 0 0 29 [(0, .ref a0), (1, .int (i3 (-1))), (2, .int (i3 4)), (3, .int (i3 0))] [] n h) ∧ (¬ t0 = 0 → K (.inl none) n (va_up h q3 (.inl (4, (fs4.set 3 (.int (i3 1)))))))) :
    Ok X 0 0 11 [(0, .ref a0)] [.int (i3 t0)] n h := by
  obtain ⟨r1, P⟩ := P
  refine zk_if_eq (pc := 11) (tgt := 23) hc dX0_settle_11 (by decide) r1 (fun c => ?_) (fun c => ?_)
  · have P := P.1 c
    refine ok_iconst (pc := 23) hc (v := i3 (-1)) dX0_settle_23 (by decide) ?_
    refine ok_istore_n (pc := 24) hc (lv' := [(1, .int (i3 (-1))), (0, .ref a0)]) dX0_settle_24 rfl (by decide) rfl ?_
    refine ok_iconst (pc := 25) hc (v := i3 4) dX0_settle_25 (by decide) ?_
    refine ok_istore_n (pc := 26) hc (lv' := [(2, .int (i3 4)), (1, .int (i3 (-1))), (0, .ref a0)]) dX0_settle_26 rfl (by decide) rfl ?_
    refine ok_iconst (pc := 27) hc (v := i3 0) dX0_settle_27 (by decide) ?_
    refine ok_istore_n (pc := 28) hc (lv' := [(3, .int (i3 0)), (2, .int (i3 4)), (1, .int (i3 (-1))), (0, .ref a0)]) dX0_settle_28 rfl (by decide) rfl ?_
    refine ok_lv [3, 2, 1, 0] rfl ?_
    exact P
  · have P := P.2 c
    refine ok_aload_n (pc := 14) hc dX0_settle_14 rfl 0 rfl ?_
    refine ok_get (pc := 15) hc fl_X0_12 dX0_settle_15 e2.1 e2.2 v2_0 ?_
    refine ok_iconst (pc := 18) hc (v := i3 1) dX0_settle_18 (by decide) ?_
    refine ok_put (pc := 19) hc fl_X0_69 dX0_settle_19 e4.1 e4.2 (by simp [List.length_set, z4]) (fun _ => nar_z (by decide)) (fun _ => fit_zz (by decide)) ?_
    exact ok_vret (st := []) (pc := 22) hc hr dX0_settle_22 P

set_option maxHeartbeats 4000000 in
set_option maxRecDepth 100000 in
theorem sX0_settle_29 {X : Xt} {n : Nat} {h : HP} {a0 : Nat} {x1 : Int} {x2 : Int} {x3 : Int} {fs1 : List Value} (hc : Cx X cX0_settle RX0 5 5 114) {K : KT} (hr : CxR X none K) (e1 : At h n a0 (.inl (0, fs1))) (z1 : fs1.length = 8)
    (P : spec_X0_cases [.ref a0] n h (kc X 0 0 31 [(0, .ref a0), (1, .int (i3 x1)), (2, .int (i3 x2)), (3, .int (i3 x3))] [.int (i3 x3)] n)) :
    Ok X 0 0 29 [(0, .ref a0), (1, .int (i3 x1)), (2, .int (i3 x2)), (3, .int (i3 x3))] [] n h := by
  refine ok_iload_n (pc := 29) hc dX0_settle_29 rfl 3 rfl ?_
  refine ok_aload_n (pc := 30) hc dX0_settle_30 rfl 0 rfl ?_
  exact ok_callV (pc := 31) (a := a0) (cb := 0) (sb := 0) (st := [.int (i3 x3)]) hc [] cv_X0_73 sp_X0_cases (by decide) dX0_settle_31 rfl e1.1 e1.2 rfl rfl rfl (Nat.le_of_ble_eq_true rfl) P

set_option maxHeartbeats 4000000 in
set_option maxRecDepth 100000 in
theorem sX0_settle_34 {X : Xt} {n : Nat} {h : HP} {a0 : Nat} {x1 : Int} {x2 : Int} {x3 : Int} {t0 : Int} {t1 : Int} {fs3 : List Value} {q4 : Nat} {fs6 : List Value} (hc : Cx X cX0_settle RX0 5 5 114) {K : KT} (hr : CxR X none K) (e3 : At h n a0 (.inl (0, fs3))) (z3 : fs3.length = 8) (v3_0 : fs3[0]? = some (.ref q4)) (e6 : At h n q4 (.inl (4, fs6))) (z6 : fs6.length = 4)
    (P : (R3 t1) ∧ (R3 t0) ∧ (t0 ≤ t1 → (R3 x1) ∧ (x1 = (-1) → K (.inl none) n (va_up h q4 (.inl (4, (fs6.set 3 (.int (i3 0))))))) ∧ (¬ x1 = (-1) → K (.inl none) n (va_up (va_up h q4 (.inl (4, (fs6.set 3 (.int (i3 1)))))) q4 (.inl (4, ((fs6.set 3 (.int (i3 1))).set 2 (.int (i3 x1)))))))) ∧ (¬ t0 ≤ t1 → spec_X0_changesTo [.ref a0, .int (i3 x3)] n h (kc X 0 0 39 [(0, .ref a0), (1, .int (i3 x1)), (2, .int (i3 x2)), (3, .int (i3 x3))] [] n))) :
    Ok X 0 0 34 [(0, .ref a0), (1, .int (i3 x1)), (2, .int (i3 x2)), (3, .int (i3 x3))] [.int (i3 t0), .int (i3 t1)] n h := by
  obtain ⟨r1, P⟩ := P
  obtain ⟨r2, P⟩ := P
  refine zk_icmp_ge (pc := 34) (tgt := 69) hc dX0_settle_34 (by decide) r1 r2 (fun c => ?_) (fun c => ?_)
  · have P := P.1 c
    refine ok_aload_n (pc := 69) hc dX0_settle_69 rfl 0 rfl ?_
    refine ok_get (pc := 70) hc fl_X0_12 dX0_settle_70 e3.1 e3.2 v3_0 ?_
    refine ok_iload_n (pc := 73) hc dX0_settle_73 rfl 1 rfl ?_
    refine ok_iconst (pc := 74) hc (v := i3 (-1)) dX0_settle_74 (by decide) ?_
    obtain ⟨r5, P⟩ := P
    refine zk_icmp_eq (pc := 75) (tgt := 82) hc dX0_settle_75 (by decide) r5 ⟨by decide, by decide⟩ (fun c => ?_) (fun c => ?_)
    · have P := P.1 c
      refine ok_iconst (pc := 82) hc (v := i3 0) dX0_settle_82 (by decide) ?_
      refine ok_put (pc := 83) hc fl_X0_69 dX0_settle_83 e6.1 e6.2 (by simp [List.length_set, z6]) (fun _ => nar_z (by decide)) (fun _ => fit_zz (by decide)) ?_
      refine ok_aload_n (pc := 86) hc dX0_settle_86 rfl 0 rfl ?_
      refine ok_get (pc := 87) hc fl_X0_12 dX0_settle_87 e3.1 ((up_ne (ne_oo e3.2 e6.2 (by decide))).trans e3.2) v3_0 ?_
      refine ok_get (pc := 90) hc fl_X0_69 dX0_settle_90 e6.1 up_self (set_self (by simp [List.length_set, z6])) ?_
      refine zk_if_eq (pc := 93) (tgt := 104) hc dX0_settle_93 (by decide) ⟨by decide, by decide⟩ (fun _ => ?_) (fun c => absurd c (by decide))
      exact ok_vret (st := []) (pc := 104) hc hr dX0_settle_104 P
    · have P := P.2 c
      refine ok_iconst (pc := 78) hc (v := i3 1) dX0_settle_78 (by decide) ?_
      refine ok_goto (pc := 79) (tgt := 83) hc dX0_settle_79 (by decide) ?_
      refine ok_put (pc := 83) hc fl_X0_69 dX0_settle_83 e6.1 e6.2 (by simp [List.length_set, z6]) (fun _ => nar_z (by decide)) (fun _ => fit_zz (by decide)) ?_
      refine ok_aload_n (pc := 86) hc dX0_settle_86 rfl 0 rfl ?_
      refine ok_get (pc := 87) hc fl_X0_12 dX0_settle_87 e3.1 ((up_ne (ne_oo e3.2 e6.2 (by decide))).trans e3.2) v3_0 ?_
      refine ok_get (pc := 90) hc fl_X0_69 dX0_settle_90 e6.1 up_self (set_self (by simp [List.length_set, z6])) ?_
      refine zk_if_eq (pc := 93) (tgt := 104) hc dX0_settle_93 (by decide) ⟨by decide, by decide⟩ (fun c => absurd c (by decide)) (fun _ => ?_)
      refine ok_aload_n (pc := 96) hc dX0_settle_96 rfl 0 rfl ?_
      refine ok_get (pc := 97) hc fl_X0_12 dX0_settle_97 e3.1 ((up_ne (ne_oo e3.2 e6.2 (by decide))).trans e3.2) v3_0 ?_
      refine ok_iload_n (pc := 100) hc dX0_settle_100 rfl 1 rfl ?_
      refine ok_put (pc := 101) hc fl_X0_62 dX0_settle_101 e6.1 up_self (by simp [List.length_set, z6]) (fun _ => rfl) (fun _ => rfl) ?_
      exact ok_vret (st := []) (pc := 104) hc hr dX0_settle_104 P
  · have P := P.2 c
    refine ok_aload_n (pc := 37) hc dX0_settle_37 rfl 0 rfl ?_
    refine ok_iload_n (pc := 38) hc dX0_settle_38 rfl 3 rfl ?_
    exact ok_callV (pc := 39) (a := a0) (cb := 0) (sb := 0) (st := []) hc [.int (i3 x3)] cv_X0_77 sp_X0_changesTo (by decide) dX0_settle_39 rfl e3.1 e3.2 rfl rfl rfl (Nat.le_of_ble_eq_true rfl) P

set_option maxHeartbeats 4000000 in
set_option maxRecDepth 100000 in
theorem sX0_settle_42 {X : Xt} {n : Nat} {h : HP} {a0 : Nat} {x1 : Int} {x2 : Int} {x3 : Int} {t0 : Int} {fs3 : List Value} (hc : Cx X cX0_settle RX0 5 5 114) {K : KT} (hr : CxR X none K) (e3 : At h n a0 (.inl (0, fs3))) (z3 : fs3.length = 8)
    (P : (R3 t0) ∧ (R3 x2) ∧ (x2 ≤ t0 → Ok X 0 0 29 [(0, .ref a0), (1, .int (i3 x1)), (2, .int (i3 x2)), (3, .int (i3 (x3 + 1)))] [] n h) ∧ (¬ x2 ≤ t0 → spec_X0_holds [.ref a0, .int (i3 x3)] n h (kc X 0 0 52 [(0, .ref a0), (1, .int (i3 x1)), (2, .int (i3 x2)), (3, .int (i3 x3)), (4, .int (i3 t0))] [] n))) :
    Ok X 0 0 42 [(0, .ref a0), (1, .int (i3 x1)), (2, .int (i3 x2)), (3, .int (i3 x3))] [.int (i3 t0)] n h := by
  refine ok_istore (pc := 42) hc (lv' := [(4, .int (i3 t0)), (0, .ref a0), (1, .int (i3 x1)), (2, .int (i3 x2)), (3, .int (i3 x3))]) dX0_settle_42 (by decide) rfl ?_
  refine ok_iload (pc := 44) hc dX0_settle_44 0 rfl ?_
  refine ok_iload_n (pc := 46) hc dX0_settle_46 rfl 3 rfl ?_
  obtain ⟨r1, P⟩ := P
  obtain ⟨r2, P⟩ := P
  refine zk_icmp_ge (pc := 47) (tgt := 63) hc dX0_settle_47 (by decide) r1 r2 (fun c => ?_) (fun c => ?_)
  · have P := P.1 c
    refine zk_iinc (pc := 63) hc (q := 4) (x := x3) (lv' := [(3, .int (i3 (x3 + 1))), (4, .int (i3 t0)), (0, .ref a0), (1, .int (i3 x1)), (2, .int (i3 x2))]) dX0_settle_63 rfl (by decide) rfl ?_
    refine ok_goto (pc := 66) (tgt := 29) hc dX0_settle_66 (by decide) ?_
    refine ok_lv [2, 3, 4, 0] rfl ?_
    exact P
  · have P := P.2 c
    refine ok_aload_n (pc := 50) hc dX0_settle_50 rfl 1 rfl ?_
    refine ok_iload_n (pc := 51) hc dX0_settle_51 rfl 4 rfl ?_
    refine ok_lv [1, 2, 3, 4, 0] rfl ?_
    exact ok_callV (pc := 52) (a := a0) (cb := 0) (sb := 0) (st := []) hc [.int (i3 x3)] cv_X0_65 sp_X0_holds (by decide) dX0_settle_52 rfl e3.1 e3.2 rfl rfl rfl (Nat.le_of_ble_eq_true rfl) P

set_option maxHeartbeats 4000000 in
set_option maxRecDepth 100000 in
theorem sX0_settle_55 {X : Xt} {n : Nat} {h : HP} {a0 : Nat} {x1 : Int} {x2 : Int} {x3 : Int} {x4 : Int} {t0 : Int} (hc : Cx X cX0_settle RX0 5 5 114) {K : KT} (hr : CxR X none K) 
    (P : (R3 t0) ∧ (t0 = 0 → Ok X 0 0 29 [(0, .ref a0), (1, .int (i3 x1)), (2, .int (i3 x2)), (3, .int (i3 (x3 + 1)))] [] n h) ∧ (¬ t0 = 0 → Ok X 0 0 29 [(0, .ref a0), (1, .int (i3 x3)), (2, .int (i3 x4)), (3, .int (i3 (x3 + 1)))] [] n h)) :
    Ok X 0 0 55 [(0, .ref a0), (1, .int (i3 x1)), (2, .int (i3 x2)), (3, .int (i3 x3)), (4, .int (i3 x4))] [.int (i3 t0)] n h := by
  obtain ⟨r1, P⟩ := P
  refine zk_if_eq (pc := 55) (tgt := 63) hc dX0_settle_55 (by decide) r1 (fun c => ?_) (fun c => ?_)
  · have P := P.1 c
    refine zk_iinc (pc := 63) hc (q := 3) (x := x3) (lv' := [(3, .int (i3 (x3 + 1))), (0, .ref a0), (1, .int (i3 x1)), (2, .int (i3 x2)), (4, .int (i3 x4))]) dX0_settle_63 rfl (by decide) rfl ?_
    refine ok_goto (pc := 66) (tgt := 29) hc dX0_settle_66 (by decide) ?_
    refine ok_lv [1, 2, 3, 0] rfl ?_
    exact P
  · have P := P.2 c
    refine ok_iload_n (pc := 58) hc dX0_settle_58 rfl 3 rfl ?_
    refine ok_istore_n (pc := 59) hc (lv' := [(1, .int (i3 x3)), (0, .ref a0), (2, .int (i3 x2)), (3, .int (i3 x3)), (4, .int (i3 x4))]) dX0_settle_59 rfl (by decide) rfl ?_
    refine ok_iload (pc := 60) hc dX0_settle_60 4 rfl ?_
    refine ok_istore_n (pc := 62) hc (lv' := [(2, .int (i3 x4)), (1, .int (i3 x3)), (0, .ref a0), (3, .int (i3 x3)), (4, .int (i3 x4))]) dX0_settle_62 rfl (by decide) rfl ?_
    refine zk_iinc (pc := 63) hc (q := 3) (x := x3) (lv' := [(3, .int (i3 (x3 + 1))), (2, .int (i3 x4)), (1, .int (i3 x3)), (0, .ref a0), (4, .int (i3 x4))]) dX0_settle_63 rfl (by decide) rfl ?_
    refine ok_goto (pc := 66) (tgt := 29) hc dX0_settle_66 (by decide) ?_
    refine ok_lv [3, 2, 1, 0] rfl ?_
    exact P

def spec_X0_settle (args : List Value) (n : Nat) (h : HP) (K : KT) : Prop := ∃ (b : Nat) (S : Stt), args = [.ref b] ∧ BnA h n b S ∧ ∀ (h' : HP), BnA h' n b (setS S) → Fr h h' b (b + 27) → K (.inl none) n h'
theorem pow27 {k : Nat} (h : k ≤ 3) : 3 ^ k ≤ 27 := by
  rcases (by omega : k = 0 ∨ k = 1 ∨ k = 2 ∨ k = 3) with e | e | e | e <;> rw [e] <;> decide
theorem sp_X0_settle : Sp yX0_settle cX0_settle 5 none 5 114 0 0 spec_X0_settle := by
  refine sp_intro (by decide) (by rintro args n h K ⟨b, S, rfl, -⟩; exact Nat.le_of_ble_eq_true rfl) ?_
  rintro X args n h K hc hr ⟨b, S, rfl, hA, kk⟩
  obtain ⟨_, _, _, _, _, _, _, hB, h3, -⟩ := id hA
  have hpr := hB.2.1.2.2.2.1
  have h27 := pow27 h3
  have ec : ((3 : Int) ^ nA S.1) = ((3 ^ nA S.1 : Nat) : Int) := by rw [Int.natCast_pow]; rfl
  have L : ∀ (j c : Nat) (best few : Int) (hh : HP), c + j = 3 ^ nA S.1 → ¬ (jud S S.2.2.1).1 = 0 → BnA hh n b S → (-1 ≤ best ∧ best ≤ 26) → (0 ≤ few ∧ few ≤ 4) → bestOf S = bestL S j c best few → Fr h hh b (b + 27) → Ok X 0 0 29 [(0, .ref b), (1, .int (i3 best)), (2, .int (i3 few)), (3, .int (i3 c))] [] n hh := by
    intro j
    induction j with
    | zero =>
      intro c best few hh hcj hj hA hb hf e hfr
      have hS : setS S = if bestOf S = -1 then (S.1, S.2.1, S.2.2.1, 0) else (S.1, S.2.1, bestOf S, 1) := by
        unfold setS
        rw [if_neg hj]
      rw [hS, show bestOf S = best from e] at kk
      obtain ⟨_, _, _, _, hK⟩ := id hA
      obtain ⟨_, _, _, hB', -⟩ := id hK
      refine sX0_settle_29 hc hr hB'.1 rfl ⟨b, S, _, _, _, _, rfl, hK, rfl, ?_⟩
      refine sX0_settle_34 hc hr hB'.1 rfl rfl hB'.2.1.1 rfl ⟨R3_s (by omega), R3_s (by omega), fun _ => ⟨R3_s (by omega), fun z => ?_, fun z => ?_⟩, fun z => absurd z (by omega)⟩
      · rw [if_pos z] at kk
        exact kk _ ((hK.us (pr := S.2.2.1) hpr (Or.inl rfl)).a) (hfr.up (by omega))
      · rw [if_neg z] at kk
        exact kk _ (((hK.us (pr := S.2.2.1) (st := 1) hpr (Or.inr rfl)).us (pr := best) (st := 1) (by omega) (Or.inr rfl)).a) ((hfr.up (by omega)).up (by omega))
    | succ j ih =>
      intro c best few hh hcj hj hA hb hf e hfr
      obtain ⟨_, _, _, _, hK⟩ := id hA
      obtain ⟨_, _, _, hB', -⟩ := id hK
      have hcr := chgN_r (c : Int) S.2.2.1 (nA S.1)
      refine sX0_settle_29 hc hr hB'.1 rfl ⟨b, S, _, _, _, _, rfl, hK, rfl, ?_⟩
      refine sX0_settle_34 hc hr hB'.1 rfl rfl hB'.2.1.1 rfl ⟨R3_s (by omega), R3_s (by omega), fun z => absurd z (by omega), fun _ => ⟨b, S, c, rfl, hA, by omega, rfl, ?_⟩⟩
      unfold bestL at e
      refine sX0_settle_42 hc hr hB'.1 rfl ⟨R3_s (by omega), R3_s (by omega), fun z => ?_, fun z => ⟨b, S, c, rfl, hA, by omega, fun h' hA' hf' => ⟨rfl, ?_⟩⟩⟩
      · rw [if_pos z] at e
        exact ih (c + 1) best few hh (by omega) hj hA hb hf e hfr
      · rw [if_neg z] at e
        refine sX0_settle_55 hc hr ⟨R3_s (by split <;> omega), fun y => ?_, fun y => ?_⟩
        · have y' : ¬ (jud S c).1 = 0 := fun q => absurd (by rw [if_pos q] at y; exact y) (by decide)
          rw [if_neg y'] at e
          exact ih (c + 1) best few h' (by omega) hj hA' hb hf e (hfr.tr hf')
        · have y' : (jud S c).1 = 0 := by
            by_cases q : (jud S c).1 = 0
            · exact q
            · exact absurd (by rw [if_neg q]) y
          rw [if_pos y'] at e
          exact ih (c + 1) c _ h' (by omega) hj hA' (by omega) (by omega) e (hfr.tr hf')
  refine sX0_settle_0 hc hr hB.1 rfl rfl hB.2.1.1 rfl rfl ⟨b, S, S.2.2.1, rfl, hA, hpr, fun h' hA' hf' => ⟨rfl, ?_⟩⟩
  obtain ⟨_, _, _, _, hK⟩ := id hA'
  obtain ⟨_, _, _, hB', -⟩ := id hK
  refine sX0_settle_11 hc hr hB'.1 rfl rfl hB'.2.1.1 rfl ⟨R3_s (by split <;> omega), fun y => ?_, fun y => ?_⟩
  · have y' : ¬ (jud S S.2.2.1).1 = 0 := fun q => absurd (by rw [if_pos q] at y; exact y) (by decide)
    exact L (3 ^ nA S.1) 0 (-1) 4 h' (by omega) y' hA' (by omega) (by omega) rfl hf'
  · have y' : (jud S S.2.2.1).1 = 0 := by
      by_cases q : (jud S S.2.2.1).1 = 0
      · exact q
      · exact absurd (by rw [if_neg q]) y
    unfold setS at kk
    rw [if_pos y'] at kk
    exact kk _ ((hK.us (pr := S.2.2.1) (st := 1) hpr (Or.inr rfl)).a) (hf'.up (by omega))
set_option maxHeartbeats 4000000 in
set_option maxRecDepth 100000 in
theorem sX0_inputSign_0 {X : Xt} {n : Nat} {h : HP} {a0 : Nat} {x1 : Int} {fs1 : List Value} {q2 : Nat} {fs3 : List Value} {iv4 : Int} (hc : Cx X cX0_inputSign RX0 2 3 69) {K : KT} (hr : CxR X (some .int) K) (e1 : At h n a0 (.inl (0, fs1))) (z1 : fs1.length = 8) (v1_0 : fs1[0]? = some (.ref q2)) (e3 : At h n q2 (.inl (4, fs3))) (z3 : fs3.length = 4) (v3_2 : fs3[2]? = some (.int (i3 iv4)))
    (P : spec_X0_choose [.ref a0, .int (i3 iv4)] n h (kc X 0 0 8 [(0, .ref a0), (1, .int (i3 x1))] [] n)) :
    Ok X 0 0 0 [(0, .ref a0), (1, .int (i3 x1))] [] n h := by
  refine ok_aload_n (pc := 0) hc dX0_inputSign_0 rfl 0 rfl ?_
  refine ok_aload_n (pc := 1) hc dX0_inputSign_1 rfl 0 rfl ?_
  refine ok_get (pc := 2) hc fl_X0_12 dX0_inputSign_2 e1.1 e1.2 v1_0 ?_
  refine ok_get (pc := 5) hc fl_X0_62 dX0_inputSign_5 e3.1 e3.2 v3_2 ?_
  exact ok_callV (pc := 8) (a := a0) (cb := 0) (sb := 0) (st := []) hc [.int (i3 iv4)] cv_X0_123 sp_X0_choose (by decide) dX0_inputSign_8 rfl e1.1 e1.2 rfl rfl rfl (Nat.le_of_ble_eq_true rfl) P

set_option maxHeartbeats 4000000 in
set_option maxRecDepth 100000 in
theorem sX0_inputSign_11 {X : Xt} {n : Nat} {h : HP} {a0 : Nat} {x1 : Int} {fs1 : List Value} {q2 : Nat} {len3 : Nat} {f3 : Nat → Int} (hc : Cx X cX0_inputSign RX0 2 3 69) {K : KT} (hr : CxR X (some .int) K) (e1 : At h n a0 (.inl (0, fs1))) (z1 : fs1.length = 8) (v1_1 : fs1[1]? = some (.ref q2)) (e3 : At h n q2 (ai len3 f3))
    (P : (Ix x1 len3) ∧ spec_X0_signOfInput [.ref a0, .int (i3 (f3 (x1 : Int).toNat))] n h (kc X 0 0 18 [(0, .ref a0), (1, .int (i3 x1))] [] n)) :
    Ok X 0 0 11 [(0, .ref a0), (1, .int (i3 x1))] [] n h := by
  refine ok_aload_n (pc := 11) hc dX0_inputSign_11 rfl 0 rfl ?_
  refine ok_aload_n (pc := 12) hc dX0_inputSign_12 rfl 0 rfl ?_
  refine ok_get (pc := 13) hc fl_X0_18 dX0_inputSign_13 e1.1 e1.2 v1_1 ?_
  refine ok_iload_n (pc := 16) hc dX0_inputSign_16 rfl 1 rfl ?_
  obtain ⟨r, P⟩ := P
  refine zk_iald (pc := 17) hc dX0_inputSign_17 e3.1 e3.2 r ?_
  exact ok_callV (pc := 18) (a := a0) (cb := 0) (sb := 0) (st := []) hc [.int (i3 (f3 (x1 : Int).toNat))] cv_X0_137 sp_X0_signOfInput (by decide) dX0_inputSign_18 rfl e1.1 e1.2 rfl rfl rfl (Nat.le_of_ble_eq_true rfl) P

set_option maxHeartbeats 4000000 in
set_option maxRecDepth 100000 in
theorem sX0_inputSign_21 {X : Xt} {n : Nat} {h : HP} {a0 : Nat} {x1 : Int} {t0 : Int} (hc : Cx X cX0_inputSign RX0 2 3 69) {K : KT} (hr : CxR X (some .int) K) 
    (P : K (.inl (some (.int (i3 t0)))) n h) :
    Ok X 0 0 21 [(0, .ref a0), (1, .int (i3 x1))] [.int (i3 t0)] n h := by
  exact ok_iret (st := []) (pc := 21) hc hr dX0_inputSign_21 P

def spec_X0_inputSign (args : List Value) (n : Nat) (h : HP) (K : KT) : Prop := ∃ (b a i : Nat) (S : Stt) (p : Part), args = [.ref b, .int (i3 a)] ∧ BnA h n b S ∧ AmpAt S.1 a i p ∧ ∀ (h' : HP), BnA h' n b S → Fr h h' b (b + 27) → K (.inl (some (.int (i3 (signP S.1 (satN S.2.2.1 (nA S.1)) (givC S S.2.2.1) p))))) n h'
theorem sp_X0_inputSign : Sp yX0_inputSign cX0_inputSign 2 (some .int) 3 69 0 0 spec_X0_inputSign := by
  refine sp_intro (by decide) (by rintro args n h K ⟨b, a, i, S, p, rfl, -⟩; exact Nat.le_of_ble_eq_true rfl) ?_
  rintro X args n h K hc hr ⟨b, a, i, S, p, rfl, ⟨_, _, _, _, hK⟩, hA, kk⟩
  obtain ⟨F, D, N, hB, h3, hFit, hF, -⟩ := id hK
  have hpr := hB.2.1.2.2.2.1
  refine sX0_inputSign_0 hc hr hB.1 rfl rfl hB.2.1.1 rfl rfl ⟨b, S, S.2.2.1, _, _, _, _, rfl, hK, hpr, fun h' G' hK' hG' hf' => ⟨rfl, ?_⟩⟩
  obtain ⟨F', _, _, hB', _, _, hF', -⟩ := id hK'
  have hi := hA.lt
  have hFa : F' (a : Int).toNat = i := by rw [Int.toNat_natCast]; exact hF' a i p hA
  have hG : BdG G' := fun j hj => by rw [hG' j hj]; exact hB'.2.1.givC _ j hj
  have e : signP S.1 (satN S.2.2.1 (nA S.1)) G' p = signP S.1 (satN S.2.2.1 (nA S.1)) (givC S S.2.2.1) p := by
    unfold signP
    rw [numer_g hG']
  refine sX0_inputSign_11 hc hr hB'.1 rfl rfl hB'.2.2.1 ⟨⟨by omega, by omega, by omega⟩, b, satN S.2.2.1 (nA S.1), i, S, _, _, G', p, by rw [hFa], hK', satN_lt _ _, hG, hA.1, hA.2.1, rfl, sX0_inputSign_21 hc hr ?_⟩
  rw [e]
  exact kk h' hK'.a hf'
/-- a side of a node's voltage in a case -/
def nodeV (S : Stt) (c k w : Int) : Int := if k ≠ 0 ∧ bcon (usedM S.1) k = 0 then 0 else if solD S.1 (satN c (nA S.1)) = 0 then 0 else lowT (numer S.1 (satN c (nA S.1)) (givC S c) k.toNat) (solD S.1 (satN c (nA S.1))) w
set_option maxHeartbeats 4000000 in
set_option maxRecDepth 100000 in
theorem sX0_nodeVoltage_0 {X : Xt} {n : Nat} {h : HP} {a0 : Nat} {x1 : Int} {x2 : Int} {x3 : Int} {fs2 : List Value} {q3 : Nat} {fs4 : List Value} {q5 : Nat} {fs6 : List Value} (hc : Cx X cX0_nodeVoltage RX0 5 3 69) {K : KT} (hr : CxR X (some .long) K) (e2 : At h n a0 (.inl (0, fs2))) (z2 : fs2.length = 8) (v2_0 : fs2[0]? = some (.ref q3)) (e4 : At h n q3 (.inl (4, fs4))) (z4 : fs4.length = 4) (v4_0 : fs4[0]? = some (.ref q5)) (e6 : At h n q5 (.inl (2, fs6))) (z6 : fs6.length = 5)
    (P : (R3 x2) ∧ (x2 = 0 → spec_X0_isDetermined [.ref a0, .int (i3 x1)] n h (kc X 0 0 35 [(0, .ref a0), (1, .int (i3 x1)), (2, .int (i3 x2)), (3, .int (i3 x3)), (4, .int (i3 1))] [] n)) ∧ (¬ x2 = 0 → spec_X2_usedNodes [.ref q5] n h (kc X 0 0 11 [(0, .ref a0), (1, .int (i3 x1)), (2, .int (i3 x2)), (3, .int (i3 x3))] [] n))) :
    Ok X 0 0 0 [(0, .ref a0), (1, .int (i3 x1)), (2, .int (i3 x2)), (3, .int (i3 x3))] [] n h := by
  refine ok_iload_n (pc := 0) hc dX0_nodeVoltage_0 rfl 2 rfl ?_
  obtain ⟨r1, P⟩ := P
  refine zk_if_eq (pc := 1) (tgt := 21) hc dX0_nodeVoltage_1 (by decide) r1 (fun c => ?_) (fun c => ?_)
  · have P := P.1 c
    refine ok_iconst (pc := 21) hc (v := i3 1) dX0_nodeVoltage_21 (by decide) ?_
    refine ok_goto (pc := 22) (tgt := 26) hc dX0_nodeVoltage_22 (by decide) ?_
    refine ok_istore (pc := 26) hc (lv' := [(4, .int (i3 1)), (0, .ref a0), (1, .int (i3 x1)), (2, .int (i3 x2)), (3, .int (i3 x3))]) dX0_nodeVoltage_26 (by decide) rfl ?_
    refine ok_iload (pc := 28) hc dX0_nodeVoltage_28 0 rfl ?_
    refine zk_if_eq (pc := 30) (tgt := 41) hc dX0_nodeVoltage_30 (by decide) ⟨by decide, by decide⟩ (fun c => absurd c (by decide)) (fun _ => ?_)
    refine ok_aload_n (pc := 33) hc dX0_nodeVoltage_33 rfl 1 rfl ?_
    refine ok_iload_n (pc := 34) hc dX0_nodeVoltage_34 rfl 2 rfl ?_
    refine ok_lv [1, 2, 3, 4, 0] rfl ?_
    exact ok_callV (pc := 35) (a := a0) (cb := 0) (sb := 0) (st := []) hc [.int (i3 x1)] cv_X0_120 sp_X0_isDetermined (by decide) dX0_nodeVoltage_35 rfl e2.1 e2.2 rfl rfl rfl (Nat.le_of_ble_eq_true rfl) P
  · have P := P.2 c
    refine ok_aload_n (pc := 4) hc dX0_nodeVoltage_4 rfl 0 rfl ?_
    refine ok_get (pc := 5) hc fl_X0_12 dX0_nodeVoltage_5 e2.1 e2.2 v2_0 ?_
    refine ok_get (pc := 8) hc fl_X0_44 dX0_nodeVoltage_8 e4.1 e4.2 v4_0 ?_
    exact ok_callV (pc := 11) (a := q5) (cb := 0) (sb := 0) (st := []) hc [] cv_X0_113 sp_X2_usedNodes (by decide) dX0_nodeVoltage_11 rfl e6.1 e6.2 rfl rfl rfl (Nat.le_of_ble_eq_true rfl) P

set_option maxHeartbeats 4000000 in
set_option maxRecDepth 100000 in
theorem sX0_nodeVoltage_14 {X : Xt} {n : Nat} {h : HP} {a0 : Nat} {x1 : Int} {x2 : Int} {x3 : Int} {t0 : Int} {fs2 : List Value} (hc : Cx X cX0_nodeVoltage RX0 5 3 69) {K : KT} (hr : CxR X (some .long) K) (e2 : At h n a0 (.inl (0, fs2))) (z2 : fs2.length = 8)
    (P : (R3 (bcon t0 x2)) ∧ ((bcon t0 x2) = 0 → K (.inl (some (.long (i6 0)))) n h) ∧ (¬ (bcon t0 x2) = 0 → spec_X0_isDetermined [.ref a0, .int (i3 x1)] n h (kc X 0 0 35 [(0, .ref a0), (1, .int (i3 x1)), (2, .int (i3 x2)), (3, .int (i3 x3)), (4, .int (i3 1))] [] n))) :
    Ok X 0 0 14 [(0, .ref a0), (1, .int (i3 x1)), (2, .int (i3 x2)), (3, .int (i3 x3))] [.int (i3 t0)] n h := by
  refine ok_iload_n (pc := 14) hc dX0_nodeVoltage_14 rfl 2 rfl ?_
  refine ok_callN (pc := 15) (cb := 0) (sb := 0) (st := []) hc [.int (i3 t0), .int (i3 x2)] cn_X0_116 sp_X6_contains (by decide) dX0_nodeVoltage_15 rfl rfl rfl rfl (Nat.le_of_ble_eq_true rfl) (⟨_, _, rfl, rfl, ?_⟩)
  show Ok X 0 0 (15 + 3) [(0, .ref a0), (1, .int (i3 x1)), (2, .int (i3 x2)), (3, .int (i3 x3))] [.int (i3 (bcon t0 x2))] n h
  obtain ⟨r1, P⟩ := P
  refine zk_if_eq (pc := 18) (tgt := 25) hc dX0_nodeVoltage_18 (by decide) r1 (fun c => ?_) (fun c => ?_)
  · have P := P.1 c
    refine ok_iconst (pc := 25) hc (v := i3 0) dX0_nodeVoltage_25 (by decide) ?_
    refine ok_istore (pc := 26) hc (lv' := [(4, .int (i3 0)), (0, .ref a0), (1, .int (i3 x1)), (2, .int (i3 x2)), (3, .int (i3 x3))]) dX0_nodeVoltage_26 (by decide) rfl ?_
    refine ok_iload (pc := 28) hc dX0_nodeVoltage_28 0 rfl ?_
    refine zk_if_eq (pc := 30) (tgt := 41) hc dX0_nodeVoltage_30 (by decide) ⟨by decide, by decide⟩ (fun _ => ?_) (fun c => absurd c (by decide))
    refine ok_lconst (pc := 41) hc (v := i6 0) dX0_nodeVoltage_41 (by decide) ?_
    exact ok_lret (st := []) (pc := 42) hc hr dX0_nodeVoltage_42 P
  · have P := P.2 c
    refine ok_iconst (pc := 21) hc (v := i3 1) dX0_nodeVoltage_21 (by decide) ?_
    refine ok_goto (pc := 22) (tgt := 26) hc dX0_nodeVoltage_22 (by decide) ?_
    refine ok_istore (pc := 26) hc (lv' := [(4, .int (i3 1)), (0, .ref a0), (1, .int (i3 x1)), (2, .int (i3 x2)), (3, .int (i3 x3))]) dX0_nodeVoltage_26 (by decide) rfl ?_
    refine ok_iload (pc := 28) hc dX0_nodeVoltage_28 0 rfl ?_
    refine zk_if_eq (pc := 30) (tgt := 41) hc dX0_nodeVoltage_30 (by decide) ⟨by decide, by decide⟩ (fun c => absurd c (by decide)) (fun _ => ?_)
    refine ok_aload_n (pc := 33) hc dX0_nodeVoltage_33 rfl 1 rfl ?_
    refine ok_iload_n (pc := 34) hc dX0_nodeVoltage_34 rfl 2 rfl ?_
    refine ok_lv [1, 2, 3, 4, 0] rfl ?_
    exact ok_callV (pc := 35) (a := a0) (cb := 0) (sb := 0) (st := []) hc [.int (i3 x1)] cv_X0_120 sp_X0_isDetermined (by decide) dX0_nodeVoltage_35 rfl e2.1 e2.2 rfl rfl rfl (Nat.le_of_ble_eq_true rfl) P

set_option maxHeartbeats 4000000 in
set_option maxRecDepth 100000 in
theorem sX0_nodeVoltage_38 {X : Xt} {n : Nat} {h : HP} {a0 : Nat} {x1 : Int} {x2 : Int} {x3 : Int} {x4 : Int} {t0 : Int} {fs2 : List Value} (hc : Cx X cX0_nodeVoltage RX0 5 3 69) {K : KT} (hr : CxR X (some .long) K) (e2 : At h n a0 (.inl (0, fs2))) (z2 : fs2.length = 8)
    (P : (R3 t0) ∧ (¬ t0 = 0 → spec_X0_choose [.ref a0, .int (i3 x1)] n h (kc X 0 0 45 [(0, .ref a0), (1, .int (i3 x1)), (2, .int (i3 x2)), (3, .int (i3 x3)), (4, .int (i3 x4))] [] n)) ∧ (t0 = 0 → K (.inl (some (.long (i6 0)))) n h)) :
    Ok X 0 0 38 [(0, .ref a0), (1, .int (i3 x1)), (2, .int (i3 x2)), (3, .int (i3 x3)), (4, .int (i3 x4))] [.int (i3 t0)] n h := by
  obtain ⟨r1, P⟩ := P
  refine zk_if_ne (pc := 38) (tgt := 43) hc dX0_nodeVoltage_38 (by decide) r1 (fun c => ?_) (fun c => ?_)
  · have P := P.1 c
    refine ok_aload_n (pc := 43) hc dX0_nodeVoltage_43 rfl 0 rfl ?_
    refine ok_iload_n (pc := 44) hc dX0_nodeVoltage_44 rfl 1 rfl ?_
    exact ok_callV (pc := 45) (a := a0) (cb := 0) (sb := 0) (st := []) hc [.int (i3 x1)] cv_X0_123 sp_X0_choose (by decide) dX0_nodeVoltage_45 rfl e2.1 e2.2 rfl rfl rfl (Nat.le_of_ble_eq_true rfl) P
  · have P := P.2 c
    refine ok_lconst (pc := 41) hc (v := i6 0) dX0_nodeVoltage_41 (by decide) ?_
    exact ok_lret (st := []) (pc := 42) hc hr dX0_nodeVoltage_42 P

set_option maxHeartbeats 4000000 in
set_option maxRecDepth 100000 in
theorem sX0_nodeVoltage_48 {X : Xt} {n : Nat} {h : HP} {a0 : Nat} {x1 : Int} {x2 : Int} {x3 : Int} {x4 : Int} {fs1 : List Value} (hc : Cx X cX0_nodeVoltage RX0 5 3 69) {K : KT} (hr : CxR X (some .long) K) (e1 : At h n a0 (.inl (0, fs1))) (z1 : fs1.length = 8)
    (P : spec_X0_numerator [.ref a0, .int (i3 x2)] n h (kc X 0 0 50 [(0, .ref a0), (1, .int (i3 x1)), (2, .int (i3 x2)), (3, .int (i3 x3)), (4, .int (i3 x4))] [] n)) :
    Ok X 0 0 48 [(0, .ref a0), (1, .int (i3 x1)), (2, .int (i3 x2)), (3, .int (i3 x3)), (4, .int (i3 x4))] [] n h := by
  refine ok_aload_n (pc := 48) hc dX0_nodeVoltage_48 rfl 0 rfl ?_
  refine ok_iload_n (pc := 49) hc dX0_nodeVoltage_49 rfl 2 rfl ?_
  exact ok_callV (pc := 50) (a := a0) (cb := 0) (sb := 0) (st := []) hc [.int (i3 x2)] cv_X0_127 sp_X0_numerator (by decide) dX0_nodeVoltage_50 rfl e1.1 e1.2 rfl rfl rfl (Nat.le_of_ble_eq_true rfl) P

set_option maxHeartbeats 4000000 in
set_option maxRecDepth 100000 in
theorem sX0_nodeVoltage_53 {X : Xt} {n : Nat} {h : HP} {a0 : Nat} {x1 : Int} {x2 : Int} {x3 : Int} {x4 : Int} {tl0 : Int} {fs1 : List Value} (hc : Cx X cX0_nodeVoltage RX0 5 3 69) {K : KT} (hr : CxR X (some .long) K) (e1 : At h n a0 (.inl (0, fs1))) (z1 : fs1.length = 8)
    (P : spec_X0_denominator [.ref a0] n h (kc X 0 0 54 [(0, .ref a0), (1, .int (i3 x1)), (2, .int (i3 x2)), (3, .int (i3 x3)), (4, .int (i3 x4))] [.long (i6 tl0)] n)) :
    Ok X 0 0 53 [(0, .ref a0), (1, .int (i3 x1)), (2, .int (i3 x2)), (3, .int (i3 x3)), (4, .int (i3 x4))] [.long (i6 tl0)] n h := by
  refine ok_aload_n (pc := 53) hc dX0_nodeVoltage_53 rfl 0 rfl ?_
  exact ok_callV (pc := 54) (a := a0) (cb := 0) (sb := 0) (st := [.long (i6 tl0)]) hc [] cv_X0_130 sp_X0_denominator (by decide) dX0_nodeVoltage_54 rfl e1.1 e1.2 rfl rfl rfl (Nat.le_of_ble_eq_true rfl) P

set_option maxHeartbeats 4000000 in
set_option maxRecDepth 100000 in
theorem sX0_nodeVoltage_57 {X : Xt} {n : Nat} {h : HP} {a0 : Nat} {x1 : Int} {x2 : Int} {x3 : Int} {x4 : Int} {tl0 : Int} {tl1 : Int} (hc : Cx X cX0_nodeVoltage RX0 5 3 69) {K : KT} (hr : CxR X (some .long) K) 
    (P : spec_X6_lowestTerms [.long (i6 tl1), .long (i6 tl0), .int (i3 x3)] n h (kn X 0 0 58 [(0, .ref a0), (1, .int (i3 x1)), (2, .int (i3 x2)), (3, .int (i3 x3)), (4, .int (i3 x4))] [] n)) :
    Ok X 0 0 57 [(0, .ref a0), (1, .int (i3 x1)), (2, .int (i3 x2)), (3, .int (i3 x3)), (4, .int (i3 x4))] [.long (i6 tl0), .long (i6 tl1)] n h := by
  refine ok_iload_n (pc := 57) hc dX0_nodeVoltage_57 rfl 3 rfl ?_
  exact ok_callN (pc := 58) (cb := 0) (sb := 0) (st := []) hc [.long (i6 tl1), .long (i6 tl0), .int (i3 x3)] cn_X0_133 sp_X6_lowestTerms (by decide) dX0_nodeVoltage_58 rfl rfl rfl rfl (Nat.le_of_ble_eq_true rfl) P

set_option maxHeartbeats 4000000 in
set_option maxRecDepth 100000 in
theorem sX0_nodeVoltage_61 {X : Xt} {n : Nat} {h : HP} {a0 : Nat} {x1 : Int} {x2 : Int} {x3 : Int} {x4 : Int} {tl0 : Int} (hc : Cx X cX0_nodeVoltage RX0 5 3 69) {K : KT} (hr : CxR X (some .long) K) 
    (P : K (.inl (some (.long (i6 tl0)))) n h) :
    Ok X 0 0 61 [(0, .ref a0), (1, .int (i3 x1)), (2, .int (i3 x2)), (3, .int (i3 x3)), (4, .int (i3 x4))] [.long (i6 tl0)] n h := by
  exact ok_lret (st := []) (pc := 61) hc hr dX0_nodeVoltage_61 P

def spec_X0_nodeVoltage (args : List Value) (n : Nat) (h : HP) (K : KT) : Prop := ∃ (b : Nat) (S : Stt) (c k w : Int), args = [.ref b, .int (i3 c), .int (i3 k), .int (i3 w)] ∧ BnA h n b S ∧ (0 ≤ c ∧ c ≤ 26) ∧ (0 ≤ k ∧ k ≤ 6) ∧ R3 w ∧ ∀ (h' : HP), BnA h' n b S → Fr h h' b (b + 27) → K (.inl (some (.long (i6 (nodeV S c k w))))) n h'
theorem sp_X0_nodeVoltage : Sp yX0_nodeVoltage cX0_nodeVoltage 5 (some .long) 3 69 0 0 spec_X0_nodeVoltage := by
  refine sp_intro (by decide) (by rintro args n h K ⟨b, S, c, k, w, rfl, -⟩; exact Nat.le_of_ble_eq_true rfl) ?_
  rintro X args n h K hc hr ⟨b, S, c, k, w, rfl, hA, hcc, hk, hw, kk⟩
  obtain ⟨_, _, _, _, hK⟩ := id hA
  obtain ⟨F, D, N, hB, h3, hFit, hF, -⟩ := id hK
  have hm := satN_lt c (nA S.1)
  have hsd := hFit.sD hm
  have go : (¬ (k ≠ 0 ∧ bcon (usedM S.1) k = 0)) → Ok X 0 0 38 [(0, .ref b), (1, .int (i3 c)), (2, .int (i3 k)), (3, .int (i3 w)), (4, .int (i3 1))] [.int (i3 (if solD S.1 (satN c (nA S.1)) = 0 then 0 else 1))] n h := by
    intro hu
    unfold nodeV at kk
    rw [if_neg hu] at kk
    refine sX0_nodeVoltage_38 hc hr hB.1 rfl ⟨R3_s (by split <;> omega), fun z => ⟨b, S, c, _, _, _, _, rfl, hK, hcc, fun h' G' hK' hG' hf' => ⟨rfl, ?_⟩⟩, fun z => ?_⟩
    · have z' : ¬ solD S.1 (satN c (nA S.1)) = 0 := fun q => z (by rw [if_pos q])
      rw [if_neg z'] at kk
      obtain ⟨_, _, _, hB', -⟩ := id hK'
      have hG : BdG G' := fun j hj => by rw [hG' j hj]; exact hB'.2.1.givC _ j hj
      have hn := numer_bd hFit hm (show k.toNat < 7 by omega) hG
      have kk := kk h' hK'.a hf'
      rw [← numer_g hG'] at kk
      refine sX0_nodeVoltage_48 hc hr hB'.1 rfl ⟨b, satN c (nA S.1), k.toNat, S, _, _, G', by rw [Int.toNat_of_nonneg hk.1], hK', hm, by omega, rfl, ?_⟩
      refine sX0_nodeVoltage_53 hc hr hB'.1 rfl ⟨b, satN c (nA S.1), S, _, _, G', rfl, hK', hm, rfl, ?_⟩
      exact sX0_nodeVoltage_57 hc hr ⟨_, _, w, rfl, ⟨by omega, by omega⟩, ⟨by omega, by omega⟩, hw, rfl, sX0_nodeVoltage_61 hc hr kk⟩
    · have z' : solD S.1 (satN c (nA S.1)) = 0 := by
        by_cases q : solD S.1 (satN c (nA S.1)) = 0
        · exact q
        · rw [if_neg q] at z
          exact absurd z (by decide)
      rw [if_pos z'] at kk
      exact kk h hA Fr.rf
  refine sX0_nodeVoltage_0 hc hr hB.1 rfl rfl hB.2.1.1 rfl rfl hB.2.1.2.1.obj rfl ⟨R3_s (by omega), fun z => ⟨b, S, c, _, _, _, _, rfl, hK, hcc, rfl, go (fun q => q.1 z)⟩, fun z => ⟨b + 2, 12, S.1, rfl, hB.2.1.2.1, rfl, ?_⟩⟩
  have b01 := bcon01 (usedM S.1) k
  refine sX0_nodeVoltage_14 hc hr hB.1 rfl ⟨R3_s (by rcases b01 with q | q <;> omega), fun y => ?_, fun y => ⟨b, S, c, _, _, _, _, rfl, hK, hcc, rfl, go (fun q => y q.2)⟩⟩
  unfold nodeV at kk
  rw [if_pos ⟨z, y⟩] at kk
  exact kk h hA Fr.rf
