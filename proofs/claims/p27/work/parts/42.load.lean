/-! part 42: the desk: load -/
theorem freeW_pw : ∀ {ps : List Part} {m : Int}, Mk m → (∀ p ∈ ps, PW p) → freeW m ps = true → (∀ p ∈ ps, p.1 ≠ 0 → bcon m (drv p) = 0) ∧ PwD ps
  | [], m, _, _, _ => ⟨fun p hp => absurd hp List.not_mem_nil, List.Pairwise.nil⟩
  | p :: ps, m, hm, hw, hf => by
    unfold freeW at hf
    have hp := hw p List.mem_cons_self
    have hw' : ∀ q ∈ ps, PW q := fun q hq => hw q (List.mem_cons_of_mem _ hq)
    by_cases c : p.1 = 0
    · rw [if_pos c] at hf
      have ih := freeW_pw hm hw' hf
      refine ⟨fun q hq h0 => ?_, List.Pairwise.cons (fun q hq => Or.inl c) ih.2⟩
      rcases List.mem_cons.mp hq with e | e
      · exact absurd (e ▸ c) h0
      · exact ih.1 q e h0
    · rw [if_neg c] at hf
      have hd := hp.drv c
      by_cases b : bcon m (drv p) = 0
      · rw [if_pos b] at hf
        have ih := freeW_pw (hm.or hd) hw' hf
        have key : ∀ q ∈ ps, q.1 ≠ 0 → drv p ≠ drv q ∧ bcon m (drv q) = 0 := by
          intro q hq h0
          have h1 := ih.1 q hq h0
          rw [hm.con hd ((hw' q hq).drv h0)] at h1
          split at h1
          · exact absurd h1 (by decide)
          · rename_i z
            exact ⟨fun e => z e.symm, h1⟩
        refine ⟨fun q hq h0 => ?_, List.Pairwise.cons (fun q hq => ?_) ih.2⟩
        · rcases List.mem_cons.mp hq with e | e
          · rw [e]
            exact b
          · exact (key q e h0).2
        · by_cases h0 : q.1 = 0
          · exact Or.inr (Or.inl h0)
          · exact Or.inr (Or.inr (key q hq h0).1)
      · rw [if_neg b] at hf
        cases hf
theorem drM_keep : ∀ {qs : List Part} {m j : Int}, Mk m → (∀ p ∈ qs, PW p) → (0 ≤ j ∧ j ≤ 6) → bcon m j = 1 → bcon (qs.foldl dm1 m) j = 1
  | [], m, j, _, _, _, h => h
  | p :: qs, m, j, hm, hw, hj, h => by
    have hp := hw p List.mem_cons_self
    rw [List.foldl_cons]
    refine drM_keep (hm.dm1 hp) (fun q hq => hw q (List.mem_cons_of_mem _ hq)) hj ?_
    unfold dm1
    by_cases c : p.1 = 0
    · rw [if_pos c]
      exact h
    · rw [if_neg c, hm.con (hp.drv c) hj]
      split
      · rfl
      · exact h
theorem drM_has : ∀ {qs : List Part} {m : Int}, Mk m → (∀ p ∈ qs, PW p) → ∀ q ∈ qs, q.1 ≠ 0 → bcon (qs.foldl dm1 m) (drv q) = 1
  | [], m, _, _, q, hq, _ => absurd hq List.not_mem_nil
  | p :: qs, m, hm, hw, q, hq, h0 => by
    have hp := hw p List.mem_cons_self
    have hw' : ∀ q ∈ qs, PW q := fun q hq => hw q (List.mem_cons_of_mem _ hq)
    rw [List.foldl_cons]
    rcases List.mem_cons.mp hq with e | e
    · subst e
      refine drM_keep (hm.dm1 hp) hw' (hp.drv h0) ?_
      unfold dm1
      rw [if_neg h0, hm.con (hp.drv h0) (hp.drv h0), if_pos rfl]
    · exact drM_has (hm.dm1 hp) hw' q e h0
theorem GdP.app {qs ps : List Part} (h : GdP qs) (hw : ∀ p ∈ ps, PW p) (ht : ps.all toldB = true) (hr : roomB qs ps = true) : GdP (qs ++ ps) := by
  unfold roomB at hr
  rw [Bool.and_eq_true, Bool.and_eq_true, decide_eq_true_eq, decide_eq_true_eq] at hr
  obtain ⟨r1, r2, r3⟩ := hr
  have hq : ∀ p ∈ qs, PW p := fun p hp => (h.2.2.1 p hp).1
  have hf := freeW_pw (show Mk (drivenM qs) from Mk.df hq 0 Mk0) hw r3
  refine ⟨by rw [List.length_append]; exact r1, by rw [nA_app]; exact r2, fun p hp => ?_, List.pairwise_append.mpr ⟨h.2.2.2, hf.2, fun p hp q hq' => ?_⟩⟩
  · rcases List.mem_append.mp hp with e | e
    · exact h.2.2.1 p e
    · exact ⟨hw p e, List.all_eq_true.mp ht p e⟩
  · by_cases c1 : p.1 = 0
    · exact Or.inl c1
    · by_cases c2 : q.1 = 0
      · exact Or.inr (Or.inl c2)
      · refine Or.inr (Or.inr fun e => ?_)
        have h1 := hf.1 q hq' c2
        have h2 : bcon (drivenM qs) (drv p) = 1 := drM_has Mk0 hq p hp c1
        rw [e, h1] at h2
        exact absurd h2 (by decide)
set_option maxHeartbeats 4000000 in
set_option maxRecDepth 100000 in
theorem sX6_load_0 {X : Xt} {n : Nat} {h : HP} {a0 : Nat} {fs1 : List Value} {q2 : Nat} {fs3 : List Value} (hc : Cx X cX6_load RX6 1 6 138) {K : KT} (hr : CxR X (some .int) K) (e1 : At h n a0 (.inl (6, fs1))) (z1 : fs1.length = 6) (v1_2 : fs1[2]? = some (.ref q2)) (e3 : At h n q2 (.inl (5, fs3))) (z3 : fs3.length = 9)
    (P : spec_X5_isComplete [.ref q2] n h (kc X 1 6 4 [(0, .ref a0)] [] n)) :
    Ok X 1 6 0 [(0, .ref a0)] [] n h := by
  refine ok_aload_n (pc := 0) hc dX6_load_0 rfl 0 rfl ?_
  refine ok_get (pc := 1) hc fl_X6_22 dX6_load_1 e1.1 e1.2 v1_2 ?_
  exact ok_callV (pc := 4) (a := q2) (cb := 1) (sb := 6) (st := []) hc [] cv_X6_67 sp_X5_isComplete (by decide) dX6_load_4 rfl e3.1 e3.2 rfl rfl rfl (Nat.le_of_ble_eq_true rfl) P

set_option maxHeartbeats 4000000 in
set_option maxRecDepth 100000 in
theorem sX6_load_7 {X : Xt} {n : Nat} {h : HP} {a0 : Nat} {t0 : Int} {fs2 : List Value} {q3 : Nat} {fs4 : List Value} {q5 : Nat} {fs6 : List Value} (hc : Cx X cX6_load RX6 1 6 138) {K : KT} (hr : CxR X (some .int) K) (e2 : At h n a0 (.inl (6, fs2))) (z2 : fs2.length = 6) (v2_2 : fs2[2]? = some (.ref q3)) (e4 : At h n q3 (.inl (5, fs4))) (z4 : fs4.length = 9) (v4_1 : fs4[1]? = some (.ref q5)) (e6 : At h n q5 (.inl (2, fs6))) (z6 : fs6.length = 5)
    (P : (R3 t0) ∧ (t0 = 0 → K (.inr "java/lang/IllegalArgumentException") n h) ∧ (¬ t0 = 0 → spec_X2_haveNodesAsTold [.ref q5] n h (kc X 1 6 17 [(0, .ref a0)] [] n))) :
    Ok X 1 6 7 [(0, .ref a0)] [.int (i3 t0)] n h := by
  obtain ⟨r1, P⟩ := P
  refine zk_if_eq (pc := 7) (tgt := 23) hc dX6_load_7 (by decide) r1 (fun c => ?_) (fun c => ?_)
  · have P := P.1 c
    exact ok_throw (pc := 23) hc hr th_IAE rfl (is := 77) (text := "the buffer is not a complete text of parts that can be") (by decide) dX6_load_23 dX6_load_26 dX6_load_27 dX6_load_29 dX6_load_32 (by decide) (by decide) (by decide) (by decide) P
  · have P := P.2 c
    refine ok_aload_n (pc := 10) hc dX6_load_10 rfl 0 rfl ?_
    refine ok_get (pc := 11) hc fl_X6_22 dX6_load_11 e2.1 e2.2 v2_2 ?_
    refine ok_get (pc := 14) hc fl_X6_71 dX6_load_14 e4.1 e4.2 v4_1 ?_
    exact ok_callV (pc := 17) (a := q5) (cb := 1) (sb := 6) (st := []) hc [] cv_X6_72 sp_X2_haveNodesAsTold (by decide) dX6_load_17 rfl e6.1 e6.2 rfl rfl rfl (Nat.le_of_ble_eq_true rfl) P

set_option maxHeartbeats 4000000 in
set_option maxRecDepth 100000 in
theorem sX6_load_20 {X : Xt} {n : Nat} {h : HP} {a0 : Nat} {t0 : Int} {fs2 : List Value} {q3 : Nat} {fs4 : List Value} {q5 : Nat} {fs6 : List Value} {q7 : Nat} {q8 : Nat} {fs9 : List Value} {q10 : Nat} {fs11 : List Value} (hc : Cx X cX6_load RX6 1 6 138) {K : KT} (hr : CxR X (some .int) K) (e2 : At h n a0 (.inl (6, fs2))) (z2 : fs2.length = 6) (v2_0 : fs2[0]? = some (.ref q3)) (e4 : At h n q3 (.inl (0, fs4))) (z4 : fs4.length = 8) (v4_0 : fs4[0]? = some (.ref q5)) (e6 : At h n q5 (.inl (4, fs6))) (z6 : fs6.length = 4) (v6_0 : fs6[0]? = some (.ref q7)) (v2_2 : fs2[2]? = some (.ref q8)) (e9 : At h n q8 (.inl (5, fs9))) (z9 : fs9.length = 9) (v9_1 : fs9[1]? = some (.ref q10)) (e11 : At h n q7 (.inl (2, fs11))) (z11 : fs11.length = 5)
    (P : (R3 t0) ∧ (¬ t0 = 0 → spec_X2_haveRoomFor [.ref q7, .ref q10] n h (kc X 1 6 50 [(0, .ref a0)] [] n)) ∧ (t0 = 0 → K (.inr "java/lang/IllegalArgumentException") n h)) :
    Ok X 1 6 20 [(0, .ref a0)] [.int (i3 t0)] n h := by
  obtain ⟨r1, P⟩ := P
  refine zk_if_ne (pc := 20) (tgt := 33) hc dX6_load_20 (by decide) r1 (fun c => ?_) (fun c => ?_)
  · have P := P.1 c
    refine ok_aload_n (pc := 33) hc dX6_load_33 rfl 0 rfl ?_
    refine ok_get (pc := 34) hc fl_X6_10 dX6_load_34 e2.1 e2.2 v2_0 ?_
    refine ok_get (pc := 37) hc fl_X6_43 dX6_load_37 e4.1 e4.2 v4_0 ?_
    refine ok_get (pc := 40) hc fl_X6_47 dX6_load_40 e6.1 e6.2 v6_0 ?_
    refine ok_aload_n (pc := 43) hc dX6_load_43 rfl 0 rfl ?_
    refine ok_get (pc := 44) hc fl_X6_22 dX6_load_44 e2.1 e2.2 v2_2 ?_
    refine ok_get (pc := 47) hc fl_X6_71 dX6_load_47 e9.1 e9.2 v9_1 ?_
    exact ok_callV (pc := 50) (a := q7) (cb := 1) (sb := 6) (st := []) hc [.ref q10] cv_X6_82 sp_X2_haveRoomFor (by decide) dX6_load_50 rfl e11.1 e11.2 rfl rfl rfl (Nat.le_of_ble_eq_true rfl) P
  · have P := P.2 c
    exact ok_throw (pc := 23) hc hr th_IAE rfl (is := 77) (text := "the buffer is not a complete text of parts that can be") (by decide) dX6_load_23 dX6_load_26 dX6_load_27 dX6_load_29 dX6_load_32 (by decide) (by decide) (by decide) (by decide) P

set_option maxHeartbeats 4000000 in
set_option maxRecDepth 100000 in
theorem sX6_load_53 {X : Xt} {n : Nat} {h : HP} {a0 : Nat} {t0 : Int} {fs2 : List Value} {q3 : Nat} {q4 : Nat} {fs5 : List Value} {q6 : Nat} {fs7 : List Value} (hc : Cx X cX6_load RX6 1 6 138) {K : KT} (hr : CxR X (some .int) K) (e2 : At h n a0 (.inl (6, fs2))) (z2 : fs2.length = 6) (v2_3 : fs2[3]? = some (.ref q3)) (v2_0 : fs2[0]? = some (.ref q4)) (e5 : At h n q4 (.inl (0, fs5))) (z5 : fs5.length = 8) (v5_0 : fs5[0]? = some (.ref q6)) (e7 : At h n q3 (.inl (1, fs7))) (z7 : fs7.length = 3)
    (P : (R3 t0) ∧ (¬ t0 = 0 → spec_X1_record [.ref q3, .ref q6] n h (kc X 1 6 77 [(0, .ref a0)] [] n)) ∧ (t0 = 0 → K (.inr "java/lang/IllegalStateException") n h)) :
    Ok X 1 6 53 [(0, .ref a0)] [.int (i3 t0)] n h := by
  obtain ⟨r1, P⟩ := P
  refine zk_if_ne (pc := 53) (tgt := 66) hc dX6_load_53 (by decide) r1 (fun c => ?_) (fun c => ?_)
  · have P := P.1 c
    refine ok_aload_n (pc := 66) hc dX6_load_66 rfl 0 rfl ?_
    refine ok_get (pc := 67) hc fl_X6_29 dX6_load_67 e2.1 e2.2 v2_3 ?_
    refine ok_aload_n (pc := 70) hc dX6_load_70 rfl 0 rfl ?_
    refine ok_get (pc := 71) hc fl_X6_10 dX6_load_71 e2.1 e2.2 v2_0 ?_
    refine ok_get (pc := 74) hc fl_X6_43 dX6_load_74 e5.1 e5.2 v5_0 ?_
    exact ok_callV (pc := 77) (a := q3) (cb := 1) (sb := 6) (st := []) hc [.ref q6] cv_X6_57 sp_X1_record (by decide) dX6_load_77 rfl e7.1 e7.2 rfl rfl rfl (Nat.le_of_ble_eq_true rfl) P
  · have P := P.2 c
    exact ok_throw (pc := 56) hc hr th_ISE rfl (is := 88) (text := "there is no room for these parts") (by decide) dX6_load_56 dX6_load_59 dX6_load_60 dX6_load_62 dX6_load_65 (by decide) (by decide) (by decide) (by decide) P

set_option maxHeartbeats 4000000 in
set_option maxRecDepth 100000 in
theorem sX6_load_80 {X : Xt} {n : Nat} {h : HP} {a0 : Nat} {fs1 : List Value} {q2 : Nat} {fs3 : List Value} {q4 : Nat} {fs5 : List Value} {q6 : Nat} {q7 : Nat} {fs8 : List Value} {q9 : Nat} {fs10 : List Value} (hc : Cx X cX6_load RX6 1 6 138) {K : KT} (hr : CxR X (some .int) K) (e1 : At h n a0 (.inl (6, fs1))) (z1 : fs1.length = 6) (v1_0 : fs1[0]? = some (.ref q2)) (e3 : At h n q2 (.inl (0, fs3))) (z3 : fs3.length = 8) (v3_0 : fs3[0]? = some (.ref q4)) (e5 : At h n q4 (.inl (4, fs5))) (z5 : fs5.length = 4) (v5_0 : fs5[0]? = some (.ref q6)) (v1_2 : fs1[2]? = some (.ref q7)) (e8 : At h n q7 (.inl (5, fs8))) (z8 : fs8.length = 9) (v8_1 : fs8[1]? = some (.ref q9)) (e10 : At h n q6 (.inl (2, fs10))) (z10 : fs10.length = 5)
    (P : spec_X2_addAll [.ref q6, .ref q9] n h (kc X 1 6 97 [(0, .ref a0)] [] n)) :
    Ok X 1 6 80 [(0, .ref a0)] [] n h := by
  refine ok_aload_n (pc := 80) hc dX6_load_80 rfl 0 rfl ?_
  refine ok_get (pc := 81) hc fl_X6_10 dX6_load_81 e1.1 e1.2 v1_0 ?_
  refine ok_get (pc := 84) hc fl_X6_43 dX6_load_84 e3.1 e3.2 v3_0 ?_
  refine ok_get (pc := 87) hc fl_X6_47 dX6_load_87 e5.1 e5.2 v5_0 ?_
  refine ok_aload_n (pc := 90) hc dX6_load_90 rfl 0 rfl ?_
  refine ok_get (pc := 91) hc fl_X6_22 dX6_load_91 e1.1 e1.2 v1_2 ?_
  refine ok_get (pc := 94) hc fl_X6_71 dX6_load_94 e8.1 e8.2 v8_1 ?_
  exact ok_callV (pc := 97) (a := q6) (cb := 1) (sb := 6) (st := []) hc [.ref q9] cv_X6_91 sp_X2_addAll (by decide) dX6_load_97 rfl e10.1 e10.2 rfl rfl rfl (Nat.le_of_ble_eq_true rfl) P

set_option maxHeartbeats 4000000 in
set_option maxRecDepth 100000 in
theorem sX6_load_100 {X : Xt} {n : Nat} {h : HP} {a0 : Nat} {fs1 : List Value} {q2 : Nat} {fs3 : List Value} {q4 : Nat} {fs5 : List Value} (hc : Cx X cX6_load RX6 1 6 138) {K : KT} (hr : CxR X (some .int) K) (e1 : At h n a0 (.inl (6, fs1))) (z1 : fs1.length = 6) (v1_2 : fs1[2]? = some (.ref q2)) (e3 : At h n q2 (.inl (5, fs3))) (z3 : fs3.length = 9) (v1_0 : fs1[0]? = some (.ref q4)) (e5 : At h n q4 (.inl (0, fs5))) (z5 : fs5.length = 8)
    (P : spec_X0_solve [.ref q4] n (va_up h q2 (.inl (5, (fs3.set 2 (.int (i3 0)))))) (kc X 1 6 112 [(0, .ref a0)] [] n)) :
    Ok X 1 6 100 [(0, .ref a0)] [] n h := by
  refine ok_aload_n (pc := 100) hc dX6_load_100 rfl 0 rfl ?_
  refine ok_get (pc := 101) hc fl_X6_22 dX6_load_101 e1.1 e1.2 v1_2 ?_
  refine ok_iconst (pc := 104) hc (v := i3 0) dX6_load_104 (by decide) ?_
  refine ok_put (pc := 105) hc fl_X6_95 dX6_load_105 e3.1 e3.2 (by simp [List.length_set, z3]) (fun _ => rfl) (fun _ => rfl) ?_
  refine ok_aload_n (pc := 108) hc dX6_load_108 rfl 0 rfl ?_
  refine ok_get (pc := 109) hc fl_X6_10 dX6_load_109 e1.1 ((up_ne (ne_oo e1.2 e3.2 (by decide))).trans e1.2) v1_0 ?_
  exact ok_callV (pc := 112) (a := q4) (cb := 1) (sb := 6) (st := []) hc [] cv_X6_40 sp_X0_solve (by decide) dX6_load_112 rfl e5.1 ((up_ne (ne_oo e5.2 e3.2 (by decide))).trans e5.2) rfl rfl rfl (Nat.le_of_ble_eq_true rfl) P

set_option maxHeartbeats 4000000 in
set_option maxRecDepth 100000 in
theorem sX6_load_115 {X : Xt} {n : Nat} {h : HP} {a0 : Nat} {fs1 : List Value} {q2 : Nat} {fs3 : List Value} (hc : Cx X cX6_load RX6 1 6 138) {K : KT} (hr : CxR X (some .int) K) (e1 : At h n a0 (.inl (6, fs1))) (z1 : fs1.length = 6) (v1_0 : fs1[0]? = some (.ref q2)) (e3 : At h n q2 (.inl (0, fs3))) (z3 : fs3.length = 8)
    (P : spec_X0_settle [.ref q2] n h (kc X 1 6 119 [(0, .ref a0)] [] n)) :
    Ok X 1 6 115 [(0, .ref a0)] [] n h := by
  refine ok_aload_n (pc := 115) hc dX6_load_115 rfl 0 rfl ?_
  refine ok_get (pc := 116) hc fl_X6_10 dX6_load_116 e1.1 e1.2 v1_0 ?_
  exact ok_callV (pc := 119) (a := q2) (cb := 1) (sb := 6) (st := []) hc [] cv_X6_64 sp_X0_settle (by decide) dX6_load_119 rfl e3.1 e3.2 rfl rfl rfl (Nat.le_of_ble_eq_true rfl) P

set_option maxHeartbeats 4000000 in
set_option maxRecDepth 100000 in
theorem sX6_load_122 {X : Xt} {n : Nat} {h : HP} {a0 : Nat} {fs1 : List Value} {q2 : Nat} {fs3 : List Value} {q4 : Nat} {fs5 : List Value} {q6 : Nat} {fs7 : List Value} {iv8 : Int} (hc : Cx X cX6_load RX6 1 6 138) {K : KT} (hr : CxR X (some .int) K) (e1 : At h n a0 (.inl (6, fs1))) (z1 : fs1.length = 6) (v1_0 : fs1[0]? = some (.ref q2)) (e3 : At h n q2 (.inl (0, fs3))) (z3 : fs3.length = 8) (v3_0 : fs3[0]? = some (.ref q4)) (e5 : At h n q4 (.inl (4, fs5))) (z5 : fs5.length = 4) (v5_0 : fs5[0]? = some (.ref q6)) (e7 : At h n q6 (.inl (2, fs7))) (z7 : fs7.length = 5) (v7_4 : fs7[4]? = some (.int (i3 iv8)))
    (P : K (.inl (some (.int (i3 iv8)))) n h) :
    Ok X 1 6 122 [(0, .ref a0)] [] n h := by
  refine ok_aload_n (pc := 122) hc dX6_load_122 rfl 0 rfl ?_
  refine ok_get (pc := 123) hc fl_X6_10 dX6_load_123 e1.1 e1.2 v1_0 ?_
  refine ok_get (pc := 126) hc fl_X6_43 dX6_load_126 e3.1 e3.2 v3_0 ?_
  refine ok_get (pc := 129) hc fl_X6_47 dX6_load_129 e5.1 e5.2 v5_0 ?_
  refine ok_get (pc := 132) hc fl_X6_51 dX6_load_132 e7.1 e7.2 v7_4 ?_
  exact ok_iret (st := []) (pc := 135) hc hr dX6_load_135 P

def opLoad (q : Dsk) : Dsk × (Int ⊕ String) := match compl q.2.2.2.2 with
  | none => (q, .inr eIA)
  | some ps => if ps.all toldB = true then (if roomB q.1.1 ps = true then ((setS (q.1.1 ++ ps, q.1.2), pushH q.2.1 q.1, q.2.2.1, q.2.2.2.1, []), .inl ((q.1.1.length : Int) + ps.length)) else (q, .inr eIS)) else (q, .inr eIA)
def spec_X6_load (args : List Value) (n : Nat) (h : HP) (K : KT) : Prop := ∃ (q : Dsk), args = [.ref 0] ∧ DkA h n q ∧ ∀ h', DkA h' n (opLoad q).1 → Fr h h' 0 127 → K (oV (opLoad q).2) n h'
theorem sp_X6_load : Sp yX6_load cX6_load 1 (some .int) 6 138 1 6 spec_X6_load := by
  refine sp_intro (by decide) (by rintro args n h K ⟨q, rfl, -⟩; exact Nat.le_of_ble_eq_true rfl) ?_
  rintro X args n h K hc hr ⟨⟨S, hist, im, kept, B⟩, rfl, ⟨h0, hN, ⟨T, hT⟩, ⟨tx, hTx, hX⟩, hH, hM, hG⟩, kk⟩
  unfold opLoad at kk
  simp only at kk
  obtain ⟨rq, r1, -⟩ := id hX
  refine sX6_load_0 hc hr h0 rfl rfl r1 rfl ⟨tx, B, rfl, hTx, hX, fun h1 hX1 f1 hP1 => ⟨rfl, ?_⟩⟩
  have h0a := h0.fr f1 (by omega)
  have hNa := hN.fr f1 (by omega)
  have hHa := hH.fr f1 (by omega)
  have hq1 : DkA h1 n (S, hist, im, kept, B) := ⟨h0a, hNa, ⟨T, hT.fr f1 (by omega)⟩, ⟨tx, hTx, hX1⟩, hHa, hM.fr f1 (by omega), hG⟩
  have F1 : Fr h h1 0 127 := f1.sub (by omega) (by omega)
  obtain ⟨rq1, hRC⟩ := id hX1
  have hP0 : PtA h1 n 59 15 rq1.2.2.2.2.2.2 := hRC.2.2.2
  cases hcm : compl B with
  | none =>
    rw [hcm] at kk
    exact sX6_load_7 hc hr h0a rfl rfl hRC.1 rfl rfl hP0.obj rfl ⟨R3_0, fun _ => kk h1 hq1 F1, fun c => absurd rfl c⟩
  | some ps =>
    rw [hcm] at kk
    simp only at kk
    have hP := hP1 ps hcm
    obtain ⟨A, F, D, N, sat, rsn, cul, G, hB⟩ := hNa.obj
    replace hB : BnC h1 n 1 S A F D N sat rsn cul G := hB
    refine sX6_load_7 hc hr h0a rfl rfl hRC.1 rfl rfl hP0.obj rfl ⟨bz01 _, fun c => absurd (bz0.mp c) (by simp), fun _ => ⟨59, 15, ps, rfl, hP, rfl, ?_⟩⟩
    refine sX6_load_20 hc hr h0a rfl rfl hB.1 rfl rfl hB.2.1.1 rfl rfl rfl hRC.1 rfl rfl hB.2.1.2.1.obj rfl ⟨bz01 _, fun c => ?_, fun c => ?_⟩
    · have ct : ps.all toldB = true := by
        cases e : ps.all toldB with
        | true => rfl
        | false => exact absurd (bz0.mpr e) c
      rw [if_pos ct] at kk
      refine ⟨3, 59, 12, 15, S.1, ps, rfl, hB.2.1.2.1, hP, rfl, ?_⟩
      obtain ⟨o, hHo⟩ := hHa.obj
      refine sX6_load_53 hc hr h0a rfl rfl rfl hB.1 rfl rfl hHo rfl ⟨bz01 _, fun c2 => ?_, fun c2 => ?_⟩
      · have cr : roomB S.1 ps = true := by
          cases e : roomB S.1 ps with
          | true => rfl
          | false => exact absurd (bz0.mpr e) c2
        rw [if_pos cr] at kk
        have hPw : ∀ p ∈ ps, PW p := by
          obtain ⟨k, f, s, t, E, E1, E2, E3, E4, hv, hw, hl, hcap⟩ := hP
          exact hw
        have g1 := hG.1.1.app hPw ct cr
        have hlen : S.1.length + ps.length ≤ 12 := by
          have := g1.1
          rw [List.length_append] at this
          exact this
        have g2 : GdS (S.1 ++ ps, S.2) := ⟨g1, hG.1.2.1, by
          refine ⟨hG.1.2.2.1.1, ?_⟩
          have h3 := hG.1.2.2.1.2
          show S.2.2.1 < 3 ^ nA (S.1 ++ ps)
          rw [nA_app, Int.pow_add]
          have p1 := pow3_pos (nA ps)
          have p0 := pow3_pos (nA S.1)
          have : (3 : Int) ^ nA S.1 * 1 ≤ 3 ^ nA S.1 * 3 ^ nA ps := Int.mul_le_mul_of_nonneg_left (by omega) (by omega)
          have h3 : S.2.2.1 < 3 ^ nA S.1 := h3
          omega, hG.1.2.2.2⟩
        refine ⟨2, hist, S, rfl, hHa, hB.2.1, by omega, fun h2 hH2 f2 => ⟨rfl, ?_⟩⟩
        have hB2 := hB.fr f2 (by omega)
        have hRC2 := hRC.1.fr f2 (by omega)
        have hP2 := hP.fr f2 (by omega)
        refine sX6_load_80 hc hr (h0a.fr f2 (by omega)) rfl rfl hB2.1 rfl rfl hB2.2.1.1 rfl rfl rfl hRC2 rfl rfl hB2.2.1.2.1.obj rfl ⟨3, 59, 12, 15, S.1, ps, rfl, hB2.2.1.2.1, hP2, by omega, by omega, fun h3 hP3 f3 => ⟨rfl, ?_⟩⟩
        have hB3 : BnC h3 n 1 (S.1 ++ ps, S.2) A F D N sat rsn cul G := ⟨hB2.1.fr f3 (by omega), ⟨hB2.2.1.1.fr f3 (by omega), hP3, hB2.2.1.2.2⟩, hB2.2.2.1.fr f3 (by omega), hB2.2.2.2.1.fr f3 (by omega), hB2.2.2.2.2.fr f3 (by omega)⟩
        have hI3 : InA h3 n B := ⟨tx, hTx, (hX1.fr f2 (by omega)).fr f3 (by omega)⟩
        obtain ⟨tx3, rq3, hTx3, r13, hI4⟩ := hI3.clear
        have h03 := (h0a.fr f2 (by omega)).fr f3 (by omega)
        have f4 : Fr h3 (va_up h3 57 (.inl (5, [.ref 58, .ref 59, .int (i3 0), .int (i3 rq3.1), .ref 64, .int (i3 rq3.2.1), .int (i3 rq3.2.2.1), .int (i3 rq3.2.2.2.1), .int (i3 rq3.2.2.2.2.1)]))) 57 57 := Fr.rf.up (by omega)
        refine sX6_load_100 hc hr h03 rfl rfl r13 rfl rfl hB3.1 rfl ⟨1, _, rfl, ⟨_, _, _, _, _, _, _, _, hB3.fr f4 (by omega)⟩, g2.fit.1, g2.fit.2, fun h5 hA5 f5 => ⟨rfl, ?_⟩⟩
        obtain ⟨_, _, _, _, _, _, _, _, hB5⟩ := hA5.obj
        refine sX6_load_115 hc hr ((h03.fr f4 (by omega)).fr f5 (by omega)) rfl rfl hB5.1 rfl ⟨1, _, rfl, hA5, fun h6 hA6 f6 => ⟨rfl, ?_⟩⟩
        obtain ⟨_, _, _, _, _, _, _, _, hB6⟩ := hA6.obj
        have f56 := f5.tr f6
        have h06 := (h03.fr f4 (by omega)).fr f56 (by omega)
        have hq6 : DkA h6 n (setS (S.1 ++ ps, S.2), pushH hist S, im, kept, []) := ⟨h06, hA6, ⟨T, (((((hT.fr f1 (by omega)).fr f2 (by omega)).fr f3 (by omega)).fr f4 (by omega)).fr f56 (by omega))⟩, hI4.fr f56 (by omega), ((hH2.fr f3 (by omega)).fr f4 (by omega)).fr f56 (by omega), ((((hM.fr f1 (by omega)).fr f2 (by omega)).fr f3 (by omega)).fr f4 (by omega)).fr f56 (by omega), g2.set, gd_push hG.2.1 hG.1, hG.2.2⟩
        have F6 : Fr h h6 0 127 := (((F1.tr (f2.sub (by omega) (by omega))).tr (f3.sub (by omega) (by omega))).tr (f4.sub (by omega) (by omega))).tr (f56.sub (by omega) (by omega))
        have el : ((setS (S.1 ++ ps, S.2)).1.length : Int) = (S.1.length : Int) + ps.length := by
          rw [setS_1]
          show ((S.1 ++ ps).length : Int) = _
          rw [List.length_append]
          omega
        refine sX6_load_122 hc hr h06 rfl rfl hB6.1 rfl rfl hB6.2.1.1 rfl rfl hB6.2.1.2.1.obj rfl rfl ?_
        rw [el]
        exact kk h6 hq6 F6
      · have cr : ¬ roomB S.1 ps = true := by rw [bz0.mp c2]; decide
        rw [if_neg cr] at kk
        exact kk h1 hq1 F1
    · have ct : ¬ ps.all toldB = true := by rw [bz0.mp c]; decide
      rw [if_neg ct] at kk
      exact kk h1 hq1 F1
