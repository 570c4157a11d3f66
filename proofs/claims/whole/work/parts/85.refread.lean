/-! part 85: the reference reads the buffer -/
set_option maxHeartbeats 4000000 in
set_option maxRecDepth 100000 in
theorem sX7_put_0 {X : Xt} {n : Nat} {h : HP} {a0 : Nat} {x1 : Int} {x2 : Int} {fs1 : List Value} {q2 : Nat} {iv3 : Int} {len4 : Nat} {f4 : Nat → Int} (hc : Cx X cX7_put RX7 3 0 0) {K : KT} (hr : CxR X none K) (e1 : At h n a0 (.inl (7, fs1))) (z1 : fs1.length = 24) (v1_18 : fs1[18]? = some (.ref q2)) (v1_17 : fs1[17]? = some (.int (i3 iv3))) (e4 : At h n q2 (ai len4 f4))
    (P : (Ix ((4 * iv3) + x1) len4) ∧ K (.inl none) n (va_up h q2 (ai len4 (va_up f4 (((4 * iv3) + x1) : Int).toNat x2)))) :
    Ok X 0 0 0 [(0, .ref a0), (1, .int (i3 x1)), (2, .int (i3 x2))] [] n h := by
  refine ok_aload_n (pc := 0) hc dX7_put_0 rfl 0 rfl ?_
  refine ok_get (pc := 1) hc fl_X7_38 dX7_put_1 e1.1 e1.2 v1_18 ?_
  refine ok_iconst (pc := 4) hc (v := i3 4) dX7_put_4 (by decide) ?_
  refine ok_aload_n (pc := 5) hc dX7_put_5 rfl 0 rfl ?_
  refine ok_get (pc := 6) hc fl_X7_169 dX7_put_6 e1.1 e1.2 v1_17 ?_
  refine zk_imul (pc := 9) hc dX7_put_9 ?_
  refine ok_iload_n (pc := 10) hc dX7_put_10 rfl 1 rfl ?_
  refine zk_iadd (pc := 11) hc dX7_put_11 ?_
  refine ok_iload_n (pc := 12) hc dX7_put_12 rfl 2 rfl ?_
  obtain ⟨r, P⟩ := P
  refine zk_iast (pc := 13) hc dX7_put_13 e4.1 e4.2 r ?_
  exact ok_vret (st := []) (pc := 14) hc hr dX7_put_14 P

def spec_X7_put (args : List Value) (n : Nat) (h : HP) (K : KT) : Prop := ∃ (m d len : Nat) (fs : List Value) (f : Nat → Int) (rp w v : Int), args = [.ref m, .int (i3 w), .int (i3 v)] ∧ At h n m (.inl (7, fs)) ∧ fs.length = 24 ∧ fs[17]? = some (.int (i3 rp)) ∧ fs[18]? = some (.ref d) ∧ At h n d (ai len f) ∧ Ix (4 * rp + w) len ∧ K (.inl none) n (va_up h d (ai len (va_up f (4 * rp + w).toNat v)))
theorem sp_X7_put : Sp yX7_put cX7_put 3 none 0 0 0 0 spec_X7_put := by
  refine sp_intro (by decide) (by rintro args n h K ⟨m, d, len, fs, f, rp, w, v, rfl, -⟩; exact Nat.le_of_ble_eq_true rfl) ?_
  rintro X args n h K hc hr ⟨m, d, len, fs, f, rp, w, v, rfl, h1, h2, h3, h4, h5, hi, kk⟩
  exact sX7_put_0 hc hr h1 h2 h4 h3 h5 ⟨hi, kk⟩
set_option maxHeartbeats 4000000 in
set_option maxRecDepth 100000 in
theorem sX7_isOver_0 {X : Xt} {n : Nat} {h : HP} {a0 : Nat} {fs1 : List Value} {iv2 : Int} (hc : Cx X cX7_isOver RX7 1 0 0) {K : KT} (hr : CxR X (some .boolean) K) (e1 : At h n a0 (.inl (7, fs1))) (z1 : fs1.length = 24) (v1_19 : fs1[19]? = some (.int (i3 iv2)))
    (P : (R3 iv2) ∧ (iv2 = 7 → K (.inl (some (.int (i3 1)))) n h) ∧ (¬ iv2 = 7 → (R3 iv2) ∧ (¬ iv2 = 8 → K (.inl (some (.int (i3 0)))) n h) ∧ (iv2 = 8 → K (.inl (some (.int (i3 1)))) n h))) :
    Ok X 0 0 0 [(0, .ref a0)] [] n h := by
  refine ok_aload_n (pc := 0) hc dX7_isOver_0 rfl 0 rfl ?_
  refine ok_get (pc := 1) hc fl_X7_185 dX7_isOver_1 e1.1 e1.2 v1_19 ?_
  refine ok_bipush (pc := 4) hc (v := i3 7) dX7_isOver_4 (by decide) ?_
  obtain ⟨r3, P⟩ := P
  refine zk_icmp_eq (pc := 6) (tgt := 18) hc dX7_isOver_6 (by decide) r3 ⟨by decide, by decide⟩ (fun c => ?_) (fun c => ?_)
  · have P := P.1 c
    refine ok_iconst (pc := 18) hc (v := i3 1) dX7_isOver_18 (by decide) ?_
    refine ok_goto (pc := 19) (tgt := 23) hc dX7_isOver_19 (by decide) ?_
    exact ok_zret (st := []) (pc := 23) hc (nar_z (by decide)) hr dX7_isOver_23 P
  · have P := P.2 c
    refine ok_aload_n (pc := 9) hc dX7_isOver_9 rfl 0 rfl ?_
    refine ok_get (pc := 10) hc fl_X7_185 dX7_isOver_10 e1.1 e1.2 v1_19 ?_
    refine ok_bipush (pc := 13) hc (v := i3 8) dX7_isOver_13 (by decide) ?_
    obtain ⟨r4, P⟩ := P
    refine zk_icmp_ne (pc := 15) (tgt := 22) hc dX7_isOver_15 (by decide) r4 ⟨by decide, by decide⟩ (fun c => ?_) (fun c => ?_)
    · have P := P.1 c
      refine ok_iconst (pc := 22) hc (v := i3 0) dX7_isOver_22 (by decide) ?_
      exact ok_zret (st := []) (pc := 23) hc (nar_z (by decide)) hr dX7_isOver_23 P
    · have P := P.2 c
      refine ok_iconst (pc := 18) hc (v := i3 1) dX7_isOver_18 (by decide) ?_
      refine ok_goto (pc := 19) (tgt := 23) hc dX7_isOver_19 (by decide) ?_
      exact ok_zret (st := []) (pc := 23) hc (nar_z (by decide)) hr dX7_isOver_23 P

def spec_X7_isOver (args : List Value) (n : Nat) (h : HP) (K : KT) : Prop := ∃ (m : Nat) (fs : List Value) (p : Int), args = [.ref m] ∧ At h n m (.inl (7, fs)) ∧ fs.length = 24 ∧ fs[19]? = some (.int (i3 p)) ∧ R3 p ∧ K (.inl (some (.int (i3 (bz (decide (p = 7 ∨ p = 8))))))) n h
theorem sp_X7_isOver : Sp yX7_isOver cX7_isOver 1 (some .boolean) 0 0 0 0 spec_X7_isOver := by
  refine sp_intro (by decide) (by rintro args n h K ⟨m, fs, p, rfl, -⟩; exact Nat.le_of_ble_eq_true rfl) ?_
  rintro X args n h K hc hr ⟨m, fs, p, rfl, h1, h2, h3, hp, kk⟩
  refine sX7_isOver_0 hc hr h1 h2 h3 ⟨hp, fun z => ?_, fun z => ⟨hp, fun w => ?_, fun w => ?_⟩⟩
  · rw [decide_eq_true (Or.inl z)] at kk
    exact kk
  · rw [decide_eq_false (by omega)] at kk
    exact kk
  · rw [decide_eq_true (Or.inr w)] at kk
    exact kk
def KpT (I I' : Nat → Int) : Prop := ∀ k, k ≠ 17 → k ≠ 19 → k ≠ 20 → k ≠ 21 → k ≠ 22 → I' k = I k
set_option maxHeartbeats 4000000 in
set_option maxRecDepth 100000 in
theorem sX7_takesLetter_0 {X : Xt} {n : Nat} {h : HP} {a0 : Nat} {x1 : Int} (hc : Cx X cX7_takesLetter RX7 2 1 22) {K : KT} (hr : CxR X (some .boolean) K) 
    (P : (R3 x1) ∧ (¬ x1 = 114 → (R3 x1) ∧ (¬ x1 = 115 → Ok X 0 0 23 [(0, .ref a0), (1, .int (i3 x1))] [.int (i3 2), .int (i3 0), .ref a0] n h) ∧ (x1 = 115 → Ok X 0 0 23 [(0, .ref a0), (1, .int (i3 x1))] [.int (i3 1), .int (i3 0), .ref a0] n h)) ∧ (x1 = 114 → Ok X 0 0 23 [(0, .ref a0), (1, .int (i3 x1))] [.int (i3 0), .int (i3 0), .ref a0] n h)) :
    Ok X 0 0 0 [(0, .ref a0), (1, .int (i3 x1))] [] n h := by
  refine ok_aload_n (pc := 0) hc dX7_takesLetter_0 rfl 0 rfl ?_
  refine ok_iconst (pc := 1) hc (v := i3 0) dX7_takesLetter_1 (by decide) ?_
  refine ok_iload_n (pc := 2) hc dX7_takesLetter_2 rfl 1 rfl ?_
  refine ok_bipush (pc := 3) hc (v := i3 114) dX7_takesLetter_3 (by decide) ?_
  obtain ⟨r1, P⟩ := P
  refine zk_icmp_ne (pc := 5) (tgt := 12) hc dX7_takesLetter_5 (by decide) r1 ⟨by decide, by decide⟩ (fun c => ?_) (fun c => ?_)
  · have P := P.1 c
    refine ok_iload_n (pc := 12) hc dX7_takesLetter_12 rfl 1 rfl ?_
    refine ok_bipush (pc := 13) hc (v := i3 115) dX7_takesLetter_13 (by decide) ?_
    obtain ⟨r2, P⟩ := P
    refine zk_icmp_ne (pc := 15) (tgt := 22) hc dX7_takesLetter_15 (by decide) r2 ⟨by decide, by decide⟩ (fun c => ?_) (fun c => ?_)
    · have P := P.1 c
      refine ok_iconst (pc := 22) hc (v := i3 2) dX7_takesLetter_22 (by decide) ?_
      exact P
    · have P := P.2 c
      refine ok_iconst (pc := 18) hc (v := i3 1) dX7_takesLetter_18 (by decide) ?_
      refine ok_goto (pc := 19) (tgt := 23) hc dX7_takesLetter_19 (by decide) ?_
      exact P
  · have P := P.2 c
    refine ok_iconst (pc := 8) hc (v := i3 0) dX7_takesLetter_8 (by decide) ?_
    refine ok_goto (pc := 9) (tgt := 23) hc dX7_takesLetter_9 (by decide) ?_
    exact P

set_option maxHeartbeats 4000000 in
set_option maxRecDepth 100000 in
theorem sX7_takesLetter_23 {X : Xt} {n : Nat} {h : HP} {a0 : Nat} {x1 : Int} {t0 : Int} {t1 : Int} {fs1 : List Value} {iv2 : Int} {q3 : Nat} {f4 : Nat → Int} (hc : Cx X cX7_takesLetter RX7 2 1 22) {K : KT} (hr : CxR X (some .boolean) K) (e1 : At h n a0 (.inl (7, fs1))) (z1 : fs1.length = 24) (v1_17 : fs1[17]? = some (.int (i3 iv2))) (v1_18 : fs1[18]? = some (.ref q3)) (e4 : At h n q3 (ai 80 f4))
    (P : (Ix (4 * iv2 + t1) 80) ∧ (Ix (4 * iv2 + 2) 80) ∧ Ok X 0 0 47 [(0, .ref a0), (1, .int (i3 x1))] [] n (va_up (va_up (va_up (va_up (va_up h q3 (ai 80 (va_up f4 ((4 * iv2 + t1) : Int).toNat t0))) q3 (ai 80 (va_up (va_up f4 ((4 * iv2 + t1) : Int).toNat t0) ((4 * iv2 + 2) : Int).toNat (-1)))) a0 (.inl (7, (fs1.set 20 (.int (i3 0)))))) a0 (.inl (7, ((fs1.set 20 (.int (i3 0))).set 21 (.int (i3 0)))))) a0 (.inl (7, (((fs1.set 20 (.int (i3 0))).set 21 (.int (i3 0))).set 22 (.int (i3 0))))))) :
    Ok X 0 0 23 [(0, .ref a0), (1, .int (i3 x1))] [.int (i3 t0), .int (i3 t1), .ref a0] n h := by
  obtain ⟨r0, P⟩ := P
  refine ok_callV (pc := 23) (a := a0) (cb := 0) (sb := 0) (st := []) hc [.int (i3 t1), .int (i3 t0)] cv_X7_172 sp_X7_put (by decide) dX7_takesLetter_23 rfl e1.1 e1.2 rfl rfl rfl (Nat.le_of_ble_eq_true rfl) (⟨_, _, _, _, _, _, _, _, rfl, ⟨e1.1, e1.2⟩, z1, v1_17, v1_18, ⟨e4.1, e4.2⟩, r0, rfl, ?_⟩)
  show Ok X 0 0 (23 + 3) [(0, .ref a0), (1, .int (i3 x1))] [] n (va_up h q3 (ai 80 (va_up f4 ((4 * iv2 + t1) : Int).toNat t0)))
  refine ok_aload_n (pc := 26) hc dX7_takesLetter_26 rfl 0 rfl ?_
  refine ok_iconst (pc := 27) hc (v := i3 2) dX7_takesLetter_27 (by decide) ?_
  refine ok_iconst (pc := 28) hc (v := i3 (-1)) dX7_takesLetter_28 (by decide) ?_
  obtain ⟨r0, P⟩ := P
  refine ok_callV (pc := 29) (a := a0) (cb := 0) (sb := 0) (st := []) hc [.int (i3 2), .int (i3 (-1))] cv_X7_172 sp_X7_put (by decide) dX7_takesLetter_29 rfl e1.1 ((up_ne (ne_oa e1.2 e4.2)).trans e1.2) rfl rfl rfl (Nat.le_of_ble_eq_true rfl) (⟨_, _, _, _, _, _, _, _, rfl, ⟨e1.1, ((up_ne (ne_oa e1.2 e4.2)).trans e1.2)⟩, z1, v1_17, v1_18, ⟨e4.1, up_self⟩, r0, rfl, ?_⟩)
  show Ok X 0 0 (29 + 3) [(0, .ref a0), (1, .int (i3 x1))] [] n (va_up (va_up h q3 (ai 80 (va_up f4 ((4 * iv2 + t1) : Int).toNat t0))) q3 (ai 80 (va_up (va_up f4 ((4 * iv2 + t1) : Int).toNat t0) ((4 * iv2 + 2) : Int).toNat (-1))))
  refine ok_aload_n (pc := 32) hc dX7_takesLetter_32 rfl 0 rfl ?_
  refine ok_iconst (pc := 33) hc (v := i3 0) dX7_takesLetter_33 (by decide) ?_
  refine ok_put (pc := 34) hc fl_X7_175 dX7_takesLetter_34 e1.1 ((up_ne (ne_oa e1.2 e4.2)).trans ((up_ne (ne_oa e1.2 e4.2)).trans e1.2)) (by simp [List.length_set, z1]) (fun _ => nar_z (by decide)) (fun _ => fit_zz (by decide)) ?_
  refine ok_aload_n (pc := 37) hc dX7_takesLetter_37 rfl 0 rfl ?_
  refine ok_iconst (pc := 38) hc (v := i3 0) dX7_takesLetter_38 (by decide) ?_
  refine ok_put (pc := 39) hc fl_X7_179 dX7_takesLetter_39 e1.1 up_self (by simp [List.length_set, z1]) (fun _ => rfl) (fun _ => rfl) ?_
  refine ok_aload_n (pc := 42) hc dX7_takesLetter_42 rfl 0 rfl ?_
  refine ok_iconst (pc := 43) hc (v := i3 0) dX7_takesLetter_43 (by decide) ?_
  refine ok_put (pc := 44) hc fl_X7_182 dX7_takesLetter_44 e1.1 up_self (by simp [List.length_set, z1]) (fun _ => rfl) (fun _ => rfl) ?_
  exact P

set_option maxHeartbeats 4000000 in
set_option maxRecDepth 100000 in
theorem sX7_takesLetter_47 {X : Xt} {n : Nat} {h : HP} {a0 : Nat} {x1 : Int} {fs3 : List Value} {iv5 : Int} (hc : Cx X cX7_takesLetter RX7 2 1 22) {K : KT} (hr : CxR X (some .boolean) K) (e3 : At h n a0 (.inl (7, fs3))) (z3 : fs3.length = 24) (v3_19 : fs3[19]? = some (.int (i3 iv5)))
    (P : (R3 x1) ∧ (¬ x1 = 115 → (R3 x1) ∧ (x1 = 114 → K (.inl (some (.int (i3 1)))) n (va_up h a0 (.inl (7, (fs3.set 19 (.int (i3 1))))))) ∧ (¬ x1 = 114 → (R3 x1) ∧ (¬ x1 = 111 → (R3 iv5) ∧ (iv5 ≤ 0 → K (.inl (some (.int (i3 0)))) n (va_up h a0 (.inl (7, (fs3.set 19 (.int (i3 iv5))))))) ∧ (¬ iv5 ≤ 0 → K (.inl (some (.int (i3 1)))) n (va_up h a0 (.inl (7, (fs3.set 19 (.int (i3 iv5)))))))) ∧ (x1 = 111 → K (.inl (some (.int (i3 1)))) n (va_up h a0 (.inl (7, (fs3.set 19 (.int (i3 1))))))))) ∧ (x1 = 115 → K (.inl (some (.int (i3 1)))) n (va_up h a0 (.inl (7, (fs3.set 19 (.int (i3 4)))))))) :
    Ok X 0 0 47 [(0, .ref a0), (1, .int (i3 x1))] [] n h := by
  refine ok_aload_n (pc := 47) hc dX7_takesLetter_47 rfl 0 rfl ?_
  refine ok_iload_n (pc := 48) hc dX7_takesLetter_48 rfl 1 rfl ?_
  refine ok_bipush (pc := 49) hc (v := i3 115) dX7_takesLetter_49 (by decide) ?_
  obtain ⟨r1, P⟩ := P
  refine zk_icmp_ne (pc := 51) (tgt := 58) hc dX7_takesLetter_51 (by decide) r1 ⟨by decide, by decide⟩ (fun c => ?_) (fun c => ?_)
  · have P := P.1 c
    refine ok_iload_n (pc := 58) hc dX7_takesLetter_58 rfl 1 rfl ?_
    refine ok_bipush (pc := 59) hc (v := i3 114) dX7_takesLetter_59 (by decide) ?_
    obtain ⟨r2, P⟩ := P
    refine zk_icmp_eq (pc := 61) (tgt := 70) hc dX7_takesLetter_61 (by decide) r2 ⟨by decide, by decide⟩ (fun c => ?_) (fun c => ?_)
    · have P := P.1 c
      refine ok_iconst (pc := 70) hc (v := i3 1) dX7_takesLetter_70 (by decide) ?_
      refine ok_goto (pc := 71) (tgt := 78) hc dX7_takesLetter_71 (by decide) ?_
      refine ok_put (pc := 78) hc fl_X7_185 dX7_takesLetter_78 e3.1 e3.2 (by simp [List.length_set, z3]) (fun _ => rfl) (fun _ => rfl) ?_
      refine ok_aload_n (pc := 81) hc dX7_takesLetter_81 rfl 0 rfl ?_
      refine ok_get (pc := 82) hc fl_X7_185 dX7_takesLetter_82 e3.1 up_self (set_self (by simp [List.length_set, z3])) ?_
      refine zk_if_le (pc := 85) (tgt := 92) hc dX7_takesLetter_85 (by decide) ⟨by decide, by decide⟩ (fun c => absurd c (by decide)) (fun _ => ?_)
      refine ok_iconst (pc := 88) hc (v := i3 1) dX7_takesLetter_88 (by decide) ?_
      refine ok_goto (pc := 89) (tgt := 93) hc dX7_takesLetter_89 (by decide) ?_
      exact ok_zret (st := []) (pc := 93) hc (nar_z (by decide)) hr dX7_takesLetter_93 P
    · have P := P.2 c
      refine ok_iload_n (pc := 64) hc dX7_takesLetter_64 rfl 1 rfl ?_
      refine ok_bipush (pc := 65) hc (v := i3 111) dX7_takesLetter_65 (by decide) ?_
      obtain ⟨r4, P⟩ := P
      refine zk_icmp_ne (pc := 67) (tgt := 74) hc dX7_takesLetter_67 (by decide) r4 ⟨by decide, by decide⟩ (fun c => ?_) (fun c => ?_)
      · have P := P.1 c
        refine ok_aload_n (pc := 74) hc dX7_takesLetter_74 rfl 0 rfl ?_
        refine ok_get (pc := 75) hc fl_X7_185 dX7_takesLetter_75 e3.1 e3.2 v3_19 ?_
        refine ok_put (pc := 78) hc fl_X7_185 dX7_takesLetter_78 e3.1 e3.2 (by simp [List.length_set, z3]) (fun _ => rfl) (fun _ => rfl) ?_
        refine ok_aload_n (pc := 81) hc dX7_takesLetter_81 rfl 0 rfl ?_
        refine ok_get (pc := 82) hc fl_X7_185 dX7_takesLetter_82 e3.1 up_self (set_self (by simp [List.length_set, z3])) ?_
        obtain ⟨r6, P⟩ := P
        refine zk_if_le (pc := 85) (tgt := 92) hc dX7_takesLetter_85 (by decide) r6 (fun c => ?_) (fun c => ?_)
        · have P := P.1 c
          refine ok_iconst (pc := 92) hc (v := i3 0) dX7_takesLetter_92 (by decide) ?_
          exact ok_zret (st := []) (pc := 93) hc (nar_z (by decide)) hr dX7_takesLetter_93 P
        · have P := P.2 c
          refine ok_iconst (pc := 88) hc (v := i3 1) dX7_takesLetter_88 (by decide) ?_
          refine ok_goto (pc := 89) (tgt := 93) hc dX7_takesLetter_89 (by decide) ?_
          exact ok_zret (st := []) (pc := 93) hc (nar_z (by decide)) hr dX7_takesLetter_93 P
      · have P := P.2 c
        refine ok_iconst (pc := 70) hc (v := i3 1) dX7_takesLetter_70 (by decide) ?_
        refine ok_goto (pc := 71) (tgt := 78) hc dX7_takesLetter_71 (by decide) ?_
        refine ok_put (pc := 78) hc fl_X7_185 dX7_takesLetter_78 e3.1 e3.2 (by simp [List.length_set, z3]) (fun _ => rfl) (fun _ => rfl) ?_
        refine ok_aload_n (pc := 81) hc dX7_takesLetter_81 rfl 0 rfl ?_
        refine ok_get (pc := 82) hc fl_X7_185 dX7_takesLetter_82 e3.1 up_self (set_self (by simp [List.length_set, z3])) ?_
        refine zk_if_le (pc := 85) (tgt := 92) hc dX7_takesLetter_85 (by decide) ⟨by decide, by decide⟩ (fun c => absurd c (by decide)) (fun _ => ?_)
        refine ok_iconst (pc := 88) hc (v := i3 1) dX7_takesLetter_88 (by decide) ?_
        refine ok_goto (pc := 89) (tgt := 93) hc dX7_takesLetter_89 (by decide) ?_
        exact ok_zret (st := []) (pc := 93) hc (nar_z (by decide)) hr dX7_takesLetter_93 P
  · have P := P.2 c
    refine ok_iconst (pc := 54) hc (v := i3 4) dX7_takesLetter_54 (by decide) ?_
    refine ok_goto (pc := 55) (tgt := 78) hc dX7_takesLetter_55 (by decide) ?_
    refine ok_put (pc := 78) hc fl_X7_185 dX7_takesLetter_78 e3.1 e3.2 (by simp [List.length_set, z3]) (fun _ => rfl) (fun _ => rfl) ?_
    refine ok_aload_n (pc := 81) hc dX7_takesLetter_81 rfl 0 rfl ?_
    refine ok_get (pc := 82) hc fl_X7_185 dX7_takesLetter_82 e3.1 up_self (set_self (by simp [List.length_set, z3])) ?_
    refine zk_if_le (pc := 85) (tgt := 92) hc dX7_takesLetter_85 (by decide) ⟨by decide, by decide⟩ (fun c => absurd c (by decide)) (fun _ => ?_)
    refine ok_iconst (pc := 88) hc (v := i3 1) dX7_takesLetter_88 (by decide) ?_
    refine ok_goto (pc := 89) (tgt := 93) hc dX7_takesLetter_89 (by decide) ?_
    exact ok_zret (st := []) (pc := 93) hc (nar_z (by decide)) hr dX7_takesLetter_93 P

def spec_X7_takesLetter (args : List Value) (n : Nat) (h : HP) (K : KT) : Prop := ∃ (I : Nat → Int) (F : Nat → Nat → Int) (r : Nat) (c : Int), args = [.ref 128, .int (i3 c)] ∧ MAt h n I F ∧ I 17 = r ∧ r ≤ 15 ∧ I 19 = 0 ∧ R3 c ∧ ∀ (h' : HP) (I' D' : Nat → Int), MAt h' n I' (va_up F 10 D') → KpT I I' → I' 17 = I 17 → (kl c ≠ -1 → D' (4 * r) = kl c ∧ D' (4 * r + 2) = -1 ∧ I' 20 = 0 ∧ I' 21 = 0 ∧ I' 22 = 0 ∧ I' 19 = if kl c = 1 then 4 else 1) → (∀ x, x < 4 * r → D' x = F 10 x) → Fr h h' 128 138 → K (.inl (some (.int (i3 (if kl c = -1 then 0 else 1))))) n h'
theorem sp_X7_takesLetter : Sp yX7_takesLetter cX7_takesLetter 2 (some .boolean) 1 22 0 0 spec_X7_takesLetter := by
  refine sp_intro (by decide) (by rintro args n h K ⟨I, F, r, c, rfl, -⟩; exact Nat.le_of_ble_eq_true rfl) ?_
  rintro X args n h K hc hr ⟨I, F, r, c, rfl, hM, h17, hr15, h19, hcr, kk⟩
  have go : ∀ k : Int, (kl c ≠ -1 → k = kl c) → Ok X 0 0 23 [(0, .ref 128), (1, .int (i3 c))] [.int (i3 k), .int (i3 0), .ref 128] n h := by
    intro k hk
    have e1 : (4 * I 17 + 0).toNat = 4 * r := by omega
    have e2 : (4 * I 17 + 2).toNat = 4 * r + 2 := by omega
    have hM1 := (((hM.ua (j := 10) (by omega) (va_up (F 10) (4 * r) k)).uu (j := 10) (by omega) (va_up (va_up (F 10) (4 * r) k) (4 * r + 2) (-1))).uo (va_up I 20 0)).uo (va_up (va_up I 20 0) 21 0)
    have hM2 := hM1.uo (va_up (va_up (va_up I 20 0) 21 0) 22 0)
    refine sX7_takesLetter_23 hc hr hM.o rfl rfl rfl hM.d ⟨⟨by omega, by omega, by omega⟩, ⟨by omega, by omega, by omega⟩, ?_⟩
    rw [e1, e2]
    have fr : Fr h (va_up (va_up (va_up (va_up (va_up h 138 (ai 80 (va_up (F 10) (4 * r) k))) 138 (ai 80 (va_up (va_up (F 10) (4 * r) k) (4 * r + 2) (-1)))) 128 (.inl (7, mf (va_up I 20 0)))) 128 (.inl (7, mf (va_up (va_up I 20 0) 21 0)))) 128 (.inl (7, mf (va_up (va_up (va_up I 20 0) 21 0) 22 0)))) 128 138 := ((((Fr.rf.up (by omega)).up (by omega)).up (by omega)).up (by omega)).up (by omega)
    have D1 : ∀ x, x < 4 * r → va_up (va_up (F 10) (4 * r) k) (4 * r + 2) (-1) x = F 10 x := fun x hx => by rw [up_ne (by omega), up_ne (by omega)]
    have D2 : va_up (va_up (F 10) (4 * r) k) (4 * r + 2) (-1) (4 * r) = k := by rw [up_ne (by omega), up_self]
    have D3 : va_up (va_up (F 10) (4 * r) k) (4 * r + 2) (-1) (4 * r + 2) = -1 := up_self
    have fin : ∀ pl : Int, (kl c ≠ -1 → pl = if kl c = 1 then 4 else 1) → K (.inl (some (.int (i3 (if kl c = -1 then 0 else 1))))) n (va_up (va_up (va_up (va_up (va_up (va_up h 138 (ai 80 (va_up (F 10) (4 * r) k))) 138 (ai 80 (va_up (va_up (F 10) (4 * r) k) (4 * r + 2) (-1)))) 128 (.inl (7, mf (va_up I 20 0)))) 128 (.inl (7, mf (va_up (va_up I 20 0) 21 0)))) 128 (.inl (7, mf (va_up (va_up (va_up I 20 0) 21 0) 22 0)))) 128 (.inl (7, mf (va_up (va_up (va_up (va_up I 20 0) 21 0) 22 0) 19 pl)))) := by
      intro pl hpl
      refine kk _ _ _ (hM2.uo _) (fun k a b c d e => by rw [up_ne b, up_ne e, up_ne d, up_ne c]) rfl (fun hne => ⟨by rw [D2]; exact hk hne, D3, rfl, rfl, rfl, ?_⟩) D1 (fr.up (by omega))
      rw [up_self]
      exact hpl hne
    refine sX7_takesLetter_47 hc hr hM2.o rfl rfl ⟨hcr, fun z => ⟨hcr, fun w => ?_, fun w => ⟨hcr, fun y => ?_, fun y => ?_⟩⟩, fun z => ?_⟩
    · have e : kl c = 0 := by unfold kl; rw [if_pos w]
      have := fin 1 (fun _ => by rw [e]; rfl)
      rw [e, if_neg (by decide)] at this
      exact this
    · have e : kl c = -1 := by unfold kl; rw [if_neg w, if_neg z, if_neg y]
      have h190 : (va_up (va_up (va_up I 20 0) 21 0) 22 0) 19 = 0 := h19
      refine ⟨by rw [h190]; exact R3_0, fun _ => ?_, fun v => absurd (by rw [h190]; decide) v⟩
      have := fin 0 (fun v => absurd e v)
      rw [if_pos e] at this
      rw [h190]
      exact this
    · have e : kl c = 2 := by unfold kl; rw [if_neg w, if_neg z, if_pos y]
      have := fin 1 (fun _ => by rw [e]; rfl)
      rw [e, if_neg (by decide)] at this
      exact this
    · have e : kl c = 1 := by unfold kl; rw [if_neg (by omega), if_pos z]
      have := fin 4 (fun _ => by rw [e]; rfl)
      rw [e, if_neg (by decide)] at this
      exact this
  refine sX7_takesLetter_0 hc hr ⟨hcr, fun z => ⟨hcr, fun w => go 2 fun hne => ?_, fun w => go 1 fun _ => ?_⟩, fun z => go 0 fun _ => ?_⟩
  · unfold kl at hne ⊢
    rw [if_neg z, if_neg w] at hne ⊢
    by_cases y : c = 111
    · rw [if_pos y]
    · rw [if_neg y] at hne
      exact absurd rfl hne
  · unfold kl
    rw [if_neg z, if_pos w]
  · unfold kl
    rw [if_pos z]
theorem inZ01 (x lo hi : Int) : inZ x lo hi = 0 ∨ inZ x lo hi = 1 := by
  unfold inZ
  split <;> simp
set_option maxHeartbeats 4000000 in
set_option maxRecDepth 100000 in
theorem sX7_takesNode_0 {X : Xt} {n : Nat} {h : HP} {a0 : Nat} {x1 : Int} {x2 : Int} {x3 : Int} {fs1 : List Value} {iv2 : Int} {q3 : Nat} {f4 : Nat → Int} {iv5 : Int} (hc : Cx X cX7_takesNode RX7 5 1 22) {K : KT} (hr : CxR X (some .boolean) K) (e1 : At h n a0 (.inl (7, fs1))) (z1 : fs1.length = 24) (v1_17 : fs1[17]? = some (.int (i3 iv2))) (v1_18 : fs1[18]? = some (.ref q3)) (e4 : At h n q3 (ai 80 f4)) (v1_19 : fs1[19]? = some (.int (i3 iv5)))
    (P : (R3 x1 ∧ R3 48 ∧ R3 54) ∧ (Ix (4 * iv2 + x2) 80) ∧ (¬ (48 ≤ x1 ∧ x1 ≤ 54) → ((inZ x1 48 54) = 0 ∨ (inZ x1 48 54) = 1) ∧ K (.inl (some (.int (i3 (inZ x1 48 54))))) n (va_up (va_up h q3 (ai 80 (va_up f4 ((4 * iv2 + x2) : Int).toNat (x1 - 48)))) a0 (.inl (7, (fs1.set 19 (.int (i3 iv5))))))) ∧ ((48 ≤ x1 ∧ x1 ≤ 54) → ((inZ x1 48 54) = 0 ∨ (inZ x1 48 54) = 1) ∧ K (.inl (some (.int (i3 (inZ x1 48 54))))) n (va_up (va_up h q3 (ai 80 (va_up f4 ((4 * iv2 + x2) : Int).toNat (x1 - 48)))) a0 (.inl (7, (fs1.set 19 (.int (i3 x3)))))))) :
    Ok X 0 0 0 [(0, .ref a0), (1, .int (i3 x1)), (2, .int (i3 x2)), (3, .int (i3 x3))] [] n h := by
  refine ok_iload_n (pc := 0) hc dX7_takesNode_0 rfl 1 rfl ?_
  refine ok_bipush (pc := 1) hc (v := i3 48) dX7_takesNode_1 (by decide) ?_
  refine ok_bipush (pc := 3) hc (v := i3 54) dX7_takesNode_3 (by decide) ?_
  obtain ⟨r0, P⟩ := P
  refine ok_callS (pc := 5) (cb := 0) (sb := 0) (st := []) hc [.int (i3 x1), .int (i3 48), .int (i3 54)] cs_X7_45 sp_X7_within (by decide) dX7_takesNode_5 rfl rfl rfl rfl (Nat.le_of_ble_eq_true rfl) (⟨_, _, _, rfl, r0, rfl, ?_⟩)
  show Ok X 0 0 (5 + 3) [(0, .ref a0), (1, .int (i3 x1)), (2, .int (i3 x2)), (3, .int (i3 x3))] [.int (i3 (inZ x1 48 54))] n h
  refine ok_istore (pc := 8) hc (lv' := [(4, .int (i3 (inZ x1 48 54))), (0, .ref a0), (1, .int (i3 x1)), (2, .int (i3 x2)), (3, .int (i3 x3))]) dX7_takesNode_8 (by decide) rfl ?_
  refine ok_aload_n (pc := 10) hc dX7_takesNode_10 rfl 1 rfl ?_
  refine ok_iload_n (pc := 11) hc dX7_takesNode_11 rfl 3 rfl ?_
  refine ok_iload_n (pc := 12) hc dX7_takesNode_12 rfl 2 rfl ?_
  refine ok_bipush (pc := 13) hc (v := i3 48) dX7_takesNode_13 (by decide) ?_
  refine zk_isub (pc := 15) hc dX7_takesNode_15 ?_
  obtain ⟨r0, P⟩ := P
  refine ok_callV (pc := 16) (a := a0) (cb := 0) (sb := 0) (st := []) hc [.int (i3 x2), .int (i3 (x1 - 48))] cv_X7_172 sp_X7_put (by decide) dX7_takesNode_16 rfl e1.1 e1.2 rfl rfl rfl (Nat.le_of_ble_eq_true rfl) (⟨_, _, _, _, _, _, _, _, rfl, ⟨e1.1, e1.2⟩, z1, v1_17, v1_18, ⟨e4.1, e4.2⟩, r0, rfl, ?_⟩)
  show Ok X 0 0 (16 + 3) [(4, .int (i3 (inZ x1 48 54))), (0, .ref a0), (1, .int (i3 x1)), (2, .int (i3 x2)), (3, .int (i3 x3))] [] n (va_up h q3 (ai 80 (va_up f4 ((4 * iv2 + x2) : Int).toNat (x1 - 48))))
  refine ok_aload_n (pc := 19) hc dX7_takesNode_19 rfl 1 rfl ?_
  refine ok_iload (pc := 20) hc dX7_takesNode_20 0 rfl ?_
  refine zk_if_eq (pc := 22) (tgt := 29) hc dX7_takesNode_22 (by decide) R3_inZ (fun c => ?_) (fun c => ?_)
  · have P := P.1 (inZ_0.mp c)
    refine ok_aload_n (pc := 29) hc dX7_takesNode_29 rfl 1 rfl ?_
    refine ok_get (pc := 30) hc fl_X7_185 dX7_takesNode_30 e1.1 ((up_ne (ne_oa e1.2 e4.2)).trans e1.2) v1_19 ?_
    refine ok_put (pc := 33) hc fl_X7_185 dX7_takesNode_33 e1.1 ((up_ne (ne_oa e1.2 e4.2)).trans e1.2) (by simp [List.length_set, z1]) (fun _ => rfl) (fun _ => rfl) ?_
    refine ok_iload (pc := 36) hc dX7_takesNode_36 0 rfl ?_
    obtain ⟨r, P⟩ := P
    exact ok_zret (st := []) (pc := 38) hc (nar_z r) hr dX7_takesNode_38 P
  · have P := P.2 (inZ_1.mp c)
    refine ok_iload_n (pc := 25) hc dX7_takesNode_25 rfl 4 rfl ?_
    refine ok_goto (pc := 26) (tgt := 33) hc dX7_takesNode_26 (by decide) ?_
    refine ok_put (pc := 33) hc fl_X7_185 dX7_takesNode_33 e1.1 ((up_ne (ne_oa e1.2 e4.2)).trans e1.2) (by simp [List.length_set, z1]) (fun _ => rfl) (fun _ => rfl) ?_
    refine ok_iload (pc := 36) hc dX7_takesNode_36 0 rfl ?_
    obtain ⟨r, P⟩ := P
    exact ok_zret (st := []) (pc := 38) hc (nar_z r) hr dX7_takesNode_38 P

def spec_X7_takesNode (args : List Value) (n : Nat) (h : HP) (K : KT) : Prop := ∃ (I : Nat → Int) (F : Nat → Nat → Int) (r w : Nat) (c nx : Int), args = [.ref 128, .int (i3 c), .int (i3 w), .int (i3 nx)] ∧ MAt h n I F ∧ I 17 = r ∧ r ≤ 15 ∧ w ≤ 3 ∧ R3 c ∧ ∀ h', MAt h' n (va_up I 19 (if 48 ≤ c ∧ c ≤ 54 then nx else I 19)) (va_up F 10 (va_up (F 10) (4 * r + w) (c - 48))) → Fr h h' 128 138 → K (.inl (some (.int (i3 (inZ c 48 54))))) n h'
theorem sp_X7_takesNode : Sp yX7_takesNode cX7_takesNode 5 (some .boolean) 1 22 0 0 spec_X7_takesNode := by
  refine sp_intro (by decide) (by rintro args n h K ⟨I, F, r, w, c, nx, rfl, -⟩; exact Nat.le_of_ble_eq_true rfl) ?_
  rintro X args n h K hc hr ⟨I, F, r, w, c, nx, rfl, hM, h17, hr15, hw, hcr, kk⟩
  have e1 : (4 * I 17 + (w : Int)).toNat = 4 * r + w := by omega
  have hM1 := fun pl => (hM.ua (j := 10) (by omega) (va_up (F 10) (4 * r + w) (c - 48))).uo (va_up I 19 pl)
  refine sX7_takesNode_0 hc hr hM.o rfl rfl rfl hM.d rfl ⟨⟨hcr, ⟨by decide, by decide⟩, ⟨by decide, by decide⟩⟩, ⟨by omega, by omega, by omega⟩, fun z => ⟨inZ01 _ _ _, ?_⟩, fun z => ⟨inZ01 _ _ _, ?_⟩⟩
  · rw [e1]
    rw [if_neg z] at kk
    exact kk _ (hM1 (I 19)) ((Fr.rf.up (by omega)).up (by omega))
  · rw [e1]
    rw [if_pos z] at kk
    exact kk _ (hM1 nx) ((Fr.rf.up (by omega)).up (by omega))
set_option maxHeartbeats 4000000 in
set_option maxRecDepth 100000 in
theorem sX7_takesLast_0 {X : Xt} {n : Nat} {h : HP} {a0 : Nat} {x1 : Int} {fs1 : List Value} {q2 : Nat} {iv3 : Int} {len4 : Nat} {f4 : Nat → Int} (hc : Cx X cX7_takesLast RX7 3 1 22) {K : KT} (hr : CxR X (some .boolean) K) (e1 : At h n a0 (.inl (7, fs1))) (z1 : fs1.length = 24) (v1_18 : fs1[18]? = some (.ref q2)) (v1_17 : fs1[17]? = some (.int (i3 iv3))) (e4 : At h n q2 (ai len4 f4))
    (P : (Ix (4 * iv3) len4) ∧ (R3 (f4 ((4 * iv3) : Int).toNat)) ∧ (¬ (f4 ((4 * iv3) : Int).toNat) = 0 → (R3 x1 ∧ R3 48 ∧ R3 54) ∧ Ok X 0 0 33 [(0, .ref a0), (1, .int (i3 x1))] [.int (i3 (inZ x1 48 54))] n h) ∧ ((f4 ((4 * iv3) : Int).toNat) = 0 → (R3 x1 ∧ R3 49 ∧ R3 52) ∧ Ok X 0 0 33 [(0, .ref a0), (1, .int (i3 x1))] [.int (i3 (inZ x1 49 52))] n h)) :
    Ok X 0 0 0 [(0, .ref a0), (1, .int (i3 x1))] [] n h := by
  refine ok_aload_n (pc := 0) hc dX7_takesLast_0 rfl 0 rfl ?_
  refine ok_get (pc := 1) hc fl_X7_38 dX7_takesLast_1 e1.1 e1.2 v1_18 ?_
  refine ok_iconst (pc := 4) hc (v := i3 4) dX7_takesLast_4 (by decide) ?_
  refine ok_aload_n (pc := 5) hc dX7_takesLast_5 rfl 0 rfl ?_
  refine ok_get (pc := 6) hc fl_X7_169 dX7_takesLast_6 e1.1 e1.2 v1_17 ?_
  refine zk_imul (pc := 9) hc dX7_takesLast_9 ?_
  obtain ⟨r, P⟩ := P
  refine zk_iald (pc := 10) hc dX7_takesLast_10 e4.1 e4.2 r ?_
  obtain ⟨r5, P⟩ := P
  refine zk_if_ne (pc := 11) (tgt := 25) hc dX7_takesLast_11 (by decide) r5 (fun c => ?_) (fun c => ?_)
  · have P := P.1 c
    refine ok_iload_n (pc := 25) hc dX7_takesLast_25 rfl 1 rfl ?_
    refine ok_bipush (pc := 26) hc (v := i3 48) dX7_takesLast_26 (by decide) ?_
    refine ok_bipush (pc := 28) hc (v := i3 54) dX7_takesLast_28 (by decide) ?_
    obtain ⟨r0, P⟩ := P
    refine ok_callS (pc := 30) (cb := 0) (sb := 0) (st := []) hc [.int (i3 x1), .int (i3 48), .int (i3 54)] cs_X7_45 sp_X7_within (by decide) dX7_takesLast_30 rfl rfl rfl rfl (Nat.le_of_ble_eq_true rfl) (⟨_, _, _, rfl, r0, rfl, ?_⟩)
    show Ok X 0 0 (30 + 3) [(0, .ref a0), (1, .int (i3 x1))] [.int (i3 (inZ x1 48 54))] n h
    exact P
  · have P := P.2 c
    refine ok_iload_n (pc := 14) hc dX7_takesLast_14 rfl 1 rfl ?_
    refine ok_bipush (pc := 15) hc (v := i3 49) dX7_takesLast_15 (by decide) ?_
    refine ok_bipush (pc := 17) hc (v := i3 52) dX7_takesLast_17 (by decide) ?_
    obtain ⟨r0, P⟩ := P
    refine ok_callS (pc := 19) (cb := 0) (sb := 0) (st := []) hc [.int (i3 x1), .int (i3 49), .int (i3 52)] cs_X7_45 sp_X7_within (by decide) dX7_takesLast_19 rfl rfl rfl rfl (Nat.le_of_ble_eq_true rfl) (⟨_, _, _, rfl, r0, rfl, ?_⟩)
    show Ok X 0 0 (19 + 3) [(0, .ref a0), (1, .int (i3 x1))] [.int (i3 (inZ x1 49 52))] n h
    refine ok_goto (pc := 22) (tgt := 33) hc dX7_takesLast_22 (by decide) ?_
    exact P

set_option maxHeartbeats 4000000 in
set_option maxRecDepth 100000 in
theorem sX7_takesLast_33 {X : Xt} {n : Nat} {h : HP} {a0 : Nat} {x1 : Int} {t0 : Int} {fs1 : List Value} {iv2 : Int} {q3 : Nat} {f4 : Nat → Int} {iv6 : Int} (hc : Cx X cX7_takesLast RX7 3 1 22) {K : KT} (hr : CxR X (some .boolean) K) (e1 : At h n a0 (.inl (7, fs1))) (z1 : fs1.length = 24) (v1_17 : fs1[17]? = some (.int (i3 iv2))) (v1_18 : fs1[18]? = some (.ref q3)) (e4 : At h n q3 (ai 80 f4)) (v1_19 : fs1[19]? = some (.int (i3 iv6)))
    (P : (Ix (4 * iv2 + 3) 80) ∧ (R3 t0) ∧ (t0 = 0 → (t0 = 0 ∨ t0 = 1) ∧ K (.inl (some (.int (i3 t0)))) n (va_up (va_up h q3 (ai 80 (va_up f4 ((4 * iv2 + 3) : Int).toNat (x1 - 48)))) a0 (.inl (7, (fs1.set 19 (.int (i3 iv6))))))) ∧ (¬ t0 = 0 → (t0 = 0 ∨ t0 = 1) ∧ K (.inl (some (.int (i3 t0)))) n (va_up (va_up h q3 (ai 80 (va_up f4 ((4 * iv2 + 3) : Int).toNat (x1 - 48)))) a0 (.inl (7, (fs1.set 19 (.int (i3 8)))))))) :
    Ok X 0 0 33 [(0, .ref a0), (1, .int (i3 x1))] [.int (i3 t0)] n h := by
  refine ok_istore_n (pc := 33) hc (lv' := [(2, .int (i3 t0)), (0, .ref a0), (1, .int (i3 x1))]) dX7_takesLast_33 rfl (by decide) rfl ?_
  refine ok_aload_n (pc := 34) hc dX7_takesLast_34 rfl 1 rfl ?_
  refine ok_iconst (pc := 35) hc (v := i3 3) dX7_takesLast_35 (by decide) ?_
  refine ok_iload_n (pc := 36) hc dX7_takesLast_36 rfl 2 rfl ?_
  refine ok_bipush (pc := 37) hc (v := i3 48) dX7_takesLast_37 (by decide) ?_
  refine zk_isub (pc := 39) hc dX7_takesLast_39 ?_
  obtain ⟨r0, P⟩ := P
  refine ok_callV (pc := 40) (a := a0) (cb := 0) (sb := 0) (st := []) hc [.int (i3 3), .int (i3 (x1 - 48))] cv_X7_172 sp_X7_put (by decide) dX7_takesLast_40 rfl e1.1 e1.2 rfl rfl rfl (Nat.le_of_ble_eq_true rfl) (⟨_, _, _, _, _, _, _, _, rfl, ⟨e1.1, e1.2⟩, z1, v1_17, v1_18, ⟨e4.1, e4.2⟩, r0, rfl, ?_⟩)
  show Ok X 0 0 (40 + 3) [(2, .int (i3 t0)), (0, .ref a0), (1, .int (i3 x1))] [] n (va_up h q3 (ai 80 (va_up f4 ((4 * iv2 + 3) : Int).toNat (x1 - 48))))
  refine ok_aload_n (pc := 43) hc dX7_takesLast_43 rfl 1 rfl ?_
  refine ok_iload_n (pc := 44) hc dX7_takesLast_44 rfl 0 rfl ?_
  obtain ⟨r5, P⟩ := P
  refine zk_if_eq (pc := 45) (tgt := 53) hc dX7_takesLast_45 (by decide) r5 (fun c => ?_) (fun c => ?_)
  · have P := P.1 c
    refine ok_aload_n (pc := 53) hc dX7_takesLast_53 rfl 1 rfl ?_
    refine ok_get (pc := 54) hc fl_X7_185 dX7_takesLast_54 e1.1 ((up_ne (ne_oa e1.2 e4.2)).trans e1.2) v1_19 ?_
    refine ok_put (pc := 57) hc fl_X7_185 dX7_takesLast_57 e1.1 ((up_ne (ne_oa e1.2 e4.2)).trans e1.2) (by simp [List.length_set, z1]) (fun _ => rfl) (fun _ => rfl) ?_
    refine ok_iload_n (pc := 60) hc dX7_takesLast_60 rfl 0 rfl ?_
    obtain ⟨r, P⟩ := P
    exact ok_zret (st := []) (pc := 61) hc (nar_z r) hr dX7_takesLast_61 P
  · have P := P.2 c
    refine ok_bipush (pc := 48) hc (v := i3 8) dX7_takesLast_48 (by decide) ?_
    refine ok_goto (pc := 50) (tgt := 57) hc dX7_takesLast_50 (by decide) ?_
    refine ok_put (pc := 57) hc fl_X7_185 dX7_takesLast_57 e1.1 ((up_ne (ne_oa e1.2 e4.2)).trans e1.2) (by simp [List.length_set, z1]) (fun _ => rfl) (fun _ => rfl) ?_
    refine ok_iload_n (pc := 60) hc dX7_takesLast_60 rfl 0 rfl ?_
    obtain ⟨r, P⟩ := P
    exact ok_zret (st := []) (pc := 61) hc (nar_z r) hr dX7_takesLast_61 P

def lastOk (k c : Int) : Prop := if k = 0 then 49 ≤ c ∧ c ≤ 52 else 48 ≤ c ∧ c ≤ 54
def spec_X7_takesLast (args : List Value) (n : Nat) (h : HP) (K : KT) : Prop := ∃ (I : Nat → Int) (F : Nat → Nat → Int) (r : Nat) (c k : Int), args = [.ref 128, .int (i3 c)] ∧ MAt h n I F ∧ I 17 = r ∧ r ≤ 15 ∧ F 10 (4 * r) = k ∧ R3 k ∧ R3 c ∧ (lastOk k c → ∀ h', MAt h' n (va_up I 19 8) (va_up F 10 (va_up (F 10) (4 * r + 3) (c - 48))) → Fr h h' 128 138 → K (.inl (some (.int (i3 1)))) n h') ∧ (¬ lastOk k c → ∀ h', MAt h' n (va_up I 19 (I 19)) (va_up F 10 (va_up (F 10) (4 * r + 3) (c - 48))) → Fr h h' 128 138 → K (.inl (some (.int (i3 0)))) n h')
theorem sp_X7_takesLast : Sp yX7_takesLast cX7_takesLast 3 (some .boolean) 1 22 0 0 spec_X7_takesLast := by
  refine sp_intro (by decide) (by rintro args n h K ⟨I, F, r, c, k, rfl, -⟩; exact Nat.le_of_ble_eq_true rfl) ?_
  rintro X args n h K hc hr ⟨I, F, r, c, k, rfl, hM, h17, hr15, hk, hk3, hcr, k1, k0⟩
  have e0 : (4 * I 17).toNat = 4 * r := by omega
  have e1 : (4 * I 17 + 3).toNat = 4 * r + 3 := by omega
  have hM1 := fun pl => (hM.ua (j := 10) (by omega) (va_up (F 10) (4 * r + 3) (c - 48))).uo (va_up I 19 pl)
  have go : ∀ lo hi : Int, (lastOk k c ↔ lo ≤ c ∧ c ≤ hi) → Ok X 0 0 33 [(0, .ref 128), (1, .int (i3 c))] [.int (i3 (inZ c lo hi))] n h := by
    intro lo hi hl
    refine sX7_takesLast_33 hc hr hM.o rfl rfl rfl hM.d rfl ⟨⟨by omega, by omega, by omega⟩, R3_inZ, fun z => ⟨inZ01 _ _ _, ?_⟩, fun z => ⟨inZ01 _ _ _, ?_⟩⟩
    · rw [e1, z]
      exact k0 (fun y => (inZ_0.mp z) (hl.mp y)) _ (hM1 (I 19)) ((Fr.rf.up (by omega)).up (by omega))
    · have : inZ c lo hi = 1 := (inZ01 c lo hi).resolve_left z
      rw [e1, this]
      exact k1 (hl.mpr (inZ_1.mp z)) _ (hM1 8) ((Fr.rf.up (by omega)).up (by omega))
  refine sX7_takesLast_0 hc hr hM.o rfl rfl rfl hM.d ⟨⟨by omega, by omega, by omega⟩, by rw [e0, hk]; exact hk3, fun z => ⟨⟨hcr, ⟨by decide, by decide⟩, ⟨by decide, by decide⟩⟩, go _ _ ?_⟩, fun z => ⟨⟨hcr, ⟨by decide, by decide⟩, ⟨by decide, by decide⟩⟩, go _ _ ?_⟩⟩
  · rw [e0, hk] at z
    unfold lastOk
    rw [if_neg z]
  · rw [e0, hk] at z
    unfold lastOk
    rw [if_pos z]
set_option maxHeartbeats 4000000 in
set_option maxRecDepth 100000 in
theorem sX7_takesValue_0 {X : Xt} {n : Nat} {h : HP} {a0 : Nat} {x1 : Int} {fs2 : List Value} {iv3 : Int} (hc : Cx X cX7_takesValue RX7 3 1 22) {K : KT} (hr : CxR X (some .boolean) K) (e2 : At h n a0 (.inl (7, fs2))) (z2 : fs2.length = 24) (v2_19 : fs2[19]? = some (.int (i3 iv3)))
    (P : (R3 x1) ∧ (¬ x1 = 45 → Ok X 0 0 27 [(0, .ref a0), (1, .int (i3 x1))] [] n h) ∧ (x1 = 45 → (R3 iv3) ∧ (¬ iv3 = 5 → Ok X 0 0 27 [(0, .ref a0), (1, .int (i3 x1))] [] n h) ∧ (iv3 = 5 → K (.inl (some (.int (i3 1)))) n (va_up (va_up h a0 (.inl (7, (fs2.set 20 (.int (i3 1)))))) a0 (.inl (7, ((fs2.set 20 (.int (i3 1))).set 19 (.int (i3 6))))))))) :
    Ok X 0 0 0 [(0, .ref a0), (1, .int (i3 x1))] [] n h := by
  refine ok_iload_n (pc := 0) hc dX7_takesValue_0 rfl 1 rfl ?_
  refine ok_bipush (pc := 1) hc (v := i3 45) dX7_takesValue_1 (by decide) ?_
  obtain ⟨r1, P⟩ := P
  refine zk_icmp_ne (pc := 3) (tgt := 27) hc dX7_takesValue_3 (by decide) r1 ⟨by decide, by decide⟩ (fun c => ?_) (fun c => ?_)
  · have P := P.1 c
    exact P
  · have P := P.2 c
    refine ok_aload_n (pc := 6) hc dX7_takesValue_6 rfl 0 rfl ?_
    refine ok_get (pc := 7) hc fl_X7_185 dX7_takesValue_7 e2.1 e2.2 v2_19 ?_
    refine ok_iconst (pc := 10) hc (v := i3 5) dX7_takesValue_10 (by decide) ?_
    obtain ⟨r4, P⟩ := P
    refine zk_icmp_ne (pc := 11) (tgt := 27) hc dX7_takesValue_11 (by decide) r4 ⟨by decide, by decide⟩ (fun c => ?_) (fun c => ?_)
    · have P := P.1 c
      exact P
    · have P := P.2 c
      refine ok_aload_n (pc := 14) hc dX7_takesValue_14 rfl 0 rfl ?_
      refine ok_iconst (pc := 15) hc (v := i3 1) dX7_takesValue_15 (by decide) ?_
      refine ok_put (pc := 16) hc fl_X7_175 dX7_takesValue_16 e2.1 e2.2 (by simp [List.length_set, z2]) (fun _ => nar_z (by decide)) (fun _ => fit_zz (by decide)) ?_
      refine ok_aload_n (pc := 19) hc dX7_takesValue_19 rfl 0 rfl ?_
      refine ok_bipush (pc := 20) hc (v := i3 6) dX7_takesValue_20 (by decide) ?_
      refine ok_put (pc := 22) hc fl_X7_185 dX7_takesValue_22 e2.1 up_self (by simp [List.length_set, z2]) (fun _ => rfl) (fun _ => rfl) ?_
      refine ok_iconst (pc := 25) hc (v := i3 1) dX7_takesValue_25 (by decide) ?_
      exact ok_zret (st := []) (pc := 26) hc (nar_z (by decide)) hr dX7_takesValue_26 P

set_option maxHeartbeats 4000000 in
set_option maxRecDepth 100000 in
theorem sX7_takesValue_27 {X : Xt} {n : Nat} {h : HP} {a0 : Nat} {x1 : Int} {fs1 : List Value} {iv2 : Int} {iv5 : Int} {iv7 : Int} {iv9 : Int} {q10 : Nat} {f11 : Nat → Int} (hc : Cx X cX7_takesValue RX7 3 1 22) {K : KT} (hr : CxR X (some .boolean) K) (e1 : At h n a0 (.inl (7, fs1))) (z1 : fs1.length = 24) (v1_21 : fs1[21]? = some (.int (i3 iv2))) (v1_22 : fs1[22]? = some (.int (i3 iv5))) (v1_20 : fs1[20]? = some (.int (i3 iv7))) (v1_17 : fs1[17]? = some (.int (i3 iv9))) (v1_18 : fs1[18]? = some (.ref q10)) (e11 : At h n q10 (ai 80 f11))
    (P : (R3 x1 ∧ R3 48 ∧ R3 57) ∧ (¬ (48 ≤ x1 ∧ x1 ≤ 57) → Ok X 0 0 82 [(0, .ref a0), (1, .int (i3 x1))] [] n h) ∧ ((48 ≤ x1 ∧ x1 ≤ 57) → (R3 iv2) ∧ (iv2 = 0 → (R3 iv2) ∧ (3 ≤ iv2 → Ok X 0 0 82 [(0, .ref a0), (1, .int (i3 x1))] [] n h) ∧ (¬ 3 ≤ iv2 → (R3 (((10 * iv5) + x1) - 48)) ∧ (200 < (((10 * iv5) + x1) - 48) → Ok X 0 0 82 [(0, .ref a0), (1, .int (i3 x1))] [] n h) ∧ (¬ 200 < (((10 * iv5) + x1) - 48) → (R3 iv7) ∧ (iv7 = 0 → (Ix (4 * iv9 + 3) 80) ∧ K (.inl (some (.int (i3 1)))) n (va_up (va_up (va_up (va_up h a0 (.inl (7, (fs1.set 22 (.int (i3 (((10 * iv5) + x1) - 48))))))) a0 (.inl (7, ((fs1.set 22 (.int (i3 (((10 * iv5) + x1) - 48)))).set 21 (.int (i3 (iv2 + 1))))))) q10 (ai 80 (va_up f11 ((4 * iv9 + 3) : Int).toNat (((10 * iv5) + x1) - 48)))) a0 (.inl (7, (((fs1.set 22 (.int (i3 (((10 * iv5) + x1) - 48)))).set 21 (.int (i3 (iv2 + 1)))).set 19 (.int (i3 7))))))) ∧ (¬ iv7 = 0 → (Ix (4 * iv9 + 3) 80) ∧ K (.inl (some (.int (i3 1)))) n (va_up (va_up (va_up (va_up h a0 (.inl (7, (fs1.set 22 (.int (i3 (((10 * iv5) + x1) - 48))))))) a0 (.inl (7, ((fs1.set 22 (.int (i3 (((10 * iv5) + x1) - 48)))).set 21 (.int (i3 (iv2 + 1))))))) q10 (ai 80 (va_up f11 ((4 * iv9 + 3) : Int).toNat (-(((10 * iv5) + x1) - 48))))) a0 (.inl (7, (((fs1.set 22 (.int (i3 (((10 * iv5) + x1) - 48)))).set 21 (.int (i3 (iv2 + 1)))).set 19 (.int (i3 7)))))))))) ∧ (¬ iv2 = 0 → (R3 iv5) ∧ (iv5 ≤ 0 → Ok X 0 0 82 [(0, .ref a0), (1, .int (i3 x1))] [] n h) ∧ (¬ iv5 ≤ 0 → (R3 iv2) ∧ (3 ≤ iv2 → Ok X 0 0 82 [(0, .ref a0), (1, .int (i3 x1))] [] n h) ∧ (¬ 3 ≤ iv2 → (R3 (((10 * iv5) + x1) - 48)) ∧ (200 < (((10 * iv5) + x1) - 48) → Ok X 0 0 82 [(0, .ref a0), (1, .int (i3 x1))] [] n h) ∧ (¬ 200 < (((10 * iv5) + x1) - 48) → (R3 iv7) ∧ (iv7 = 0 → (Ix (4 * iv9 + 3) 80) ∧ K (.inl (some (.int (i3 1)))) n (va_up (va_up (va_up (va_up h a0 (.inl (7, (fs1.set 22 (.int (i3 (((10 * iv5) + x1) - 48))))))) a0 (.inl (7, ((fs1.set 22 (.int (i3 (((10 * iv5) + x1) - 48)))).set 21 (.int (i3 (iv2 + 1))))))) q10 (ai 80 (va_up f11 ((4 * iv9 + 3) : Int).toNat (((10 * iv5) + x1) - 48)))) a0 (.inl (7, (((fs1.set 22 (.int (i3 (((10 * iv5) + x1) - 48)))).set 21 (.int (i3 (iv2 + 1)))).set 19 (.int (i3 7))))))) ∧ (¬ iv7 = 0 → (Ix (4 * iv9 + 3) 80) ∧ K (.inl (some (.int (i3 1)))) n (va_up (va_up (va_up (va_up h a0 (.inl (7, (fs1.set 22 (.int (i3 (((10 * iv5) + x1) - 48))))))) a0 (.inl (7, ((fs1.set 22 (.int (i3 (((10 * iv5) + x1) - 48)))).set 21 (.int (i3 (iv2 + 1))))))) q10 (ai 80 (va_up f11 ((4 * iv9 + 3) : Int).toNat (-(((10 * iv5) + x1) - 48))))) a0 (.inl (7, (((fs1.set 22 (.int (i3 (((10 * iv5) + x1) - 48)))).set 21 (.int (i3 (iv2 + 1)))).set 19 (.int (i3 7))))))))))))) :
    Ok X 0 0 27 [(0, .ref a0), (1, .int (i3 x1))] [] n h := by
  refine ok_iload_n (pc := 27) hc dX7_takesValue_27 rfl 1 rfl ?_
  refine ok_bipush (pc := 28) hc (v := i3 48) dX7_takesValue_28 (by decide) ?_
  refine ok_bipush (pc := 30) hc (v := i3 57) dX7_takesValue_30 (by decide) ?_
  obtain ⟨r0, P⟩ := P
  refine ok_callS (pc := 32) (cb := 0) (sb := 0) (st := []) hc [.int (i3 x1), .int (i3 48), .int (i3 57)] cs_X7_45 sp_X7_within (by decide) dX7_takesValue_32 rfl rfl rfl rfl (Nat.le_of_ble_eq_true rfl) (⟨_, _, _, rfl, r0, rfl, ?_⟩)
  show Ok X 0 0 (32 + 3) [(0, .ref a0), (1, .int (i3 x1))] [.int (i3 (inZ x1 48 57))] n h
  refine zk_if_eq (pc := 35) (tgt := 82) hc dX7_takesValue_35 (by decide) R3_inZ (fun c => ?_) (fun c => ?_)
  · have P := P.1 (inZ_0.mp c)
    exact P
  · have P := P.2 (inZ_1.mp c)
    refine ok_aload_n (pc := 38) hc dX7_takesValue_38 rfl 0 rfl ?_
    refine ok_get (pc := 39) hc fl_X7_179 dX7_takesValue_39 e1.1 e1.2 v1_21 ?_
    obtain ⟨r3, P⟩ := P
    refine zk_if_eq (pc := 42) (tgt := 52) hc dX7_takesValue_42 (by decide) r3 (fun c => ?_) (fun c => ?_)
    · have P := P.1 c
      refine ok_aload_n (pc := 52) hc dX7_takesValue_52 rfl 0 rfl ?_
      refine ok_get (pc := 53) hc fl_X7_179 dX7_takesValue_53 e1.1 e1.2 v1_21 ?_
      refine ok_iconst (pc := 56) hc (v := i3 3) dX7_takesValue_56 (by decide) ?_
      obtain ⟨r4, P⟩ := P
      refine zk_icmp_ge (pc := 57) (tgt := 82) hc dX7_takesValue_57 (by decide) r4 ⟨by decide, by decide⟩ (fun c => ?_) (fun c => ?_)
      · have P := P.1 c
        exact P
      · have P := P.2 c
        refine ok_bipush (pc := 60) hc (v := i3 10) dX7_takesValue_60 (by decide) ?_
        refine ok_aload_n (pc := 62) hc dX7_takesValue_62 rfl 0 rfl ?_
        refine ok_get (pc := 63) hc fl_X7_182 dX7_takesValue_63 e1.1 e1.2 v1_22 ?_
        refine zk_imul (pc := 66) hc dX7_takesValue_66 ?_
        refine ok_iload_n (pc := 67) hc dX7_takesValue_67 rfl 1 rfl ?_
        refine zk_iadd (pc := 68) hc dX7_takesValue_68 ?_
        refine ok_bipush (pc := 69) hc (v := i3 48) dX7_takesValue_69 (by decide) ?_
        refine zk_isub (pc := 71) hc dX7_takesValue_71 ?_
        refine ok_sipush (pc := 72) hc (v := i3 200) dX7_takesValue_72 (by decide) ?_
        obtain ⟨r6, P⟩ := P
        refine zk_icmp_gt (pc := 75) (tgt := 82) hc dX7_takesValue_75 (by decide) r6 ⟨by decide, by decide⟩ (fun c => ?_) (fun c => ?_)
        · have P := P.1 c
          exact P
        · have P := P.2 c
          refine ok_iconst (pc := 78) hc (v := i3 1) dX7_takesValue_78 (by decide) ?_
          refine ok_goto (pc := 79) (tgt := 83) hc dX7_takesValue_79 (by decide) ?_
          refine ok_istore_n (pc := 83) hc (lv' := [(2, .int (i3 1)), (0, .ref a0), (1, .int (i3 x1))]) dX7_takesValue_83 rfl (by decide) rfl ?_
          refine ok_iload_n (pc := 84) hc dX7_takesValue_84 rfl 0 rfl ?_
          refine zk_if_eq (pc := 85) (tgt := 144) hc dX7_takesValue_85 (by decide) ⟨by decide, by decide⟩ (fun c => absurd c (by decide)) (fun _ => ?_)
          refine ok_aload_n (pc := 88) hc dX7_takesValue_88 rfl 1 rfl ?_
          refine ok_bipush (pc := 89) hc (v := i3 10) dX7_takesValue_89 (by decide) ?_
          refine ok_aload_n (pc := 91) hc dX7_takesValue_91 rfl 1 rfl ?_
          refine ok_get (pc := 92) hc fl_X7_182 dX7_takesValue_92 e1.1 e1.2 v1_22 ?_
          refine zk_imul (pc := 95) hc dX7_takesValue_95 ?_
          refine ok_iload_n (pc := 96) hc dX7_takesValue_96 rfl 2 rfl ?_
          refine zk_iadd (pc := 97) hc dX7_takesValue_97 ?_
          refine ok_bipush (pc := 98) hc (v := i3 48) dX7_takesValue_98 (by decide) ?_
          refine zk_isub (pc := 100) hc dX7_takesValue_100 ?_
          refine ok_put (pc := 101) hc fl_X7_182 dX7_takesValue_101 e1.1 e1.2 (by simp [List.length_set, z1]) (fun _ => rfl) (fun _ => rfl) ?_
          refine ok_aload_n (pc := 104) hc dX7_takesValue_104 rfl 1 rfl ?_
          refine ok_dup (pc := 105) hc dX7_takesValue_105 rfl ?_
          refine ok_get (pc := 106) hc fl_X7_179 dX7_takesValue_106 e1.1 up_self ((set_ne (by decide)).trans v1_21) ?_
          refine ok_iconst (pc := 109) hc (v := i3 1) dX7_takesValue_109 (by decide) ?_
          refine zk_iadd (pc := 110) hc dX7_takesValue_110 ?_
          refine ok_put (pc := 111) hc fl_X7_179 dX7_takesValue_111 e1.1 up_self (by simp [List.length_set, z1]) (fun _ => rfl) (fun _ => rfl) ?_
          refine ok_aload_n (pc := 114) hc dX7_takesValue_114 rfl 1 rfl ?_
          refine ok_iconst (pc := 115) hc (v := i3 3) dX7_takesValue_115 (by decide) ?_
          refine ok_aload_n (pc := 116) hc dX7_takesValue_116 rfl 1 rfl ?_
          refine ok_get (pc := 117) hc fl_X7_175 dX7_takesValue_117 e1.1 up_self ((set_ne (by decide)).trans ((set_ne (by decide)).trans v1_20)) ?_
          obtain ⟨r8, P⟩ := P
          refine zk_if_eq (pc := 120) (tgt := 131) hc dX7_takesValue_120 (by decide) r8 (fun c => ?_) (fun c => ?_)
          · have P := P.1 c
            refine ok_aload_n (pc := 131) hc dX7_takesValue_131 rfl 1 rfl ?_
            refine ok_get (pc := 132) hc fl_X7_182 dX7_takesValue_132 e1.1 up_self ((set_ne (by decide)).trans (set_self (by simp [List.length_set, z1]))) ?_
            obtain ⟨r0, P⟩ := P
            refine ok_callV (pc := 135) (a := a0) (cb := 0) (sb := 0) (st := []) hc [.int (i3 3), .int (i3 (((10 * iv5) + x1) - 48))] cv_X7_172 sp_X7_put (by decide) dX7_takesValue_135 rfl e1.1 up_self rfl rfl rfl (Nat.le_of_ble_eq_true rfl) (⟨_, _, _, _, _, _, _, _, rfl, ⟨e1.1, up_self⟩, (by simp [List.length_set, z1]), ((set_ne (by decide)).trans ((set_ne (by decide)).trans v1_17)), ((set_ne (by decide)).trans ((set_ne (by decide)).trans v1_18)), ⟨e11.1, ((up_ne (ne_oa e1.2 e11.2).symm).trans ((up_ne (ne_oa e1.2 e11.2).symm).trans e11.2))⟩, r0, rfl, ?_⟩)
            show Ok X 0 0 (135 + 3) [(2, .int (i3 1)), (0, .ref a0), (1, .int (i3 x1))] [] n (va_up (va_up (va_up h a0 (.inl (7, (fs1.set 22 (.int (i3 (((10 * iv5) + x1) - 48))))))) a0 (.inl (7, ((fs1.set 22 (.int (i3 (((10 * iv5) + x1) - 48)))).set 21 (.int (i3 (iv2 + 1))))))) q10 (ai 80 (va_up f11 ((4 * iv9 + 3) : Int).toNat (((10 * iv5) + x1) - 48))))
            refine ok_aload_n (pc := 138) hc dX7_takesValue_138 rfl 1 rfl ?_
            refine ok_bipush (pc := 139) hc (v := i3 7) dX7_takesValue_139 (by decide) ?_
            refine ok_put (pc := 141) hc fl_X7_185 dX7_takesValue_141 e1.1 ((up_ne (ne_oa e1.2 e11.2)).trans up_self) (by simp [List.length_set, z1]) (fun _ => rfl) (fun _ => rfl) ?_
            refine ok_iload_n (pc := 144) hc dX7_takesValue_144 rfl 0 rfl ?_
            exact ok_zret (st := []) (pc := 145) hc (nar_z (by decide)) hr dX7_takesValue_145 P
          · have P := P.2 c
            refine ok_aload_n (pc := 123) hc dX7_takesValue_123 rfl 1 rfl ?_
            refine ok_get (pc := 124) hc fl_X7_182 dX7_takesValue_124 e1.1 up_self ((set_ne (by decide)).trans (set_self (by simp [List.length_set, z1]))) ?_
            refine zk_ineg (pc := 127) hc dX7_takesValue_127 ?_
            refine ok_goto (pc := 128) (tgt := 135) hc dX7_takesValue_128 (by decide) ?_
            obtain ⟨r0, P⟩ := P
            refine ok_callV (pc := 135) (a := a0) (cb := 0) (sb := 0) (st := []) hc [.int (i3 3), .int (i3 (-(((10 * iv5) + x1) - 48)))] cv_X7_172 sp_X7_put (by decide) dX7_takesValue_135 rfl e1.1 up_self rfl rfl rfl (Nat.le_of_ble_eq_true rfl) (⟨_, _, _, _, _, _, _, _, rfl, ⟨e1.1, up_self⟩, (by simp [List.length_set, z1]), ((set_ne (by decide)).trans ((set_ne (by decide)).trans v1_17)), ((set_ne (by decide)).trans ((set_ne (by decide)).trans v1_18)), ⟨e11.1, ((up_ne (ne_oa e1.2 e11.2).symm).trans ((up_ne (ne_oa e1.2 e11.2).symm).trans e11.2))⟩, r0, rfl, ?_⟩)
            show Ok X 0 0 (135 + 3) [(2, .int (i3 1)), (0, .ref a0), (1, .int (i3 x1))] [] n (va_up (va_up (va_up h a0 (.inl (7, (fs1.set 22 (.int (i3 (((10 * iv5) + x1) - 48))))))) a0 (.inl (7, ((fs1.set 22 (.int (i3 (((10 * iv5) + x1) - 48)))).set 21 (.int (i3 (iv2 + 1))))))) q10 (ai 80 (va_up f11 ((4 * iv9 + 3) : Int).toNat (-(((10 * iv5) + x1) - 48)))))
            refine ok_aload_n (pc := 138) hc dX7_takesValue_138 rfl 1 rfl ?_
            refine ok_bipush (pc := 139) hc (v := i3 7) dX7_takesValue_139 (by decide) ?_
            refine ok_put (pc := 141) hc fl_X7_185 dX7_takesValue_141 e1.1 ((up_ne (ne_oa e1.2 e11.2)).trans up_self) (by simp [List.length_set, z1]) (fun _ => rfl) (fun _ => rfl) ?_
            refine ok_iload_n (pc := 144) hc dX7_takesValue_144 rfl 0 rfl ?_
            exact ok_zret (st := []) (pc := 145) hc (nar_z (by decide)) hr dX7_takesValue_145 P
    · have P := P.2 c
      refine ok_aload_n (pc := 45) hc dX7_takesValue_45 rfl 0 rfl ?_
      refine ok_get (pc := 46) hc fl_X7_182 dX7_takesValue_46 e1.1 e1.2 v1_22 ?_
      obtain ⟨r12, P⟩ := P
      refine zk_if_le (pc := 49) (tgt := 82) hc dX7_takesValue_49 (by decide) r12 (fun c => ?_) (fun c => ?_)
      · have P := P.1 c
        exact P
      · have P := P.2 c
        refine ok_aload_n (pc := 52) hc dX7_takesValue_52 rfl 0 rfl ?_
        refine ok_get (pc := 53) hc fl_X7_179 dX7_takesValue_53 e1.1 e1.2 v1_21 ?_
        refine ok_iconst (pc := 56) hc (v := i3 3) dX7_takesValue_56 (by decide) ?_
        obtain ⟨r13, P⟩ := P
        refine zk_icmp_ge (pc := 57) (tgt := 82) hc dX7_takesValue_57 (by decide) r13 ⟨by decide, by decide⟩ (fun c => ?_) (fun c => ?_)
        · have P := P.1 c
          exact P
        · have P := P.2 c
          refine ok_bipush (pc := 60) hc (v := i3 10) dX7_takesValue_60 (by decide) ?_
          refine ok_aload_n (pc := 62) hc dX7_takesValue_62 rfl 0 rfl ?_
          refine ok_get (pc := 63) hc fl_X7_182 dX7_takesValue_63 e1.1 e1.2 v1_22 ?_
          refine zk_imul (pc := 66) hc dX7_takesValue_66 ?_
          refine ok_iload_n (pc := 67) hc dX7_takesValue_67 rfl 1 rfl ?_
          refine zk_iadd (pc := 68) hc dX7_takesValue_68 ?_
          refine ok_bipush (pc := 69) hc (v := i3 48) dX7_takesValue_69 (by decide) ?_
          refine zk_isub (pc := 71) hc dX7_takesValue_71 ?_
          refine ok_sipush (pc := 72) hc (v := i3 200) dX7_takesValue_72 (by decide) ?_
          obtain ⟨r14, P⟩ := P
          refine zk_icmp_gt (pc := 75) (tgt := 82) hc dX7_takesValue_75 (by decide) r14 ⟨by decide, by decide⟩ (fun c => ?_) (fun c => ?_)
          · have P := P.1 c
            exact P
          · have P := P.2 c
            refine ok_iconst (pc := 78) hc (v := i3 1) dX7_takesValue_78 (by decide) ?_
            refine ok_goto (pc := 79) (tgt := 83) hc dX7_takesValue_79 (by decide) ?_
            refine ok_istore_n (pc := 83) hc (lv' := [(2, .int (i3 1)), (0, .ref a0), (1, .int (i3 x1))]) dX7_takesValue_83 rfl (by decide) rfl ?_
            refine ok_iload_n (pc := 84) hc dX7_takesValue_84 rfl 0 rfl ?_
            refine zk_if_eq (pc := 85) (tgt := 144) hc dX7_takesValue_85 (by decide) ⟨by decide, by decide⟩ (fun c => absurd c (by decide)) (fun _ => ?_)
            refine ok_aload_n (pc := 88) hc dX7_takesValue_88 rfl 1 rfl ?_
            refine ok_bipush (pc := 89) hc (v := i3 10) dX7_takesValue_89 (by decide) ?_
            refine ok_aload_n (pc := 91) hc dX7_takesValue_91 rfl 1 rfl ?_
            refine ok_get (pc := 92) hc fl_X7_182 dX7_takesValue_92 e1.1 e1.2 v1_22 ?_
            refine zk_imul (pc := 95) hc dX7_takesValue_95 ?_
            refine ok_iload_n (pc := 96) hc dX7_takesValue_96 rfl 2 rfl ?_
            refine zk_iadd (pc := 97) hc dX7_takesValue_97 ?_
            refine ok_bipush (pc := 98) hc (v := i3 48) dX7_takesValue_98 (by decide) ?_
            refine zk_isub (pc := 100) hc dX7_takesValue_100 ?_
            refine ok_put (pc := 101) hc fl_X7_182 dX7_takesValue_101 e1.1 e1.2 (by simp [List.length_set, z1]) (fun _ => rfl) (fun _ => rfl) ?_
            refine ok_aload_n (pc := 104) hc dX7_takesValue_104 rfl 1 rfl ?_
            refine ok_dup (pc := 105) hc dX7_takesValue_105 rfl ?_
            refine ok_get (pc := 106) hc fl_X7_179 dX7_takesValue_106 e1.1 up_self ((set_ne (by decide)).trans v1_21) ?_
            refine ok_iconst (pc := 109) hc (v := i3 1) dX7_takesValue_109 (by decide) ?_
            refine zk_iadd (pc := 110) hc dX7_takesValue_110 ?_
            refine ok_put (pc := 111) hc fl_X7_179 dX7_takesValue_111 e1.1 up_self (by simp [List.length_set, z1]) (fun _ => rfl) (fun _ => rfl) ?_
            refine ok_aload_n (pc := 114) hc dX7_takesValue_114 rfl 1 rfl ?_
            refine ok_iconst (pc := 115) hc (v := i3 3) dX7_takesValue_115 (by decide) ?_
            refine ok_aload_n (pc := 116) hc dX7_takesValue_116 rfl 1 rfl ?_
            refine ok_get (pc := 117) hc fl_X7_175 dX7_takesValue_117 e1.1 up_self ((set_ne (by decide)).trans ((set_ne (by decide)).trans v1_20)) ?_
            obtain ⟨r15, P⟩ := P
            refine zk_if_eq (pc := 120) (tgt := 131) hc dX7_takesValue_120 (by decide) r15 (fun c => ?_) (fun c => ?_)
            · have P := P.1 c
              refine ok_aload_n (pc := 131) hc dX7_takesValue_131 rfl 1 rfl ?_
              refine ok_get (pc := 132) hc fl_X7_182 dX7_takesValue_132 e1.1 up_self ((set_ne (by decide)).trans (set_self (by simp [List.length_set, z1]))) ?_
              obtain ⟨r0, P⟩ := P
              refine ok_callV (pc := 135) (a := a0) (cb := 0) (sb := 0) (st := []) hc [.int (i3 3), .int (i3 (((10 * iv5) + x1) - 48))] cv_X7_172 sp_X7_put (by decide) dX7_takesValue_135 rfl e1.1 up_self rfl rfl rfl (Nat.le_of_ble_eq_true rfl) (⟨_, _, _, _, _, _, _, _, rfl, ⟨e1.1, up_self⟩, (by simp [List.length_set, z1]), ((set_ne (by decide)).trans ((set_ne (by decide)).trans v1_17)), ((set_ne (by decide)).trans ((set_ne (by decide)).trans v1_18)), ⟨e11.1, ((up_ne (ne_oa e1.2 e11.2).symm).trans ((up_ne (ne_oa e1.2 e11.2).symm).trans e11.2))⟩, r0, rfl, ?_⟩)
              show Ok X 0 0 (135 + 3) [(2, .int (i3 1)), (0, .ref a0), (1, .int (i3 x1))] [] n (va_up (va_up (va_up h a0 (.inl (7, (fs1.set 22 (.int (i3 (((10 * iv5) + x1) - 48))))))) a0 (.inl (7, ((fs1.set 22 (.int (i3 (((10 * iv5) + x1) - 48)))).set 21 (.int (i3 (iv2 + 1))))))) q10 (ai 80 (va_up f11 ((4 * iv9 + 3) : Int).toNat (((10 * iv5) + x1) - 48))))
              refine ok_aload_n (pc := 138) hc dX7_takesValue_138 rfl 1 rfl ?_
              refine ok_bipush (pc := 139) hc (v := i3 7) dX7_takesValue_139 (by decide) ?_
              refine ok_put (pc := 141) hc fl_X7_185 dX7_takesValue_141 e1.1 ((up_ne (ne_oa e1.2 e11.2)).trans up_self) (by simp [List.length_set, z1]) (fun _ => rfl) (fun _ => rfl) ?_
              refine ok_iload_n (pc := 144) hc dX7_takesValue_144 rfl 0 rfl ?_
              exact ok_zret (st := []) (pc := 145) hc (nar_z (by decide)) hr dX7_takesValue_145 P
            · have P := P.2 c
              refine ok_aload_n (pc := 123) hc dX7_takesValue_123 rfl 1 rfl ?_
              refine ok_get (pc := 124) hc fl_X7_182 dX7_takesValue_124 e1.1 up_self ((set_ne (by decide)).trans (set_self (by simp [List.length_set, z1]))) ?_
              refine zk_ineg (pc := 127) hc dX7_takesValue_127 ?_
              refine ok_goto (pc := 128) (tgt := 135) hc dX7_takesValue_128 (by decide) ?_
              obtain ⟨r0, P⟩ := P
              refine ok_callV (pc := 135) (a := a0) (cb := 0) (sb := 0) (st := []) hc [.int (i3 3), .int (i3 (-(((10 * iv5) + x1) - 48)))] cv_X7_172 sp_X7_put (by decide) dX7_takesValue_135 rfl e1.1 up_self rfl rfl rfl (Nat.le_of_ble_eq_true rfl) (⟨_, _, _, _, _, _, _, _, rfl, ⟨e1.1, up_self⟩, (by simp [List.length_set, z1]), ((set_ne (by decide)).trans ((set_ne (by decide)).trans v1_17)), ((set_ne (by decide)).trans ((set_ne (by decide)).trans v1_18)), ⟨e11.1, ((up_ne (ne_oa e1.2 e11.2).symm).trans ((up_ne (ne_oa e1.2 e11.2).symm).trans e11.2))⟩, r0, rfl, ?_⟩)
              show Ok X 0 0 (135 + 3) [(2, .int (i3 1)), (0, .ref a0), (1, .int (i3 x1))] [] n (va_up (va_up (va_up h a0 (.inl (7, (fs1.set 22 (.int (i3 (((10 * iv5) + x1) - 48))))))) a0 (.inl (7, ((fs1.set 22 (.int (i3 (((10 * iv5) + x1) - 48)))).set 21 (.int (i3 (iv2 + 1))))))) q10 (ai 80 (va_up f11 ((4 * iv9 + 3) : Int).toNat (-(((10 * iv5) + x1) - 48)))))
              refine ok_aload_n (pc := 138) hc dX7_takesValue_138 rfl 1 rfl ?_
              refine ok_bipush (pc := 139) hc (v := i3 7) dX7_takesValue_139 (by decide) ?_
              refine ok_put (pc := 141) hc fl_X7_185 dX7_takesValue_141 e1.1 ((up_ne (ne_oa e1.2 e11.2)).trans up_self) (by simp [List.length_set, z1]) (fun _ => rfl) (fun _ => rfl) ?_
              refine ok_iload_n (pc := 144) hc dX7_takesValue_144 rfl 0 rfl ?_
              exact ok_zret (st := []) (pc := 145) hc (nar_z (by decide)) hr dX7_takesValue_145 P

set_option maxHeartbeats 4000000 in
set_option maxRecDepth 100000 in
theorem sX7_takesValue_82 {X : Xt} {n : Nat} {h : HP} {a0 : Nat} {x1 : Int} (hc : Cx X cX7_takesValue RX7 3 1 22) {K : KT} (hr : CxR X (some .boolean) K) 
    (P : K (.inl (some (.int (i3 0)))) n h) :
    Ok X 0 0 82 [(0, .ref a0), (1, .int (i3 x1))] [] n h := by
  refine ok_iconst (pc := 82) hc (v := i3 0) dX7_takesValue_82 (by decide) ?_
  refine ok_istore_n (pc := 83) hc (lv' := [(2, .int (i3 0)), (0, .ref a0), (1, .int (i3 x1))]) dX7_takesValue_83 rfl (by decide) rfl ?_
  refine ok_iload_n (pc := 84) hc dX7_takesValue_84 rfl 0 rfl ?_
  refine zk_if_eq (pc := 85) (tgt := 144) hc dX7_takesValue_85 (by decide) ⟨by decide, by decide⟩ (fun _ => ?_) (fun c => absurd c (by decide))
  refine ok_iload_n (pc := 144) hc dX7_takesValue_144 rfl 0 rfl ?_
  exact ok_zret (st := []) (pc := 145) hc (nar_z (by decide)) hr dX7_takesValue_145 P

def valOk (I : Nat → Int) (c : Int) : Prop := (48 ≤ c ∧ c ≤ 57) ∧ (I 21 = 0 ∨ 0 < I 22) ∧ I 21 < 3 ∧ 10 * I 22 + c - 48 ≤ 200
def spec_X7_takesValue (args : List Value) (n : Nat) (h : HP) (K : KT) : Prop := ∃ (I : Nat → Int) (F : Nat → Nat → Int) (r : Nat) (c : Int), args = [.ref 128, .int (i3 c)] ∧ MAt h n I F ∧ I 17 = r ∧ r ≤ 15 ∧ R3 c ∧ ((0 ≤ I 19 ∧ I 19 ≤ 8) ∧ (I 20 = 0 ∨ I 20 = 1) ∧ (0 ≤ I 21 ∧ I 21 ≤ 3) ∧ 0 ≤ I 22 ∧ I 22 ≤ 200) ∧ (c = 45 ∧ I 19 = 5 → ∀ h', MAt h' n (va_up (va_up I 20 1) 19 6) F → Fr h h' 128 138 → K (.inl (some (.int (i3 1)))) n h') ∧ (¬ (c = 45 ∧ I 19 = 5) → valOk I c → ∀ h', MAt h' n (va_up (va_up (va_up I 22 (10 * I 22 + c - 48)) 21 (I 21 + 1)) 19 7) (va_up F 10 (va_up (F 10) (4 * r + 3) (if I 20 = 0 then 10 * I 22 + c - 48 else -(10 * I 22 + c - 48)))) → Fr h h' 128 138 → K (.inl (some (.int (i3 1)))) n h') ∧ (¬ (c = 45 ∧ I 19 = 5) → ¬ valOk I c → K (.inl (some (.int (i3 0)))) n h)
theorem sp_X7_takesValue : Sp yX7_takesValue cX7_takesValue 3 (some .boolean) 1 22 0 0 spec_X7_takesValue := by
  refine sp_intro (by decide) (by rintro args n h K ⟨I, F, r, c, rfl, -⟩; exact Nat.le_of_ble_eq_true rfl) ?_
  rintro X args n h K hc hr ⟨I, F, r, c, rfl, hM, h17, hr15, hcr, ⟨h19, h20, h21, h22⟩, k1, k2, k3⟩
  have e1 : (4 * I 17 + 3).toNat = 4 * r + 3 := by omega
  have h27 : ¬ (c = 45 ∧ I 19 = 5) → Ok X 0 0 27 [(0, .ref 128), (1, .int (i3 c))] [] n h := by
    intro hn
    have no : ¬ valOk I c → Ok X 0 0 82 [(0, .ref 128), (1, .int (i3 c))] [] n h := fun z => sX7_takesValue_82 hc hr (k3 hn z)
    have yes : ∀ v : Int, valOk I c → v = (if I 20 = 0 then 10 * I 22 + c - 48 else -(10 * I 22 + c - 48)) → K (.inl (some (.int (i3 1)))) n (va_up (va_up (va_up (va_up h 128 (.inl (7, mf (va_up I 22 (10 * I 22 + c - 48))))) 128 (.inl (7, mf (va_up (va_up I 22 (10 * I 22 + c - 48)) 21 (I 21 + 1))))) 138 (ai 80 (va_up (F 10) (4 * r + 3) v))) 128 (.inl (7, mf (va_up (va_up (va_up I 22 (10 * I 22 + c - 48)) 21 (I 21 + 1)) 19 7)))) := by
      intro v hv e
      subst e
      exact k2 hn hv _ ((((hM.uo (va_up I 22 (10 * I 22 + c - 48))).uo (va_up (va_up I 22 (10 * I 22 + c - 48)) 21 (I 21 + 1))).ua (j := 10) (by omega) _).uo (va_up (va_up (va_up I 22 (10 * I 22 + c - 48)) 21 (I 21 + 1)) 19 7)) ((((Fr.rf.up (by omega)).up (by omega)).up (by omega)).up (by omega))
    have r20 : R3 (I 20) := R3_s (by omega)
    have r21 : R3 (I 21) := R3_s (by omega)
    have r22 : R3 (I 22) := R3_s (by omega)
    have ix : Ix (4 * I 17 + 3) 80 := ⟨by omega, by omega, by omega⟩
    refine sX7_takesValue_27 hc hr hM.o rfl rfl rfl rfl rfl rfl hM.d ⟨⟨hcr, ⟨by decide, by decide⟩, ⟨by decide, by decide⟩⟩, fun z => no (fun y => z y.1), fun z => ⟨r21, fun w => ⟨r21, fun v => no (fun y => by have := y.2.2.1; omega), fun v => ⟨R3_s (by omega), fun u => no (fun y => by have := y.2.2.2; omega), fun u => ⟨r20, fun t => ⟨ix, ?_⟩, fun t => ⟨ix, ?_⟩⟩⟩⟩, fun w => ⟨r22, fun s => no (fun y => by have := y.2.1; omega), fun s => ⟨r21, fun v => no (fun y => by have := y.2.2.1; omega), fun v => ⟨R3_s (by omega), fun u => no (fun y => by have := y.2.2.2; omega), fun u => ⟨r20, fun t => ⟨ix, ?_⟩, fun t => ⟨ix, ?_⟩⟩⟩⟩⟩⟩⟩
    all_goals rw [e1]
    · exact yes _ ⟨z, Or.inl w, by omega, by omega⟩ (by rw [if_pos t])
    · exact yes _ ⟨z, Or.inl w, by omega, by omega⟩ (by rw [if_neg t])
    · exact yes _ ⟨z, Or.inr (by omega), by omega, by omega⟩ (by rw [if_pos t])
    · exact yes _ ⟨z, Or.inr (by omega), by omega, by omega⟩ (by rw [if_neg t])
  refine sX7_takesValue_0 hc hr hM.o rfl rfl ⟨hcr, fun z => h27 (fun y => z y.1), fun z => ⟨R3_s (by omega), fun w => h27 (fun y => w y.2), fun w => ?_⟩⟩
  exact k1 ⟨z, w⟩ _ ((hM.uo (va_up I 20 1)).uo (va_up (va_up I 20 1) 19 6)) ((Fr.rf.up (by omega)).up (by omega))
/-- what has been read, in the reference's numbers -/
def numOk (t v : Int) : Prop := (t = 0 ∧ v = 0) ∨ (t = 1 ∧ 0 ≤ v ∧ v ≤ 9) ∨ (t = 2 ∧ 10 ≤ v ∧ v ≤ 99) ∨ (t = 3 ∧ 100 ≤ v ∧ v ≤ 200)
def RMk (I D : Nat → Int) (q : RdQ) : Prop := (q.1 = -1 ∧ I 19 = 0) ∨ ((q.1 = 0 ∨ q.1 = 2) ∧ (0 ≤ q.2.1 ∧ q.2.1 ≤ 3) ∧ I 19 = (if q.2.1 = 3 then 8 else q.2.1 + 1) ∧ D (4 * q.2.2.2.2.2.2.length) = q.1 ∧ ∀ j : Nat, (j : Int) < q.2.1 → D (4 * q.2.2.2.2.2.2.length + 1 + j) = q.2.2.2.2.2.1 j) ∨ (q.1 = 1 ∧ D (4 * q.2.2.2.2.2.2.length) = 1 ∧ D (4 * q.2.2.2.2.2.2.length + 2) = -1 ∧ I 20 = q.2.2.2.1 ∧ I 21 = q.2.1 ∧ I 22 = q.2.2.2.2.1 ∧ (q.2.2.2.1 = 0 ∨ q.2.2.2.1 = 1) ∧ numOk q.2.1 q.2.2.2.2.1 ∧ ((q.2.2.1 = -1 ∧ q.2.1 = 0 ∧ q.2.2.2.1 = 0 ∧ I 19 = 4) ∨ ((0 ≤ q.2.2.1 ∧ q.2.2.1 ≤ 6) ∧ D (4 * q.2.2.2.2.2.2.length + 1) = q.2.2.1 ∧ ((q.2.1 = 0 ∧ q.2.2.2.1 = 0 ∧ I 19 = 5) ∨ (q.2.1 = 0 ∧ q.2.2.2.1 = 1 ∧ I 19 = 6) ∨ (0 < q.2.1 ∧ I 19 = 7 ∧ D (4 * q.2.2.2.2.2.2.length + 3) = if q.2.2.2.1 = 0 then q.2.2.2.2.1 else -q.2.2.2.2.1)))))
def RMp (D : Nat → Int) (ps : List Part) : Prop := ∀ i, i < ps.length → ps[i]? = some (D (4 * i), D (4 * i + 1), D (4 * i + 2), D (4 * i + 3))
def RMR (I D : Nat → Int) (q : RdQ) : Prop := I 17 = q.2.2.2.2.2.2.length ∧ RMp D q.2.2.2.2.2.2 ∧ RMk I D q
theorem RMp.up {D D' : Nat → Int} {ps : List Part} (h : RMp D ps) (e : ∀ x, x < 4 * ps.length → D' x = D x) : RMp D' ps := fun i hi => by
  rw [e _ (by omega), e _ (by omega), e _ (by omega), e _ (by omega)]
  exact h i hi
/-- the part that ends -/
theorem RMR.endP {I D : Nat → Int} {q : RdQ} (h : RMR I D q) : ((I 19 = 7 ∨ I 19 = 8) ↔ (endP q).isSome = true) ∧ ∀ ps, endP q = some ps → ps.length = q.2.2.2.2.2.2.length + 1 ∧ RMp D ps := by
  obtain ⟨h1, h2, h3⟩ := h
  have app : ∀ p : Part, p = (D (4 * q.2.2.2.2.2.2.length), D (4 * q.2.2.2.2.2.2.length + 1), D (4 * q.2.2.2.2.2.2.length + 2), D (4 * q.2.2.2.2.2.2.length + 3)) → (q.2.2.2.2.2.2 ++ [p]).length = q.2.2.2.2.2.2.length + 1 ∧ RMp D (q.2.2.2.2.2.2 ++ [p]) := by
    intro p hp
    refine ⟨by rw [List.length_append, List.length_singleton], fun i hi => ?_⟩
    rw [List.length_append, List.length_singleton] at hi
    by_cases c : i = q.2.2.2.2.2.2.length
    · subst c
      rw [List.getElem?_append, if_neg (by omega), Nat.sub_self, hp]
      rfl
    · rw [List.getElem?_append, if_pos (by omega)]
      exact h2 i (by omega)
  unfold _root_.Jvm.Pilot.@@N@@.endP
  rcases h3 with ⟨k1, k2⟩ | ⟨k1, k2, k3, k4, k5⟩ | ⟨k1, k2, k3, k4, k5, k6, k7, k8, k9⟩
  · rw [if_pos k1]
    exact ⟨⟨fun z => by omega, fun z => nomatch z⟩, fun ps z => nomatch z⟩
  · rw [if_neg (by omega), if_neg (by omega)]
    by_cases c : q.2.1 < 3
    · rw [if_pos c]
      rw [if_neg (by omega)] at k3
      exact ⟨⟨fun z => by omega, fun z => nomatch z⟩, fun ps z => nomatch z⟩
    · rw [if_neg c]
      have c3 : q.2.1 = 3 := by omega
      rw [if_pos c3] at k3
      refine ⟨⟨fun _ => rfl, fun _ => Or.inr k3⟩, fun ps z => ?_⟩
      have := Option.some.inj z
      subst this
      refine app _ ?_
      rw [k4, ← k5 0 (by omega), ← k5 1 (by omega), ← k5 2 (by omega)]
  · rw [if_neg (by omega), if_pos k1]
    by_cases c : q.2.1 = 0
    · rw [if_pos c]
      refine ⟨⟨fun z => by omega, fun z => nomatch z⟩, fun ps z => nomatch z⟩
    · rw [if_neg c]
      have k9' : D (4 * q.2.2.2.2.2.2.length + 1) = q.2.2.1 ∧ I 19 = 7 ∧ D (4 * q.2.2.2.2.2.2.length + 3) = if q.2.2.2.1 = 0 then q.2.2.2.2.1 else -q.2.2.2.2.1 := by
        rcases k9 with ⟨_, z, _⟩ | ⟨_, a, ⟨z, _⟩ | ⟨z, _⟩ | ⟨_, b, d⟩⟩
        · exact absurd z c
        · exact absurd z c
        · exact absurd z c
        · exact ⟨a, b, d⟩
      refine ⟨⟨fun _ => rfl, fun _ => Or.inl k9'.2.1⟩, fun ps z => ?_⟩
      have := Option.some.inj z
      subst this
      refine app _ ?_
      rw [k2, k9'.1, k3, k9'.2.2]
