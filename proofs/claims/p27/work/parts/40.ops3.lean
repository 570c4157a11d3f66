/-! part 40: the desk: undo, append, clearInput, firstError -/
set_option maxHeartbeats 4000000 in
set_option maxRecDepth 100000 in
theorem sX6_undo_0 {X : Xt} {n : Nat} {h : HP} {a0 : Nat} {fs1 : List Value} {q2 : Nat} {fs3 : List Value} {iv4 : Int} (hc : Cx X cX6_undo RX6 1 6 139) {K : KT} (hr : CxR X (some .int) K) (e1 : At h n a0 (.inl (6, fs1))) (z1 : fs1.length = 6) (v1_3 : fs1[3]? = some (.ref q2)) (e3 : At h n q2 (.inl (1, fs3))) (z3 : fs3.length = 3) (v3_2 : fs3[2]? = some (.int (i3 iv4)))
    (P : (R3 iv4) ∧ (¬ iv4 = 0 → Ok X 1 6 20 [(0, .ref a0)] [] n h) ∧ (iv4 = 0 → K (.inr "java/lang/IllegalStateException") n h)) :
    Ok X 1 6 0 [(0, .ref a0)] [] n h := by
  refine ok_aload_n (pc := 0) hc dX6_undo_0 rfl 0 rfl ?_
  refine ok_get (pc := 1) hc fl_X6_29 dX6_undo_1 e1.1 e1.2 v1_3 ?_
  refine ok_get (pc := 4) hc fl_X6_136 dX6_undo_4 e3.1 e3.2 v3_2 ?_
  obtain ⟨r5, P⟩ := P
  refine zk_if_ne (pc := 7) (tgt := 20) hc dX6_undo_7 (by decide) r5 (fun c => ?_) (fun c => ?_)
  · have P := P.1 c
    exact P
  · have P := P.2 c
    exact ok_throw (pc := 10) hc hr th_ISE rfl (is := 137) (text := "the history is empty") (by decide) dX6_undo_10 dX6_undo_13 dX6_undo_14 dX6_undo_16 dX6_undo_19 (by decide) (by decide) (by decide) (by decide) P

set_option maxHeartbeats 4000000 in
set_option maxRecDepth 100000 in
theorem sX6_undo_20 {X : Xt} {n : Nat} {h : HP} {a0 : Nat} {fs1 : List Value} {q2 : Nat} {q3 : Nat} {fs4 : List Value} (hc : Cx X cX6_undo RX6 1 6 139) {K : KT} (hr : CxR X (some .int) K) (e1 : At h n a0 (.inl (6, fs1))) (z1 : fs1.length = 6) (v1_0 : fs1[0]? = some (.ref q2)) (v1_3 : fs1[3]? = some (.ref q3)) (e4 : At h n q3 (.inl (1, fs4))) (z4 : fs4.length = 3)
    (P : spec_X1_removeLatest [.ref q3] n h (kc X 1 6 28 [(0, .ref a0)] [.ref q2] n)) :
    Ok X 1 6 20 [(0, .ref a0)] [] n h := by
  refine ok_aload_n (pc := 20) hc dX6_undo_20 rfl 0 rfl ?_
  refine ok_get (pc := 21) hc fl_X6_10 dX6_undo_21 e1.1 e1.2 v1_0 ?_
  refine ok_aload_n (pc := 24) hc dX6_undo_24 rfl 0 rfl ?_
  refine ok_get (pc := 25) hc fl_X6_29 dX6_undo_25 e1.1 e1.2 v1_3 ?_
  exact ok_callV (pc := 28) (a := q3) (cb := 1) (sb := 6) (st := [.ref q2]) hc [] cv_X6_139 sp_X1_removeLatest (by decide) dX6_undo_28 rfl e4.1 e4.2 rfl rfl rfl (Nat.le_of_ble_eq_true rfl) P

set_option maxHeartbeats 4000000 in
set_option maxRecDepth 100000 in
theorem sX6_undo_31 {X : Xt} {n : Nat} {h : HP} {a0 : Nat} {ta0 : Nat} {ta1 : Nat} {fs1 : List Value} (hc : Cx X cX6_undo RX6 1 6 139) {K : KT} (hr : CxR X (some .int) K) (e1 : At h n ta1 (.inl (0, fs1))) (z1 : fs1.length = 8)
    (P : spec_X0_takeOver [.ref ta1, .ref ta0] n h (kc X 1 6 31 [(0, .ref a0)] [] n)) :
    Ok X 1 6 31 [(0, .ref a0)] [.ref ta0, .ref ta1] n h := by
  exact ok_callV (pc := 31) (a := ta1) (cb := 1) (sb := 6) (st := []) hc [.ref ta0] cv_X6_143 sp_X0_takeOver (by decide) dX6_undo_31 rfl e1.1 e1.2 rfl rfl rfl (Nat.le_of_ble_eq_true rfl) P

set_option maxHeartbeats 4000000 in
set_option maxRecDepth 100000 in
theorem sX6_undo_34 {X : Xt} {n : Nat} {h : HP} {a0 : Nat} {fs1 : List Value} {q2 : Nat} {fs3 : List Value} {iv4 : Int} (hc : Cx X cX6_undo RX6 1 6 139) {K : KT} (hr : CxR X (some .int) K) (e1 : At h n a0 (.inl (6, fs1))) (z1 : fs1.length = 6) (v1_3 : fs1[3]? = some (.ref q2)) (e3 : At h n q2 (.inl (1, fs3))) (z3 : fs3.length = 3) (v3_2 : fs3[2]? = some (.int (i3 iv4)))
    (P : K (.inl (some (.int (i3 iv4)))) n h) :
    Ok X 1 6 34 [(0, .ref a0)] [] n h := by
  refine ok_aload_n (pc := 34) hc dX6_undo_34 rfl 0 rfl ?_
  refine ok_get (pc := 35) hc fl_X6_29 dX6_undo_35 e1.1 e1.2 v1_3 ?_
  refine ok_get (pc := 38) hc fl_X6_136 dX6_undo_38 e3.1 e3.2 v3_2 ?_
  exact ok_iret (st := []) (pc := 41) hc hr dX6_undo_41 P

def opUndo (q : Dsk) : Dsk × (Int ⊕ String) := match q.2.1.getLast? with
  | none => (q, .inr eIS)
  | some S => ((S, q.2.1.dropLast, q.2.2), .inl ((q.2.1.length : Int) - 1))
def spec_X6_undo (args : List Value) (n : Nat) (h : HP) (K : KT) : Prop := ∃ (q : Dsk), args = [.ref 0] ∧ DkA h n q ∧ ∀ h', DkA h' n (opUndo q).1 → Fr h h' 0 127 → K (oV (opUndo q).2) n h'
theorem sp_X6_undo : Sp yX6_undo cX6_undo 1 (some .int) 6 139 1 6 spec_X6_undo := by
  refine sp_intro (by decide) (by rintro args n h K ⟨q, rfl, -⟩; exact Nat.le_of_ble_eq_true rfl) ?_
  rintro X args n h K hc hr ⟨⟨S, hist, im, kept, B⟩, rfl, hq, kk⟩
  have hq0 := hq
  obtain ⟨h0, hN, ⟨T, hT⟩, hI, hH, hM, hG⟩ := hq
  obtain ⟨A, F, D, N, sat, rsn, cul, G, hB⟩ := hN.obj
  obtain ⟨o, hHo⟩ := hH.obj
  have hl : hist.length ≤ 8 := by
    obtain ⟨o, ho, h1, -⟩ := hH
    exact h1
  unfold opUndo at kk
  simp only at kk
  rcases List.eq_nil_or_concat hist with e | ⟨hs, L, e⟩
  · subst e
    exact sX6_undo_0 hc hr h0 rfl rfl hHo rfl rfl ⟨R3_s (by show -1000000 ≤ ((0 : Nat) : Int) ∧ ((0 : Nat) : Int) ≤ 1000000; omega), fun c => absurd rfl c, fun _ => kk h hq0 Fr.rf⟩
  · have e' : hist = hs ++ [L] := by rw [e, List.concat_eq_append]
    clear e
    subst e'
    rw [List.length_append, List.length_singleton] at hl
    rw [List.getLast?_concat, List.dropLast_concat] at kk
    have el : (hs ++ [L]).length = hs.length + 1 := by rw [List.length_append, List.length_singleton]
    refine sX6_undo_0 hc hr h0 rfl rfl hHo rfl rfl ⟨R3_s (by rw [el]; omega), fun _ => ?_, fun c => absurd c (by rw [el]; omega)⟩
    have gL : GdS L := hG.2.1 L (by simp)
    refine sX6_undo_20 hc hr h0 rfl rfl rfl hHo rfl ⟨hs, L, rfl, hH, fun h1 b hH1 hL1 b1 b2 f1 => ⟨rfl, ?_⟩⟩
    have hB1 := hB.fr f1 (by omega)
    refine sX6_undo_31 hc hr hB1.1 rfl ⟨1, b, S, L, rfl, ⟨_, _, _, _, _, _, _, _, hB1⟩, hL1, by omega, gL.fit.1, gL.fit.2, fun h2 hA2 f2 => ⟨rfl, ?_⟩⟩
    have hH2 := hH1.fr f2 (by omega)
    obtain ⟨o2, hHo2⟩ := hH2.obj
    have kk := kk h2 ⟨(h0.fr f1 (by omega)).fr f2 (by omega), hA2, ⟨T, (hT.fr f1 (by omega)).fr f2 (by omega)⟩, (hI.fr f1 (by omega)).fr f2 (by omega), hH2, (hM.fr f1 (by omega)).fr f2 (by omega), gL, fun x hx => hG.2.1 x (List.mem_append_left _ hx), hG.2.2⟩ ((f1.sub (by omega) (by omega)).tr (f2.sub (by omega) (by omega)))
    rw [el, show ((hs.length + 1 : Nat) : Int) - 1 = (hs.length : Int) by omega] at kk
    exact sX6_undo_34 hc hr ((h0.fr f1 (by omega)).fr f2 (by omega)) rfl rfl hHo2 rfl rfl kk
set_option maxHeartbeats 4000000 in
set_option maxRecDepth 100000 in
theorem sX6_append_0 {X : Xt} {n : Nat} {h : HP} {a0 : Nat} {x1 : Int} {fs3 : List Value} {q4 : Nat} {fs5 : List Value} {iv6 : Int} {q8 : Nat} {len9 : Nat} {f9 : Nat → Int} (hc : Cx X cX6_append RX6 2 6 90) {K : KT} (hr : CxR X (some .int) K) (e3 : At h n a0 (.inl (6, fs3))) (z3 : fs3.length = 6) (v3_2 : fs3[2]? = some (.ref q4)) (e5 : At h n q4 (.inl (5, fs5))) (z5 : fs5.length = 9) (v5_2 : fs5[2]? = some (.int (i3 iv6))) (v5_0 : fs5[0]? = some (.ref q8)) (e9 : At h n q8 (ac len9 f9))
    (P : (R3 x1) ∧ (x1 < 32 → K (.inr "java/lang/IllegalArgumentException") n h) ∧ (¬ x1 < 32 → (R3 x1) ∧ (x1 ≤ 126 → (R3 iv6) ∧ (iv6 < 60 → (0 ≤ x1 ∧ x1 < 65536) ∧ (Ix iv6 len9) ∧ (0 ≤ x1 ∧ x1 < 65536) ∧ K (.inl (some (.int (i3 (iv6 + 1))))) n (va_up (va_up h q8 (ac len9 (va_up f9 (iv6 : Int).toNat x1))) q4 (.inl (5, (fs5.set 2 (.int (i3 (iv6 + 1)))))))) ∧ (¬ iv6 < 60 → K (.inr "java/lang/IllegalStateException") n h)) ∧ (¬ x1 ≤ 126 → K (.inr "java/lang/IllegalArgumentException") n h))) :
    Ok X 1 6 0 [(0, .ref a0), (1, .int (i3 x1))] [] n h := by
  refine ok_iload_n (pc := 0) hc dX6_append_0 rfl 1 rfl ?_
  refine ok_bipush (pc := 1) hc (v := i3 32) dX6_append_1 (by decide) ?_
  obtain ⟨r1, P⟩ := P
  refine zk_icmp_lt (pc := 3) (tgt := 12) hc dX6_append_3 (by decide) r1 ⟨by decide, by decide⟩ (fun c => ?_) (fun c => ?_)
  · have P := P.1 c
    exact ok_throw (pc := 12) hc hr th_IAE rfl (is := 161) (text := "the code is 32 to 126") (by decide) dX6_append_12 dX6_append_15 dX6_append_16 dX6_append_18 dX6_append_21 (by decide) (by decide) (by decide) (by decide) P
  · have P := P.2 c
    refine ok_iload_n (pc := 6) hc dX6_append_6 rfl 1 rfl ?_
    refine ok_bipush (pc := 7) hc (v := i3 126) dX6_append_7 (by decide) ?_
    obtain ⟨r2, P⟩ := P
    refine zk_icmp_le (pc := 9) (tgt := 22) hc dX6_append_9 (by decide) r2 ⟨by decide, by decide⟩ (fun c => ?_) (fun c => ?_)
    · have P := P.1 c
      refine ok_aload_n (pc := 22) hc dX6_append_22 rfl 0 rfl ?_
      refine ok_get (pc := 23) hc fl_X6_22 dX6_append_23 e3.1 e3.2 v3_2 ?_
      refine ok_get (pc := 26) hc fl_X6_95 dX6_append_26 e5.1 e5.2 v5_2 ?_
      refine ok_bipush (pc := 29) hc (v := i3 60) dX6_append_29 (by decide) ?_
      obtain ⟨r7, P⟩ := P
      refine zk_icmp_lt (pc := 31) (tgt := 44) hc dX6_append_31 (by decide) r7 ⟨by decide, by decide⟩ (fun c => ?_) (fun c => ?_)
      · have P := P.1 c
        refine ok_aload_n (pc := 44) hc dX6_append_44 rfl 0 rfl ?_
        refine ok_get (pc := 45) hc fl_X6_22 dX6_append_45 e3.1 e3.2 v3_2 ?_
        refine ok_get (pc := 48) hc fl_X6_165 dX6_append_48 e5.1 e5.2 v5_0 ?_
        refine ok_aload_n (pc := 51) hc dX6_append_51 rfl 0 rfl ?_
        refine ok_get (pc := 52) hc fl_X6_22 dX6_append_52 e3.1 e3.2 v3_2 ?_
        refine ok_get (pc := 55) hc fl_X6_95 dX6_append_55 e5.1 e5.2 v5_2 ?_
        refine ok_iload_n (pc := 58) hc dX6_append_58 rfl 1 rfl ?_
        obtain ⟨r, P⟩ := P
        refine zk_i2c (pc := 59) hc dX6_append_59 r ?_
        obtain ⟨r, P⟩ := P
        obtain ⟨r2, P⟩ := P
        refine zk_cast (pc := 60) hc dX6_append_60 e9.1 e9.2 r r2 ?_
        refine ok_aload_n (pc := 61) hc dX6_append_61 rfl 0 rfl ?_
        refine ok_get (pc := 62) hc fl_X6_22 dX6_append_62 e3.1 ((up_ne (ne_oa e3.2 e9.2)).trans e3.2) v3_2 ?_
        refine ok_dup (pc := 65) hc dX6_append_65 rfl ?_
        refine ok_get (pc := 66) hc fl_X6_95 dX6_append_66 e5.1 ((up_ne (ne_oa e5.2 e9.2)).trans e5.2) v5_2 ?_
        refine ok_iconst (pc := 69) hc (v := i3 1) dX6_append_69 (by decide) ?_
        refine zk_iadd (pc := 70) hc dX6_append_70 ?_
        refine ok_put (pc := 71) hc fl_X6_95 dX6_append_71 e5.1 ((up_ne (ne_oa e5.2 e9.2)).trans e5.2) (by simp [List.length_set, z5]) (fun _ => rfl) (fun _ => rfl) ?_
        refine ok_aload_n (pc := 74) hc dX6_append_74 rfl 0 rfl ?_
        refine ok_get (pc := 75) hc fl_X6_22 dX6_append_75 e3.1 ((up_ne (ne_oo e3.2 e5.2 (by decide))).trans ((up_ne (ne_oa e3.2 e9.2)).trans e3.2)) v3_2 ?_
        refine ok_get (pc := 78) hc fl_X6_95 dX6_append_78 e5.1 up_self (set_self (by simp [List.length_set, z5])) ?_
        exact ok_iret (st := []) (pc := 81) hc hr dX6_append_81 P
      · have P := P.2 c
        exact ok_throw (pc := 34) hc hr th_ISE rfl (is := 163) (text := "the buffer is full") (by decide) dX6_append_34 dX6_append_37 dX6_append_38 dX6_append_40 dX6_append_43 (by decide) (by decide) (by decide) (by decide) P
    · have P := P.2 c
      exact ok_throw (pc := 12) hc hr th_IAE rfl (is := 161) (text := "the code is 32 to 126") (by decide) dX6_append_12 dX6_append_15 dX6_append_16 dX6_append_18 dX6_append_21 (by decide) (by decide) (by decide) (by decide) P

set_option maxHeartbeats 4000000 in
set_option maxRecDepth 100000 in
theorem sX6_clearInput_0 {X : Xt} {n : Nat} {h : HP} {a0 : Nat} {fs1 : List Value} {q2 : Nat} {fs3 : List Value} {iv4 : Int} (hc : Cx X cX6_clearInput RX6 2 0 0) {K : KT} (hr : CxR X (some .int) K) (e1 : At h n a0 (.inl (6, fs1))) (z1 : fs1.length = 6) (v1_2 : fs1[2]? = some (.ref q2)) (e3 : At h n q2 (.inl (5, fs3))) (z3 : fs3.length = 9) (v3_2 : fs3[2]? = some (.int (i3 iv4)))
    (P : K (.inl (some (.int (i3 iv4)))) n (va_up h q2 (.inl (5, (fs3.set 2 (.int (i3 0))))))) :
    Ok X 0 0 0 [(0, .ref a0)] [] n h := by
  refine ok_aload_n (pc := 0) hc dX6_clearInput_0 rfl 0 rfl ?_
  refine ok_get (pc := 1) hc fl_X6_22 dX6_clearInput_1 e1.1 e1.2 v1_2 ?_
  refine ok_get (pc := 4) hc fl_X6_95 dX6_clearInput_4 e3.1 e3.2 v3_2 ?_
  refine ok_istore_n (pc := 7) hc (lv' := [(1, .int (i3 iv4)), (0, .ref a0)]) dX6_clearInput_7 rfl (by decide) rfl ?_
  refine ok_aload_n (pc := 8) hc dX6_clearInput_8 rfl 1 rfl ?_
  refine ok_get (pc := 9) hc fl_X6_22 dX6_clearInput_9 e1.1 e1.2 v1_2 ?_
  refine ok_iconst (pc := 12) hc (v := i3 0) dX6_clearInput_12 (by decide) ?_
  refine ok_put (pc := 13) hc fl_X6_95 dX6_clearInput_13 e3.1 e3.2 (by simp [List.length_set, z3]) (fun _ => rfl) (fun _ => rfl) ?_
  refine ok_iload_n (pc := 16) hc dX6_clearInput_16 rfl 0 rfl ?_
  exact ok_iret (st := []) (pc := 17) hc hr dX6_clearInput_17 P

set_option maxHeartbeats 4000000 in
set_option maxRecDepth 100000 in
theorem sX6_firstError_0 {X : Xt} {n : Nat} {h : HP} {a0 : Nat} {fs1 : List Value} {q2 : Nat} {fs3 : List Value} (hc : Cx X cX6_firstError RX6 1 4 87) {K : KT} (hr : CxR X (some .int) K) (e1 : At h n a0 (.inl (6, fs1))) (z1 : fs1.length = 6) (v1_2 : fs1[2]? = some (.ref q2)) (e3 : At h n q2 (.inl (5, fs3))) (z3 : fs3.length = 9)
    (P : spec_X5_read [.ref q2] n h (kc X 0 0 4 [(0, .ref a0)] [] n)) :
    Ok X 0 0 0 [(0, .ref a0)] [] n h := by
  refine ok_aload_n (pc := 0) hc dX6_firstError_0 rfl 0 rfl ?_
  refine ok_get (pc := 1) hc fl_X6_22 dX6_firstError_1 e1.1 e1.2 v1_2 ?_
  exact ok_callV (pc := 4) (a := q2) (cb := 0) (sb := 0) (st := []) hc [] cv_X6_169 sp_X5_read (by decide) dX6_firstError_4 rfl e3.1 e3.2 rfl rfl rfl (Nat.le_of_ble_eq_true rfl) P

set_option maxHeartbeats 4000000 in
set_option maxRecDepth 100000 in
theorem sX6_firstError_7 {X : Xt} {n : Nat} {h : HP} {a0 : Nat} {t0 : Int} (hc : Cx X cX6_firstError RX6 1 4 87) {K : KT} (hr : CxR X (some .int) K) 
    (P : K (.inl (some (.int (i3 t0)))) n h) :
    Ok X 0 0 7 [(0, .ref a0)] [.int (i3 t0)] n h := by
  exact ok_iret (st := []) (pc := 7) hc hr dX6_firstError_7 P

def opAppend (q : Dsk) (x : Int) : Dsk × (Int ⊕ String) := if ¬ (32 ≤ x ∧ x ≤ 126) then (q, .inr eIA) else if q.2.2.2.2.length < 60 then ((q.1, q.2.1, q.2.2.1, q.2.2.2.1, q.2.2.2.2 ++ [x]), .inl ((q.2.2.2.2.length : Int) + 1)) else (q, .inr eIS)
def spec_X6_append (args : List Value) (n : Nat) (h : HP) (K : KT) : Prop := ∃ (q : Dsk) (x : Int), args = [.ref 0, .int (i3 x)] ∧ R3 x ∧ DkA h n q ∧ ∀ h', DkA h' n (opAppend q x).1 → Fr h h' 0 127 → K (oV (opAppend q x).2) n h'
theorem sp_X6_append : Sp yX6_append cX6_append 2 (some .int) 6 90 1 6 spec_X6_append := by
  refine sp_intro (by decide) (by rintro args n h K ⟨q, x, rfl, -⟩; exact Nat.le_of_ble_eq_true rfl) ?_
  rintro X args n h K hc hr ⟨⟨S, hist, im, kept, B⟩, x, rfl, hx, hq, kk⟩
  have hq0 := hq
  obtain ⟨h0, hN, ⟨T, hT⟩, ⟨tx, hTx, ⟨rq, r1, r2, r3, r4⟩⟩, hH, hM, hG⟩ := hq
  unfold opAppend at kk
  simp only at kk
  have hl : B.length ≤ 60 := hTx.1
  have bad : ¬ (32 ≤ x ∧ x ≤ 126) → K (.inr eIA) n h := by
    intro c
    rw [if_pos c] at kk
    exact kk h hq0 Fr.rf
  refine sX6_append_0 (iv6 := (B.length : Int)) hc hr h0 rfl rfl r1 rfl rfl rfl r2 ⟨hx, fun c => bad (by omega), fun c => ⟨hx, fun c2 => ⟨R3_s (by omega), fun c3 => ⟨by omega, ⟨by omega, by omega, by omega⟩, by omega, ?_⟩, fun c3 => ?_⟩, fun c2 => bad (by omega)⟩⟩
  · rw [if_neg (by omega), if_pos (by omega)] at kk
    rw [Int.toNat_natCast]
    refine kk _ ⟨(h0.up (by omega)).up (by omega), (hN.fr (Fr.rf.up (c := 58) (lo := 57) (hi := 58) (by omega)) (by omega)).fr (Fr.rf.up (c := 57) (lo := 57) (hi := 58) (by omega)) (by omega), ⟨T, (hT.fr (Fr.rf.up (c := 58) (lo := 57) (hi := 58) (by omega)) (by omega)).fr (Fr.rf.up (c := 57) (lo := 57) (hi := 58) (by omega)) (by omega)⟩, ⟨va_up tx B.length x, ?_, ?_⟩, (hH.fr (Fr.rf.up (c := 58) (lo := 57) (hi := 58) (by omega)) (by omega)).fr (Fr.rf.up (c := 57) (lo := 57) (hi := 58) (by omega)) (by omega), (hM.fr (Fr.rf.up (c := 58) (lo := 57) (hi := 58) (by omega)) (by omega)).fr (Fr.rf.up (c := 57) (lo := 57) (hi := 58) (by omega)) (by omega), hG⟩ ((Fr.rf.up (by omega)).up (by omega))
    · refine ⟨by show (B ++ [x]).length ≤ 60; rw [List.length_append, List.length_singleton]; omega, fun j hj => ?_⟩
      have hj : j < (B ++ [x]).length := hj
      rw [List.length_append, List.length_singleton] at hj
      have hj2 : j < B.length + 1 := hj
      clear hj
      show (B ++ [x])[j]? = _ ∧ _
      by_cases z : j = B.length
      · subst z
        rw [up_self, List.getElem?_append_right (Nat.le_refl _), Nat.sub_self]
        exact ⟨rfl, by omega⟩
      · rw [up_ne z, List.getElem?_append_left (by omega)]
        exact hTx.2 j (show j < B.length by omega)
    · have el : ((B ++ [x]).length : Int) = (B.length : Int) + 1 := by rw [List.length_append, List.length_singleton]; omega
      show RdX _ n _ ((B ++ [x]).length : Int)
      rw [el]
      exact ⟨rq, (r1.up (by omega)).it, r2.it.up (by omega), (r3.up (by omega)).up (by omega), (r4.fr (Fr.rf.up (c := 58) (lo := 57) (hi := 58) (by omega)) (by omega)).fr (Fr.rf.up (c := 57) (lo := 57) (hi := 58) (by omega)) (by omega)⟩
  · rw [if_neg (by omega), if_neg (by omega)] at kk
    exact kk h hq0 Fr.rf
def opClear (q : Dsk) : Dsk := (q.1, q.2.1, q.2.2.1, q.2.2.2.1, [])
theorem InA.clear {h : HP} {n : Nat} {B : List Int} (p : InA h n B) : ∃ (tx : Nat → Int) (rq : RdQ), TxB tx B ∧ At h n 57 (.inl (5, [.ref 58, .ref 59, .int (i3 B.length), .int (i3 rq.1), .ref 64, .int (i3 rq.2.1), .int (i3 rq.2.2.1), .int (i3 rq.2.2.2.1), .int (i3 rq.2.2.2.2.1)])) ∧ InA (va_up h 57 (.inl (5, [.ref 58, .ref 59, .int (i3 0), .int (i3 rq.1), .ref 64, .int (i3 rq.2.1), .int (i3 rq.2.2.1), .int (i3 rq.2.2.2.1), .int (i3 rq.2.2.2.2.1)]))) n [] := by
  obtain ⟨tx, hTx, ⟨rq, r1, r2, r3, r4⟩⟩ := p
  refine ⟨tx, rq, hTx, r1, tx, ⟨Nat.zero_le _, fun j hj => absurd hj (Nat.not_lt_zero j)⟩, rq, r1.it, r2.up (by omega), r3.up (by omega), r4.fr (Fr.rf.up (c := 57) (lo := 57) (hi := 57) (by omega)) (by omega)⟩
def spec_X6_clearInput (args : List Value) (n : Nat) (h : HP) (K : KT) : Prop := ∃ (q : Dsk), args = [.ref 0] ∧ DkA h n q ∧ ∀ h', DkA h' n (opClear q) → Fr h h' 0 127 → K (.inl (some (.int (i3 q.2.2.2.2.length)))) n h'
theorem sp_X6_clearInput : Sp yX6_clearInput cX6_clearInput 2 (some .int) 0 0 0 0 spec_X6_clearInput := by
  refine sp_intro (by decide) (by rintro args n h K ⟨q, rfl, -⟩; exact Nat.le_of_ble_eq_true rfl) ?_
  rintro X args n h K hc hr ⟨⟨S, hist, im, kept, B⟩, rfl, ⟨h0, hN, ⟨T, hT⟩, hI, hH, hM, hG⟩, kk⟩
  obtain ⟨tx, rq, hTx, r1, hI2⟩ := hI.clear
  have hl := hTx.1
  refine sX6_clearInput_0 hc hr h0 rfl rfl r1 rfl rfl (kk _ ⟨h0.up (by omega), hN.fr (Fr.rf.up (c := 57) (lo := 57) (hi := 57) (by omega)) (by omega), ⟨T, hT.fr (Fr.rf.up (c := 57) (lo := 57) (hi := 57) (by omega)) (by omega)⟩, hI2, hH.fr (Fr.rf.up (c := 57) (lo := 57) (hi := 57) (by omega)) (by omega), hM.fr (Fr.rf.up (c := 57) (lo := 57) (hi := 57) (by omega)) (by omega), hG⟩ (Fr.rf.up (by omega)))
/-- the place of the text's first sign that can't stand there -/
def ferr (B : List Int) : Nat := (rrun (q0R (fun _ => 0) [] (-1)) B).1
def spec_X6_firstError (args : List Value) (n : Nat) (h : HP) (K : KT) : Prop := ∃ (q : Dsk), args = [.ref 0] ∧ DkA h n q ∧ ∀ h', DkA h' n q → Fr h h' 0 127 → K (.inl (some (.int (i3 (ferr q.2.2.2.2))))) n h'
theorem sp_X6_firstError : Sp yX6_firstError cX6_firstError 1 (some .int) 4 87 0 0 spec_X6_firstError := by
  refine sp_intro (by decide) (by rintro args n h K ⟨q, rfl, -⟩; exact Nat.le_of_ble_eq_true rfl) ?_
  rintro X args n h K hc hr ⟨⟨S, hist, im, kept, B⟩, rfl, ⟨h0, hN, ⟨T, hT⟩, ⟨tx, hTx, hX⟩, hH, hM, hG⟩, kk⟩
  obtain ⟨rq, r1, -⟩ := id hX
  refine sX6_firstError_0 hc hr h0 rfl rfl r1 rfl ⟨tx, B, rfl, hTx, hX, fun h1 D hX1 f1 _ => ⟨rfl, sX6_firstError_7 hc hr ?_⟩⟩
  have e := (RdRel.run (B := B) (q := q0R D [] (-1)) (q' := q0R (fun _ => 0) [] (-1)) ⟨rfl, rfl, rfl, rfl, rfl, rfl, fun _ j hj => absurd hj (by show ¬ ((j : Int) < 0); omega)⟩).1
  rw [← e]
  exact kk h1 ⟨h0.fr f1 (by omega), hN.fr f1 (by omega), ⟨T, hT.fr f1 (by omega)⟩, ⟨tx, hTx, hX1⟩, hH.fr f1 (by omega), hM.fr f1 (by omega), hG⟩ (f1.sub (by omega) (by omega))
