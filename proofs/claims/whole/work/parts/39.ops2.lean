/-! part 39: the desk: drop, undo, keep, back, append, clearInput, firstError -/
set_option maxHeartbeats 4000000 in
set_option maxRecDepth 100000 in
theorem sX6_drop_0 {X : Xt} {n : Nat} {h : HP} {a0 : Nat} {x1 : Int} {fs1 : List Value} (hc : Cx X cX6_drop RX6 2 7 138) {K : KT} (hr : CxR X (some .int) K) (e1 : At h n a0 (.inl (6, fs1))) (z1 : fs1.length = 6)
    (P : spec_X6_requirePart [.ref a0, .int (i3 x1)] n h (kc X 0 0 2 [(0, .ref a0), (1, .int (i3 x1))] [] n)) :
    Ok X 1 6 0 [(0, .ref a0), (1, .int (i3 x1))] [] n h := by
  refine ok_aload_n (pc := 0) hc dX6_drop_0 rfl 0 rfl ?_
  refine ok_iload_n (pc := 1) hc dX6_drop_1 rfl 1 rfl ?_
  exact ok_callV (pc := 2) (a := a0) (cb := 0) (sb := 0) (st := []) hc [.int (i3 x1)] cv_X6_111 sp_X6_requirePart (by decide) dX6_drop_2 rfl e1.1 e1.2 rfl rfl rfl (Nat.le_of_ble_eq_true rfl) P

set_option maxHeartbeats 4000000 in
set_option maxRecDepth 100000 in
theorem sX6_drop_5 {X : Xt} {n : Nat} {h : HP} {a0 : Nat} {x1 : Int} {fs1 : List Value} {q2 : Nat} {q3 : Nat} {fs4 : List Value} {q5 : Nat} {fs6 : List Value} (hc : Cx X cX6_drop RX6 2 7 138) {K : KT} (hr : CxR X (some .int) K) (e1 : At h n a0 (.inl (6, fs1))) (z1 : fs1.length = 6) (v1_3 : fs1[3]? = some (.ref q2)) (v1_0 : fs1[0]? = some (.ref q3)) (e4 : At h n q3 (.inl (0, fs4))) (z4 : fs4.length = 8) (v4_0 : fs4[0]? = some (.ref q5)) (e6 : At h n q2 (.inl (1, fs6))) (z6 : fs6.length = 3)
    (P : spec_X1_record [.ref q2, .ref q5] n h (kc X 0 0 16 [(0, .ref a0), (1, .int (i3 x1))] [] n)) :
    Ok X 0 0 5 [(0, .ref a0), (1, .int (i3 x1))] [] n h := by
  refine ok_aload_n (pc := 5) hc dX6_drop_5 rfl 0 rfl ?_
  refine ok_get (pc := 6) hc fl_X6_29 dX6_drop_6 e1.1 e1.2 v1_3 ?_
  refine ok_aload_n (pc := 9) hc dX6_drop_9 rfl 0 rfl ?_
  refine ok_get (pc := 10) hc fl_X6_10 dX6_drop_10 e1.1 e1.2 v1_0 ?_
  refine ok_get (pc := 13) hc fl_X6_43 dX6_drop_13 e4.1 e4.2 v4_0 ?_
  exact ok_callV (pc := 16) (a := q2) (cb := 0) (sb := 0) (st := []) hc [.ref q5] cv_X6_57 sp_X1_record (by decide) dX6_drop_16 rfl e6.1 e6.2 rfl rfl rfl (Nat.le_of_ble_eq_true rfl) P

set_option maxHeartbeats 4000000 in
set_option maxRecDepth 100000 in
theorem sX6_drop_19 {X : Xt} {n : Nat} {h : HP} {a0 : Nat} {x1 : Int} {fs1 : List Value} {q2 : Nat} {fs3 : List Value} {q4 : Nat} {fs5 : List Value} (hc : Cx X cX6_drop RX6 2 7 138) {K : KT} (hr : CxR X (some .int) K) (e1 : At h n a0 (.inl (6, fs1))) (z1 : fs1.length = 6) (v1_0 : fs1[0]? = some (.ref q2)) (e3 : At h n q2 (.inl (0, fs3))) (z3 : fs3.length = 8) (v3_0 : fs3[0]? = some (.ref q4)) (e5 : At h n q4 (.inl (4, fs5))) (z5 : fs5.length = 4)
    (P : spec_X4_remove [.ref q4, .int (i3 x1)] n h (kc X 0 0 27 [(0, .ref a0), (1, .int (i3 x1))] [] n)) :
    Ok X 0 0 19 [(0, .ref a0), (1, .int (i3 x1))] [] n h := by
  refine ok_aload_n (pc := 19) hc dX6_drop_19 rfl 0 rfl ?_
  refine ok_get (pc := 20) hc fl_X6_10 dX6_drop_20 e1.1 e1.2 v1_0 ?_
  refine ok_get (pc := 23) hc fl_X6_43 dX6_drop_23 e3.1 e3.2 v3_0 ?_
  refine ok_iload_n (pc := 26) hc dX6_drop_26 rfl 1 rfl ?_
  exact ok_callV (pc := 27) (a := q4) (cb := 0) (sb := 0) (st := []) hc [.int (i3 x1)] cv_X6_115 sp_X4_remove (by decide) dX6_drop_27 rfl e5.1 e5.2 rfl rfl rfl (Nat.le_of_ble_eq_true rfl) P

set_option maxHeartbeats 4000000 in
set_option maxRecDepth 100000 in
theorem sX6_drop_30 {X : Xt} {n : Nat} {h : HP} {a0 : Nat} {x1 : Int} {fs1 : List Value} {q2 : Nat} {fs3 : List Value} (hc : Cx X cX6_drop RX6 2 7 138) {K : KT} (hr : CxR X (some .int) K) (e1 : At h n a0 (.inl (6, fs1))) (z1 : fs1.length = 6) (v1_0 : fs1[0]? = some (.ref q2)) (e3 : At h n q2 (.inl (0, fs3))) (z3 : fs3.length = 8)
    (P : spec_X0_solve [.ref q2] n h (kc X 0 0 34 [(0, .ref a0), (1, .int (i3 x1))] [] n)) :
    Ok X 0 0 30 [(0, .ref a0), (1, .int (i3 x1))] [] n h := by
  refine ok_aload_n (pc := 30) hc dX6_drop_30 rfl 0 rfl ?_
  refine ok_get (pc := 31) hc fl_X6_10 dX6_drop_31 e1.1 e1.2 v1_0 ?_
  exact ok_callV (pc := 34) (a := q2) (cb := 0) (sb := 0) (st := []) hc [] cv_X6_40 sp_X0_solve (by decide) dX6_drop_34 rfl e3.1 e3.2 rfl rfl rfl (Nat.le_of_ble_eq_true rfl) P

set_option maxHeartbeats 4000000 in
set_option maxRecDepth 100000 in
theorem sX6_drop_37 {X : Xt} {n : Nat} {h : HP} {a0 : Nat} {x1 : Int} {fs1 : List Value} {q2 : Nat} {fs3 : List Value} (hc : Cx X cX6_drop RX6 2 7 138) {K : KT} (hr : CxR X (some .int) K) (e1 : At h n a0 (.inl (6, fs1))) (z1 : fs1.length = 6) (v1_0 : fs1[0]? = some (.ref q2)) (e3 : At h n q2 (.inl (0, fs3))) (z3 : fs3.length = 8)
    (P : spec_X0_settle [.ref q2] n h (kc X 0 0 41 [(0, .ref a0), (1, .int (i3 x1))] [] n)) :
    Ok X 0 0 37 [(0, .ref a0), (1, .int (i3 x1))] [] n h := by
  refine ok_aload_n (pc := 37) hc dX6_drop_37 rfl 0 rfl ?_
  refine ok_get (pc := 38) hc fl_X6_10 dX6_drop_38 e1.1 e1.2 v1_0 ?_
  exact ok_callV (pc := 41) (a := q2) (cb := 0) (sb := 0) (st := []) hc [] cv_X6_64 sp_X0_settle (by decide) dX6_drop_41 rfl e3.1 e3.2 rfl rfl rfl (Nat.le_of_ble_eq_true rfl) P

set_option maxHeartbeats 4000000 in
set_option maxRecDepth 100000 in
theorem sX6_drop_44 {X : Xt} {n : Nat} {h : HP} {a0 : Nat} {x1 : Int} {fs1 : List Value} {q2 : Nat} {fs3 : List Value} {q4 : Nat} {fs5 : List Value} {q6 : Nat} {fs7 : List Value} {iv8 : Int} (hc : Cx X cX6_drop RX6 2 7 138) {K : KT} (hr : CxR X (some .int) K) (e1 : At h n a0 (.inl (6, fs1))) (z1 : fs1.length = 6) (v1_0 : fs1[0]? = some (.ref q2)) (e3 : At h n q2 (.inl (0, fs3))) (z3 : fs3.length = 8) (v3_0 : fs3[0]? = some (.ref q4)) (e5 : At h n q4 (.inl (4, fs5))) (z5 : fs5.length = 4) (v5_0 : fs5[0]? = some (.ref q6)) (e7 : At h n q6 (.inl (2, fs7))) (z7 : fs7.length = 5) (v7_4 : fs7[4]? = some (.int (i3 iv8)))
    (P : K (.inl (some (.int (i3 iv8)))) n h) :
    Ok X 0 0 44 [(0, .ref a0), (1, .int (i3 x1))] [] n h := by
  refine ok_aload_n (pc := 44) hc dX6_drop_44 rfl 0 rfl ?_
  refine ok_get (pc := 45) hc fl_X6_10 dX6_drop_45 e1.1 e1.2 v1_0 ?_
  refine ok_get (pc := 48) hc fl_X6_43 dX6_drop_48 e3.1 e3.2 v3_0 ?_
  refine ok_get (pc := 51) hc fl_X6_47 dX6_drop_51 e5.1 e5.2 v5_0 ?_
  refine ok_get (pc := 54) hc fl_X6_51 dX6_drop_54 e7.1 e7.2 v7_4 ?_
  exact ok_iret (st := []) (pc := 57) hc hr dX6_drop_57 P

def prt (ps : List Part) (x : Int) : Option Part := if x < 0 then none else ps[x.toNat]?
theorem prt_some {ps : List Part} {x : Int} {p : Part} (h : prt ps x = some p) : (0 ≤ x ∧ x < ps.length) ∧ ps[x.toNat]? = some p := by
  unfold prt at h
  split at h
  · cases h
  · have := (List.getElem?_eq_some_iff.mp h).1
    exact ⟨⟨by omega, by omega⟩, h⟩
theorem prt_none {ps : List Part} {x : Int} (h : prt ps x = none) : ¬ (0 ≤ x ∧ x < ps.length) := by
  unfold prt at h
  split at h
  · omega
  · have := List.getElem?_eq_none_iff.mp h
    omega
def opDrop (q : Dsk) (x : Int) : Dsk × (Int ⊕ String) := match prt q.1.1 x with
  | none => (q, .inr eIO)
  | some p => ((setS (remS q.1 x.toNat p), pushH q.2.1 q.1, q.2.2), .inl ((q.1.1.length : Int) - 1))
def spec_X6_drop (args : List Value) (n : Nat) (h : HP) (K : KT) : Prop := ∃ (q : Dsk) (x : Int), args = [.ref 0, .int (i3 x)] ∧ R3 x ∧ DkA h n q ∧ ∀ h', DkA h' n (opDrop q x).1 → Fr h h' 0 127 → K (oV (opDrop q x).2) n h'
theorem setS_1 (S : Stt) : (setS S).1 = S.1 := by
  unfold setS
  split
  · rfl
  · split <;> rfl
theorem sp_X6_drop : Sp yX6_drop cX6_drop 2 (some .int) 7 138 1 6 spec_X6_drop := by
  refine sp_intro (by decide) (by rintro args n h K ⟨q, x, rfl, -⟩; exact Nat.le_of_ble_eq_true rfl) ?_
  rintro X args n h K hc hr ⟨⟨S, hist, im, kept, B⟩, x, rfl, hx, hq, kk⟩
  have hq0 := hq
  obtain ⟨h0, hN, ⟨T, hT⟩, hI, hH, hM, hG⟩ := hq
  obtain ⟨A, F, D, N, sat, rsn, cul, G, hB⟩ := hN.obj
  obtain ⟨o, hHo⟩ := hH.obj
  unfold opDrop at kk
  simp only at kk
  cases hp : prt S.1 x with
  | none =>
    rw [hp] at kk
    exact sX6_drop_0 hc hr h0 rfl ⟨_, x, rfl, hx, hq0, fun c => absurd c (prt_none hp), fun _ => ⟨rfl, okT_out hc hr (kk h hq0 Fr.rf)⟩⟩
  | some p =>
    rw [hp] at kk
    obtain ⟨hr1, hp1⟩ := prt_some hp
    refine sX6_drop_0 hc hr h0 rfl ⟨_, x, rfl, hx, hq0, fun _ => ⟨rfl, ?_⟩, fun c => absurd hr1 c⟩
    refine sX6_drop_5 hc hr h0 rfl rfl rfl hB.1 rfl rfl hHo rfl ⟨2, hist, S, rfl, hH, hB.2.1, by omega, fun h1 hH1 f1 => ⟨rfl, ?_⟩⟩
    have hB1 := hB.fr f1 (by omega)
    refine sX6_drop_19 hc hr (h0.fr f1 (by omega)) rfl rfl hB1.1 rfl rfl hB1.2.1.1 rfl ⟨2, x.toNat, S, p, by rw [Int.toNat_of_nonneg hr1.1], hB1.2.1, hp1, hG.1.1.2.1, fun h2 hS2 f2 => ⟨rfl, ?_⟩⟩
    have hB2 : BnC h2 n 1 (remS S x.toNat p) A F D N sat rsn cul G := ⟨hB1.1.fr f2 (by omega), hS2, hB1.2.2.1.fr f2 (by omega), hB1.2.2.2.1.fr f2 (by omega), hB1.2.2.2.2.fr f2 (by omega)⟩
    have g2 : GdS (remS S x.toNat p) := hG.1.rem hp1
    refine sX6_drop_30 hc hr ((h0.fr f1 (by omega)).fr f2 (by omega)) rfl rfl hB2.1 rfl ⟨1, _, rfl, ⟨_, _, _, _, _, _, _, _, hB2⟩, g2.fit.1, g2.fit.2, fun h3 hA3 f3 => ⟨rfl, ?_⟩⟩
    obtain ⟨_, _, _, _, _, _, _, _, hB3⟩ := hA3.obj
    refine sX6_drop_37 hc hr (((h0.fr f1 (by omega)).fr f2 (by omega)).fr f3 (by omega)) rfl rfl hB3.1 rfl ⟨1, _, rfl, hA3, fun h4 hA4 f4 => ⟨rfl, ?_⟩⟩
    obtain ⟨_, _, _, _, _, _, _, _, hB4⟩ := hA4.obj
    have f14 : Fr h1 h4 1 28 := ((f2.sub (by omega) (by omega)).tr f3).tr f4
    have el : ((setS (remS S x.toNat p)).1.length : Int) = (S.1.length : Int) - 1 := by
      rw [setS_1]
      show ((S.1.eraseIdx x.toNat).length : Int) = _
      rw [List.length_eraseIdx, if_pos (by omega)]
      omega
    refine sX6_drop_44 hc hr ((h0.fr f1 (by omega)).fr f14 (by omega)) rfl rfl hB4.1 rfl rfl hB4.2.1.1 rfl rfl hB4.2.1.2.1.obj rfl rfl ?_
    rw [el]
    refine kk h4 ?_ ?_
    · exact ⟨(h0.fr f1 (by omega)).fr f14 (by omega), hA4, ⟨T, (hT.fr f1 (by omega)).fr f14 (by omega)⟩, (hI.fr f1 (by omega)).fr f14 (by omega), hH1.fr f14 (by omega), (hM.fr f1 (by omega)).fr f14 (by omega), g2.set, gd_push hG.2.1 hG.1, hG.2.2⟩
    · exact (f1.sub (by omega) (by omega)).tr (f14.sub (by omega) (by omega))
set_option maxHeartbeats 4000000 in
set_option maxRecDepth 100000 in
theorem sX6_keep_0 {X : Xt} {n : Nat} {h : HP} {a0 : Nat} {x1 : Int} {fs1 : List Value} (hc : Cx X cX6_keep RX6 2 7 111) {K : KT} (hr : CxR X (some .int) K) (e1 : At h n a0 (.inl (6, fs1))) (z1 : fs1.length = 6)
    (P : spec_X6_requireImage [.ref a0, .int (i3 x1)] n h (kc X 0 0 2 [(0, .ref a0), (1, .int (i3 x1))] [] n)) :
    Ok X 1 6 0 [(0, .ref a0), (1, .int (i3 x1))] [] n h := by
  refine ok_aload_n (pc := 0) hc dX6_keep_0 rfl 0 rfl ?_
  refine ok_iload_n (pc := 1) hc dX6_keep_1 rfl 1 rfl ?_
  exact ok_callV (pc := 2) (a := a0) (cb := 0) (sb := 0) (st := []) hc [.int (i3 x1)] cv_X6_146 sp_X6_requireImage (by decide) dX6_keep_2 rfl e1.1 e1.2 rfl rfl rfl (Nat.le_of_ble_eq_true rfl) P

set_option maxHeartbeats 4000000 in
set_option maxRecDepth 100000 in
theorem sX6_keep_5 {X : Xt} {n : Nat} {h : HP} {a0 : Nat} {x1 : Int} {fs1 : List Value} {q2 : Nat} {len3 : Nat} {f3 : Nat → Option Nat} {q4 : Nat} {q6 : Nat} {fs7 : List Value} {q8 : Nat} {fs9 : List Value} (hc : Cx X cX6_keep RX6 2 7 111) {K : KT} (hr : CxR X (some .int) K) (e1 : At h n a0 (.inl (6, fs1))) (z1 : fs1.length = 6) (v1_4 : fs1[4]? = some (.ref q2)) (e3 : At h n q2 (.inr (3, len3, .inr (.inr f3)))) (g5 : (f3 (x1 : Int).toNat) = some q4) (v1_0 : fs1[0]? = some (.ref q6)) (e7 : At h n q6 (.inl (0, fs7))) (z7 : fs7.length = 8) (v7_0 : fs7[0]? = some (.ref q8)) (e9 : At h n q4 (.inl (4, fs9))) (z9 : fs9.length = 4)
    (P : (Ix x1 len3) ∧ spec_X4_copyFrom [.ref q4, .ref q8] n h (kc X 0 0 18 [(0, .ref a0), (1, .int (i3 x1))] [] n)) :
    Ok X 0 0 5 [(0, .ref a0), (1, .int (i3 x1))] [] n h := by
  refine ok_aload_n (pc := 5) hc dX6_keep_5 rfl 0 rfl ?_
  refine ok_get (pc := 6) hc fl_X6_35 dX6_keep_6 e1.1 e1.2 v1_4 ?_
  refine ok_iload_n (pc := 9) hc dX6_keep_9 rfl 1 rfl ?_
  obtain ⟨r, P⟩ := P
  refine zk_aald (pc := 10) hc dX6_keep_10 e3.1 e3.2 rfl r g5 ?_
  refine ok_aload_n (pc := 11) hc dX6_keep_11 rfl 0 rfl ?_
  refine ok_get (pc := 12) hc fl_X6_10 dX6_keep_12 e1.1 e1.2 v1_0 ?_
  refine ok_get (pc := 15) hc fl_X6_43 dX6_keep_15 e7.1 e7.2 v7_0 ?_
  exact ok_callV (pc := 18) (a := q4) (cb := 0) (sb := 0) (st := []) hc [.ref q8] cv_X6_149 sp_X4_copyFrom (by decide) dX6_keep_18 rfl e9.1 e9.2 rfl rfl rfl (Nat.le_of_ble_eq_true rfl) P

set_option maxHeartbeats 4000000 in
set_option maxRecDepth 100000 in
theorem sX6_keep_21 {X : Xt} {n : Nat} {h : HP} {a0 : Nat} {x1 : Int} {fs1 : List Value} {iv2 : Int} {q3 : Nat} {fs4 : List Value} {q5 : Nat} {fs6 : List Value} {q7 : Nat} {fs8 : List Value} {iv9 : Int} (hc : Cx X cX6_keep RX6 2 7 111) {K : KT} (hr : CxR X (some .int) K) (e1 : At h n a0 (.inl (6, fs1))) (z1 : fs1.length = 6) (v1_5 : fs1[5]? = some (.int (i3 iv2))) (v1_0 : fs1[0]? = some (.ref q3)) (e4 : At h n q3 (.inl (0, fs4))) (z4 : fs4.length = 8) (v4_0 : fs4[0]? = some (.ref q5)) (e6 : At h n q5 (.inl (4, fs6))) (z6 : fs6.length = 4) (v6_0 : fs6[0]? = some (.ref q7)) (e8 : At h n q7 (.inl (2, fs8))) (z8 : fs8.length = 5) (v8_4 : fs8[4]? = some (.int (i3 iv9)))
    (P : K (.inl (some (.int (i3 iv9)))) n (va_up h a0 (.inl (6, (fs1.set 5 (.int (i3 (bor iv2 (bshl 1 x1))))))))) :
    Ok X 0 0 21 [(0, .ref a0), (1, .int (i3 x1))] [] n h := by
  refine ok_aload_n (pc := 21) hc dX6_keep_21 rfl 0 rfl ?_
  refine ok_dup (pc := 22) hc dX6_keep_22 rfl ?_
  refine ok_get (pc := 23) hc fl_X6_152 dX6_keep_23 e1.1 e1.2 v1_5 ?_
  refine ok_iconst (pc := 26) hc (v := i3 1) dX6_keep_26 (by decide) ?_
  refine ok_iload_n (pc := 27) hc dX6_keep_27 rfl 1 rfl ?_
  refine zk_ishl (pc := 28) hc dX6_keep_28 ?_
  refine zk_ior (pc := 29) hc dX6_keep_29 ?_
  refine ok_put (pc := 30) hc fl_X6_152 dX6_keep_30 e1.1 e1.2 (by simp [List.length_set, z1]) (fun _ => rfl) (fun _ => rfl) ?_
  refine ok_aload_n (pc := 33) hc dX6_keep_33 rfl 0 rfl ?_
  refine ok_get (pc := 34) hc fl_X6_10 dX6_keep_34 e1.1 up_self ((set_ne (by decide)).trans v1_0) ?_
  refine ok_get (pc := 37) hc fl_X6_43 dX6_keep_37 e4.1 ((up_ne (ne_oo e4.2 e1.2 (by decide))).trans e4.2) v4_0 ?_
  refine ok_get (pc := 40) hc fl_X6_47 dX6_keep_40 e6.1 ((up_ne (ne_oo e6.2 e1.2 (by decide))).trans e6.2) v6_0 ?_
  refine ok_get (pc := 43) hc fl_X6_51 dX6_keep_43 e8.1 ((up_ne (ne_oo e8.2 e1.2 (by decide))).trans e8.2) v8_4 ?_
  exact ok_iret (st := []) (pc := 46) hc hr dX6_keep_46 P

def opKeep (q : Dsk) (x : Int) : Dsk × (Int ⊕ String) := if 0 ≤ x ∧ x < 2 then ((q.1, q.2.1, va_up q.2.2.1 x.toNat q.1, bor q.2.2.2.1 (bshl 1 x), q.2.2.2.2), .inl q.1.1.length) else (q, .inr eIO)
def spec_X6_keep (args : List Value) (n : Nat) (h : HP) (K : KT) : Prop := ∃ (q : Dsk) (x : Int), args = [.ref 0, .int (i3 x)] ∧ R3 x ∧ DkA h n q ∧ ∀ h', DkA h' n (opKeep q x).1 → Fr h h' 0 127 → K (oV (opKeep q x).2) n h'
theorem kp_r : ∀ m < 4, ∀ k < 2, 0 ≤ bor (m : Nat) (bshl 1 (k : Nat)) ∧ bor (m : Nat) (bshl 1 (k : Nat)) ≤ 3 := by decide +kernel
theorem sp_X6_keep : Sp yX6_keep cX6_keep 2 (some .int) 7 111 1 6 spec_X6_keep := by
  refine sp_intro (by decide) (by rintro args n h K ⟨q, x, rfl, -⟩; exact Nat.le_of_ble_eq_true rfl) ?_
  rintro X args n h K hc hr ⟨⟨S, hist, im, kept, B⟩, x, rfl, hx, hq, kk⟩
  have hq0 := hq
  obtain ⟨h0, hN, ⟨T, hT⟩, hI, hH, hM, hG⟩ := hq
  obtain ⟨A, F, D, N, sat, rsn, cul, G, hB⟩ := hN.obj
  unfold opKeep at kk
  refine sX6_keep_0 hc hr h0 rfl ⟨x, rfl, hx, fun c => ⟨rfl, ?_⟩, fun c => ?_⟩
  · rw [if_pos c] at kk
    have eg : (fun j => if j < 2 then some (116 + 6 * j) else none) x.toNat = some (116 + 6 * x.toNat) := if_pos (by omega)
    refine sX6_keep_5 hc hr h0 rfl rfl hM.1 eg rfl hB.1 rfl rfl (hM.2 x.toNat (by omega)).1 rfl ⟨⟨by omega, by omega, by omega⟩, 116 + 6 * x.toNat, 2, im x.toNat, S, rfl, hM.2 x.toNat (by omega), hB.2.1, by omega, fun h1 hS1 f1 => ⟨rfl, ?_⟩⟩
    have hB1 := hB.fr f1 (by omega)
    refine sX6_keep_21 hc hr (h0.fr f1 (by omega)) rfl rfl rfl hB1.1 rfl rfl hB1.2.1.1 rfl rfl hB1.2.1.2.1.obj rfl rfl (kk _ ?_ ((f1.sub (by omega) (by omega)).up (by omega)))
    have hk := hG.2.2.2
    have hkr := kp_r kept.toNat (by have := hk.2; simp only at this; omega) x.toNat (by omega)
    have ek : ((kept.toNat : Nat) : Int) = kept := Int.toNat_of_nonneg hk.1
    rw [ek, Int.toNat_of_nonneg c.1] at hkr
    have fz : Fr h1 (va_up h1 0 (.inl (6, [.ref 1, .ref 29, .ref 57, .ref 65, .ref 115, .int (i3 (bor kept (bshl 1 x)))]))) 0 0 := Fr.rf.up (by omega)
    refine ⟨(h0.fr f1 (by omega)).it, (hN.fr f1 (by omega)).fr fz (by omega), ⟨T, (hT.fr f1 (by omega)).fr fz (by omega)⟩, (hI.fr f1 (by omega)).fr fz (by omega), (hH.fr f1 (by omega)).fr fz (by omega), ⟨(hM.1.fr f1 (by omega)).fr fz (by omega), fun j hj => ?_⟩, hG.1, hG.2.1, fun j hj => ?_, hkr⟩
    · by_cases z : j = x.toNat
      · subst z
        show StA _ n _ (va_up im x.toNat S x.toNat)
        rw [up_self]
        exact hS1.fr fz (by omega)
      · show StA _ n _ (va_up im x.toNat S j)
        rw [up_ne z]
        exact ((hM.2 j hj).fr f1 (by omega)).fr fz (by omega)
    · show GdS (va_up im x.toNat S j)
      by_cases z : j = x.toNat
      · subst z
        rw [up_self]
        exact hG.1
      · rw [up_ne z]
        exact hG.2.2.1 j hj
  · rw [if_neg c] at kk
    exact ⟨rfl, okT_out hc hr (kk h hq0 Fr.rf)⟩
set_option maxHeartbeats 4000000 in
set_option maxRecDepth 100000 in
theorem sX6_back_0 {X : Xt} {n : Nat} {h : HP} {a0 : Nat} {x1 : Int} {fs1 : List Value} (hc : Cx X cX6_back RX6 2 7 139) {K : KT} (hr : CxR X (some .int) K) (e1 : At h n a0 (.inl (6, fs1))) (z1 : fs1.length = 6)
    (P : spec_X6_requireImage [.ref a0, .int (i3 x1)] n h (kc X 1 6 2 [(0, .ref a0), (1, .int (i3 x1))] [] n)) :
    Ok X 2 12 0 [(0, .ref a0), (1, .int (i3 x1))] [] n h := by
  refine ok_aload_n (pc := 0) hc dX6_back_0 rfl 0 rfl ?_
  refine ok_iload_n (pc := 1) hc dX6_back_1 rfl 1 rfl ?_
  exact ok_callV (pc := 2) (a := a0) (cb := 1) (sb := 6) (st := []) hc [.int (i3 x1)] cv_X6_146 sp_X6_requireImage (by decide) dX6_back_2 rfl e1.1 e1.2 rfl rfl rfl (Nat.le_of_ble_eq_true rfl) P

set_option maxHeartbeats 4000000 in
set_option maxRecDepth 100000 in
theorem sX6_back_5 {X : Xt} {n : Nat} {h : HP} {a0 : Nat} {x1 : Int} {fs1 : List Value} {iv2 : Int} {q4 : Nat} {q5 : Nat} {fs6 : List Value} {q7 : Nat} {fs8 : List Value} (hc : Cx X cX6_back RX6 2 7 139) {K : KT} (hr : CxR X (some .int) K) (e1 : At h n a0 (.inl (6, fs1))) (z1 : fs1.length = 6) (v1_5 : fs1[5]? = some (.int (i3 iv2))) (v1_3 : fs1[3]? = some (.ref q4)) (v1_0 : fs1[0]? = some (.ref q5)) (e6 : At h n q5 (.inl (0, fs6))) (z6 : fs6.length = 8) (v6_0 : fs6[0]? = some (.ref q7)) (e8 : At h n q4 (.inl (1, fs8))) (z8 : fs8.length = 3)
    (P : (R3 (bcon iv2 x1)) ∧ (¬ (bcon iv2 x1) = 0 → spec_X1_record [.ref q4, .ref q7] n h (kc X 1 6 37 [(0, .ref a0), (1, .int (i3 x1))] [] n)) ∧ ((bcon iv2 x1) = 0 → K (.inr "java/lang/IllegalStateException") n h)) :
    Ok X 1 6 5 [(0, .ref a0), (1, .int (i3 x1))] [] n h := by
  refine ok_aload_n (pc := 5) hc dX6_back_5 rfl 0 rfl ?_
  refine ok_get (pc := 6) hc fl_X6_152 dX6_back_6 e1.1 e1.2 v1_5 ?_
  refine ok_iload_n (pc := 9) hc dX6_back_9 rfl 1 rfl ?_
  refine ok_callS (pc := 10) (cb := 1) (sb := 6) (st := []) hc [.int (i3 iv2), .int (i3 x1)] cs_X6_155 sp_X6_contains (by decide) dX6_back_10 rfl rfl rfl rfl (Nat.le_of_ble_eq_true rfl) (⟨_, _, rfl, rfl, ?_⟩)
  show Ok X 1 6 (10 + 3) [(0, .ref a0), (1, .int (i3 x1))] [.int (i3 (bcon iv2 x1))] n h
  obtain ⟨r3, P⟩ := P
  refine zk_if_ne (pc := 13) (tgt := 26) hc dX6_back_13 (by decide) r3 (fun c => ?_) (fun c => ?_)
  · have P := P.1 c
    refine ok_aload_n (pc := 26) hc dX6_back_26 rfl 0 rfl ?_
    refine ok_get (pc := 27) hc fl_X6_29 dX6_back_27 e1.1 e1.2 v1_3 ?_
    refine ok_aload_n (pc := 30) hc dX6_back_30 rfl 0 rfl ?_
    refine ok_get (pc := 31) hc fl_X6_10 dX6_back_31 e1.1 e1.2 v1_0 ?_
    refine ok_get (pc := 34) hc fl_X6_43 dX6_back_34 e6.1 e6.2 v6_0 ?_
    exact ok_callV (pc := 37) (a := q4) (cb := 1) (sb := 6) (st := []) hc [.ref q7] cv_X6_57 sp_X1_record (by decide) dX6_back_37 rfl e8.1 e8.2 rfl rfl rfl (Nat.le_of_ble_eq_true rfl) P
  · have P := P.2 c
    exact ok_throw (pc := 16) hc hr th_ISE rfl (is := 159) (text := "the image keeps nothing") (by decide) dX6_back_16 dX6_back_19 dX6_back_20 dX6_back_22 dX6_back_25 (by decide) (by decide) (by decide) (by decide) P

set_option maxHeartbeats 4000000 in
set_option maxRecDepth 100000 in
theorem sX6_back_40 {X : Xt} {n : Nat} {h : HP} {a0 : Nat} {x1 : Int} {fs1 : List Value} {q2 : Nat} {q3 : Nat} {len4 : Nat} {f4 : Nat → Option Nat} {q5 : Nat} {fs7 : List Value} (hc : Cx X cX6_back RX6 2 7 139) {K : KT} (hr : CxR X (some .int) K) (e1 : At h n a0 (.inl (6, fs1))) (z1 : fs1.length = 6) (v1_0 : fs1[0]? = some (.ref q2)) (v1_4 : fs1[4]? = some (.ref q3)) (e4 : At h n q3 (.inr (3, len4, .inr (.inr f4)))) (g6 : (f4 (x1 : Int).toNat) = some q5) (e7 : At h n q2 (.inl (0, fs7))) (z7 : fs7.length = 8)
    (P : (Ix x1 len4) ∧ spec_X0_takeOver [.ref q2, .ref q5] n h (kc X 1 6 50 [(0, .ref a0), (1, .int (i3 x1))] [] n)) :
    Ok X 1 6 40 [(0, .ref a0), (1, .int (i3 x1))] [] n h := by
  refine ok_aload_n (pc := 40) hc dX6_back_40 rfl 0 rfl ?_
  refine ok_get (pc := 41) hc fl_X6_10 dX6_back_41 e1.1 e1.2 v1_0 ?_
  refine ok_aload_n (pc := 44) hc dX6_back_44 rfl 0 rfl ?_
  refine ok_get (pc := 45) hc fl_X6_35 dX6_back_45 e1.1 e1.2 v1_4 ?_
  refine ok_iload_n (pc := 48) hc dX6_back_48 rfl 1 rfl ?_
  obtain ⟨r, P⟩ := P
  refine zk_aald (pc := 49) hc dX6_back_49 e4.1 e4.2 rfl r g6 ?_
  exact ok_callV (pc := 50) (a := q2) (cb := 1) (sb := 6) (st := []) hc [.ref q5] cv_X6_143 sp_X0_takeOver (by decide) dX6_back_50 rfl e7.1 e7.2 rfl rfl rfl (Nat.le_of_ble_eq_true rfl) P

set_option maxHeartbeats 4000000 in
set_option maxRecDepth 100000 in
theorem sX6_back_53 {X : Xt} {n : Nat} {h : HP} {a0 : Nat} {x1 : Int} {fs1 : List Value} {q2 : Nat} {fs3 : List Value} {q4 : Nat} {fs5 : List Value} {q6 : Nat} {fs7 : List Value} {iv8 : Int} (hc : Cx X cX6_back RX6 2 7 139) {K : KT} (hr : CxR X (some .int) K) (e1 : At h n a0 (.inl (6, fs1))) (z1 : fs1.length = 6) (v1_0 : fs1[0]? = some (.ref q2)) (e3 : At h n q2 (.inl (0, fs3))) (z3 : fs3.length = 8) (v3_0 : fs3[0]? = some (.ref q4)) (e5 : At h n q4 (.inl (4, fs5))) (z5 : fs5.length = 4) (v5_0 : fs5[0]? = some (.ref q6)) (e7 : At h n q6 (.inl (2, fs7))) (z7 : fs7.length = 5) (v7_4 : fs7[4]? = some (.int (i3 iv8)))
    (P : K (.inl (some (.int (i3 iv8)))) n h) :
    Ok X 1 6 53 [(0, .ref a0), (1, .int (i3 x1))] [] n h := by
  refine ok_aload_n (pc := 53) hc dX6_back_53 rfl 0 rfl ?_
  refine ok_get (pc := 54) hc fl_X6_10 dX6_back_54 e1.1 e1.2 v1_0 ?_
  refine ok_get (pc := 57) hc fl_X6_43 dX6_back_57 e3.1 e3.2 v3_0 ?_
  refine ok_get (pc := 60) hc fl_X6_47 dX6_back_60 e5.1 e5.2 v5_0 ?_
  refine ok_get (pc := 63) hc fl_X6_51 dX6_back_63 e7.1 e7.2 v7_4 ?_
  exact ok_iret (st := []) (pc := 66) hc hr dX6_back_66 P

def opBack (q : Dsk) (x : Int) : Dsk × (Int ⊕ String) := if 0 ≤ x ∧ x < 2 then (if bcon q.2.2.2.1 x = 0 then (q, .inr eIS) else ((q.2.2.1 x.toNat, pushH q.2.1 q.1, q.2.2), .inl (q.2.2.1 x.toNat).1.length)) else (q, .inr eIO)
def spec_X6_back (args : List Value) (n : Nat) (h : HP) (K : KT) : Prop := ∃ (q : Dsk) (x : Int), args = [.ref 0, .int (i3 x)] ∧ R3 x ∧ DkA h n q ∧ ∀ h', DkA h' n (opBack q x).1 → Fr h h' 0 127 → K (oV (opBack q x).2) n h'
theorem sp_X6_back : Sp yX6_back cX6_back 2 (some .int) 7 139 2 12 spec_X6_back := by
  refine sp_intro (by decide) (by rintro args n h K ⟨q, x, rfl, -⟩; exact Nat.le_of_ble_eq_true rfl) ?_
  rintro X args n h K hc hr ⟨⟨S, hist, im, kept, B⟩, x, rfl, hx, hq, kk⟩
  have hq0 := hq
  obtain ⟨h0, hN, ⟨T, hT⟩, hI, hH, hM, hG⟩ := hq
  obtain ⟨A, F, D, N, sat, rsn, cul, G, hB⟩ := hN.obj
  obtain ⟨o, hHo⟩ := hH.obj
  unfold opBack at kk
  refine sX6_back_0 hc hr h0 rfl ⟨x, rfl, hx, fun c => ⟨rfl, ?_⟩, fun c => ?_⟩
  · rw [if_pos c] at kk
    have b01 := bcon01 kept x
    refine sX6_back_5 hc hr h0 rfl rfl rfl rfl hB.1 rfl rfl hHo rfl ⟨R3_s (by show -1000000 ≤ bcon kept x ∧ bcon kept x ≤ 1000000; rcases b01 with z | z <;> omega), fun z => ⟨2, hist, S, rfl, hH, hB.2.1, by omega, fun h1 hH1 f1 => ⟨rfl, ?_⟩⟩, fun z => ?_⟩
    · rw [if_neg z] at kk
      have hB1 := hB.fr f1 (by omega)
      have hM1 := hM.fr f1 (by omega)
      have eg : (fun j => if j < 2 then some (116 + 6 * j) else none) x.toNat = some (116 + 6 * x.toNat) := if_pos (by omega)
      have g2 := hG.2.2.1 x.toNat (by omega)
      refine sX6_back_40 hc hr (h0.fr f1 (by omega)) rfl rfl rfl hM1.1 eg hB1.1 rfl ⟨⟨by omega, by omega, by omega⟩, 1, 116 + 6 * x.toNat, S, im x.toNat, rfl, ⟨_, _, _, _, _, _, _, _, hB1⟩, hM1.2 x.toNat (by omega), by omega, g2.fit.1, g2.fit.2, fun h2 hA2 f2 => ⟨rfl, ?_⟩⟩
      obtain ⟨_, _, _, _, _, _, _, _, hB2⟩ := hA2.obj
      refine sX6_back_53 hc hr ((h0.fr f1 (by omega)).fr f2 (by omega)) rfl rfl hB2.1 rfl rfl hB2.2.1.1 rfl rfl hB2.2.1.2.1.obj rfl rfl (kk h2 ?_ ?_)
      · exact ⟨(h0.fr f1 (by omega)).fr f2 (by omega), hA2, ⟨T, (hT.fr f1 (by omega)).fr f2 (by omega)⟩, (hI.fr f1 (by omega)).fr f2 (by omega), hH1.fr f2 (by omega), hM1.fr f2 (by omega), g2, gd_push hG.2.1 hG.1, hG.2.2⟩
      · exact (f1.sub (by omega) (by omega)).tr (f2.sub (by omega) (by omega))
    · rw [if_pos z] at kk
      exact kk h hq0 Fr.rf
  · rw [if_neg c] at kk
    exact ⟨rfl, okT_out hc hr (kk h hq0 Fr.rf)⟩
