/-! part 39: the desk: drop, undo, keep, back, append, clearInput, firstError -/
set_option maxHeartbeats 4000000 in
set_option maxRecDepth 100000 in
theorem sX6_drop_0 {X : Xt} {n : Nat} {h : HP} {a0 : Nat} {x1 : Int} {fs1 : List Value} (hc : Cx X cX6_drop RX6 2 7 138) {K : KT} (hr : CxR X (some .int) K) (e1 : At h n a0 (.inl (6, fs1))) (z1 : fs1.length = 6)
    (P : spec_X6_requirePart [.ref a0, .int (i3 x1)] n h (kc X 0 0 2 [(0, .ref a0), (1, .int (i3 x1))] [] n)) :
    Ok X 1 6 0 [(0, .ref a0), (1, .int (i3 x1))] [] n h := by
  refine ok_aload_n (pc := 0) hc dX6_drop_0 rfl 0 rfl ?_
  refine ok_iload_n (pc := 1) hc dX6_drop_1 rfl 1 rfl ?_
  exact ok_callV (pc := 2) (a := a0) (cb := 0) (sb := 0) (st := []) hc [.int (i3 x1)] cv_X6_111 sp_X6_requirePart (by decide) dX6_drop_2 rfl e1.1 e1.2 rfl rfl rfl (Nat.le_of_ble_eq_true rfl) P

set_option maxHeartbeats 4000000 in
set_option maxRecDepth 100000 in
theorem sX6_drop_5 {X : Xt} {n : Nat} {h : HP} {a0 : Nat} {x1 : Int} {fs1 : List Value} {q2 : Nat} {q3 : Nat} {fs4 : List Value} {q5 : Nat} {fs6 : List Value} (hc : Cx X cX6_drop RX6 2 7 138) {K : KT} (hr : CxR X (some .int) K) (e1 : At h n a0 (.inl (6, fs1))) (z1 : fs1.length = 6) (v1_3 : fs1[3]? = some (.ref q2)) (v1_0 : fs1[0]? = some (.ref q3)) (e4 : At h n q3 (.inl (0, fs4))) (z4 : fs4.length = 8) (v4_0 : fs4[0]? = some (.ref q5)) (e6 : At h n q2 (.inl (1, fs6))) (z6 : fs6.length = 3)
    (P : spec_X1_record [.ref q2, .ref q5] n h (kc X 0 0 16 [(0, .ref a0), (1, .int (i3 x1))] [] n)) :
    Ok X 0 0 5 [(0, .ref a0), (1, .int (i3 x1))] [] n h := by
  refine ok_aload_n (pc := 5) hc dX6_drop_5 rfl 0 rfl ?_
  refine ok_get (pc := 6) hc fl_X6_29 dX6_drop_6 e1.1 e1.2 v1_3 ?_
  refine ok_aload_n (pc := 9) hc dX6_drop_9 rfl 0 rfl ?_
  refine ok_get (pc := 10) hc fl_X6_10 dX6_drop_10 e1.1 e1.2 v1_0 ?_
  refine ok_get (pc := 13) hc fl_X6_43 dX6_drop_13 e4.1 e4.2 v4_0 ?_
  exact ok_callV (pc := 16) (a := q2) (cb := 0) (sb := 0) (st := []) hc [.ref q5] cv_X6_57 sp_X1_record (by decide) dX6_drop_16 rfl e6.1 e6.2 rfl rfl rfl (Nat.le_of_ble_eq_true rfl) P

set_option maxHeartbeats 4000000 in
set_option maxRecDepth 100000 in
theorem sX6_drop_19 {X : Xt} {n : Nat} {h : HP} {a0 : Nat} {x1 : Int} {fs1 : List Value} {q2 : Nat} {fs3 : List Value} {q4 : Nat} {fs5 : List Value} (hc : Cx X cX6_drop RX6 2 7 138) {K : KT} (hr : CxR X (some .int) K) (e1 : At h n a0 (.inl (6, fs1))) (z1 : fs1.length = 6) (v1_0 : fs1[0]? = some (.ref q2)) (e3 : At h n q2 (.inl (0, fs3))) (z3 : fs3.length = 8) (v3_0 : fs3[0]? = some (.ref q4)) (e5 : At h n q4 (.inl (4, fs5))) (z5 : fs5.length = 4)
    (P : spec_X4_remove [.ref q4, .int (i3 x1)] n h (kc X 0 0 27 [(0, .ref a0), (1, .int (i3 x1))] [] n)) :
    Ok X 0 0 19 [(0, .ref a0), (1, .int (i3 x1))] [] n h := by
  refine ok_aload_n (pc := 19) hc dX6_drop_19 rfl 0 rfl ?_
  refine ok_get (pc := 20) hc fl_X6_10 dX6_drop_20 e1.1 e1.2 v1_0 ?_
  refine ok_get (pc := 23) hc fl_X6_43 dX6_drop_23 e3.1 e3.2 v3_0 ?_
  refine ok_iload_n (pc := 26) hc dX6_drop_26 rfl 1 rfl ?_
  exact ok_callV (pc := 27) (a := q4) (cb := 0) (sb := 0) (st := []) hc [.int (i3 x1)] cv_X6_115 sp_X4_remove (by decide) dX6_drop_27 rfl e5.1 e5.2 rfl rfl rfl (Nat.le_of_ble_eq_true rfl) P

set_option maxHeartbeats 4000000 in
set_option maxRecDepth 100000 in
theorem sX6_drop_30 {X : Xt} {n : Nat} {h : HP} {a0 : Nat} {x1 : Int} {fs1 : List Value} {q2 : Nat} {fs3 : List Value} (hc : Cx X cX6_drop RX6 2 7 138) {K : KT} (hr : CxR X (some .int) K) (e1 : At h n a0 (.inl (6, fs1))) (z1 : fs1.length = 6) (v1_0 : fs1[0]? = some (.ref q2)) (e3 : At h n q2 (.inl (0, fs3))) (z3 : fs3.length = 8)
    (P : spec_X0_solve [.ref q2] n h (kc X 0 0 34 [(0, .ref a0), (1, .int (i3 x1))] [] n)) :
    Ok X 0 0 30 [(0, .ref a0), (1, .int (i3 x1))] [] n h := by
  refine ok_aload_n (pc := 30) hc dX6_drop_30 rfl 0 rfl ?_
  refine ok_get (pc := 31) hc fl_X6_10 dX6_drop_31 e1.1 e1.2 v1_0 ?_
  exact ok_callV (pc := 34) (a := q2) (cb := 0) (sb := 0) (st := []) hc [] cv_X6_40 sp_X0_solve (by decide) dX6_drop_34 rfl e3.1 e3.2 rfl rfl rfl (Nat.le_of_ble_eq_true rfl) P

set_option maxHeartbeats 4000000 in
set_option maxRecDepth 100000 in
theorem sX6_drop_37 {X : Xt} {n : Nat} {h : HP} {a0 : Nat} {x1 : Int} {fs1 : List Value} {q2 : Nat} {fs3 : List Value} (hc : Cx X cX6_drop RX6 2 7 138) {K : KT} (hr : CxR X (some .int) K) (e1 : At h n a0 (.inl (6, fs1))) (z1 : fs1.length = 6) (v1_0 : fs1[0]? = some (.ref q2)) (e3 : At h n q2 (.inl (0, fs3))) (z3 : fs3.length = 8)
    (P : spec_X0_settle [.ref q2] n h (kc X 0 0 41 [(0, .ref a0), (1, .int (i3 x1))] [] n)) :
    Ok X 0 0 37 [(0, .ref a0), (1, .int (i3 x1))] [] n h := by
  refine ok_aload_n (pc := 37) hc dX6_drop_37 rfl 0 rfl ?_
  refine ok_get (pc := 38) hc fl_X6_10 dX6_drop_38 e1.1 e1.2 v1_0 ?_
  exact ok_callV (pc := 41) (a := q2) (cb := 0) (sb := 0) (st := []) hc [] cv_X6_64 sp_X0_settle (by decide) dX6_drop_41 rfl e3.1 e3.2 rfl rfl rfl (Nat.le_of_ble_eq_true rfl) P

set_option maxHeartbeats 4000000 in
set_option maxRecDepth 100000 in
theorem sX6_drop_44 {X : Xt} {n : Nat} {h : HP} {a0 : Nat} {x1 : Int} {fs1 : List Value} {q2 : Nat} {fs3 : List Value} {q4 : Nat} {fs5 : List Value} {q6 : Nat} {fs7 : List Value} {iv8 : Int} (hc : Cx X cX6_drop RX6 2 7 138) {K : KT} (hr : CxR X (some .int) K) (e1 : At h n a0 (.inl (6, fs1))) (z1 : fs1.length = 6) (v1_0 : fs1[0]? = some (.ref q2)) (e3 : At h n q2 (.inl (0, fs3))) (z3 : fs3.length = 8) (v3_0 : fs3[0]? = some (.ref q4)) (e5 : At h n q4 (.inl (4, fs5))) (z5 : fs5.length = 4) (v5_0 : fs5[0]? = some (.ref q6)) (e7 : At h n q6 (.inl (2, fs7))) (z7 : fs7.length = 5) (v7_4 : fs7[4]? = some (.int (i3 iv8)))
    (P : K (.inl (some (.int (i3 iv8)))) n h) :
    Ok X 0 0 44 [(0, .ref a0), (1, .int (i3 x1))] [] n h := by
  refine ok_aload_n (pc := 44) hc dX6_drop_44 rfl 0 rfl ?_
  refine ok_get (pc := 45) hc fl_X6_10 dX6_drop_45 e1.1 e1.2 v1_0 ?_
  refine ok_get (pc := 48) hc fl_X6_43 dX6_drop_48 e3.1 e3.2 v3_0 ?_
  refine ok_get (pc := 51) hc fl_X6_47 dX6_drop_51 e5.1 e5.2 v5_0 ?_
  refine ok_get (pc := 54) hc fl_X6_51 dX6_drop_54 e7.1 e7.2 v7_4 ?_
  exact ok_iret (st := []) (pc := 57) hc hr dX6_drop_57 P

def prt (ps : List Part) (x : Int) : Option Part := if x < 0 then none else ps[x.toNat]?
theorem prt_some {ps : List Part} {x : Int} {p : Part} (h : prt ps x = some p) : (0 ≤ x ∧ x < ps.length) ∧ ps[x.toNat]? = some p := by
  unfold prt at h
  split at h
  · cases h
  · have := (List.getElem?_eq_some_iff.mp h).1
    exact ⟨⟨by omega, by omega⟩, h⟩
theorem prt_none {ps : List Part} {x : Int} (h : prt ps x = none) : ¬ (0 ≤ x ∧ x < ps.length) := by
  unfold prt at h
  split at h
  · omega
  · have := List.getElem?_eq_none_iff.mp h
    omega
def opDrop (q : Dsk) (x : Int) : Dsk × (Int ⊕ String) := match prt q.1.1 x with
  | none => (q, .inr eIO)
  | some p => ((setS (remS q.1 x.toNat p), pushH q.2.1 q.1, q.2.2), .inl ((q.1.1.length : Int) - 1))
def spec_X6_drop (args : List Value) (n : Nat) (h : HP) (K : KT) : Prop := ∃ (q : Dsk) (x : Int), args = [.ref 0, .int (i3 x)] ∧ R3 x ∧ DkA h n q ∧ ∀ h', DkA h' n (opDrop q x).1 → Fr h h' 0 127 → K (oV (opDrop q x).2) n h'
theorem setS_1 (S : Stt) : (setS S).1 = S.1 := by
  unfold setS
  split
  · rfl
  · split <;> rfl
theorem sp_X6_drop : Sp yX6_drop cX6_drop 2 (some .int) 7 138 1 6 spec_X6_drop := by
  refine sp_intro (by decide) (by rintro args n h K ⟨q, x, rfl, -⟩; exact Nat.le_of_ble_eq_true rfl) ?_
  rintro X args n h K hc hr ⟨⟨S, hist, im, kept, B⟩, x, rfl, hx, hq, kk⟩
  have hq0 := hq
  obtain ⟨h0, hN, ⟨T, hT⟩, hI, hH, hM, hG⟩ := hq
  obtain ⟨A, F, D, N, sat, rsn, cul, G, hB⟩ := hN.obj
  obtain ⟨o, hHo⟩ := hH.obj
  unfold opDrop at kk
  simp only at kk
  cases hp : prt S.1 x with
  | none =>
    rw [hp] at kk
    exact sX6_drop_0 hc hr h0 rfl ⟨_, x, rfl, hx, hq0, fun c => absurd c (prt_none hp), fun _ => ⟨rfl, okT_out hc hr (kk h hq0 Fr.rf)⟩⟩
  | some p =>
    rw [hp] at kk
    obtain ⟨hr1, hp1⟩ := prt_some hp
    refine sX6_drop_0 hc hr h0 rfl ⟨_, x, rfl, hx, hq0, fun _ => ⟨rfl, ?_⟩, fun c => absurd hr1 c⟩
    refine sX6_drop_5 hc hr h0 rfl rfl rfl hB.1 rfl rfl hHo rfl ⟨2, hist, S, rfl, hH, hB.2.1, by omega, fun h1 hH1 f1 => ⟨rfl, ?_⟩⟩
    have hB1 := hB.fr f1 (by omega)
    refine sX6_drop_19 hc hr (h0.fr f1 (by omega)) rfl rfl hB1.1 rfl rfl hB1.2.1.1 rfl ⟨2, x.toNat, S, p, by rw [Int.toNat_of_nonneg hr1.1], hB1.2.1, hp1, hG.1.1.2.1, fun h2 hS2 f2 => ⟨rfl, ?_⟩⟩
    have hB2 : BnC h2 n 1 (remS S x.toNat p) A F D N sat rsn cul G := ⟨hB1.1.fr f2 (by omega), hS2, hB1.2.2.1.fr f2 (by omega), hB1.2.2.2.1.fr f2 (by omega), hB1.2.2.2.2.fr f2 (by omega)⟩
    have g2 : GdS (remS S x.toNat p) := hG.1.rem hp1
    refine sX6_drop_30 hc hr ((h0.fr f1 (by omega)).fr f2 (by omega)) rfl rfl hB2.1 rfl ⟨1, _, rfl, ⟨_, _, _, _, _, _, _, _, hB2⟩, g2.fit.1, g2.fit.2, fun h3 hA3 f3 => ⟨rfl, ?_⟩⟩
    obtain ⟨_, _, _, _, _, _, _, _, hB3⟩ := hA3.obj
    refine sX6_drop_37 hc hr (((h0.fr f1 (by omega)).fr f2 (by omega)).fr f3 (by omega)) rfl rfl hB3.1 rfl ⟨1, _, rfl, hA3, fun h4 hA4 f4 => ⟨rfl, ?_⟩⟩
    obtain ⟨_, _, _, _, _, _, _, _, hB4⟩ := hA4.obj
    have f14 : Fr h1 h4 1 28 := ((f2.sub (by omega) (by omega)).tr f3).tr f4
    have el : ((setS (remS S x.toNat p)).1.length : Int) = (S.1.length : Int) - 1 := by
      rw [setS_1]
      show ((S.1.eraseIdx x.toNat).length : Int) = _
      rw [List.length_eraseIdx, if_pos (by omega)]
      omega
    refine sX6_drop_44 hc hr ((h0.fr f1 (by omega)).fr f14 (by omega)) rfl rfl hB4.1 rfl rfl hB4.2.1.1 rfl rfl hB4.2.1.2.1.obj rfl rfl ?_
    rw [el]
    refine kk h4 ?_ ?_
    · exact ⟨(h0.fr f1 (by omega)).fr f14 (by omega), hA4, ⟨T, (hT.fr f1 (by omega)).fr f14 (by omega)⟩, (hI.fr f1 (by omega)).fr f14 (by omega), hH1.fr f14 (by omega), (hM.fr f1 (by omega)).fr f14 (by omega), g2.set, gd_push hG.2.1 hG.1, hG.2.2⟩
    · exact (f1.sub (by omega) (by omega)).tr (f14.sub (by omega) (by omega))
def opKeep (q : Dsk) (x : Int) : Dsk × (Int ⊕ String) := if 0 ≤ x ∧ x < 2 then ((q.1, q.2.1, va_up q.2.2.1 x.toNat q.1, bor q.2.2.2.1 (bshl 1 x), q.2.2.2.2), .inl q.1.1.length) else (q, .inr eIO)
theorem kp_r : ∀ m < 4, ∀ k < 2, 0 ≤ bor (m : Nat) (bshl 1 (k : Nat)) ∧ bor (m : Nat) (bshl 1 (k : Nat)) ≤ 3 := by decide +kernel
def opBack (q : Dsk) (x : Int) : Dsk × (Int ⊕ String) := if 0 ≤ x ∧ x < 2 then (if bcon q.2.2.2.1 x = 0 then (q, .inr eIS) else ((q.2.2.1 x.toNat, pushH q.2.1 q.1, q.2.2), .inl (q.2.2.1 x.toNat).1.length)) else (q, .inr eIO)
