/-! part 38: the desk: setRail, drop, undo, keep, back, append, clearInput -/
abbrev eIA : String := "java/lang/IllegalArgumentException"
abbrev eIS : String := "java/lang/IllegalStateException"
abbrev eIO : String := "java/lang/IndexOutOfBoundsException"
theorem BnK.ust {h : HP} {n b : Nat} {S : Stt} {sat rsn cul : Int} {G : Nat → Int} (p : BnK h n b S sat rsn cul G) {r pr st : Int} (hr : 0 ≤ r ∧ r ≤ 1000) (hp : 0 ≤ pr ∧ pr ≤ 26) (hs : st = 0 ∨ st = 1) : BnK (va_up h (b + 1) (.inl (4, [.ref (b + 2), .int (i3 r), .int (i3 pr), .int (i3 st)]))) n b (S.1, r, pr, st) sat rsn cul G := by
  obtain ⟨F, D, N, q, z⟩ := p
  have f : Fr h (va_up h (b + 1) (.inl (4, [.ref (b + 2), .int (i3 r), .int (i3 pr), .int (i3 st)]))) (b + 1) (b + 1) := Fr.rf.up (by omega)
  exact ⟨F, D, N, ⟨q.1.fr f (by omega), ⟨q.2.1.1.it, q.2.1.2.1.fr f (by omega), hr, hp, hs⟩, q.2.2.1.fr f (by omega), q.2.2.2.1.fr f (by omega), q.2.2.2.2.fr f (by omega)⟩, z⟩
set_option maxHeartbeats 4000000 in
set_option maxRecDepth 100000 in
theorem sX6_requirePart_0 {X : Xt} {n : Nat} {h : HP} {a0 : Nat} {x1 : Int} {fs2 : List Value} {q3 : Nat} {fs4 : List Value} {q5 : Nat} {fs6 : List Value} {q7 : Nat} {fs8 : List Value} {iv9 : Int} (hc : Cx X cX6_requirePart RX6 2 6 90) {K : KT} (hr : CxR X none K) (e2 : At h n a0 (.inl (6, fs2))) (z2 : fs2.length = 6) (v2_0 : fs2[0]? = some (.ref q3)) (e4 : At h n q3 (.inl (0, fs4))) (z4 : fs4.length = 8) (v4_0 : fs4[0]? = some (.ref q5)) (e6 : At h n q5 (.inl (4, fs6))) (z6 : fs6.length = 4) (v6_0 : fs6[0]? = some (.ref q7)) (e8 : At h n q7 (.inl (2, fs8))) (z8 : fs8.length = 5) (v8_4 : fs8[4]? = some (.int (i3 iv9)))
    (P : (R3 x1) ∧ (x1 < 0 → K (.inr "java/lang/IndexOutOfBoundsException") n h) ∧ (¬ x1 < 0 → (R3 x1) ∧ (R3 iv9) ∧ (x1 < iv9 → K (.inl none) n h) ∧ (¬ x1 < iv9 → K (.inr "java/lang/IndexOutOfBoundsException") n h))) :
    Ok X 1 6 0 [(0, .ref a0), (1, .int (i3 x1))] [] n h := by
  refine ok_iload_n (pc := 0) hc dX6_requirePart_0 rfl 1 rfl ?_
  obtain ⟨r1, P⟩ := P
  refine zk_if_lt (pc := 1) (tgt := 21) hc dX6_requirePart_1 (by decide) r1 (fun c => ?_) (fun c => ?_)
  · have P := P.1 c
    exact ok_throwW (pc := 21) hc hr th_IOE rfl (is := 312) (text := "there is no such part") (by decide) dX6_requirePart_21 dX6_requirePart_24 dX6_requirePart_25 dX6_requirePart_28 dX6_requirePart_31 (by decide) (by decide) (by decide) (by decide) P
  · have P := P.2 c
    refine ok_iload_n (pc := 4) hc dX6_requirePart_4 rfl 1 rfl ?_
    refine ok_aload_n (pc := 5) hc dX6_requirePart_5 rfl 0 rfl ?_
    refine ok_get (pc := 6) hc fl_X6_10 dX6_requirePart_6 e2.1 e2.2 v2_0 ?_
    refine ok_get (pc := 9) hc fl_X6_43 dX6_requirePart_9 e4.1 e4.2 v4_0 ?_
    refine ok_get (pc := 12) hc fl_X6_47 dX6_requirePart_12 e6.1 e6.2 v6_0 ?_
    refine ok_get (pc := 15) hc fl_X6_51 dX6_requirePart_15 e8.1 e8.2 v8_4 ?_
    obtain ⟨r10, P⟩ := P
    obtain ⟨r11, P⟩ := P
    refine zk_icmp_lt (pc := 18) (tgt := 32) hc dX6_requirePart_18 (by decide) r10 r11 (fun c => ?_) (fun c => ?_)
    · have P := P.1 c
      exact ok_vret (st := []) (pc := 32) hc hr dX6_requirePart_32 P
    · have P := P.2 c
      exact ok_throwW (pc := 21) hc hr th_IOE rfl (is := 312) (text := "there is no such part") (by decide) dX6_requirePart_21 dX6_requirePart_24 dX6_requirePart_25 dX6_requirePart_28 dX6_requirePart_31 (by decide) (by decide) (by decide) (by decide) P

def spec_X6_requirePart (args : List Value) (n : Nat) (h : HP) (K : KT) : Prop := ∃ (q : Dsk) (x : Int), args = [.ref 0, .int (i3 x)] ∧ R3 x ∧ DkA h n q ∧ (0 ≤ x ∧ x < q.1.1.length → K (.inl none) n h) ∧ (¬ (0 ≤ x ∧ x < q.1.1.length) → K (.inr eIO) n h)
theorem sp_X6_requirePart : Sp yX6_requirePart cX6_requirePart 2 none 6 90 1 6 spec_X6_requirePart := by
  refine sp_intro (by decide) (by rintro args n h K ⟨q, x, rfl, -⟩; exact Nat.le_of_ble_eq_true rfl) ?_
  rintro X args n h K hc hr ⟨⟨S, hist, im, kept, B⟩, x, rfl, hx, ⟨h0, hN, -⟩, k1, k2⟩
  obtain ⟨A, F, D, N, sat, rsn, cul, G, hB⟩ := hN.obj
  have hl : S.1.length ≤ 12 := by
    obtain ⟨k, f, s, t, E, E1, E2, E3, E4, hv, hw, hl, hcap⟩ := hB.2.1.2.1
    omega
  simp only at k1 k2
  exact sX6_requirePart_0 hc hr h0 rfl rfl hB.1 rfl rfl hB.2.1.1 rfl rfl hB.2.1.2.1.obj rfl rfl (iv9 := (S.1.length : Int)) ⟨hx, fun c => k2 (by omega), fun c => ⟨hx, R3_s (by omega), fun c2 => k1 (by omega), fun c2 => k2 (by omega)⟩⟩
set_option maxHeartbeats 4000000 in
set_option maxRecDepth 100000 in
theorem sX6_setRail_0 {X : Xt} {n : Nat} {h : HP} {a0 : Nat} {x1 : Int} (hc : Cx X cX6_setRail RX6 3 6 138) {K : KT} (hr : CxR X (some .int) K) 
    (P : (R3 x1) ∧ (x1 < 10 → K (.inr "java/lang/IllegalArgumentException") n h) ∧ (¬ x1 < 10 → (R3 x1) ∧ (x1 ≤ 200 → Ok X 1 6 23 [(0, .ref a0), (1, .int (i3 x1))] [] n h) ∧ (¬ x1 ≤ 200 → K (.inr "java/lang/IllegalArgumentException") n h))) :
    Ok X 1 6 0 [(0, .ref a0), (1, .int (i3 x1))] [] n h := by
  refine ok_iload_n (pc := 0) hc dX6_setRail_0 rfl 1 rfl ?_
  refine ok_bipush (pc := 1) hc (v := i3 10) dX6_setRail_1 (by decide) ?_
  obtain ⟨r1, P⟩ := P
  refine zk_icmp_lt (pc := 3) (tgt := 13) hc dX6_setRail_3 (by decide) r1 ⟨by decide, by decide⟩ (fun c => ?_) (fun c => ?_)
  · have P := P.1 c
    exact ok_throw (pc := 13) hc hr th_IAE rfl (is := 106) (text := "the rail is 10 to 200") (by decide) dX6_setRail_13 dX6_setRail_16 dX6_setRail_17 dX6_setRail_19 dX6_setRail_22 (by decide) (by decide) (by decide) (by decide) P
  · have P := P.2 c
    refine ok_iload_n (pc := 6) hc dX6_setRail_6 rfl 1 rfl ?_
    refine ok_sipush (pc := 7) hc (v := i3 200) dX6_setRail_7 (by decide) ?_
    obtain ⟨r2, P⟩ := P
    refine zk_icmp_le (pc := 10) (tgt := 23) hc dX6_setRail_10 (by decide) r2 ⟨by decide, by decide⟩ (fun c => ?_) (fun c => ?_)
    · have P := P.1 c
      exact P
    · have P := P.2 c
      exact ok_throw (pc := 13) hc hr th_IAE rfl (is := 106) (text := "the rail is 10 to 200") (by decide) dX6_setRail_13 dX6_setRail_16 dX6_setRail_17 dX6_setRail_19 dX6_setRail_22 (by decide) (by decide) (by decide) (by decide) P

set_option maxHeartbeats 4000000 in
set_option maxRecDepth 100000 in
theorem sX6_setRail_23 {X : Xt} {n : Nat} {h : HP} {a0 : Nat} {x1 : Int} {fs1 : List Value} {q2 : Nat} {fs3 : List Value} {q4 : Nat} {fs5 : List Value} {iv6 : Int} {q7 : Nat} {fs8 : List Value} (hc : Cx X cX6_setRail RX6 3 6 138) {K : KT} (hr : CxR X (some .int) K) (e1 : At h n a0 (.inl (6, fs1))) (z1 : fs1.length = 6) (v1_0 : fs1[0]? = some (.ref q2)) (e3 : At h n q2 (.inl (0, fs3))) (z3 : fs3.length = 8) (v3_0 : fs3[0]? = some (.ref q4)) (e5 : At h n q4 (.inl (4, fs5))) (z5 : fs5.length = 4) (v5_1 : fs5[1]? = some (.int (i3 iv6))) (v1_3 : fs1[3]? = some (.ref q7)) (e8 : At h n q7 (.inl (1, fs8))) (z8 : fs8.length = 3)
    (P : spec_X1_record [.ref q7, .ref q4] n h (kc X 1 6 45 [(0, .ref a0), (1, .int (i3 x1)), (2, .int (i3 iv6))] [] n)) :
    Ok X 1 6 23 [(0, .ref a0), (1, .int (i3 x1))] [] n h := by
  refine ok_aload_n (pc := 23) hc dX6_setRail_23 rfl 0 rfl ?_
  refine ok_get (pc := 24) hc fl_X6_10 dX6_setRail_24 e1.1 e1.2 v1_0 ?_
  refine ok_get (pc := 27) hc fl_X6_43 dX6_setRail_27 e3.1 e3.2 v3_0 ?_
  refine ok_get (pc := 30) hc fl_X6_108 dX6_setRail_30 e5.1 e5.2 v5_1 ?_
  refine ok_istore_n (pc := 33) hc (lv' := [(2, .int (i3 iv6)), (0, .ref a0), (1, .int (i3 x1))]) dX6_setRail_33 rfl (by decide) rfl ?_
  refine ok_aload_n (pc := 34) hc dX6_setRail_34 rfl 1 rfl ?_
  refine ok_get (pc := 35) hc fl_X6_29 dX6_setRail_35 e1.1 e1.2 v1_3 ?_
  refine ok_aload_n (pc := 38) hc dX6_setRail_38 rfl 1 rfl ?_
  refine ok_get (pc := 39) hc fl_X6_10 dX6_setRail_39 e1.1 e1.2 v1_0 ?_
  refine ok_get (pc := 42) hc fl_X6_43 dX6_setRail_42 e3.1 e3.2 v3_0 ?_
  refine ok_lv [1, 2, 0] rfl ?_
  exact ok_callV (pc := 45) (a := q7) (cb := 1) (sb := 6) (st := []) hc [.ref q4] cv_X6_57 sp_X1_record (by decide) dX6_setRail_45 rfl e8.1 e8.2 rfl rfl rfl (Nat.le_of_ble_eq_true rfl) P

set_option maxHeartbeats 4000000 in
set_option maxRecDepth 100000 in
theorem sX6_setRail_48 {X : Xt} {n : Nat} {h : HP} {a0 : Nat} {x1 : Int} {x2 : Int} {fs1 : List Value} {q2 : Nat} {fs3 : List Value} {q4 : Nat} {fs5 : List Value} (hc : Cx X cX6_setRail RX6 3 6 138) {K : KT} (hr : CxR X (some .int) K) (e1 : At h n a0 (.inl (6, fs1))) (z1 : fs1.length = 6) (v1_0 : fs1[0]? = some (.ref q2)) (e3 : At h n q2 (.inl (0, fs3))) (z3 : fs3.length = 8) (v3_0 : fs3[0]? = some (.ref q4)) (e5 : At h n q4 (.inl (4, fs5))) (z5 : fs5.length = 4)
    (P : spec_X0_settle [.ref q2] n (va_up h q4 (.inl (4, (fs5.set 1 (.int (i3 x1)))))) (kc X 1 6 63 [(0, .ref a0), (1, .int (i3 x1)), (2, .int (i3 x2))] [] n)) :
    Ok X 1 6 48 [(0, .ref a0), (1, .int (i3 x1)), (2, .int (i3 x2))] [] n h := by
  refine ok_aload_n (pc := 48) hc dX6_setRail_48 rfl 0 rfl ?_
  refine ok_get (pc := 49) hc fl_X6_10 dX6_setRail_49 e1.1 e1.2 v1_0 ?_
  refine ok_get (pc := 52) hc fl_X6_43 dX6_setRail_52 e3.1 e3.2 v3_0 ?_
  refine ok_iload_n (pc := 55) hc dX6_setRail_55 rfl 1 rfl ?_
  refine ok_put (pc := 56) hc fl_X6_108 dX6_setRail_56 e5.1 e5.2 (by simp [List.length_set, z5]) (fun _ => rfl) (fun _ => rfl) ?_
  refine ok_aload_n (pc := 59) hc dX6_setRail_59 rfl 0 rfl ?_
  refine ok_get (pc := 60) hc fl_X6_10 dX6_setRail_60 e1.1 ((up_ne (ne_oo e1.2 e5.2 (by decide))).trans e1.2) v1_0 ?_
  exact ok_callV (pc := 63) (a := q2) (cb := 1) (sb := 6) (st := []) hc [] cv_X6_64 sp_X0_settle (by decide) dX6_setRail_63 rfl e3.1 ((up_ne (ne_oo e3.2 e5.2 (by decide))).trans e3.2) rfl rfl rfl (Nat.le_of_ble_eq_true rfl) P

set_option maxHeartbeats 4000000 in
set_option maxRecDepth 100000 in
theorem sX6_setRail_66 {X : Xt} {n : Nat} {h : HP} {a0 : Nat} {x1 : Int} {x2 : Int} (hc : Cx X cX6_setRail RX6 3 6 138) {K : KT} (hr : CxR X (some .int) K) 
    (P : K (.inl (some (.int (i3 x2)))) n h) :
    Ok X 1 6 66 [(0, .ref a0), (1, .int (i3 x1)), (2, .int (i3 x2))] [] n h := by
  refine ok_iload_n (pc := 66) hc dX6_setRail_66 rfl 2 rfl ?_
  exact ok_iret (st := []) (pc := 67) hc hr dX6_setRail_67 P

def opRail (q : Dsk) (x : Int) : Dsk × (Int ⊕ String) := if 10 ≤ x ∧ x ≤ 200 then ((setS (q.1.1, x, q.1.2.2), pushH q.2.1 q.1, q.2.2), .inl q.1.2.1) else (q, .inr eIA)
def spec_X6_setRail (args : List Value) (n : Nat) (h : HP) (K : KT) : Prop := ∃ (q : Dsk) (x : Int), args = [.ref 0, .int (i3 x)] ∧ R3 x ∧ DkA h n q ∧ ∀ h', DkA h' n (opRail q x).1 → Fr h h' 0 127 → K (oV (opRail q x).2) n h'
theorem sp_X6_setRail : Sp yX6_setRail cX6_setRail 3 (some .int) 6 138 1 6 spec_X6_setRail := by
  refine sp_intro (by decide) (by rintro args n h K ⟨q, x, rfl, -⟩; exact Nat.le_of_ble_eq_true rfl) ?_
  rintro X args n h K hc hr ⟨⟨S, hist, im, kept, B⟩, x, rfl, hx, hq, kk⟩
  have hq0 := hq
  obtain ⟨h0, hN, ⟨T, hT⟩, hI, hH, hM, hG⟩ := hq
  obtain ⟨A, F, D, N, sat, rsn, cul, G, hB⟩ := hN.obj
  obtain ⟨o, hHo⟩ := hH.obj
  have bad : ¬ (10 ≤ x ∧ x ≤ 200) → K (.inr eIA) n h := by
    intro c
    unfold opRail at kk
    rw [if_neg c] at kk
    exact kk h hq0 Fr.rf
  refine sX6_setRail_0 hc hr ⟨hx, fun c => bad (by omega), fun c => ⟨hx, fun c2 => ?_, fun c2 => bad (by omega)⟩⟩
  unfold opRail at kk
  rw [if_pos (by omega)] at kk
  refine sX6_setRail_23 hc hr h0 rfl rfl hB.1 rfl rfl hB.2.1.1 rfl rfl rfl hHo rfl ⟨2, hist, S, rfl, hH, hB.2.1, by omega, fun h1 hH1 f1 => ⟨rfl, ?_⟩⟩
  have hN1 := hN.fr f1 (by omega)
  obtain ⟨_, _, _, _, hK1⟩ := hN1
  obtain ⟨_, _, _, hB1, -⟩ := id hK1
  have g2 : GdS (S.1, x, S.2.2) := ⟨hG.1.1, ⟨c2 |> fun _ => by show 10 ≤ x; omega, c2⟩, hG.1.2.2⟩
  have hK2 := hK1.ust (r := x) (pr := S.2.2.1) (st := S.2.2.2) (by omega) hB1.2.1.2.2.2.1 hB1.2.1.2.2.2.2
  refine sX6_setRail_48 hc hr (h0.fr f1 (by omega)) rfl rfl hB1.1 rfl rfl hB1.2.1.1 rfl ⟨1, _, rfl, hK2.a, fun h4 hA4 f4 => ⟨rfl, sX6_setRail_66 hc hr (kk h4 ?_ ?_)⟩⟩
  · have f14 : Fr h1 h4 1 28 := (Fr.rf.up (by omega)).tr f4
    exact ⟨(h0.fr f1 (by omega)).fr f14 (by omega), hA4, ⟨T, (hT.fr f1 (by omega)).fr f14 (by omega)⟩, (hI.fr f1 (by omega)).fr f14 (by omega), hH1.fr f14 (by omega), (hM.fr f1 (by omega)).fr f14 (by omega), g2.set, gd_push hG.2.1 hG.1, hG.2.2⟩
  · exact ((f1.sub (by omega) (by omega)).up (by omega)).tr (f4.sub (by omega) (by omega))
theorem nA_erase {ps : List Part} {m : Nat} {p : Part} (h : ps[m]? = some p) : nA (ps.eraseIdx m) + (if p.1 = 2 then 1 else 0) = nA ps := by
  have e : nA ps = nA (ps.take m) + nA (ps.drop m) := by rw [← nA_app, List.take_append_drop]
  rw [drop_s h, show p :: ps.drop (m + 1) = [p] ++ ps.drop (m + 1) from rfl, nA_app, nA_one] at e
  rw [List.eraseIdx_eq_take_drop_succ, nA_app]
  omega
theorem outC_lt {c : Int} {j A : Nat} (hA : A + 1 ≤ 3) (hj : j ≤ A) (hc : 0 ≤ c ∧ c < 3 ^ (A + 1)) : 0 ≤ outC c j ∧ outC c j < 3 ^ A := by
  unfold outC
  rcases (by omega : A = 0 ∨ A = 1 ∨ A = 2) with rfl | rfl | rfl
  · rcases (by omega : j = 0) with rfl
    simp at hc ⊢
    omega
  · rcases (by omega : j = 0 ∨ j = 1) with rfl | rfl <;> simp at hc ⊢ <;> omega
  · rcases (by omega : j = 0 ∨ j = 1 ∨ j = 2) with rfl | rfl | rfl <;> simp at hc ⊢ <;> omega
theorem GdS.rem {S : Stt} {m : Nat} {p : Part} (h : GdS S) (hp : S.1[m]? = some p) : GdS (remS S m p) := by
  obtain ⟨⟨g1, g2, g3, g4⟩, r, c, s⟩ := h
  have e := nA_erase hp
  have sub := List.eraseIdx_sublist S.1 m
  have hl : (S.1.eraseIdx m).length ≤ S.1.length := sub.length_le
  refine ⟨⟨by show (S.1.eraseIdx m).length ≤ 12; omega, by show nA (S.1.eraseIdx m) ≤ 3; omega, fun x hx => g3 x (sub.subset hx), g4.sublist sub⟩, r, ?_, s⟩
  show 0 ≤ (if p.1 = 2 then outC S.2.2.1 (nA (S.1.take m)) else S.2.2.1) ∧ (if p.1 = 2 then outC S.2.2.1 (nA (S.1.take m)) else S.2.2.1) < 3 ^ nA (S.1.eraseIdx m)
  by_cases z : p.1 = 2
  · rw [if_pos z] at e ⊢
    have ht := nA_take hp z
    exact outC_lt (by omega) (by omega) (by rw [e]; exact c)
  · rw [if_neg z] at e ⊢
    rw [show nA (S.1.eraseIdx m) = nA S.1 by omega]
    exact c
