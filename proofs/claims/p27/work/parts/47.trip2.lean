/-! part 47: the desk: trip -/
/-- up to f steps of a trial from a value: the value of the first other present case, plus 1000 -/
def tripL (i : Nat) (d o : Int) : Nat → Stt → Int → Int
  | 0, _, _ => -1
  | f + 1, S, v => if (setS (addV S.1 i d, S.2)).2.2.1 = o then tripL i d o f (setS (addV S.1 i d, S.2)) (v + d) else v + d + 1000
def opTrip (q : Dsk) (x z : Int) : Int ⊕ String := match prt q.1.1 x with
  | none => .inr eIO
  | some p => if p.1 = 1 then .inl (tripL x.toNat (if z = 0 then -1 else 1) q.1.2.2.1 (200 - (if z = 0 then -1 else 1) * p.2.2.2).toNat q.1 p.2.2.2) else .inr eIS
set_option maxHeartbeats 4000000 in
set_option maxRecDepth 100000 in
theorem sX6_trip_0 {X : Xt} {n : Nat} {h : HP} {a0 : Nat} {x1 : Int} {x2 : Int} {fs1 : List Value} (hc : Cx X cX6_trip RX6 7 8 139) {K : KT} (hr : CxR X (some .int) K) (e1 : At h n a0 (.inl (6, fs1))) (z1 : fs1.length = 6)
    (P : spec_X6_requireSource [.ref a0, .int (i3 x1)] n h (kc X 0 0 2 [(0, .ref a0), (1, .int (i3 x1)), (2, .int (i3 x2))] [] n)) :
    Ok X 2 12 0 [(0, .ref a0), (1, .int (i3 x1)), (2, .int (i3 x2))] [] n h := by
  refine ok_aload_n (pc := 0) hc dX6_trip_0 rfl 0 rfl ?_
  refine ok_iload_n (pc := 1) hc dX6_trip_1 rfl 1 rfl ?_
  exact ok_callV (pc := 2) (a := a0) (cb := 0) (sb := 0) (st := []) hc [.int (i3 x1)] cv_X6_118 sp_X6_requireSource (by decide) dX6_trip_2 rfl e1.1 e1.2 rfl rfl rfl (Nat.le_of_ble_eq_true rfl) P

set_option maxHeartbeats 4000000 in
set_option maxRecDepth 100000 in
theorem sX6_trip_5 {X : Xt} {n : Nat} {h : HP} {a0 : Nat} {x1 : Int} {x2 : Int} {fs1 : List Value} {q2 : Nat} {q3 : Nat} {fs4 : List Value} {q5 : Nat} {fs6 : List Value} (hc : Cx X cX6_trip RX6 7 8 139) {K : KT} (hr : CxR X (some .int) K) (e1 : At h n a0 (.inl (6, fs1))) (z1 : fs1.length = 6) (v1_1 : fs1[1]? = some (.ref q2)) (v1_0 : fs1[0]? = some (.ref q3)) (e4 : At h n q3 (.inl (0, fs4))) (z4 : fs4.length = 8) (v4_0 : fs4[0]? = some (.ref q5)) (e6 : At h n q2 (.inl (0, fs6))) (z6 : fs6.length = 8)
    (P : spec_X0_takeOver [.ref q2, .ref q5] n h (kc X 0 0 16 [(0, .ref a0), (1, .int (i3 x1)), (2, .int (i3 x2))] [] n)) :
    Ok X 0 0 5 [(0, .ref a0), (1, .int (i3 x1)), (2, .int (i3 x2))] [] n h := by
  refine ok_aload_n (pc := 5) hc dX6_trip_5 rfl 0 rfl ?_
  refine ok_get (pc := 6) hc fl_X6_16 dX6_trip_6 e1.1 e1.2 v1_1 ?_
  refine ok_aload_n (pc := 9) hc dX6_trip_9 rfl 0 rfl ?_
  refine ok_get (pc := 10) hc fl_X6_10 dX6_trip_10 e1.1 e1.2 v1_0 ?_
  refine ok_get (pc := 13) hc fl_X6_43 dX6_trip_13 e4.1 e4.2 v4_0 ?_
  exact ok_callV (pc := 16) (a := q2) (cb := 0) (sb := 0) (st := []) hc [.ref q5] cv_X6_143 sp_X0_takeOver (by decide) dX6_trip_16 rfl e6.1 e6.2 rfl rfl rfl (Nat.le_of_ble_eq_true rfl) P

set_option maxHeartbeats 4000000 in
set_option maxRecDepth 100000 in
theorem sX6_trip_19 {X : Xt} {n : Nat} {h : HP} {a0 : Nat} {x1 : Int} {x2 : Int} {fs1 : List Value} {q2 : Nat} {fs3 : List Value} {q4 : Nat} {fs5 : List Value} {q6 : Nat} {fs7 : List Value} {q8 : Nat} {len10 : Nat} {f10 : Nat → Int} (hc : Cx X cX6_trip RX6 7 8 139) {K : KT} (hr : CxR X (some .int) K) (e1 : At h n a0 (.inl (6, fs1))) (z1 : fs1.length = 6) (v1_1 : fs1[1]? = some (.ref q2)) (e3 : At h n q2 (.inl (0, fs3))) (z3 : fs3.length = 8) (v3_0 : fs3[0]? = some (.ref q4)) (e5 : At h n q4 (.inl (4, fs5))) (z5 : fs5.length = 4) (v5_0 : fs5[0]? = some (.ref q6)) (e7 : At h n q6 (.inl (2, fs7))) (z7 : fs7.length = 5) (v7_3 : fs7[3]? = some (.ref q8)) (e10 : At h n q8 (ai len10 f10))
    (P : (R3 x2) ∧ (x2 = 0 → (Ix x1 len10) ∧ Ok X 0 0 59 [(0, .ref a0), (1, .int (i3 x1)), (2, .int (i3 x2)), (3, .ref q8), (4, .int (i3 (-1))), (5, .int (i3 (200 - ((-1) * (f10 (x1 : Int).toNat))))), (6, .int (i3 0))] [] n h) ∧ (¬ x2 = 0 → (Ix x1 len10) ∧ Ok X 0 0 59 [(0, .ref a0), (1, .int (i3 x1)), (2, .int (i3 x2)), (3, .ref q8), (4, .int (i3 1)), (5, .int (i3 (200 - (1 * (f10 (x1 : Int).toNat))))), (6, .int (i3 0))] [] n h)) :
    Ok X 0 0 19 [(0, .ref a0), (1, .int (i3 x1)), (2, .int (i3 x2))] [] n h := by
  refine ok_aload_n (pc := 19) hc dX6_trip_19 rfl 0 rfl ?_
  refine ok_get (pc := 20) hc fl_X6_16 dX6_trip_20 e1.1 e1.2 v1_1 ?_
  refine ok_get (pc := 23) hc fl_X6_43 dX6_trip_23 e3.1 e3.2 v3_0 ?_
  refine ok_get (pc := 26) hc fl_X6_47 dX6_trip_26 e5.1 e5.2 v5_0 ?_
  refine ok_get (pc := 29) hc fl_X6_102 dX6_trip_29 e7.1 e7.2 v7_3 ?_
  refine ok_astore_n (pc := 32) hc (lv' := [(3, .ref q8), (0, .ref a0), (1, .int (i3 x1)), (2, .int (i3 x2))]) dX6_trip_32 rfl (by decide) rfl ?_
  refine ok_iload_n (pc := 33) hc dX6_trip_33 rfl 3 rfl ?_
  obtain ⟨r9, P⟩ := P
  refine zk_if_eq (pc := 34) (tgt := 41) hc dX6_trip_34 (by decide) r9 (fun c => ?_) (fun c => ?_)
  · have P := P.1 c
    refine ok_iconst (pc := 41) hc (v := i3 (-1)) dX6_trip_41 (by decide) ?_
    refine ok_istore (pc := 42) hc (lv' := [(4, .int (i3 (-1))), (3, .ref q8), (0, .ref a0), (1, .int (i3 x1)), (2, .int (i3 x2))]) dX6_trip_42 (by decide) rfl ?_
    refine ok_sipush (pc := 44) hc (v := i3 200) dX6_trip_44 (by decide) ?_
    refine ok_iload (pc := 47) hc dX6_trip_47 0 rfl ?_
    refine ok_aload_n (pc := 49) hc dX6_trip_49 rfl 1 rfl ?_
    refine ok_iload_n (pc := 50) hc dX6_trip_50 rfl 3 rfl ?_
    obtain ⟨r, P⟩ := P
    refine zk_iald (pc := 51) hc dX6_trip_51 e10.1 e10.2 r ?_
    refine zk_imul (pc := 52) hc dX6_trip_52 ?_
    refine zk_isub (pc := 53) hc dX6_trip_53 ?_
    refine ok_istore (pc := 54) hc (lv' := [(5, .int (i3 (200 - ((-1) * (f10 (x1 : Int).toNat))))), (4, .int (i3 (-1))), (3, .ref q8), (0, .ref a0), (1, .int (i3 x1)), (2, .int (i3 x2))]) dX6_trip_54 (by decide) rfl ?_
    refine ok_iconst (pc := 56) hc (v := i3 0) dX6_trip_56 (by decide) ?_
    refine ok_istore (pc := 57) hc (lv' := [(6, .int (i3 0)), (5, .int (i3 (200 - ((-1) * (f10 (x1 : Int).toNat))))), (4, .int (i3 (-1))), (3, .ref q8), (0, .ref a0), (1, .int (i3 x1)), (2, .int (i3 x2))]) dX6_trip_57 (by decide) rfl ?_
    refine ok_lv [4, 5, 6, 3, 2, 1, 0] rfl ?_
    exact P
  · have P := P.2 c
    refine ok_iconst (pc := 37) hc (v := i3 1) dX6_trip_37 (by decide) ?_
    refine ok_goto (pc := 38) (tgt := 42) hc dX6_trip_38 (by decide) ?_
    refine ok_istore (pc := 42) hc (lv' := [(4, .int (i3 1)), (3, .ref q8), (0, .ref a0), (1, .int (i3 x1)), (2, .int (i3 x2))]) dX6_trip_42 (by decide) rfl ?_
    refine ok_sipush (pc := 44) hc (v := i3 200) dX6_trip_44 (by decide) ?_
    refine ok_iload (pc := 47) hc dX6_trip_47 0 rfl ?_
    refine ok_aload_n (pc := 49) hc dX6_trip_49 rfl 1 rfl ?_
    refine ok_iload_n (pc := 50) hc dX6_trip_50 rfl 3 rfl ?_
    obtain ⟨r, P⟩ := P
    refine zk_iald (pc := 51) hc dX6_trip_51 e10.1 e10.2 r ?_
    refine zk_imul (pc := 52) hc dX6_trip_52 ?_
    refine zk_isub (pc := 53) hc dX6_trip_53 ?_
    refine ok_istore (pc := 54) hc (lv' := [(5, .int (i3 (200 - (1 * (f10 (x1 : Int).toNat))))), (4, .int (i3 1)), (3, .ref q8), (0, .ref a0), (1, .int (i3 x1)), (2, .int (i3 x2))]) dX6_trip_54 (by decide) rfl ?_
    refine ok_iconst (pc := 56) hc (v := i3 0) dX6_trip_56 (by decide) ?_
    refine ok_istore (pc := 57) hc (lv' := [(6, .int (i3 0)), (5, .int (i3 (200 - (1 * (f10 (x1 : Int).toNat))))), (4, .int (i3 1)), (3, .ref q8), (0, .ref a0), (1, .int (i3 x1)), (2, .int (i3 x2))]) dX6_trip_57 (by decide) rfl ?_
    refine ok_lv [4, 5, 6, 3, 2, 1, 0] rfl ?_
    exact P

set_option maxHeartbeats 4000000 in
set_option maxRecDepth 100000 in
theorem sX6_trip_59 {X : Xt} {n : Nat} {h : HP} {a0 : Nat} {x1 : Int} {x2 : Int} {a3 : Nat} {x4 : Int} {x5 : Int} {x6 : Int} (hc : Cx X cX6_trip RX6 7 8 139) {K : KT} (hr : CxR X (some .int) K) 
    (P : (R3 x6) ∧ (R3 x5) ∧ (x5 ≤ x6 → K (.inl (some (.int (i3 (-1))))) n h) ∧ (¬ x5 ≤ x6 → Ok X 0 0 66 [(0, .ref a0), (1, .int (i3 x1)), (2, .int (i3 x2)), (3, .ref a3), (4, .int (i3 x4)), (5, .int (i3 x5)), (6, .int (i3 x6))] [] n h)) :
    Ok X 0 0 59 [(0, .ref a0), (1, .int (i3 x1)), (2, .int (i3 x2)), (3, .ref a3), (4, .int (i3 x4)), (5, .int (i3 x5)), (6, .int (i3 x6))] [] n h := by
  refine ok_iload (pc := 59) hc dX6_trip_59 6 rfl ?_
  refine ok_iload (pc := 61) hc dX6_trip_61 5 rfl ?_
  obtain ⟨r1, P⟩ := P
  obtain ⟨r2, P⟩ := P
  refine zk_icmp_ge (pc := 63) (tgt := 118) hc dX6_trip_63 (by decide) r1 r2 (fun c => ?_) (fun c => ?_)
  · have P := P.1 c
    refine ok_iconst (pc := 118) hc (v := i3 (-1)) dX6_trip_118 (by decide) ?_
    exact ok_iret (st := []) (pc := 119) hc hr dX6_trip_119 P
  · have P := P.2 c
    exact P

set_option maxHeartbeats 4000000 in
set_option maxRecDepth 100000 in
theorem sX6_trip_66 {X : Xt} {n : Nat} {h : HP} {a0 : Nat} {x1 : Int} {x2 : Int} {a3 : Nat} {x4 : Int} {x5 : Int} {x6 : Int} {len1 : Nat} {f1 : Nat → Int} {fs2 : List Value} {q3 : Nat} {fs4 : List Value} (hc : Cx X cX6_trip RX6 7 8 139) {K : KT} (hr : CxR X (some .int) K) (e1 : At h n a3 (ai len1 f1)) (e2 : At h n a0 (.inl (6, fs2))) (z2 : fs2.length = 6) (v2_1 : fs2[1]? = some (.ref q3)) (e4 : At h n q3 (.inl (0, fs4))) (z4 : fs4.length = 8)
    (P : (Ix x1 len1) ∧ (Ix x1 len1) ∧ spec_X0_settle [.ref q3] n (va_up h a3 (ai len1 (va_up f1 (x1 : Int).toNat ((f1 (x1 : Int).toNat) + x4)))) (kc X 0 0 78 [(0, .ref a0), (1, .int (i3 x1)), (2, .int (i3 x2)), (3, .ref a3), (4, .int (i3 x4)), (5, .int (i3 x5)), (6, .int (i3 x6))] [] n)) :
    Ok X 0 0 66 [(0, .ref a0), (1, .int (i3 x1)), (2, .int (i3 x2)), (3, .ref a3), (4, .int (i3 x4)), (5, .int (i3 x5)), (6, .int (i3 x6))] [] n h := by
  refine ok_aload_n (pc := 66) hc dX6_trip_66 rfl 3 rfl ?_
  refine ok_iload_n (pc := 67) hc dX6_trip_67 rfl 1 rfl ?_
  refine ok_dup2_11 (pc := 68) hc dX6_trip_68 rfl rfl ?_
  obtain ⟨r, P⟩ := P
  refine zk_iald (pc := 69) hc dX6_trip_69 e1.1 e1.2 r ?_
  refine ok_iload (pc := 70) hc dX6_trip_70 4 rfl ?_
  refine zk_iadd (pc := 72) hc dX6_trip_72 ?_
  obtain ⟨r, P⟩ := P
  refine zk_iast (pc := 73) hc dX6_trip_73 e1.1 e1.2 r ?_
  refine ok_aload_n (pc := 74) hc dX6_trip_74 rfl 0 rfl ?_
  refine ok_get (pc := 75) hc fl_X6_16 dX6_trip_75 e2.1 ((up_ne (ne_oa e2.2 e1.2)).trans e2.2) v2_1 ?_
  exact ok_callV (pc := 78) (a := q3) (cb := 0) (sb := 0) (st := []) hc [] cv_X6_64 sp_X0_settle (by decide) dX6_trip_78 rfl e4.1 ((up_ne (ne_oa e4.2 e1.2)).trans e4.2) rfl rfl rfl (Nat.le_of_ble_eq_true rfl) P

set_option maxHeartbeats 4000000 in
set_option maxRecDepth 100000 in
theorem sX6_trip_81 {X : Xt} {n : Nat} {h : HP} {a0 : Nat} {x1 : Int} {x2 : Int} {a3 : Nat} {x4 : Int} {x5 : Int} {x6 : Int} {fs1 : List Value} {q2 : Nat} {fs3 : List Value} {q4 : Nat} {fs5 : List Value} {iv6 : Int} {q7 : Nat} {fs8 : List Value} {q9 : Nat} {fs10 : List Value} {iv11 : Int} {len14 : Nat} {f14 : Nat → Int} (hc : Cx X cX6_trip RX6 7 8 139) {K : KT} (hr : CxR X (some .int) K) (e1 : At h n a0 (.inl (6, fs1))) (z1 : fs1.length = 6) (v1_1 : fs1[1]? = some (.ref q2)) (e3 : At h n q2 (.inl (0, fs3))) (z3 : fs3.length = 8) (v3_0 : fs3[0]? = some (.ref q4)) (e5 : At h n q4 (.inl (4, fs5))) (z5 : fs5.length = 4) (v5_2 : fs5[2]? = some (.int (i3 iv6))) (v1_0 : fs1[0]? = some (.ref q7)) (e8 : At h n q7 (.inl (0, fs8))) (z8 : fs8.length = 8) (v8_0 : fs8[0]? = some (.ref q9)) (e10 : At h n q9 (.inl (4, fs10))) (z10 : fs10.length = 4) (v10_2 : fs10[2]? = some (.int (i3 iv11))) (e14 : At h n a3 (ai len14 f14))
    (P : (R3 iv6) ∧ (R3 iv11) ∧ (iv6 = iv11 → Ok X 0 0 59 [(0, .ref a0), (1, .int (i3 x1)), (2, .int (i3 x2)), (3, .ref a3), (4, .int (i3 x4)), (5, .int (i3 x5)), (6, .int (i3 (x6 + 1)))] [] n h) ∧ (¬ iv6 = iv11 → (Ix x1 len14) ∧ K (.inl (some (.int (i3 ((f14 (x1 : Int).toNat) + 1000))))) n h)) :
    Ok X 0 0 81 [(0, .ref a0), (1, .int (i3 x1)), (2, .int (i3 x2)), (3, .ref a3), (4, .int (i3 x4)), (5, .int (i3 x5)), (6, .int (i3 x6))] [] n h := by
  refine ok_aload_n (pc := 81) hc dX6_trip_81 rfl 0 rfl ?_
  refine ok_get (pc := 82) hc fl_X6_16 dX6_trip_82 e1.1 e1.2 v1_1 ?_
  refine ok_get (pc := 85) hc fl_X6_43 dX6_trip_85 e3.1 e3.2 v3_0 ?_
  refine ok_get (pc := 88) hc fl_X6_133 dX6_trip_88 e5.1 e5.2 v5_2 ?_
  refine ok_aload_n (pc := 91) hc dX6_trip_91 rfl 0 rfl ?_
  refine ok_get (pc := 92) hc fl_X6_10 dX6_trip_92 e1.1 e1.2 v1_0 ?_
  refine ok_get (pc := 95) hc fl_X6_43 dX6_trip_95 e8.1 e8.2 v8_0 ?_
  refine ok_get (pc := 98) hc fl_X6_133 dX6_trip_98 e10.1 e10.2 v10_2 ?_
  obtain ⟨r12, P⟩ := P
  obtain ⟨r13, P⟩ := P
  refine zk_icmp_eq (pc := 101) (tgt := 112) hc dX6_trip_101 (by decide) r12 r13 (fun c => ?_) (fun c => ?_)
  · have P := P.1 c
    refine zk_iinc (pc := 112) hc (q := 6) (x := x6) (lv' := [(6, .int (i3 (x6 + 1))), (0, .ref a0), (1, .int (i3 x1)), (2, .int (i3 x2)), (3, .ref a3), (4, .int (i3 x4)), (5, .int (i3 x5))]) dX6_trip_112 rfl (by decide) rfl ?_
    refine ok_goto (pc := 115) (tgt := 59) hc dX6_trip_115 (by decide) ?_
    refine ok_lv [1, 2, 3, 4, 5, 6, 0] rfl ?_
    exact P
  · have P := P.2 c
    refine ok_aload_n (pc := 104) hc dX6_trip_104 rfl 3 rfl ?_
    refine ok_iload_n (pc := 105) hc dX6_trip_105 rfl 1 rfl ?_
    obtain ⟨r, P⟩ := P
    refine zk_iald (pc := 106) hc dX6_trip_106 e14.1 e14.2 r ?_
    refine ok_sipush (pc := 107) hc (v := i3 1000) dX6_trip_107 (by decide) ?_
    refine zk_iadd (pc := 110) hc dX6_trip_110 ?_
    exact ok_iret (st := []) (pc := 111) hc hr dX6_trip_111 P

def spec_X6_trip (args : List Value) (n : Nat) (h : HP) (K : KT) : Prop := ∃ (q : Dsk) (x z : Int), args = [.ref 0, .int (i3 x), .int (i3 z)] ∧ R3 x ∧ R3 z ∧ DkA h n q ∧ ∀ h', DkA h' n q → Fr h h' 0 127 → K (oV (opTrip q x z)) n h'
theorem sp_X6_trip : Sp yX6_trip cX6_trip 7 (some .int) 8 139 2 12 spec_X6_trip := by
  refine sp_intro (by decide) (by rintro args n h K ⟨q, x, z, rfl, -⟩; exact Nat.le_of_ble_eq_true rfl) ?_
  rintro X args n h K hc hr ⟨q, x, z, rfl, hx, hz, hq, kk⟩
  unfold opTrip at kk
  have st : spec_X6_requireSource [.ref 0, .int (i3 x)] n h (kc X 0 0 2 [(0, .ref 0), (1, .int (i3 x)), (2, .int (i3 z))] [] n) := by
    refine ⟨q, x, rfl, hx, hq, ?_⟩
    cases hp : prt q.1.1 x with
    | none =>
      rw [hp] at kk
      exact ⟨rfl, okT_out hc hr (kk h hq Fr.rf)⟩
    | some p =>
      rw [hp] at kk
      simp only at kk ⊢
      by_cases c1 : p.1 = 1
      · rw [if_pos c1] at kk ⊢
        refine ⟨rfl, ?_⟩
        obtain ⟨hr1, hp1⟩ := prt_some hp
        have hG : GdS q.1 := hq.2.2.2.2.2.2.1
        have hl12 : q.1.1.length ≤ 12 := hG.1.1
        obtain ⟨_, _, _, _, _, _, _, _, hB⟩ := hq.parts
        obtain ⟨T, hT⟩ := hq.2.2.1
        obtain ⟨A, F, D, N, sat, rsn, cul, G, hU⟩ := hT.obj
        obtain ⟨d, hd⟩ : ∃ d : Int, d = if z = 0 then -1 else 1 := ⟨_, rfl⟩
        rw [← hd] at kk
        have hd1 : d = -1 ∨ d = 1 := by
          rw [hd]
          split
          · exact Or.inl rfl
          · exact Or.inr rfl
        have hPW : PW p := (hG.1.2.2.1 p (List.mem_of_getElem? hp1)).1
        have hpv : -200 ≤ p.2.2.2 ∧ p.2.2.2 ≤ 200 := by
          have := hPW.b
          omega
        have hdp : d * p.2.2.2 = -p.2.2.2 ∨ d * p.2.2.2 = p.2.2.2 := by
          rcases hd1 with e | e <;> rw [e] <;> omega
        have hst : (200 - d * p.2.2.2) = ((200 - d * p.2.2.2).toNat : Nat) := by omega
        have hn4 : (200 - d * p.2.2.2).toNat ≤ 400 := by omega
        refine sX6_trip_5 hc hr hq.1 rfl rfl rfl hB.1 rfl rfl hU.1 rfl ⟨29, 2, T, q.1, rfl, hT.w, hB.2.1, by omega, hG.fit.1, hG.fit.2, fun h1 hA1 f1 => ⟨rfl, ?_⟩⟩
        have L : ∀ (j i : Nat) (S' : Stt) (p' : Part) (hh : HP), i + j = (200 - d * p.2.2.2).toNat → S'.1[x.toNat]? = some p' → p'.1 = 1 → p'.2.2.2 = p.2.2.2 + d * i → GdS S' → BnA hh n 29 S' → tripL x.toNat d q.1.2.2.1 j S' p'.2.2.2 = tripL x.toNat d q.1.2.2.1 (200 - d * p.2.2.2).toNat q.1 p.2.2.2 → Fr h hh 29 56 → Ok X 0 0 59 [(0, .ref 0), (1, .int (i3 x)), (2, .int (i3 z)), (3, .ref 35), (4, .int (i3 d)), (5, .int (i3 (200 - d * p.2.2.2))), (6, .int (i3 i))] [] n hh := by
          intro j
          induction j with
          | zero =>
            intro i S' p' hh hij hp' h1' hv' hg hA e hf
            have : i = (200 - d * p.2.2.2).toNat := by omega
            refine sX6_trip_59 hc hr ⟨R3_s (by omega), R3_s (by omega), fun _ => ?_, fun c => absurd c (by omega)⟩
            rw [← e] at kk
            exact kk hh (hq.try hA hf) (hf.sub (by omega) (by omega))
          | succ j ih =>
            intro i S' p' hh hij hp' h1' hv' hg hA e hf
            obtain ⟨_, _, _, _, hK⟩ := id hA
            obtain ⟨_, _, _, hB', -⟩ := id hK
            obtain ⟨t, ht7, hti, hval⟩ := hK.val29 hg hp' h1'
            have hnv : -200 ≤ p'.2.2.2 + d ∧ p'.2.2.2 + d ≤ 200 := by
              rw [hv']
              rcases hd1 with z | z <;> rw [z] at hij ⊢ <;> omega
            obtain ⟨hK2, g2⟩ := hval _ hnv
            have ea : addV S'.1 x.toNat d = S'.1.set x.toNat (valP p' (p'.2.2.2 + d)) := by
              unfold addV
              rw [hp']
            refine sX6_trip_59 hc hr ⟨R3_s (by omega), R3_s (by omega), fun c => absurd c (by omega), fun _ => ?_⟩
            refine sX6_trip_66 hc hr ht7 (hq.1.fr hf (by omega)) rfl rfl hB'.1 rfl ⟨⟨by omega, by omega, by omega⟩, ⟨by omega, by omega, by omega⟩, 29, _, rfl, by rw [hti]; exact hK2.a, fun h3 hA3 f3 => ⟨rfl, ?_⟩⟩
            obtain ⟨_, _, _, _, hK3⟩ := id hA3
            obtain ⟨_, _, _, hB3, -⟩ := id hK3
            have f13 : Fr hh h3 29 56 := (Fr.rf.up (by omega)).tr f3
            have hp3 : (setS (S'.1.set x.toNat (valP p' (p'.2.2.2 + d)), S'.2)).1[x.toNat]? = some (valP p' (p'.2.2.2 + d)) := by
              rw [setS_1]
              exact List.getElem?_set_self (List.getElem?_eq_some_iff.mp hp').1
            have hv3' : (valP p' (p'.2.2.2 + d)).2.2.2 = p.2.2.2 + d * ((i + 1 : Nat) : Int) := by
              show p'.2.2.2 + d = _
              rw [hv']
              rcases hd1 with z | z <;> rw [z] <;> omega
            have sr := hB3.2.1.2.2.2.1
            have sr0 := hB.2.1.2.2.2.1
            obtain ⟨t3, ht3, hti3, -⟩ := hK3.val29 g2.set hp3 h1'
            have hti3 : t3 x.toNat = p'.2.2.2 + d := hti3
            rw [show tripL x.toNat d q.1.2.2.1 (j + 1) S' p'.2.2.2 = (if (setS (addV S'.1 x.toNat d, S'.2)).2.2.1 = q.1.2.2.1 then tripL x.toNat d q.1.2.2.1 j (setS (addV S'.1 x.toNat d, S'.2)) (p'.2.2.2 + d) else p'.2.2.2 + d + 1000) from rfl, ea] at e
            have hf3 := hf.tr f13
            obtain ⟨_, _, _, _, _, _, _, _, hBn⟩ := (hq.try hA3 hf3).parts
            refine sX6_trip_81 hc hr (hq.1.fr hf3 (by omega)) rfl rfl hB3.1 rfl rfl hB3.2.1.1 rfl rfl rfl hBn.1 rfl rfl hBn.2.1.1 rfl rfl ht3 ⟨R3_s (by omega), R3_s (by omega), fun y => ?_, fun y => ⟨⟨by omega, by omega, by omega⟩, ?_⟩⟩
            · rw [if_pos y] at e
              exact ih (i + 1) _ _ h3 (by omega) hp3 h1' hv3' g2.set hA3 e hf3
            · rw [if_neg y] at e
              rw [hti3]
              rw [← e] at kk
              exact kk h3 (hq.try hA3 hf3) (hf3.sub (by omega) (by omega))
        obtain ⟨_, _, _, _, hK1⟩ := id hA1
        obtain ⟨_, _, _, hB1, -⟩ := id hK1
        obtain ⟨t, ht7, hti, -⟩ := hK1.val29 hG hp1 c1
        have L0 := L (200 - d * p.2.2.2).toNat 0 q.1 p h1 (by omega) hp1 c1 (by simp) hG hA1 rfl (f1.sub (by omega) (by omega))
        refine sX6_trip_19 hc hr (hq.1.fr f1 (by omega)) rfl rfl hB1.1 rfl rfl hB1.2.1.1 rfl rfl hB1.2.1.2.1.obj rfl rfl ht7 ?_
        rw [hti]
        refine ⟨hz, fun y => ⟨⟨by omega, by omega, by omega⟩, ?_⟩, fun y => ⟨⟨by omega, by omega, by omega⟩, ?_⟩⟩
        · rw [if_pos y] at hd
          rw [hd] at L0
          exact L0
        · rw [if_neg y] at hd
          rw [hd] at L0
          exact L0
      · rw [if_neg c1] at kk ⊢
        exact ⟨rfl, okT_out hc hr (kk h hq Fr.rf)⟩
  exact sX6_trip_0 hc hr hq.1 rfl st
