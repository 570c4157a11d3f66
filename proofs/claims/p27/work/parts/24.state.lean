/-! part 24: classes State and History -/
/-- a state: parts, rail, case, settled -/
abbrev Stt : Type := List Part × Int × Int × Int
def StA (h : HP) (n a : Nat) (S : Stt) : Prop := At h n a (.inl (4, [.ref (a + 1), .int (i3 S.2.1), .int (i3 S.2.2.1), .int (i3 S.2.2.2)])) ∧ PtA h n (a + 1) 12 S.1 ∧ (0 ≤ S.2.1 ∧ S.2.1 ≤ 1000) ∧ (0 ≤ S.2.2.1 ∧ S.2.2.1 ≤ 26) ∧ (S.2.2.2 = 0 ∨ S.2.2.2 = 1)
theorem StA.fr {h h' : HP} {n a lo hi : Nat} {S : Stt} (p : StA h n a S) (g : Fr h h' lo hi) (d : a + 5 < lo ∨ hi < a) : StA h' n a S := ⟨p.1.fr g (by omega), p.2.1.fr g (by omega), p.2.2⟩
set_option maxHeartbeats 4000000 in
set_option maxRecDepth 100000 in
theorem sX4_copyFrom_0 {X : Xt} {n : Nat} {h : HP} {a0 : Nat} {a1 : Nat} {fs1 : List Value} {q2 : Nat} {fs3 : List Value} {q4 : Nat} {fs5 : List Value} (hc : Cx X cX4_copyFrom RX4 2 3 67) {K : KT} (hr : CxR X none K) (e1 : At h n a0 (.inl (4, fs1))) (z1 : fs1.length = 4) (v1_0 : fs1[0]? = some (.ref q2)) (e3 : At h n a1 (.inl (4, fs3))) (z3 : fs3.length = 4) (v3_0 : fs3[0]? = some (.ref q4)) (e5 : At h n q2 (.inl (2, fs5))) (z5 : fs5.length = 5)
    (P : spec_X2_copyFrom [.ref q2, .ref q4] n h (kc X 0 0 8 [(0, .ref a0), (1, .ref a1)] [] n)) :
    Ok X 0 0 0 [(0, .ref a0), (1, .ref a1)] [] n h := by
  refine ok_aload_n (pc := 0) hc dX4_copyFrom_0 rfl 0 rfl ?_
  refine ok_get (pc := 1) hc fl_X4_14 dX4_copyFrom_1 e1.1 e1.2 v1_0 ?_
  refine ok_aload_n (pc := 4) hc dX4_copyFrom_4 rfl 1 rfl ?_
  refine ok_get (pc := 5) hc fl_X4_14 dX4_copyFrom_5 e3.1 e3.2 v3_0 ?_
  exact ok_callV (pc := 8) (a := q2) (cb := 0) (sb := 0) (st := []) hc [.ref q4] cv_X4_28 sp_X2_copyFrom (by decide) dX4_copyFrom_8 rfl e5.1 e5.2 rfl rfl rfl (Nat.le_of_ble_eq_true rfl) P

set_option maxHeartbeats 4000000 in
set_option maxRecDepth 100000 in
theorem sX4_copyFrom_11 {X : Xt} {n : Nat} {h : HP} {a0 : Nat} {a1 : Nat} {fs1 : List Value} {iv2 : Int} {fs3 : List Value} {iv5 : Int} {iv6 : Int} (hc : Cx X cX4_copyFrom RX4 2 3 67) {K : KT} (hr : CxR X none K) (e1 : At h n a1 (.inl (4, fs1))) (z1 : fs1.length = 4) (v1_1 : fs1[1]? = some (.int (i3 iv2))) (e3 : At h n a0 (.inl (4, fs3))) (z3 : fs3.length = 4) (ne4 : a1 ≠ a0) (v1_2 : fs1[2]? = some (.int (i3 iv5))) (v1_3 : fs1[3]? = some (.int (i3 iv6)))
    (P : (iv6 = 0 ∨ iv6 = 1) ∧ K (.inl none) n (va_up (va_up (va_up h a0 (.inl (4, (fs3.set 1 (.int (i3 iv2)))))) a0 (.inl (4, ((fs3.set 1 (.int (i3 iv2))).set 2 (.int (i3 iv5)))))) a0 (.inl (4, (((fs3.set 1 (.int (i3 iv2))).set 2 (.int (i3 iv5))).set 3 (.int (i3 iv6))))))) :
    Ok X 0 0 11 [(0, .ref a0), (1, .ref a1)] [] n h := by
  refine ok_aload_n (pc := 11) hc dX4_copyFrom_11 rfl 0 rfl ?_
  refine ok_aload_n (pc := 12) hc dX4_copyFrom_12 rfl 1 rfl ?_
  refine ok_get (pc := 13) hc fl_X4_20 dX4_copyFrom_13 e1.1 e1.2 v1_1 ?_
  refine ok_put (pc := 16) hc fl_X4_20 dX4_copyFrom_16 e3.1 e3.2 (by simp [List.length_set, z3]) (fun _ => rfl) (fun _ => rfl) ?_
  refine ok_aload_n (pc := 19) hc dX4_copyFrom_19 rfl 0 rfl ?_
  refine ok_aload_n (pc := 20) hc dX4_copyFrom_20 rfl 1 rfl ?_
  refine ok_get (pc := 21) hc fl_X4_32 dX4_copyFrom_21 e1.1 ((up_ne ne4).trans e1.2) v1_2 ?_
  refine ok_put (pc := 24) hc fl_X4_32 dX4_copyFrom_24 e3.1 up_self (by simp [List.length_set, z3]) (fun _ => rfl) (fun _ => rfl) ?_
  refine ok_aload_n (pc := 27) hc dX4_copyFrom_27 rfl 0 rfl ?_
  refine ok_aload_n (pc := 28) hc dX4_copyFrom_28 rfl 1 rfl ?_
  refine ok_get (pc := 29) hc fl_X4_24 dX4_copyFrom_29 e1.1 ((up_ne ne4).trans ((up_ne ne4).trans e1.2)) v1_3 ?_
  obtain ⟨r, P⟩ := P
  refine ok_put (pc := 32) hc fl_X4_24 dX4_copyFrom_32 e3.1 up_self (by simp [List.length_set, z3]) (fun _ => nar_z r) (fun _ => fit_zz r) ?_
  exact ok_vret (st := []) (pc := 35) hc hr dX4_copyFrom_35 P

def spec_X4_copyFrom (args : List Value) (n : Nat) (h : HP) (K : KT) : Prop := ∃ (a b : Nat) (S0 S : Stt), args = [.ref a, .ref b] ∧ StA h n a S0 ∧ StA h n b S ∧ (a + 5 < b ∨ b + 5 < a) ∧ ∀ h', StA h' n a S → Fr h h' a (a + 5) → K (.inl none) n h'
theorem PtA.le {h : HP} {n a cap : Nat} {ps : List Part} (p : PtA h n a cap ps) : ps.length ≤ cap ∧ cap ≤ 15 ∧ ∀ q ∈ ps, PW q := by
  obtain ⟨k, f, s, t, E, E1, E2, E3, E4, hv, hw, hl, hcap⟩ := p
  exact ⟨hl, hcap, hw⟩
theorem PtA.obj {h : HP} {n a cap : Nat} {ps : List Part} (p : PtA h n a cap ps) : At h n a (.inl (2, [.ref (a + 1), .ref (a + 2), .ref (a + 3), .ref (a + 4), .int (i3 ps.length)])) := by
  obtain ⟨k, f, s, t, E, -⟩ := p
  exact E
theorem sp_X4_copyFrom : Sp yX4_copyFrom cX4_copyFrom 2 none 3 67 0 0 spec_X4_copyFrom := by
  refine sp_intro (by decide) (by rintro args n h K ⟨a, b, S0, S, rfl, -⟩; exact Nat.le_of_ble_eq_true rfl) ?_
  rintro X args n h K hc hr ⟨a, b, S0, S, rfl, ⟨A0, A1, -⟩, ⟨B0, B1, B2, B3, B4⟩, hd, kk⟩
  refine sX4_copyFrom_0 hc hr A0 rfl rfl B0 rfl rfl A1.obj rfl ⟨a + 1, b + 1, 12, 12, S0.1, S.1, rfl, A1, B1, by omega, B1.le.1, fun h1 q1 q2 => ⟨rfl, ?_⟩⟩
  refine sX4_copyFrom_11 hc hr (B0.fr q2 (by omega)) rfl rfl (A0.fr q2 (by omega)) rfl (by omega) rfl rfl ⟨B4, ?_⟩
  refine kk _ ⟨⟨A0.1, up_self⟩, ?_, B2, B3, B4⟩ ((((q2.sub (by omega) (by omega)).up (by omega)).up (by omega)).up (by omega))
  refine q1.fr (lo := a) (hi := a) (((Fr.rf.up ?_).up ?_).up ?_) (by omega) <;> omega
set_option maxHeartbeats 4000000 in
set_option maxRecDepth 100000 in
theorem sX4_empty_0 {X : Xt} {n : Nat} {h : HP} {a0 : Nat} {fs1 : List Value} {q2 : Nat} {fs3 : List Value} (hc : Cx X cX4_empty RX4 1 0 0) {K : KT} (hr : CxR X none K) (e1 : At h n a0 (.inl (4, fs1))) (z1 : fs1.length = 4) (v1_0 : fs1[0]? = some (.ref q2)) (e3 : At h n q2 (.inl (2, fs3))) (z3 : fs3.length = 5)
    (P : K (.inl none) n (va_up (va_up (va_up h q2 (.inl (2, (fs3.set 4 (.int (i3 0)))))) a0 (.inl (4, (fs1.set 1 (.int (i3 150)))))) a0 (.inl (4, ((fs1.set 1 (.int (i3 150))).set 2 (.int (i3 0))))))) :
    Ok X 0 0 0 [(0, .ref a0)] [] n h := by
  refine ok_aload_n (pc := 0) hc dX4_empty_0 rfl 0 rfl ?_
  refine ok_get (pc := 1) hc fl_X4_14 dX4_empty_1 e1.1 e1.2 v1_0 ?_
  refine ok_iconst (pc := 4) hc (v := i3 0) dX4_empty_4 (by decide) ?_
  refine ok_put (pc := 5) hc fl_X4_35 dX4_empty_5 e3.1 e3.2 (by simp [List.length_set, z3]) (fun _ => rfl) (fun _ => rfl) ?_
  refine ok_aload_n (pc := 8) hc dX4_empty_8 rfl 0 rfl ?_
  refine ok_sipush (pc := 9) hc (v := i3 150) dX4_empty_9 (by decide) ?_
  refine ok_put (pc := 12) hc fl_X4_20 dX4_empty_12 e1.1 ((up_ne (ne_oo e1.2 e3.2 (by decide))).trans e1.2) (by simp [List.length_set, z1]) (fun _ => rfl) (fun _ => rfl) ?_
  refine ok_aload_n (pc := 15) hc dX4_empty_15 rfl 0 rfl ?_
  refine ok_iconst (pc := 16) hc (v := i3 0) dX4_empty_16 (by decide) ?_
  refine ok_put (pc := 17) hc fl_X4_32 dX4_empty_17 e1.1 up_self (by simp [List.length_set, z1]) (fun _ => rfl) (fun _ => rfl) ?_
  exact ok_vret (st := []) (pc := 20) hc hr dX4_empty_20 P

def spec_X4_empty (args : List Value) (n : Nat) (h : HP) (K : KT) : Prop := ∃ (a : Nat) (S : Stt), args = [.ref a] ∧ StA h n a S ∧ ∀ h', StA h' n a ([], 150, 0, S.2.2.2) → Fr h h' a (a + 5) → K (.inl none) n h'
theorem PtA.empty {h : HP} {n a cap : Nat} {ps : List Part} (p : PtA h n a cap ps) : PtA (va_up h a (.inl (2, [.ref (a + 1), .ref (a + 2), .ref (a + 3), .ref (a + 4), .int (i3 0)]))) n a cap [] := by
  obtain ⟨k, f, s, t, E, E1, E2, E3, E4, hv, hw, hl, hcap⟩ := p
  exact ⟨k, f, s, t, E.it, E1.up (by omega), E2.up (by omega), E3.up (by omega), E4.up (by omega), fun i hi => absurd hi (Nat.not_lt_zero i), fun p hp => absurd hp List.not_mem_nil, Nat.zero_le _, hcap⟩
theorem sp_X4_empty : Sp yX4_empty cX4_empty 1 none 0 0 0 0 spec_X4_empty := by
  refine sp_intro (by decide) (by rintro args n h K ⟨a, S, rfl, -⟩; exact Nat.le_of_ble_eq_true rfl) ?_
  rintro X args n h K hc hr ⟨a, S, rfl, ⟨A0, A1, A2, A3, A4⟩, kk⟩
  refine sX4_empty_0 hc hr A0 rfl rfl A1.obj rfl (kk _ ⟨⟨A0.1, up_self⟩, ?_, ⟨by show (0 : Int) ≤ 150; decide, by show (150 : Int) ≤ 1000; decide⟩, ⟨by show (0 : Int) ≤ 0; decide, by show (0 : Int) ≤ 26; decide⟩, A4⟩ (((Fr.rf.up (by omega)).up (by omega)).up (by omega)))
  refine A1.empty.fr (lo := a) (hi := a) ((Fr.rf.up ?_).up ?_) (by omega) <;> omega
/-- the case without the amplifier of weight 3 ^ j -/
def outC (c : Int) (j : Nat) : Int := c / (3 * 3 ^ j) * 3 ^ j + c % 3 ^ j
def remS (S : Stt) (m : Nat) (p : Part) : Stt := (S.1.eraseIdx m, S.2.1, if p.1 = 2 then outC S.2.2.1 (nA (S.1.take m)) else S.2.2.1, S.2.2.2)
theorem nA_take {ps : List Part} {m : Nat} {p : Part} (h : ps[m]? = some p) (h2 : p.1 = 2) : nA (ps.take m) + 1 ≤ nA ps := by
  have e := take_s h
  have h3 : nA (ps.take (m + 1)) ≤ nA ps := List.Sublist.countP_le (List.take_sublist _ _)
  rw [e, nA_app, nA_one, if_pos h2] at h3
  exact h3
set_option maxHeartbeats 4000000 in
set_option maxRecDepth 100000 in
theorem sX4_remove_0 {X : Xt} {n : Nat} {h : HP} {a0 : Nat} {x1 : Int} {fs1 : List Value} {q2 : Nat} {fs3 : List Value} {q4 : Nat} {len5 : Nat} {f5 : Nat → Int} (hc : Cx X cX4_remove RX4 3 1 23) {K : KT} (hr : CxR X none K) (e1 : At h n a0 (.inl (4, fs1))) (z1 : fs1.length = 4) (v1_0 : fs1[0]? = some (.ref q2)) (e3 : At h n q2 (.inl (2, fs3))) (z3 : fs3.length = 5) (v3_0 : fs3[0]? = some (.ref q4)) (e5 : At h n q4 (ai len5 f5))
    (P : (Ix x1 len5) ∧ (R3 (f5 (x1 : Int).toNat)) ∧ (¬ (f5 (x1 : Int).toNat) = 2 → spec_X2_removeAt [.ref q2, .int (i3 x1)] n h (kc X 0 0 52 [(0, .ref a0), (1, .int (i3 x1))] [] n)) ∧ ((f5 (x1 : Int).toNat) = 2 → spec_X2_amplifiersBefore [.ref q2, .int (i3 x1)] n h (kc X 0 0 21 [(0, .ref a0), (1, .int (i3 x1))] [.ref SA] n))) :
    Ok X 0 0 0 [(0, .ref a0), (1, .int (i3 x1))] [] n h := by
  refine ok_aload_n (pc := 0) hc dX4_remove_0 rfl 0 rfl ?_
  refine ok_get (pc := 1) hc fl_X4_14 dX4_remove_1 e1.1 e1.2 v1_0 ?_
  refine ok_get (pc := 4) hc fl_X4_38 dX4_remove_4 e3.1 e3.2 v3_0 ?_
  refine ok_iload_n (pc := 7) hc dX4_remove_7 rfl 1 rfl ?_
  obtain ⟨r, P⟩ := P
  refine zk_iald (pc := 8) hc dX4_remove_8 e5.1 e5.2 r ?_
  refine ok_iconst (pc := 9) hc (v := i3 2) dX4_remove_9 (by decide) ?_
  obtain ⟨r6, P⟩ := P
  refine zk_icmp_ne (pc := 10) (tgt := 47) hc dX4_remove_10 (by decide) r6 ⟨by decide, by decide⟩ (fun c => ?_) (fun c => ?_)
  · have P := P.1 c
    refine ok_aload_n (pc := 47) hc dX4_remove_47 rfl 0 rfl ?_
    refine ok_get (pc := 48) hc fl_X4_14 dX4_remove_48 e1.1 e1.2 v1_0 ?_
    refine ok_iload_n (pc := 51) hc dX4_remove_51 rfl 1 rfl ?_
    exact ok_callV (pc := 52) (a := q2) (cb := 0) (sb := 0) (st := []) hc [.int (i3 x1)] cv_X4_49 sp_X2_removeAt (by decide) dX4_remove_52 rfl e3.1 e3.2 rfl rfl rfl (Nat.le_of_ble_eq_true rfl) P
  · have P := P.2 c
    refine ok_getsN (pc := 13) hc (by decide) dX4_remove_13 ?_
    refine ok_aload_n (pc := 16) hc dX4_remove_16 rfl 0 rfl ?_
    refine ok_get (pc := 17) hc fl_X4_14 dX4_remove_17 e1.1 e1.2 v1_0 ?_
    refine ok_iload_n (pc := 20) hc dX4_remove_20 rfl 1 rfl ?_
    exact ok_callV (pc := 21) (a := q2) (cb := 0) (sb := 0) (st := [.ref SA]) hc [.int (i3 x1)] cv_X4_45 sp_X2_amplifiersBefore (by decide) dX4_remove_21 rfl e3.1 e3.2 rfl rfl rfl (Nat.le_of_ble_eq_true rfl) P

set_option maxHeartbeats 4000000 in
set_option maxRecDepth 100000 in
theorem sX4_remove_24 {X : Xt} {n : Nat} {h : HP} {a0 : Nat} {x1 : Int} {t0 : Int} {fs1 : List Value} {iv2 : Int} {q3 : Nat} {fs4 : List Value} (hc : Cx X cX4_remove RX4 3 1 23) {K : KT} (hr : CxR X none K) (e1 : At h n a0 (.inl (4, fs1))) (z1 : fs1.length = 4) (v1_2 : fs1[2]? = some (.int (i3 iv2))) (v1_0 : fs1[0]? = some (.ref q3)) (e4 : At h n q3 (.inl (2, fs4))) (z4 : fs4.length = 5)
    (P : (0 ≤ t0 ∧ t0 < 4) ∧ (((0 : Int) ≤ iv2 ∧ iv2 ≤ 2147483647) ∧ (0 : Int) < (3 * ((3 : Int) ^ (t0 : Int).toNat)) ∧ ((3 * ((3 : Int) ^ (t0 : Int).toNat)) : Int) ≤ 2147483647) ∧ (((0 : Int) ≤ iv2 ∧ iv2 ≤ 2147483647) ∧ (0 : Int) < ((3 : Int) ^ (t0 : Int).toNat) ∧ (((3 : Int) ^ (t0 : Int).toNat) : Int) ≤ 2147483647) ∧ spec_X2_removeAt [.ref q3, .int (i3 x1)] n (va_up h a0 (.inl (4, (fs1.set 2 (.int (i3 (((iv2 / (3 * ((3 : Int) ^ (t0 : Int).toNat))) * ((3 : Int) ^ (t0 : Int).toNat)) + (iv2 % ((3 : Int) ^ (t0 : Int).toNat))))))))) (kc X 0 0 52 [(0, .ref a0), (1, .int (i3 x1))] [] n)) :
    Ok X 0 0 24 [(0, .ref a0), (1, .int (i3 x1))] [.int (i3 t0), .ref SA] n h := by
  obtain ⟨r, P⟩ := P
  refine zk_ti (pc := 24) hc dX4_remove_24 r ?_
  refine ok_istore_n (pc := 25) hc (lv' := [(2, .int (i3 ((3 : Int) ^ (t0 : Int).toNat))), (0, .ref a0), (1, .int (i3 x1))]) dX4_remove_25 rfl (by decide) rfl ?_
  refine ok_aload_n (pc := 26) hc dX4_remove_26 rfl 1 rfl ?_
  refine ok_aload_n (pc := 27) hc dX4_remove_27 rfl 1 rfl ?_
  refine ok_get (pc := 28) hc fl_X4_32 dX4_remove_28 e1.1 e1.2 v1_2 ?_
  refine ok_iconst (pc := 31) hc (v := i3 3) dX4_remove_31 (by decide) ?_
  refine ok_iload_n (pc := 32) hc dX4_remove_32 rfl 0 rfl ?_
  refine zk_imul (pc := 33) hc dX4_remove_33 ?_
  obtain ⟨r, P⟩ := P
  refine zk_idiv (pc := 34) hc dX4_remove_34 r ?_
  refine ok_iload_n (pc := 35) hc dX4_remove_35 rfl 0 rfl ?_
  refine zk_imul (pc := 36) hc dX4_remove_36 ?_
  refine ok_aload_n (pc := 37) hc dX4_remove_37 rfl 1 rfl ?_
  refine ok_get (pc := 38) hc fl_X4_32 dX4_remove_38 e1.1 e1.2 v1_2 ?_
  refine ok_iload_n (pc := 41) hc dX4_remove_41 rfl 0 rfl ?_
  obtain ⟨r, P⟩ := P
  refine zk_irem (pc := 42) hc dX4_remove_42 r ?_
  refine zk_iadd (pc := 43) hc dX4_remove_43 ?_
  refine ok_put (pc := 44) hc fl_X4_32 dX4_remove_44 e1.1 e1.2 (by simp [List.length_set, z1]) (fun _ => rfl) (fun _ => rfl) ?_
  refine ok_aload_n (pc := 47) hc dX4_remove_47 rfl 1 rfl ?_
  refine ok_get (pc := 48) hc fl_X4_14 dX4_remove_48 e1.1 up_self ((set_ne (by decide)).trans v1_0) ?_
  refine ok_iload_n (pc := 51) hc dX4_remove_51 rfl 2 rfl ?_
  refine ok_lv [1, 2] rfl ?_
  exact ok_callV (pc := 52) (a := q3) (cb := 0) (sb := 0) (st := []) hc [.int (i3 x1)] cv_X4_49 sp_X2_removeAt (by decide) dX4_remove_52 rfl e4.1 ((up_ne (ne_oo e4.2 e1.2 (by decide))).trans e4.2) rfl rfl rfl (Nat.le_of_ble_eq_true rfl) P

set_option maxHeartbeats 4000000 in
set_option maxRecDepth 100000 in
theorem sX4_remove_55 {X : Xt} {n : Nat} {h : HP} {a0 : Nat} {x1 : Int} (hc : Cx X cX4_remove RX4 3 1 23) {K : KT} (hr : CxR X none K) 
    (P : K (.inl none) n h) :
    Ok X 0 0 55 [(0, .ref a0), (1, .int (i3 x1))] [] n h := by
  exact ok_vret (st := []) (pc := 55) hc hr dX4_remove_55 P

def spec_X4_remove (args : List Value) (n : Nat) (h : HP) (K : KT) : Prop := ∃ (a m : Nat) (S : Stt) (p : Part), args = [.ref a, .int (i3 m)] ∧ StA h n a S ∧ S.1[m]? = some p ∧ nA S.1 ≤ 3 ∧ ∀ h', StA h' n a (remS S m p) → Fr h h' a (a + 5) → K (.inl none) n h'
theorem outC_b {c : Int} {j : Nat} (hj : j ≤ 2) (h : 0 ≤ c ∧ c ≤ 26) : 0 ≤ outC c j ∧ outC c j ≤ 26 := by
  unfold outC
  rcases (show j = 0 ∨ j = 1 ∨ j = 2 by omega) with rfl | rfl | rfl <;> simp only [show (3 : Int) ^ 0 = 1 from rfl, show (3 : Int) ^ 1 = 3 from rfl, show (3 : Int) ^ 2 = 9 from rfl] <;> omega
theorem sp_X4_remove : Sp yX4_remove cX4_remove 3 none 1 23 0 0 spec_X4_remove := by
  refine sp_intro (by decide) (by rintro args n h K ⟨a, m, S, p, rfl, -⟩; exact Nat.le_of_ble_eq_true rfl) ?_
  rintro X args n h K hc hr ⟨a, m, S, p, rfl, ⟨A0, A1, A2, A3, A4⟩, hp, hn, kk⟩
  have hm : m < S.1.length := (List.getElem?_eq_some_iff.mp hp).1
  have A1' := A1
  obtain ⟨k, f, s, t, E, E1, E2, E3, E4, hv, hw, hl, hcap⟩ := A1
  have hb := (hw _ (List.mem_of_getElem? hp)).b
  have hkm : k m = p.1 := by
    have := (hv m hm).symm.trans hp
    cases this
    rfl
  unfold remS at kk
  refine sX4_remove_0 hc hr A0 rfl rfl E rfl rfl E1 ⟨⟨by omega, by omega, by omega⟩, R3_s (by simp only [Int.toNat_natCast]; omega), fun c => ?_, fun c => ?_⟩
  · simp only [Int.toNat_natCast, hkm] at c
    rw [if_neg c] at kk
    refine ⟨a + 1, 12, m, S.1, rfl, A1', hm, fun h' q1 q2 => ⟨rfl, ?_⟩⟩
    exact sX4_remove_55 hc hr (kk h' ⟨A0.fr q2 (by omega), q1, A2, A3, A4⟩ (q2.sub (by omega) (by omega)))
  · simp only [Int.toNat_natCast, hkm] at c
    rw [if_pos c] at kk
    have hj := nA_take hp c
    have hjb := outC_b (j := nA (S.1.take m)) (by omega) A3
    refine ⟨a + 1, 12, m, S.1, rfl, A1', by omega, rfl, ?_⟩
    have w1 : (0 : Int) < 3 ^ (nA (S.1.take m)) := pow3_pos _
    have w2 : (3 : Int) ^ (nA (S.1.take m)) ≤ 9 := by
      rcases (show nA (S.1.take m) = 0 ∨ nA (S.1.take m) = 1 ∨ nA (S.1.take m) = 2 by omega) with q | q | q <;> rw [q] <;> decide
    refine sX4_remove_24 hc hr A0 rfl rfl rfl E rfl ⟨⟨by omega, by omega⟩, ?_⟩
    simp only [Int.toNat_natCast]
    refine ⟨⟨⟨by omega, by omega⟩, by omega, by omega⟩, ⟨⟨by omega, by omega⟩, by omega, by omega⟩, a + 1, 12, m, S.1, rfl, A1'.fr (lo := a) (hi := a) (Fr.rf.up (by omega)) (by omega), hm, fun h' q1 q2 => ⟨rfl, ?_⟩⟩
    exact sX4_remove_55 hc hr (kk h' ⟨At.fr (At.it A0) q2 (by omega), q1, A2, hjb, A4⟩ (Fr.tr (Fr.rf.up (by omega)) (q2.sub (by omega) (by omega))))
