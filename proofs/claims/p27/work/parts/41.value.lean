/-! part 41: the desk: setValue -/
set_option maxHeartbeats 4000000 in
set_option maxRecDepth 100000 in
theorem sX6_requireSource_0 {X : Xt} {n : Nat} {h : HP} {a0 : Nat} {x1 : Int} {fs1 : List Value} (hc : Cx X cX6_requireSource RX6 2 7 111) {K : KT} (hr : CxR X none K) (e1 : At h n a0 (.inl (6, fs1))) (z1 : fs1.length = 6)
    (P : spec_X6_requirePart [.ref a0, .int (i3 x1)] n h (kc X 1 6 2 [(0, .ref a0), (1, .int (i3 x1))] [] n)) :
    Ok X 2 12 0 [(0, .ref a0), (1, .int (i3 x1))] [] n h := by
  refine ok_aload_n (pc := 0) hc dX6_requireSource_0 rfl 0 rfl ?_
  refine ok_iload_n (pc := 1) hc dX6_requireSource_1 rfl 1 rfl ?_
  exact ok_callV (pc := 2) (a := a0) (cb := 1) (sb := 6) (st := []) hc [.int (i3 x1)] cv_X6_111 sp_X6_requirePart (by decide) dX6_requireSource_2 rfl e1.1 e1.2 rfl rfl rfl (Nat.le_of_ble_eq_true rfl) P

set_option maxHeartbeats 4000000 in
set_option maxRecDepth 100000 in
theorem sX6_requireSource_5 {X : Xt} {n : Nat} {h : HP} {a0 : Nat} {x1 : Int} {fs1 : List Value} {q2 : Nat} {fs3 : List Value} {q4 : Nat} {fs5 : List Value} {q6 : Nat} {fs7 : List Value} {q8 : Nat} {len9 : Nat} {f9 : Nat → Int} (hc : Cx X cX6_requireSource RX6 2 7 111) {K : KT} (hr : CxR X none K) (e1 : At h n a0 (.inl (6, fs1))) (z1 : fs1.length = 6) (v1_0 : fs1[0]? = some (.ref q2)) (e3 : At h n q2 (.inl (0, fs3))) (z3 : fs3.length = 8) (v3_0 : fs3[0]? = some (.ref q4)) (e5 : At h n q4 (.inl (4, fs5))) (z5 : fs5.length = 4) (v5_0 : fs5[0]? = some (.ref q6)) (e7 : At h n q6 (.inl (2, fs7))) (z7 : fs7.length = 5) (v7_0 : fs7[0]? = some (.ref q8)) (e9 : At h n q8 (ai len9 f9))
    (P : (Ix x1 len9) ∧ (R3 (f9 (x1 : Int).toNat)) ∧ ((f9 (x1 : Int).toNat) = 1 → K (.inl none) n h) ∧ (¬ (f9 (x1 : Int).toNat) = 1 → K (.inr "java/lang/IllegalStateException") n h)) :
    Ok X 1 6 5 [(0, .ref a0), (1, .int (i3 x1))] [] n h := by
  refine ok_aload_n (pc := 5) hc dX6_requireSource_5 rfl 0 rfl ?_
  refine ok_get (pc := 6) hc fl_X6_10 dX6_requireSource_6 e1.1 e1.2 v1_0 ?_
  refine ok_get (pc := 9) hc fl_X6_43 dX6_requireSource_9 e3.1 e3.2 v3_0 ?_
  refine ok_get (pc := 12) hc fl_X6_47 dX6_requireSource_12 e5.1 e5.2 v5_0 ?_
  refine ok_get (pc := 15) hc fl_X6_187 dX6_requireSource_15 e7.1 e7.2 v7_0 ?_
  refine ok_iload_n (pc := 18) hc dX6_requireSource_18 rfl 1 rfl ?_
  obtain ⟨r, P⟩ := P
  refine zk_iald (pc := 19) hc dX6_requireSource_19 e9.1 e9.2 r ?_
  refine ok_iconst (pc := 20) hc (v := i3 1) dX6_requireSource_20 (by decide) ?_
  obtain ⟨r10, P⟩ := P
  refine zk_icmp_eq (pc := 21) (tgt := 35) hc dX6_requireSource_21 (by decide) r10 ⟨by decide, by decide⟩ (fun c => ?_) (fun c => ?_)
  · have P := P.1 c
    exact ok_vret (st := []) (pc := 35) hc hr dX6_requireSource_35 P
  · have P := P.2 c
    exact ok_throwW (pc := 24) hc hr th_ISE rfl (is := 314) (text := "the part is no source") (by decide) dX6_requireSource_24 dX6_requireSource_27 dX6_requireSource_28 dX6_requireSource_31 dX6_requireSource_34 (by decide) (by decide) (by decide) (by decide) P

def spec_X6_requireSource (args : List Value) (n : Nat) (h : HP) (K : KT) : Prop := ∃ (q : Dsk) (x : Int), args = [.ref 0, .int (i3 x)] ∧ R3 x ∧ DkA h n q ∧ (match prt q.1.1 x with
  | none => K (.inr eIO) n h
  | some p => if p.1 = 1 then K (.inl none) n h else K (.inr eIS) n h)
theorem DkA.parts {h : HP} {n : Nat} {q : Dsk} (p : DkA h n q) : ∃ A F D N sat rsn cul G, BnC h n 1 q.1 A F D N sat rsn cul G := p.2.1.obj
theorem sp_X6_requireSource : Sp yX6_requireSource cX6_requireSource 2 none 7 111 2 12 spec_X6_requireSource := by
  refine sp_intro (by decide) (by rintro args n h K ⟨q, x, rfl, -⟩; exact Nat.le_of_ble_eq_true rfl) ?_
  rintro X args n h K hc hr ⟨q, x, rfl, hx, hq, kk⟩
  obtain ⟨A, F, D, N, sat, rsn, cul, G, hB⟩ := hq.parts
  cases hp : prt q.1.1 x with
  | none =>
    rw [hp] at kk
    exact sX6_requireSource_0 hc hr hq.1 rfl ⟨q, x, rfl, hx, hq, fun c => absurd c (prt_none hp), fun _ => ⟨rfl, okT_out hc hr kk⟩⟩
  | some p =>
    rw [hp] at kk
    obtain ⟨hr1, hp1⟩ := prt_some hp
    obtain ⟨k, f, s, t, E, E1, E2, E3, E4, hv, hw, hl, hcap⟩ := id hB.2.1.2.1
    have hpe := Option.some.inj ((hv x.toNat (by omega)).symm.trans hp1)
    have hb := (hw p (List.mem_of_getElem? hp1)).b
    have ek : k x.toNat = p.1 := by rw [← hpe]
    refine sX6_requireSource_0 hc hr hq.1 rfl ⟨q, x, rfl, hx, hq, fun _ => ⟨rfl, ?_⟩, fun c => absurd hr1 c⟩
    refine sX6_requireSource_5 hc hr hq.1 rfl rfl hB.1 rfl rfl hB.2.1.1 rfl rfl E rfl rfl E1 ⟨⟨by omega, by omega, by omega⟩, R3_s (by omega), fun c => ?_, fun c => ?_⟩
    · rw [ek] at c
      simp only [if_pos c] at kk
      exact kk
    · rw [ek] at c
      simp only [if_neg c] at kk
      exact kk
set_option maxHeartbeats 4000000 in
set_option maxRecDepth 100000 in
theorem sX6_requireSettable_0 {X : Xt} {n : Nat} {h : HP} {a0 : Nat} {x1 : Int} {x2 : Int} {fs1 : List Value} (hc : Cx X cX6_requireSettable RX6 5 7 111) {K : KT} (hr : CxR X none K) (e1 : At h n a0 (.inl (6, fs1))) (z1 : fs1.length = 6)
    (P : spec_X6_requirePart [.ref a0, .int (i3 x1)] n h (kc X 1 6 2 [(0, .ref a0), (1, .int (i3 x1)), (2, .int (i3 x2))] [] n)) :
    Ok X 2 12 0 [(0, .ref a0), (1, .int (i3 x1)), (2, .int (i3 x2))] [] n h := by
  refine ok_aload_n (pc := 0) hc dX6_requireSettable_0 rfl 0 rfl ?_
  refine ok_iload_n (pc := 1) hc dX6_requireSettable_1 rfl 1 rfl ?_
  exact ok_callV (pc := 2) (a := a0) (cb := 1) (sb := 6) (st := []) hc [.int (i3 x1)] cv_X6_111 sp_X6_requirePart (by decide) dX6_requireSettable_2 rfl e1.1 e1.2 rfl rfl rfl (Nat.le_of_ble_eq_true rfl) P

set_option maxHeartbeats 4000000 in
set_option maxRecDepth 100000 in
theorem sX6_requireSettable_5 {X : Xt} {n : Nat} {h : HP} {a0 : Nat} {x1 : Int} {x2 : Int} {fs1 : List Value} {q2 : Nat} {fs3 : List Value} {q4 : Nat} {fs5 : List Value} {q6 : Nat} {fs7 : List Value} {q8 : Nat} {len9 : Nat} {f9 : Nat → Int} (hc : Cx X cX6_requireSettable RX6 5 7 111) {K : KT} (hr : CxR X none K) (e1 : At h n a0 (.inl (6, fs1))) (z1 : fs1.length = 6) (v1_0 : fs1[0]? = some (.ref q2)) (e3 : At h n q2 (.inl (0, fs3))) (z3 : fs3.length = 8) (v3_0 : fs3[0]? = some (.ref q4)) (e5 : At h n q4 (.inl (4, fs5))) (z5 : fs5.length = 4) (v5_0 : fs5[0]? = some (.ref q6)) (e7 : At h n q6 (.inl (2, fs7))) (z7 : fs7.length = 5) (v7_0 : fs7[0]? = some (.ref q8)) (e9 : At h n q8 (ai len9 f9))
    (P : (Ix x1 len9) ∧ (R3 (f9 (x1 : Int).toNat)) ∧ (¬ (f9 (x1 : Int).toNat) = 2 → (R3 (f9 (x1 : Int).toNat)) ∧ (¬ (f9 (x1 : Int).toNat) = 0 → (R3 x2) ∧ (R3 (isV x2)) ∧ (¬ (isV x2) = 0 → K (.inl none) n h) ∧ ((isV x2) = 0 → K (.inr "java/lang/IllegalArgumentException") n h)) ∧ ((f9 (x1 : Int).toNat) = 0 → (R3 x2) ∧ (x2 < 1 → K (.inr "java/lang/IllegalArgumentException") n h) ∧ (¬ x2 < 1 → (R3 x2) ∧ (4 < x2 → K (.inr "java/lang/IllegalArgumentException") n h) ∧ (¬ 4 < x2 → K (.inl none) n h)))) ∧ ((f9 (x1 : Int).toNat) = 2 → K (.inr "java/lang/IllegalStateException") n h)) :
    Ok X 1 6 5 [(0, .ref a0), (1, .int (i3 x1)), (2, .int (i3 x2))] [] n h := by
  refine ok_aload_n (pc := 5) hc dX6_requireSettable_5 rfl 0 rfl ?_
  refine ok_get (pc := 6) hc fl_X6_10 dX6_requireSettable_6 e1.1 e1.2 v1_0 ?_
  refine ok_get (pc := 9) hc fl_X6_43 dX6_requireSettable_9 e3.1 e3.2 v3_0 ?_
  refine ok_get (pc := 12) hc fl_X6_47 dX6_requireSettable_12 e5.1 e5.2 v5_0 ?_
  refine ok_get (pc := 15) hc fl_X6_187 dX6_requireSettable_15 e7.1 e7.2 v7_0 ?_
  refine ok_iload_n (pc := 18) hc dX6_requireSettable_18 rfl 1 rfl ?_
  obtain ⟨r, P⟩ := P
  refine zk_iald (pc := 19) hc dX6_requireSettable_19 e9.1 e9.2 r ?_
  refine ok_istore_n (pc := 20) hc (lv' := [(3, .int (i3 (f9 (x1 : Int).toNat))), (0, .ref a0), (1, .int (i3 x1)), (2, .int (i3 x2))]) dX6_requireSettable_20 rfl (by decide) rfl ?_
  refine ok_iload_n (pc := 21) hc dX6_requireSettable_21 rfl 0 rfl ?_
  refine ok_iconst (pc := 22) hc (v := i3 2) dX6_requireSettable_22 (by decide) ?_
  obtain ⟨r10, P⟩ := P
  refine zk_icmp_ne (pc := 23) (tgt := 37) hc dX6_requireSettable_23 (by decide) r10 ⟨by decide, by decide⟩ (fun c => ?_) (fun c => ?_)
  · have P := P.1 c
    refine ok_iload_n (pc := 37) hc dX6_requireSettable_37 rfl 0 rfl ?_
    obtain ⟨r11, P⟩ := P
    refine zk_if_ne (pc := 38) (tgt := 59) hc dX6_requireSettable_38 (by decide) r11 (fun c => ?_) (fun c => ?_)
    · have P := P.1 c
      refine ok_iload_n (pc := 59) hc dX6_requireSettable_59 rfl 3 rfl ?_
      obtain ⟨r0, P⟩ := P
      refine ok_callS (pc := 60) (cb := 1) (sb := 6) (st := []) hc [.int (i3 x2)] cs_X6_121 sp_X6_isSourceValue (by decide) dX6_requireSettable_60 rfl rfl rfl rfl (Nat.le_of_ble_eq_true rfl) (⟨_, rfl, r0, rfl, ?_⟩)
      show Ok X 1 6 (60 + 3) [(3, .int (i3 (f9 (x1 : Int).toNat))), (0, .ref a0), (1, .int (i3 x1)), (2, .int (i3 x2))] [.int (i3 (isV x2))] n h
      refine ok_istore (pc := 63) hc (lv' := [(4, .int (i3 (isV x2))), (3, .int (i3 (f9 (x1 : Int).toNat))), (0, .ref a0), (1, .int (i3 x1)), (2, .int (i3 x2))]) dX6_requireSettable_63 (by decide) rfl ?_
      refine ok_iload (pc := 65) hc dX6_requireSettable_65 0 rfl ?_
      obtain ⟨r12, P⟩ := P
      refine zk_if_ne (pc := 67) (tgt := 81) hc dX6_requireSettable_67 (by decide) r12 (fun c => ?_) (fun c => ?_)
      · have P := P.1 c
        exact ok_vret (st := []) (pc := 81) hc hr dX6_requireSettable_81 P
      · have P := P.2 c
        exact ok_throwW (pc := 70) hc hr th_IAE rfl (is := 318) (text := "the value is out of range") (by decide) dX6_requireSettable_70 dX6_requireSettable_73 dX6_requireSettable_74 dX6_requireSettable_77 dX6_requireSettable_80 (by decide) (by decide) (by decide) (by decide) P
    · have P := P.2 c
      refine ok_iload_n (pc := 41) hc dX6_requireSettable_41 rfl 3 rfl ?_
      refine ok_iconst (pc := 42) hc (v := i3 1) dX6_requireSettable_42 (by decide) ?_
      obtain ⟨r13, P⟩ := P
      refine zk_icmp_lt (pc := 43) (tgt := 55) hc dX6_requireSettable_43 (by decide) r13 ⟨by decide, by decide⟩ (fun c => ?_) (fun c => ?_)
      · have P := P.1 c
        refine ok_iconst (pc := 55) hc (v := i3 0) dX6_requireSettable_55 (by decide) ?_
        refine ok_goto (pc := 56) (tgt := 63) hc dX6_requireSettable_56 (by decide) ?_
        refine ok_istore (pc := 63) hc (lv' := [(4, .int (i3 0)), (3, .int (i3 (f9 (x1 : Int).toNat))), (0, .ref a0), (1, .int (i3 x1)), (2, .int (i3 x2))]) dX6_requireSettable_63 (by decide) rfl ?_
        refine ok_iload (pc := 65) hc dX6_requireSettable_65 0 rfl ?_
        refine zk_if_ne (pc := 67) (tgt := 81) hc dX6_requireSettable_67 (by decide) ⟨by decide, by decide⟩ (fun c => absurd c (by decide)) (fun _ => ?_)
        exact ok_throwW (pc := 70) hc hr th_IAE rfl (is := 318) (text := "the value is out of range") (by decide) dX6_requireSettable_70 dX6_requireSettable_73 dX6_requireSettable_74 dX6_requireSettable_77 dX6_requireSettable_80 (by decide) (by decide) (by decide) (by decide) P
      · have P := P.2 c
        refine ok_iload_n (pc := 46) hc dX6_requireSettable_46 rfl 3 rfl ?_
        refine ok_iconst (pc := 47) hc (v := i3 4) dX6_requireSettable_47 (by decide) ?_
        obtain ⟨r14, P⟩ := P
        refine zk_icmp_gt (pc := 48) (tgt := 55) hc dX6_requireSettable_48 (by decide) r14 ⟨by decide, by decide⟩ (fun c => ?_) (fun c => ?_)
        · have P := P.1 c
          refine ok_iconst (pc := 55) hc (v := i3 0) dX6_requireSettable_55 (by decide) ?_
          refine ok_goto (pc := 56) (tgt := 63) hc dX6_requireSettable_56 (by decide) ?_
          refine ok_istore (pc := 63) hc (lv' := [(4, .int (i3 0)), (3, .int (i3 (f9 (x1 : Int).toNat))), (0, .ref a0), (1, .int (i3 x1)), (2, .int (i3 x2))]) dX6_requireSettable_63 (by decide) rfl ?_
          refine ok_iload (pc := 65) hc dX6_requireSettable_65 0 rfl ?_
          refine zk_if_ne (pc := 67) (tgt := 81) hc dX6_requireSettable_67 (by decide) ⟨by decide, by decide⟩ (fun c => absurd c (by decide)) (fun _ => ?_)
          exact ok_throwW (pc := 70) hc hr th_IAE rfl (is := 318) (text := "the value is out of range") (by decide) dX6_requireSettable_70 dX6_requireSettable_73 dX6_requireSettable_74 dX6_requireSettable_77 dX6_requireSettable_80 (by decide) (by decide) (by decide) (by decide) P
        · have P := P.2 c
          refine ok_iconst (pc := 51) hc (v := i3 1) dX6_requireSettable_51 (by decide) ?_
          refine ok_goto (pc := 52) (tgt := 63) hc dX6_requireSettable_52 (by decide) ?_
          refine ok_istore (pc := 63) hc (lv' := [(4, .int (i3 1)), (3, .int (i3 (f9 (x1 : Int).toNat))), (0, .ref a0), (1, .int (i3 x1)), (2, .int (i3 x2))]) dX6_requireSettable_63 (by decide) rfl ?_
          refine ok_iload (pc := 65) hc dX6_requireSettable_65 0 rfl ?_
          refine zk_if_ne (pc := 67) (tgt := 81) hc dX6_requireSettable_67 (by decide) ⟨by decide, by decide⟩ (fun _ => ?_) (fun c => absurd c (by decide))
          exact ok_vret (st := []) (pc := 81) hc hr dX6_requireSettable_81 P
  · have P := P.2 c
    exact ok_throwW (pc := 26) hc hr th_ISE rfl (is := 316) (text := "an amplifier has no value") (by decide) dX6_requireSettable_26 dX6_requireSettable_29 dX6_requireSettable_30 dX6_requireSettable_33 dX6_requireSettable_36 (by decide) (by decide) (by decide) (by decide) P

def stlB (p : Part) (v : Int) : Bool := if p.1 = 0 then decide (1 ≤ v ∧ v ≤ 4) else decide (-200 ≤ v ∧ v ≤ 200)
def spec_X6_requireSettable (args : List Value) (n : Nat) (h : HP) (K : KT) : Prop := ∃ (q : Dsk) (x v : Int), args = [.ref 0, .int (i3 x), .int (i3 v)] ∧ R3 x ∧ R3 v ∧ DkA h n q ∧ (match prt q.1.1 x with
  | none => K (.inr eIO) n h
  | some p => if p.1 = 2 then K (.inr eIS) n h else if stlB p v = true then K (.inl none) n h else K (.inr eIA) n h)
theorem sp_X6_requireSettable : Sp yX6_requireSettable cX6_requireSettable 5 none 7 111 2 12 spec_X6_requireSettable := by
  refine sp_intro (by decide) (by rintro args n h K ⟨q, x, v, rfl, -⟩; exact Nat.le_of_ble_eq_true rfl) ?_
  rintro X args n h K hc hr ⟨q, x, v, rfl, hx, hv3, hq, kk⟩
  obtain ⟨A, F, D, N, sat, rsn, cul, G, hB⟩ := hq.parts
  cases hp : prt q.1.1 x with
  | none =>
    rw [hp] at kk
    exact sX6_requireSettable_0 hc hr hq.1 rfl ⟨q, x, rfl, hx, hq, fun c => absurd c (prt_none hp), fun _ => ⟨rfl, okT_out hc hr kk⟩⟩
  | some p =>
    rw [hp] at kk
    obtain ⟨hr1, hp1⟩ := prt_some hp
    obtain ⟨k, f, s, t, E, E1, E2, E3, E4, hv, hw, hl, hcap⟩ := id hB.2.1.2.1
    have hpe := Option.some.inj ((hv x.toNat (by omega)).symm.trans hp1)
    have hb := (hw p (List.mem_of_getElem? hp1)).b
    have ek : k x.toNat = p.1 := by rw [← hpe]
    have fin : ∀ (b : Bool), stlB p v = b → ¬ p.1 = 2 → (if b = true then K (.inl none) n h else K (.inr eIA) n h) := by
      intro b e c
      simp only [if_neg c, e] at kk
      exact kk
    refine sX6_requireSettable_0 hc hr hq.1 rfl ⟨q, x, rfl, hx, hq, fun _ => ⟨rfl, ?_⟩, fun c => absurd hr1 c⟩
    refine sX6_requireSettable_5 hc hr hq.1 rfl rfl hB.1 rfl rfl hB.2.1.1 rfl rfl E rfl rfl E1 ⟨⟨by omega, by omega, by omega⟩, R3_s (by omega), fun c => ⟨R3_s (by omega), fun c0 => ⟨hv3, ?_, fun c1 => ?_, fun c1 => ?_⟩, fun c0 => ⟨hv3, fun c1 => ?_, fun c1 => ⟨hv3, fun c2 => ?_, fun c2 => ?_⟩⟩⟩, fun c => ?_⟩
    all_goals rw [ek] at c
    · unfold isV
      split <;> exact ⟨by decide, by decide⟩
    · rw [ek] at c0
      refine fin true ?_ c
      unfold stlB
      rw [if_neg c0]
      unfold isV at c1
      split at c1
      · exact decide_eq_true (by assumption)
      · exact absurd rfl c1
    · rw [ek] at c0
      have := fin false ?_ c
      · exact this
      · unfold stlB
        rw [if_neg c0]
        unfold isV at c1
        split at c1
        · exact absurd c1 (by decide)
        · exact decide_eq_false (by assumption)
    · rw [ek] at c0
      exact fin false (by unfold stlB; rw [if_pos c0]; exact decide_eq_false (by omega)) c
    · rw [ek] at c0
      exact fin false (by unfold stlB; rw [if_pos c0]; exact decide_eq_false (by omega)) c
    · rw [ek] at c0
      exact fin true (by unfold stlB; rw [if_pos c0]; exact decide_eq_true (by omega)) c
    · simp only [if_pos c] at kk
      exact kk
theorem map_set_eq {α β : Type} (κ : α → β) : ∀ {ps : List α} {i : Nat} {p p' : α}, ps[i]? = some p → κ p' = κ p → (ps.set i p').map κ = ps.map κ
  | [], i, p, p', h, _ => by simp at h
  | q :: ps, 0, p, p', h, e => by
    have := Option.some.inj h
    subst this
    show κ p' :: ps.map κ = κ q :: ps.map κ
    rw [e]
  | q :: ps, i + 1, p, p', h, e => by
    show κ q :: (ps.set i p').map κ = κ q :: ps.map κ
    rw [map_set_eq κ (ps := ps) (i := i) h e]
def kd (p : Part) : Int × Int := (p.1, drv p)
theorem nA_map (ps : List Part) : nA ps = (ps.map kd).countP (fun z => decide (z.1 = 2)) := by
  unfold nA
  rw [List.countP_map]
  rfl
theorem pw_map (ps : List Part) : PwD ps ↔ (ps.map kd).Pairwise (fun x y => x.1 = 0 ∨ y.1 = 0 ∨ x.2 ≠ y.2) := by
  unfold PwD
  rw [List.pairwise_map]
  rfl
/-- a part's value, another -/
def valP (p : Part) (v : Int) : Part := (p.1, p.2.1, p.2.2.1, v)
theorem val_pw {p : Part} {v : Int} (h : PW p) (h2 : p.1 ≠ 2) (hv : stlB p v = true) : PW (valP p v) := by
  unfold stlB at hv
  unfold PW at h ⊢
  show (p.1 = 0 ∧ 0 ≤ p.2.1 ∧ p.2.1 ≤ 6 ∧ 0 ≤ p.2.2.1 ∧ p.2.2.1 ≤ 6 ∧ 1 ≤ v ∧ v ≤ 4) ∨ (p.1 = 1 ∧ 0 ≤ p.2.1 ∧ p.2.1 ≤ 6 ∧ p.2.2.1 = -1 ∧ -200 ≤ v ∧ v ≤ 200) ∨ (p.1 = 2 ∧ 0 ≤ p.2.1 ∧ p.2.1 ≤ 6 ∧ 0 ≤ p.2.2.1 ∧ p.2.2.1 ≤ 6 ∧ 0 ≤ v ∧ v ≤ 6)
  by_cases c : p.1 = 0
  · rw [if_pos c] at hv
    have := of_decide_eq_true hv
    omega
  · rw [if_neg c] at hv
    have := of_decide_eq_true hv
    omega
theorem val_told {p : Part} {v : Int} (h2 : p.1 ≠ 2) (h : PW p) : toldB (valP p v) = toldB p := by
  unfold PW at h
  unfold toldB
  show (if p.1 = 1 then decide (p.2.1 ≠ 0) else decide (p.2.1 ≠ p.2.2.1) && (decide (p.1 = 0) || (decide (v ≠ 0) && decide (v ≠ p.2.1) && decide (v ≠ p.2.2.1)))) = _
  by_cases c : p.1 = 1
  · rw [if_pos c, if_pos c]
  · rw [if_neg c, if_neg c, decide_eq_true (by omega : p.1 = 0), Bool.true_or, Bool.true_or]
theorem val_kd {p : Part} {v : Int} (h2 : p.1 ≠ 2) : kd (valP p v) = kd p := by
  unfold kd
  show (p.1, if p.1 = 1 then p.2.1 else if p.1 = 2 then v else -1) = (p.1, if p.1 = 1 then p.2.1 else if p.1 = 2 then p.2.2.2 else -1)
  rw [if_neg h2, if_neg h2]
theorem GdP.val {ps : List Part} {i : Nat} {p : Part} {v : Int} (h : GdP ps) (hp : ps[i]? = some p) (h2 : p.1 ≠ 2) (hv : PW (valP p v)) : GdP (ps.set i (valP p v)) ∧ nA (ps.set i (valP p v)) = nA ps := by
  obtain ⟨g1, g2, g3, g4⟩ := h
  have e := map_set_eq kd hp (val_kd (v := v) h2)
  have en : nA (ps.set i (valP p v)) = nA ps := by rw [nA_map, e, ← nA_map]
  refine ⟨⟨by rw [List.length_set]; exact g1, by rw [en]; exact g2, fun x hx => ?_, by rw [pw_map, e, ← pw_map]; exact g4⟩, en⟩
  rcases List.mem_or_eq_of_mem_set hx with z | z
  · exact g3 x z
  · rw [z]
    have gp := g3 p (List.mem_of_getElem? hp)
    exact ⟨hv, by rw [val_told h2 gp.1]; exact gp.2⟩
theorem set_get {ps : List Part} {k f s t : Nat → Int} {i : Nat} {p : Part} {v : Int} (hv : ∀ j, j < ps.length → ps[j]? = some (k j, f j, s j, t j)) (hp : ps[i]? = some p) : ∀ j, j < (ps.set i (valP p v)).length → (ps.set i (valP p v))[j]? = some (k j, f j, s j, va_up t i v j) := by
  intro j hj
  rw [List.length_set] at hj
  by_cases z : j = i
  · subst z
    have hpe := Option.some.inj ((hv j hj).symm.trans hp)
    rw [List.getElem?_set_self hj, up_self, ← hpe]
    rfl
  · rw [List.getElem?_set_ne (fun q => z q.symm), up_ne z]
    exact hv j hj
set_option maxHeartbeats 4000000 in
set_option maxRecDepth 100000 in
theorem sX6_setValue_0 {X : Xt} {n : Nat} {h : HP} {a0 : Nat} {x1 : Int} {x2 : Int} {fs1 : List Value} (hc : Cx X cX6_setValue RX6 4 8 138) {K : KT} (hr : CxR X (some .int) K) (e1 : At h n a0 (.inl (6, fs1))) (z1 : fs1.length = 6)
    (P : spec_X6_requireSettable [.ref a0, .int (i3 x1), .int (i3 x2)] n h (kc X 0 0 3 [(0, .ref a0), (1, .int (i3 x1)), (2, .int (i3 x2))] [] n)) :
    Ok X 2 12 0 [(0, .ref a0), (1, .int (i3 x1)), (2, .int (i3 x2))] [] n h := by
  refine ok_aload_n (pc := 0) hc dX6_setValue_0 rfl 0 rfl ?_
  refine ok_iload_n (pc := 1) hc dX6_setValue_1 rfl 1 rfl ?_
  refine ok_iload_n (pc := 2) hc dX6_setValue_2 rfl 2 rfl ?_
  exact ok_callV (pc := 3) (a := a0) (cb := 0) (sb := 0) (st := []) hc [.int (i3 x1), .int (i3 x2)] cv_X6_98 sp_X6_requireSettable (by decide) dX6_setValue_3 rfl e1.1 e1.2 rfl rfl rfl (Nat.le_of_ble_eq_true rfl) P

set_option maxHeartbeats 4000000 in
set_option maxRecDepth 100000 in
theorem sX6_setValue_6 {X : Xt} {n : Nat} {h : HP} {a0 : Nat} {x1 : Int} {x2 : Int} {fs1 : List Value} {q2 : Nat} {fs3 : List Value} {q4 : Nat} {fs5 : List Value} {q6 : Nat} {fs7 : List Value} {q8 : Nat} {len9 : Nat} {f9 : Nat → Int} {q10 : Nat} {fs11 : List Value} (hc : Cx X cX6_setValue RX6 4 8 138) {K : KT} (hr : CxR X (some .int) K) (e1 : At h n a0 (.inl (6, fs1))) (z1 : fs1.length = 6) (v1_0 : fs1[0]? = some (.ref q2)) (e3 : At h n q2 (.inl (0, fs3))) (z3 : fs3.length = 8) (v3_0 : fs3[0]? = some (.ref q4)) (e5 : At h n q4 (.inl (4, fs5))) (z5 : fs5.length = 4) (v5_0 : fs5[0]? = some (.ref q6)) (e7 : At h n q6 (.inl (2, fs7))) (z7 : fs7.length = 5) (v7_3 : fs7[3]? = some (.ref q8)) (e9 : At h n q8 (ai len9 f9)) (v1_3 : fs1[3]? = some (.ref q10)) (e11 : At h n q10 (.inl (1, fs11))) (z11 : fs11.length = 3)
    (P : (Ix x1 len9) ∧ spec_X1_record [.ref q10, .ref q4] n h (kc X 0 0 33 [(0, .ref a0), (1, .int (i3 x1)), (2, .int (i3 x2)), (3, .int (i3 (f9 (x1 : Int).toNat)))] [] n)) :
    Ok X 0 0 6 [(0, .ref a0), (1, .int (i3 x1)), (2, .int (i3 x2))] [] n h := by
  refine ok_aload_n (pc := 6) hc dX6_setValue_6 rfl 0 rfl ?_
  refine ok_get (pc := 7) hc fl_X6_10 dX6_setValue_7 e1.1 e1.2 v1_0 ?_
  refine ok_get (pc := 10) hc fl_X6_43 dX6_setValue_10 e3.1 e3.2 v3_0 ?_
  refine ok_get (pc := 13) hc fl_X6_47 dX6_setValue_13 e5.1 e5.2 v5_0 ?_
  refine ok_get (pc := 16) hc fl_X6_102 dX6_setValue_16 e7.1 e7.2 v7_3 ?_
  refine ok_iload_n (pc := 19) hc dX6_setValue_19 rfl 1 rfl ?_
  obtain ⟨r, P⟩ := P
  refine zk_iald (pc := 20) hc dX6_setValue_20 e9.1 e9.2 r ?_
  refine ok_istore_n (pc := 21) hc (lv' := [(3, .int (i3 (f9 (x1 : Int).toNat))), (0, .ref a0), (1, .int (i3 x1)), (2, .int (i3 x2))]) dX6_setValue_21 rfl (by decide) rfl ?_
  refine ok_aload_n (pc := 22) hc dX6_setValue_22 rfl 1 rfl ?_
  refine ok_get (pc := 23) hc fl_X6_29 dX6_setValue_23 e1.1 e1.2 v1_3 ?_
  refine ok_aload_n (pc := 26) hc dX6_setValue_26 rfl 1 rfl ?_
  refine ok_get (pc := 27) hc fl_X6_10 dX6_setValue_27 e1.1 e1.2 v1_0 ?_
  refine ok_get (pc := 30) hc fl_X6_43 dX6_setValue_30 e3.1 e3.2 v3_0 ?_
  refine ok_lv [1, 2, 3, 0] rfl ?_
  exact ok_callV (pc := 33) (a := q10) (cb := 0) (sb := 0) (st := []) hc [.ref q4] cv_X6_57 sp_X1_record (by decide) dX6_setValue_33 rfl e11.1 e11.2 rfl rfl rfl (Nat.le_of_ble_eq_true rfl) P

set_option maxHeartbeats 4000000 in
set_option maxRecDepth 100000 in
theorem sX6_setValue_36 {X : Xt} {n : Nat} {h : HP} {a0 : Nat} {x1 : Int} {x2 : Int} {x3 : Int} {fs1 : List Value} {q2 : Nat} {fs3 : List Value} {q4 : Nat} {fs5 : List Value} {q6 : Nat} {fs7 : List Value} {q8 : Nat} {len9 : Nat} {f9 : Nat → Int} (hc : Cx X cX6_setValue RX6 4 8 138) {K : KT} (hr : CxR X (some .int) K) (e1 : At h n a0 (.inl (6, fs1))) (z1 : fs1.length = 6) (v1_0 : fs1[0]? = some (.ref q2)) (e3 : At h n q2 (.inl (0, fs3))) (z3 : fs3.length = 8) (v3_0 : fs3[0]? = some (.ref q4)) (e5 : At h n q4 (.inl (4, fs5))) (z5 : fs5.length = 4) (v5_0 : fs5[0]? = some (.ref q6)) (e7 : At h n q6 (.inl (2, fs7))) (z7 : fs7.length = 5) (v7_3 : fs7[3]? = some (.ref q8)) (e9 : At h n q8 (ai len9 f9))
    (P : (Ix x1 len9) ∧ spec_X0_solve [.ref q2] n (va_up h q8 (ai len9 (va_up f9 (x1 : Int).toNat x2))) (kc X 0 0 56 [(0, .ref a0), (1, .int (i3 x1)), (2, .int (i3 x2)), (3, .int (i3 x3))] [] n)) :
    Ok X 0 0 36 [(0, .ref a0), (1, .int (i3 x1)), (2, .int (i3 x2)), (3, .int (i3 x3))] [] n h := by
  refine ok_aload_n (pc := 36) hc dX6_setValue_36 rfl 0 rfl ?_
  refine ok_get (pc := 37) hc fl_X6_10 dX6_setValue_37 e1.1 e1.2 v1_0 ?_
  refine ok_get (pc := 40) hc fl_X6_43 dX6_setValue_40 e3.1 e3.2 v3_0 ?_
  refine ok_get (pc := 43) hc fl_X6_47 dX6_setValue_43 e5.1 e5.2 v5_0 ?_
  refine ok_get (pc := 46) hc fl_X6_102 dX6_setValue_46 e7.1 e7.2 v7_3 ?_
  refine ok_iload_n (pc := 49) hc dX6_setValue_49 rfl 1 rfl ?_
  refine ok_iload_n (pc := 50) hc dX6_setValue_50 rfl 2 rfl ?_
  obtain ⟨r, P⟩ := P
  refine zk_iast (pc := 51) hc dX6_setValue_51 e9.1 e9.2 r ?_
  refine ok_aload_n (pc := 52) hc dX6_setValue_52 rfl 0 rfl ?_
  refine ok_get (pc := 53) hc fl_X6_10 dX6_setValue_53 e1.1 ((up_ne (ne_oa e1.2 e9.2)).trans e1.2) v1_0 ?_
  exact ok_callV (pc := 56) (a := q2) (cb := 0) (sb := 0) (st := []) hc [] cv_X6_40 sp_X0_solve (by decide) dX6_setValue_56 rfl e3.1 ((up_ne (ne_oa e3.2 e9.2)).trans e3.2) rfl rfl rfl (Nat.le_of_ble_eq_true rfl) P

set_option maxHeartbeats 4000000 in
set_option maxRecDepth 100000 in
theorem sX6_setValue_59 {X : Xt} {n : Nat} {h : HP} {a0 : Nat} {x1 : Int} {x2 : Int} {x3 : Int} {fs1 : List Value} {q2 : Nat} {fs3 : List Value} (hc : Cx X cX6_setValue RX6 4 8 138) {K : KT} (hr : CxR X (some .int) K) (e1 : At h n a0 (.inl (6, fs1))) (z1 : fs1.length = 6) (v1_0 : fs1[0]? = some (.ref q2)) (e3 : At h n q2 (.inl (0, fs3))) (z3 : fs3.length = 8)
    (P : spec_X0_settle [.ref q2] n h (kc X 0 0 63 [(0, .ref a0), (1, .int (i3 x1)), (2, .int (i3 x2)), (3, .int (i3 x3))] [] n)) :
    Ok X 0 0 59 [(0, .ref a0), (1, .int (i3 x1)), (2, .int (i3 x2)), (3, .int (i3 x3))] [] n h := by
  refine ok_aload_n (pc := 59) hc dX6_setValue_59 rfl 0 rfl ?_
  refine ok_get (pc := 60) hc fl_X6_10 dX6_setValue_60 e1.1 e1.2 v1_0 ?_
  exact ok_callV (pc := 63) (a := q2) (cb := 0) (sb := 0) (st := []) hc [] cv_X6_64 sp_X0_settle (by decide) dX6_setValue_63 rfl e3.1 e3.2 rfl rfl rfl (Nat.le_of_ble_eq_true rfl) P

set_option maxHeartbeats 4000000 in
set_option maxRecDepth 100000 in
theorem sX6_setValue_66 {X : Xt} {n : Nat} {h : HP} {a0 : Nat} {x1 : Int} {x2 : Int} {x3 : Int} (hc : Cx X cX6_setValue RX6 4 8 138) {K : KT} (hr : CxR X (some .int) K) 
    (P : K (.inl (some (.int (i3 x3)))) n h) :
    Ok X 0 0 66 [(0, .ref a0), (1, .int (i3 x1)), (2, .int (i3 x2)), (3, .int (i3 x3))] [] n h := by
  refine ok_iload_n (pc := 66) hc dX6_setValue_66 rfl 3 rfl ?_
  exact ok_iret (st := []) (pc := 67) hc hr dX6_setValue_67 P

def opValue (q : Dsk) (x v : Int) : Dsk × (Int ⊕ String) := match prt q.1.1 x with
  | none => (q, .inr eIO)
  | some p => if p.1 = 2 then (q, .inr eIS) else if stlB p v = true then ((setS (q.1.1.set x.toNat (valP p v), q.1.2), pushH q.2.1 q.1, q.2.2), .inl p.2.2.2) else (q, .inr eIA)
def spec_X6_setValue (args : List Value) (n : Nat) (h : HP) (K : KT) : Prop := ∃ (q : Dsk) (x v : Int), args = [.ref 0, .int (i3 x), .int (i3 v)] ∧ R3 x ∧ R3 v ∧ DkA h n q ∧ ∀ h', DkA h' n (opValue q x v).1 → Fr h h' 0 127 → K (oV (opValue q x v).2) n h'
theorem sp_X6_setValue : Sp yX6_setValue cX6_setValue 4 (some .int) 8 138 2 12 spec_X6_setValue := by
  refine sp_intro (by decide) (by rintro args n h K ⟨q, x, v, rfl, -⟩; exact Nat.le_of_ble_eq_true rfl) ?_
  rintro X args n h K hc hr ⟨⟨S, hist, im, kept, B⟩, x, v, rfl, hx, hv3, hq, kk⟩
  have hq0 := hq
  obtain ⟨h0, hN, ⟨T, hT⟩, hI, hH, hM, hG⟩ := hq
  obtain ⟨A, F, D, N, sat, rsn, cul, G, hB⟩ := hN.obj
  replace hB : BnC h n 1 S A F D N sat rsn cul G := hB
  obtain ⟨o, hHo⟩ := hH.obj
  unfold opValue at kk
  simp only at kk
  have st : spec_X6_requireSettable [.ref 0, .int (i3 x), .int (i3 v)] n h (kc X 0 0 3 [(0, .ref 0), (1, .int (i3 x)), (2, .int (i3 v))] [] n) := by
    refine ⟨_, x, v, rfl, hx, hv3, hq0, ?_⟩
    show (match prt S.1 x with | none => _ | some p => _)
    cases hp : prt S.1 x with
    | none =>
      rw [hp] at kk
      exact ⟨rfl, okT_out hc hr (kk h hq0 Fr.rf)⟩
    | some p =>
      rw [hp] at kk
      simp only at kk ⊢
      by_cases c2 : p.1 = 2
      · rw [if_pos c2] at kk ⊢
        exact ⟨rfl, okT_out hc hr (kk h hq0 Fr.rf)⟩
      · rw [if_neg c2] at kk ⊢
        by_cases cs : stlB p v = true
        · rw [if_pos cs] at kk ⊢
          refine ⟨rfl, ?_⟩
          obtain ⟨hr1, hp1⟩ := prt_some hp
          obtain ⟨k, f, s, t, E, E1, E2, E3, E4, hv, hw, hl, hcap⟩ := id hB.2.1.2.1
          have hpe := Option.some.inj ((hv x.toNat (by omega)).symm.trans hp1)
          have et : t x.toNat = p.2.2.2 := by rw [← hpe]
          have hPW := hw p (List.mem_of_getElem? hp1)
          refine sX6_setValue_6 hc hr h0 rfl rfl hB.1 rfl rfl hB.2.1.1 rfl rfl E rfl rfl E4 rfl hHo rfl ⟨⟨by omega, by omega, by omega⟩, 2, hist, S, rfl, hH, hB.2.1, by omega, fun h1 hH1 f1 => ⟨rfl, ?_⟩⟩
          rw [et]
          have hB1 := hB.fr f1 (by omega)
          have gg := hG.1.1.val hp1 c2 (val_pw hPW c2 cs)
          have f2 : Fr h1 (va_up h1 7 (ai 12 (va_up t x.toNat v))) 7 7 := Fr.rf.up (by omega)
          have hS2 : StA (va_up h1 7 (ai 12 (va_up t x.toNat v))) n 2 (S.1.set x.toNat (valP p v), S.2) := by
            refine ⟨(hB1.2.1.1).fr f2 (by omega), ⟨k, f, s, va_up t x.toNat v, ?_, (E1.fr f1 (by omega)).fr f2 (by omega), (E2.fr f1 (by omega)).fr f2 (by omega), (E3.fr f1 (by omega)).fr f2 (by omega), (E4.fr f1 (by omega)).it, set_get hv hp1, fun y hy => (gg.1.2.2.1 y hy).1, ?_, hcap⟩, hB1.2.1.2.2⟩
            · show At _ n (2 + 1) (.inl (2, [.ref (2 + 1 + 1), .ref (2 + 1 + 2), .ref (2 + 1 + 3), .ref (2 + 1 + 4), .int (i3 ((S.1.set x.toNat (valP p v)).length : Nat))]))
              rw [List.length_set]
              exact (E.fr f1 (by omega)).fr f2 (by omega)
            · show (S.1.set x.toNat (valP p v)).length ≤ 12
              rw [List.length_set]
              exact hl
          have hB2 : BnC (va_up h1 7 (ai 12 (va_up t x.toNat v))) n 1 (S.1.set x.toNat (valP p v), S.2) A F D N sat rsn cul G := ⟨hB1.1.fr f2 (by omega), hS2, hB1.2.2.1.fr f2 (by omega), hB1.2.2.2.1.fr f2 (by omega), hB1.2.2.2.2.fr f2 (by omega)⟩
          have g2 : GdS (S.1.set x.toNat (valP p v), S.2) := ⟨gg.1, hG.1.2.1, by
            show 0 ≤ S.2.2.1 ∧ S.2.2.1 < 3 ^ nA (S.1.set x.toNat (valP p v))
            rw [gg.2]
            exact hG.1.2.2.1, hG.1.2.2.2⟩
          have hB1o := hB1.2.1.2.1.obj
          refine sX6_setValue_36 hc hr (h0.fr f1 (by omega)) rfl rfl hB1.1 rfl rfl hB1.2.1.1 rfl rfl (E.fr f1 (by omega)) rfl rfl (E4.fr f1 (by omega)) ⟨⟨by omega, by omega, by omega⟩, 1, _, rfl, ⟨_, _, _, _, _, _, _, _, hB2⟩, g2.fit.1, g2.fit.2, fun h3 hA3 f3 => ⟨rfl, ?_⟩⟩
          obtain ⟨_, _, _, _, _, _, _, _, hB3⟩ := hA3.obj
          have f13 : Fr h1 h3 1 28 := (f2.sub (by omega) (by omega)).tr f3
          refine sX6_setValue_59 hc hr ((h0.fr f1 (by omega)).fr f13 (by omega)) rfl rfl hB3.1 rfl ⟨1, _, rfl, hA3, fun h4 hA4 f4 => ⟨rfl, sX6_setValue_66 hc hr (kk h4 ?_ ?_)⟩⟩
          · have f14 : Fr h1 h4 1 28 := f13.tr f4
            exact ⟨(h0.fr f1 (by omega)).fr f14 (by omega), hA4, ⟨T, (hT.fr f1 (by omega)).fr f14 (by omega)⟩, (hI.fr f1 (by omega)).fr f14 (by omega), hH1.fr f14 (by omega), (hM.fr f1 (by omega)).fr f14 (by omega), g2.set, gd_push hG.2.1 hG.1, hG.2.2⟩
          · exact ((f1.sub (by omega) (by omega)).tr (f13.sub (by omega) (by omega))).tr (f4.sub (by omega) (by omega))
        · rw [if_neg cs] at kk ⊢
          exact ⟨rfl, okT_out hc hr (kk h hq0 Fr.rf)⟩
  exact sX6_setValue_0 hc hr h0 rfl st
