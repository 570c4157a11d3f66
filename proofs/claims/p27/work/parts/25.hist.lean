/-! part 25: class History, at place 65: its ring of states 67 + 6 * j -/
def HsA (h : HP) (n : Nat) (hist : List Stt) : Prop := ∃ o : Nat, o < 8 ∧ hist.length ≤ 8 ∧ At h n 65 (.inl (1, [.ref 66, .int (i3 o), .int (i3 hist.length)])) ∧ At h n 66 (.inr (3, 8, .inr (.inr (fun j => if j < 8 then some (67 + 6 * j) else none)))) ∧ (∀ j, j < 8 → ∃ S, StA h n (67 + 6 * j) S) ∧ ∀ i, i < hist.length → ∃ S, hist[i]? = some S ∧ StA h n (67 + 6 * ((o + i) % 8)) S
theorem HsA.fr {h h' : HP} {n lo hi : Nat} {hist : List Stt} (p : HsA h n hist) (g : Fr h h' lo hi) (d : 114 < lo ∨ hi < 65) : HsA h' n hist := by
  obtain ⟨o, h1, h2, h3, h4, h5, h6⟩ := p
  refine ⟨o, h1, h2, h3.fr g (by omega), h4.fr g (by omega), fun j hj => ?_, fun i hi => ?_⟩
  · obtain ⟨S, hS⟩ := h5 j hj
    exact ⟨S, hS.fr g (by omega)⟩
  · obtain ⟨S, e, hS⟩ := h6 i hi
    exact ⟨S, e, hS.fr g (by omega)⟩
/-- one state more, the oldest falls -/
def pushH (hist : List Stt) (S : Stt) : List Stt := if hist.length < 8 then hist ++ [S] else hist.tail ++ [S]
set_option maxHeartbeats 4000000 in
set_option maxRecDepth 100000 in
theorem sX1_record_0 {X : Xt} {n : Nat} {h : HP} {a0 : Nat} {a1 : Nat} {fs1 : List Value} {q2 : Nat} {iv3 : Int} {iv4 : Int} {len5 : Nat} {f5 : Nat → Option Nat} {q6 : Nat} {fs8 : List Value} (hc : Cx X cX1_record RX1 2 4 88) {K : KT} (hr : CxR X none K) (e1 : At h n a0 (.inl (1, fs1))) (z1 : fs1.length = 3) (v1_0 : fs1[0]? = some (.ref q2)) (v1_1 : fs1[1]? = some (.int (i3 iv3))) (v1_2 : fs1[2]? = some (.int (i3 iv4))) (e5 : At h n q2 (.inr (3, len5, .inr (.inr f5)))) (g7 : (f5 (((iv3 + iv4) % 8) : Int).toNat) = some q6) (e8 : At h n q6 (.inl (4, fs8))) (z8 : fs8.length = 4)
    (P : (((0 : Int) ≤ (iv3 + iv4) ∧ (iv3 + iv4) ≤ 2147483647) ∧ (0 : Int) < 8 ∧ (8 : Int) ≤ 2147483647) ∧ (Ix ((iv3 + iv4) % 8) len5) ∧ spec_X4_copyFrom [.ref q6, .ref a1] n h (kc X 0 0 18 [(0, .ref a0), (1, .ref a1)] [] n)) :
    Ok X 0 0 0 [(0, .ref a0), (1, .ref a1)] [] n h := by
  refine ok_aload_n (pc := 0) hc dX1_record_0 rfl 0 rfl ?_
  refine ok_get (pc := 1) hc fl_X1_11 dX1_record_1 e1.1 e1.2 v1_0 ?_
  refine ok_aload_n (pc := 4) hc dX1_record_4 rfl 0 rfl ?_
  refine ok_get (pc := 5) hc fl_X1_18 dX1_record_5 e1.1 e1.2 v1_1 ?_
  refine ok_aload_n (pc := 8) hc dX1_record_8 rfl 0 rfl ?_
  refine ok_get (pc := 9) hc fl_X1_22 dX1_record_9 e1.1 e1.2 v1_2 ?_
  refine zk_iadd (pc := 12) hc dX1_record_12 ?_
  refine ok_bipush (pc := 13) hc (v := i3 8) dX1_record_13 (by decide) ?_
  obtain ⟨r, P⟩ := P
  refine zk_irem (pc := 15) hc dX1_record_15 r ?_
  obtain ⟨r, P⟩ := P
  refine zk_aald (pc := 16) hc dX1_record_16 e5.1 e5.2 rfl r g7 ?_
  refine ok_aload_n (pc := 17) hc dX1_record_17 rfl 1 rfl ?_
  exact ok_callV (pc := 18) (a := q6) (cb := 0) (sb := 0) (st := []) hc [.ref a1] cv_X1_25 sp_X4_copyFrom (by decide) dX1_record_18 rfl e8.1 e8.2 rfl rfl rfl (Nat.le_of_ble_eq_true rfl) P

set_option maxHeartbeats 4000000 in
set_option maxRecDepth 100000 in
theorem sX1_record_21 {X : Xt} {n : Nat} {h : HP} {a0 : Nat} {a1 : Nat} {fs1 : List Value} {iv2 : Int} {iv4 : Int} (hc : Cx X cX1_record RX1 2 4 88) {K : KT} (hr : CxR X none K) (e1 : At h n a0 (.inl (1, fs1))) (z1 : fs1.length = 3) (v1_2 : fs1[2]? = some (.int (i3 iv2))) (v1_1 : fs1[1]? = some (.int (i3 iv4)))
    (P : (R3 iv2) ∧ (8 ≤ iv2 → (((0 : Int) ≤ (iv4 + 1) ∧ (iv4 + 1) ≤ 2147483647) ∧ (0 : Int) < 8 ∧ (8 : Int) ≤ 2147483647) ∧ K (.inl none) n (va_up h a0 (.inl (1, (fs1.set 1 (.int (i3 ((iv4 + 1) % 8)))))))) ∧ (¬ 8 ≤ iv2 → K (.inl none) n (va_up h a0 (.inl (1, (fs1.set 2 (.int (i3 (iv2 + 1))))))))) :
    Ok X 0 0 21 [(0, .ref a0), (1, .ref a1)] [] n h := by
  refine ok_aload_n (pc := 21) hc dX1_record_21 rfl 0 rfl ?_
  refine ok_get (pc := 22) hc fl_X1_22 dX1_record_22 e1.1 e1.2 v1_2 ?_
  refine ok_bipush (pc := 25) hc (v := i3 8) dX1_record_25 (by decide) ?_
  obtain ⟨r3, P⟩ := P
  refine zk_icmp_ge (pc := 27) (tgt := 43) hc dX1_record_27 (by decide) r3 ⟨by decide, by decide⟩ (fun c => ?_) (fun c => ?_)
  · have P := P.1 c
    refine ok_aload_n (pc := 43) hc dX1_record_43 rfl 0 rfl ?_
    refine ok_aload_n (pc := 44) hc dX1_record_44 rfl 0 rfl ?_
    refine ok_get (pc := 45) hc fl_X1_18 dX1_record_45 e1.1 e1.2 v1_1 ?_
    refine ok_iconst (pc := 48) hc (v := i3 1) dX1_record_48 (by decide) ?_
    refine zk_iadd (pc := 49) hc dX1_record_49 ?_
    refine ok_bipush (pc := 50) hc (v := i3 8) dX1_record_50 (by decide) ?_
    obtain ⟨r, P⟩ := P
    refine zk_irem (pc := 52) hc dX1_record_52 r ?_
    refine ok_put (pc := 53) hc fl_X1_18 dX1_record_53 e1.1 e1.2 (by simp [List.length_set, z1]) (fun _ => rfl) (fun _ => rfl) ?_
    exact ok_vret (st := []) (pc := 56) hc hr dX1_record_56 P
  · have P := P.2 c
    refine ok_aload_n (pc := 30) hc dX1_record_30 rfl 0 rfl ?_
    refine ok_dup (pc := 31) hc dX1_record_31 rfl ?_
    refine ok_get (pc := 32) hc fl_X1_22 dX1_record_32 e1.1 e1.2 v1_2 ?_
    refine ok_iconst (pc := 35) hc (v := i3 1) dX1_record_35 (by decide) ?_
    refine zk_iadd (pc := 36) hc dX1_record_36 ?_
    refine ok_put (pc := 37) hc fl_X1_22 dX1_record_37 e1.1 e1.2 (by simp [List.length_set, z1]) (fun _ => rfl) (fun _ => rfl) ?_
    refine ok_goto (pc := 40) (tgt := 56) hc dX1_record_40 (by decide) ?_
    exact ok_vret (st := []) (pc := 56) hc hr dX1_record_56 P

def spec_X1_record (args : List Value) (n : Nat) (h : HP) (K : KT) : Prop := ∃ (b : Nat) (hist : List Stt) (S : Stt), args = [.ref 65, .ref b] ∧ HsA h n hist ∧ StA h n b S ∧ (b + 5 < 65 ∨ 114 < b) ∧ ∀ h', HsA h' n (pushH hist S) → Fr h h' 65 114 → K (.inl none) n h'
theorem sp_X1_record : Sp yX1_record cX1_record 2 none 4 88 0 0 spec_X1_record := by
  refine sp_intro (by decide) (by rintro args n h K ⟨b, hist, S, rfl, -⟩; exact Nat.le_of_ble_eq_true rfl) ?_
  rintro X args n h K hc hr ⟨b, hist, S, rfl, ⟨o, h1, h2, h3, h4, h5, h6⟩, hS, hd, kk⟩
  have hm : (((o : Int) + (hist.length : Int)) % 8).toNat = (o + hist.length) % 8 := by omega
  obtain ⟨S0, hS0⟩ := h5 ((o + hist.length) % 8) (by omega)
  refine sX1_record_0 hc hr h3 rfl rfl rfl rfl h4 (q6 := 67 + 6 * ((o + hist.length) % 8)) (by rw [hm, if_pos (by omega)]) hS0.1 rfl ⟨⟨⟨by omega, by omega⟩, by decide, by decide⟩, ⟨by omega, by omega, by omega⟩, 67 + 6 * ((o + hist.length) % 8), b, S0, S, rfl, hS0, hS, by omega, fun h' q1 q2 => ⟨rfl, ?_⟩⟩
  have g3 := h3.fr q2 (by omega)
  have g4 := h4.fr q2 (by omega)
  -- what each ring place holds now
  have g5 : ∀ j, j < 8 → j ≠ (o + hist.length) % 8 → ∀ T, StA h n (67 + 6 * j) T → StA h' n (67 + 6 * j) T := fun j hj hne T hT => hT.fr q2 (by omega)
  have g7 : ∀ j, j < 8 → ∃ T, StA h' n (67 + 6 * j) T := fun j hj => by
    by_cases e : j = (o + hist.length) % 8
    · rw [e]
      exact ⟨S, q1⟩
    · obtain ⟨T, hT⟩ := h5 j hj
      exact ⟨T, g5 j hj e T hT⟩
  have up65 : ∀ (e : AE) (a : Nat) (T : Stt), 66 < a → StA h' n a T → StA (va_up h' 65 e) n a T := fun e a T ha hT => hT.fr (lo := 65) (hi := 65) (Fr.rf.up (by omega)) (by omega)
  refine sX1_record_21 hc hr g3 rfl rfl rfl ⟨R3_s (by omega), fun c => ⟨⟨⟨by omega, by omega⟩, by decide, by decide⟩, ?_⟩, fun c => ?_⟩
  · have hl : hist.length = 8 := by omega
    have ht : hist.tail.length = 7 := by rw [List.length_tail, hl]
    refine kk _ ?_ (Fr.up (q2.sub (by omega) (by omega)) (by omega))
    unfold pushH
    rw [if_neg (by omega)]
    refine ⟨(o + 1) % 8, by omega, by rw [List.length_append, ht]; show 7 + 1 ≤ 8; decide, ⟨g3.1, up_self.trans ?_⟩, g4.up (by omega), fun j hj => ?_, fun i hi => ?_⟩
    · rw [List.length_append, ht, hl, show (((o + 1) % 8 : Nat) : Int) = ((o : Int) + 1) % 8 by omega]
      rfl
    · obtain ⟨T, hT⟩ := g7 j hj
      exact ⟨T, up65 _ _ T (by omega) hT⟩
    · rw [List.length_append, ht] at hi
      by_cases e : i < 7
      · obtain ⟨T, e1, hT⟩ := h6 (i + 1) (by omega)
        refine ⟨T, by rw [List.getElem?_append_left (by omega), List.getElem?_tail, e1], ?_⟩
        rw [show ((o + 1) % 8 + i) % 8 = (o + (i + 1)) % 8 by omega]
        exact up65 _ _ T (by omega) (g5 _ (by omega) (by omega) T hT)
      · have : i = 7 := by simp at hi; omega
        subst this
        refine ⟨S, by rw [List.getElem?_append_right (by omega), ht]; rfl, ?_⟩
        rw [show ((o + 1) % 8 + 7) % 8 = (o + hist.length) % 8 by omega]
        exact up65 _ _ S (by omega) q1
  · refine kk _ ?_ (Fr.up (q2.sub (by omega) (by omega)) (by omega))
    unfold pushH
    rw [if_pos (by omega)]
    refine ⟨o, h1, by rw [List.length_append, List.length_singleton]; omega, ⟨g3.1, up_self.trans ?_⟩, g4.up (by omega), fun j hj => ?_, fun i hi => ?_⟩
    · rw [List.length_append, List.length_singleton, show ((hist.length + 1 : Nat) : Int) = (hist.length : Int) + 1 by omega]
      rfl
    · obtain ⟨T, hT⟩ := g7 j hj
      exact ⟨T, up65 _ _ T (by omega) hT⟩
    · rw [List.length_append, List.length_singleton] at hi
      by_cases e : i < hist.length
      · obtain ⟨T, e1, hT⟩ := h6 i e
        refine ⟨T, by rw [List.getElem?_append_left e, e1], ?_⟩
        exact up65 _ _ T (by omega) (g5 _ (by omega) (by omega) T hT)
      · have : i = hist.length := by omega
        subst this
        refine ⟨S, by rw [List.getElem?_append_right (Nat.le_refl _), Nat.sub_self]; rfl, ?_⟩
        exact up65 _ _ S (by omega) q1
set_option maxHeartbeats 4000000 in
set_option maxRecDepth 100000 in
theorem sX1_removeLatest_0 {X : Xt} {n : Nat} {h : HP} {a0 : Nat} {fs1 : List Value} {iv2 : Int} {q3 : Nat} {iv4 : Int} {len5 : Nat} {f5 : Nat → Option Nat} {q6 : Nat} (hc : Cx X cX1_removeLatest RX1 1 0 0) {K : KT} (hr : CxR X (some (.object "AmplifierDesk$State")) K) (e1 : At h n a0 (.inl (1, fs1))) (z1 : fs1.length = 3) (v1_2 : fs1[2]? = some (.int (i3 iv2))) (v1_0 : fs1[0]? = some (.ref q3)) (v1_1 : fs1[1]? = some (.int (i3 iv4))) (e5 : At h n q3 (.inr (3, len5, .inr (.inr f5)))) (g7 : (f5 (((iv4 + (iv2 - 1)) % 8) : Int).toNat) = some q6)
    (P : (((0 : Int) ≤ (iv4 + (iv2 - 1)) ∧ (iv4 + (iv2 - 1)) ≤ 2147483647) ∧ (0 : Int) < 8 ∧ (8 : Int) ≤ 2147483647) ∧ (Ix ((iv4 + (iv2 - 1)) % 8) len5) ∧ K (.inl (some (.ref q6))) n (va_up h a0 (.inl (1, (fs1.set 2 (.int (i3 (iv2 - 1)))))))) :
    Ok X 0 0 0 [(0, .ref a0)] [] n h := by
  refine ok_aload_n (pc := 0) hc dX1_removeLatest_0 rfl 0 rfl ?_
  refine ok_dup (pc := 1) hc dX1_removeLatest_1 rfl ?_
  refine ok_get (pc := 2) hc fl_X1_22 dX1_removeLatest_2 e1.1 e1.2 v1_2 ?_
  refine ok_iconst (pc := 5) hc (v := i3 1) dX1_removeLatest_5 (by decide) ?_
  refine zk_isub (pc := 6) hc dX1_removeLatest_6 ?_
  refine ok_put (pc := 7) hc fl_X1_22 dX1_removeLatest_7 e1.1 e1.2 (by simp [List.length_set, z1]) (fun _ => rfl) (fun _ => rfl) ?_
  refine ok_aload_n (pc := 10) hc dX1_removeLatest_10 rfl 0 rfl ?_
  refine ok_get (pc := 11) hc fl_X1_11 dX1_removeLatest_11 e1.1 up_self ((set_ne (by decide)).trans v1_0) ?_
  refine ok_aload_n (pc := 14) hc dX1_removeLatest_14 rfl 0 rfl ?_
  refine ok_get (pc := 15) hc fl_X1_18 dX1_removeLatest_15 e1.1 up_self ((set_ne (by decide)).trans v1_1) ?_
  refine ok_aload_n (pc := 18) hc dX1_removeLatest_18 rfl 0 rfl ?_
  refine ok_get (pc := 19) hc fl_X1_22 dX1_removeLatest_19 e1.1 up_self (set_self (by simp [List.length_set, z1])) ?_
  refine zk_iadd (pc := 22) hc dX1_removeLatest_22 ?_
  refine ok_bipush (pc := 23) hc (v := i3 8) dX1_removeLatest_23 (by decide) ?_
  obtain ⟨r, P⟩ := P
  refine zk_irem (pc := 25) hc dX1_removeLatest_25 r ?_
  obtain ⟨r, P⟩ := P
  refine zk_aald (pc := 26) hc dX1_removeLatest_26 e5.1 ((up_ne (ne_oa e1.2 e5.2).symm).trans e5.2) rfl r g7 ?_
  exact ok_aret (st := []) (pc := 27) hc hr dX1_removeLatest_27 P

def spec_X1_removeLatest (args : List Value) (n : Nat) (h : HP) (K : KT) : Prop := ∃ (hist : List Stt) (S : Stt), args = [.ref 65] ∧ HsA h n (hist ++ [S]) ∧ ∀ h' b, HsA h' n hist → StA h' n b S → 66 < b → b + 5 ≤ 114 → Fr h h' 65 65 → K (.inl (some (.ref b))) n h'
theorem sp_X1_removeLatest : Sp yX1_removeLatest cX1_removeLatest 1 (some (.object "AmplifierDesk$State")) 0 0 0 0 spec_X1_removeLatest := by
  refine sp_intro (by decide) (by rintro args n h K ⟨hist, S, rfl, -⟩; exact Nat.le_of_ble_eq_true rfl) ?_
  rintro X args n h K hc hr ⟨hist, S, rfl, ⟨o, h1, h2, h3, h4, h5, h6⟩, kk⟩
  have hl : (hist ++ [S]).length = hist.length + 1 := by rw [List.length_append, List.length_singleton]
  rw [hl] at h2 h3 h6
  have hm : (((o : Int) + (((hist.length + 1 : Nat) : Int) - 1)) % 8).toNat = (o + hist.length) % 8 := by omega
  obtain ⟨T, e1, hT⟩ := h6 hist.length (by omega)
  rw [List.getElem?_append_right (Nat.le_refl _), Nat.sub_self] at e1
  cases e1
  have up65 : ∀ (e : AE) (a : Nat) (T : Stt), 66 < a → StA h n a T → StA (va_up h 65 e) n a T := fun e a T ha hT => hT.fr (lo := 65) (hi := 65) (Fr.rf.up (by omega)) (by omega)
  refine sX1_removeLatest_0 hc hr h3 rfl rfl rfl rfl h4 (q6 := 67 + 6 * ((o + hist.length) % 8)) (by rw [hm, if_pos (by omega)]) ⟨⟨⟨by omega, by omega⟩, by decide, by decide⟩, ⟨by omega, by omega, by omega⟩, ?_⟩
  refine kk _ _ ?_ (up65 _ _ S (by omega) hT) (by omega) (by omega) (Fr.rf.up (by omega))
  refine ⟨o, h1, by omega, ⟨h3.1, up_self.trans ?_⟩, h4.up (by omega), fun j hj => ?_, fun i hi => ?_⟩
  · rw [show (((hist.length + 1 : Nat) : Int) - 1) = (hist.length : Int) by omega]
    rfl
  · obtain ⟨T, hT⟩ := h5 j hj
    exact ⟨T, up65 _ _ T (by omega) hT⟩
  · obtain ⟨T, e1, hT⟩ := h6 i (by omega)
    rw [List.getElem?_append_left hi] at e1
    exact ⟨T, e1, up65 _ _ T (by omega) hT⟩
