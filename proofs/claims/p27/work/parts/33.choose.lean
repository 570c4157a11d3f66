/-! part 33: class Bench: choose, numerator, signs -/
set_option maxHeartbeats 4000000 in
set_option maxRecDepth 100000 in
theorem sX0_isDetermined_0 {X : Xt} {n : Nat} {h : HP} {a0 : Nat} {x1 : Int} {fs1 : List Value} {q2 : Nat} {fs3 : List Value} {q4 : Nat} (hc : Cx X cX0_isDetermined RX0 2 2 44) {K : KT} (hr : CxR X (some .boolean) K) (e1 : At h n a0 (.inl (0, fs1))) (z1 : fs1.length = 8) (v1_3 : fs1[3]? = some (.ref q2)) (e3 : At h n q2 (.inl (3, fs3))) (z3 : fs3.length = 3) (v3_0 : fs3[0]? = some (.ref q4))
    (P : spec_X0_saturatedIn [.ref a0, .int (i3 x1)] n h (kc X 0 0 9 [(0, .ref a0), (1, .int (i3 x1))] [.ref q4] n)) :
    Ok X 0 0 0 [(0, .ref a0), (1, .int (i3 x1))] [] n h := by
  refine ok_aload_n (pc := 0) hc dX0_isDetermined_0 rfl 0 rfl ?_
  refine ok_get (pc := 1) hc fl_X0_25 dX0_isDetermined_1 e1.1 e1.2 v1_3 ?_
  refine ok_get (pc := 4) hc fl_X0_85 dX0_isDetermined_4 e3.1 e3.2 v3_0 ?_
  refine ok_aload_n (pc := 7) hc dX0_isDetermined_7 rfl 0 rfl ?_
  refine ok_iload_n (pc := 8) hc dX0_isDetermined_8 rfl 1 rfl ?_
  exact ok_callV (pc := 9) (a := a0) (cb := 0) (sb := 0) (st := [.ref q4]) hc [.int (i3 x1)] cv_X0_88 sp_X0_saturatedIn (by decide) dX0_isDetermined_9 rfl e1.1 e1.2 rfl rfl rfl (Nat.le_of_ble_eq_true rfl) P

set_option maxHeartbeats 4000000 in
set_option maxRecDepth 100000 in
theorem sX0_isDetermined_12 {X : Xt} {n : Nat} {h : HP} {a0 : Nat} {x1 : Int} {t0 : Int} {ta1 : Nat} {len1 : Nat} {f1 : Nat → Int} (hc : Cx X cX0_isDetermined RX0 2 2 44) {K : KT} (hr : CxR X (some .boolean) K) (e1 : At h n ta1 (al len1 f1))
    (P : (Ix t0 len1) ∧ (R6 (f1 (t0 : Int).toNat) ∧ R6 0) ∧ ((f1 (t0 : Int).toNat) = 0 → K (.inl (some (.int (i3 0)))) n h) ∧ (¬ (f1 (t0 : Int).toNat) = 0 → K (.inl (some (.int (i3 1)))) n h)) :
    Ok X 0 0 12 [(0, .ref a0), (1, .int (i3 x1))] [.int (i3 t0), .ref ta1] n h := by
  obtain ⟨r, P⟩ := P
  refine zk_lald (pc := 12) hc dX0_isDetermined_12 e1.1 e1.2 r ?_
  refine ok_lconst (pc := 13) hc (v := i6 0) dX0_isDetermined_13 (by decide) ?_
  obtain ⟨r, P⟩ := P
  refine zk_lcmp (pc := 14) hc dX0_isDetermined_14 r ?_
  refine zk_if_eq (pc := 15) (tgt := 22) hc dX0_isDetermined_15 (by decide) R3_cmp (fun c => ?_) (fun c => ?_)
  · have P := P.1 (cmp_eq.mp c)
    refine ok_iconst (pc := 22) hc (v := i3 0) dX0_isDetermined_22 (by decide) ?_
    exact ok_zret (st := []) (pc := 23) hc (nar_z (by decide)) hr dX0_isDetermined_23 P
  · have P := P.2 (fun z => c (cmp_eq.mpr z))
    refine ok_iconst (pc := 18) hc (v := i3 1) dX0_isDetermined_18 (by decide) ?_
    refine ok_goto (pc := 19) (tgt := 23) hc dX0_isDetermined_19 (by decide) ?_
    exact ok_zret (st := []) (pc := 23) hc (nar_z (by decide)) hr dX0_isDetermined_23 P

def spec_X0_isDetermined (args : List Value) (n : Nat) (h : HP) (K : KT) : Prop := ∃ (b : Nat) (S : Stt) (c sat rsn cul : Int) (G : Nat → Int), args = [.ref b, .int (i3 c)] ∧ BnK h n b S sat rsn cul G ∧ (0 ≤ c ∧ c ≤ 26) ∧ K (.inl (some (.int (i3 (if solD S.1 (satN c (nA S.1)) = 0 then 0 else 1))))) n h
theorem Fit.D {ps : List Part} (h : Fit ps) {m : Nat} (hm : m < 2 ^ nA ps) : R6 (elimN 7 0 1 (rowsM (m : Nat) ps)).1 := (h m hm).R6 ⟨by decide, by decide⟩
theorem EOk.fin : ∀ {f k : Nat} {p : Int} {M : Mat}, EOk f k p M → BdM (elimN f k p M).2
  | 0, _, _, _, h => h
  | f + 1, k, p, M, h => by
    obtain ⟨hb, hp, hp6, hs⟩ := h
    rw [show elimN (f + 1) k p M = (match pivN M k (7 - k) k with | none => (0, M) | some i => elimN f (k + 1) (M i k) (clearM (swapM M i k) k p)) from rfl]
    cases hq : pivN M k (7 - k) k with
    | none => exact hb
    | some i => exact (hs i hq).fin
theorem EOk.det : ∀ {f k : Nat} {p : Int} {M : Mat}, EOk f k p M → (-536870912 ≤ p ∧ p ≤ 536870912) → -536870912 ≤ (elimN f k p M).1 ∧ (elimN f k p M).1 ≤ 536870912
  | 0, _, _, _, _, h => h
  | f + 1, k, p, M, h, _ => by
    obtain ⟨hb, hp, hp6, hs⟩ := h
    rw [show elimN (f + 1) k p M = (match pivN M k (7 - k) k with | none => (0, M) | some i => elimN f (k + 1) (M i k) (clearM (swapM M i k) k p)) from rfl]
    cases hq : pivN M k (7 - k) k with
    | none => exact ⟨(by decide : (-536870912 : Int) ≤ 0), (by decide : (0 : Int) ≤ 536870912)⟩
    | some i =>
      have hps := pivN_spec hq
      exact (hs i hq).det (hb i k (by omega) (by omega))
theorem Fit.sD {ps : List Part} (h : Fit ps) {m : Nat} (hm : m < 2 ^ nA ps) : 0 ≤ solD ps m ∧ solD ps m ≤ 536870912 := by
  have := (h m hm).det ⟨by decide, by decide⟩
  unfold solD absZ
  split <;> omega
theorem Fit.sN {ps : List Part} (h : Fit ps) {m x : Nat} (hm : m < 2 ^ nA ps) (hx : x < 49) : -536870912 ≤ solN ps m x ∧ solN ps m x ≤ 536870912 := by
  have := (h m hm).fin (x / 7) (7 + x % 7) (by omega) (by omega)
  unfold solN ansF
  split <;> omega
theorem satN_8 {c : Int} {ps : List Part} (h3 : nA ps ≤ 3) : satN c (nA ps) < 8 := by
  have := satN_lt c (nA ps)
  have e : 2 ^ nA ps ≤ 8 := by
    rcases (by omega : nA ps = 0 ∨ nA ps = 1 ∨ nA ps = 2 ∨ nA ps = 3) with e | e | e | e <;> rw [e] <;> decide
  omega
theorem pow8 {k m : Nat} (hk : k ≤ 3) (hm : m < 2 ^ k) : m < 8 := by
  have e : 2 ^ k ≤ 8 := by
    rcases (by omega : k = 0 ∨ k = 1 ∨ k = 2 ∨ k = 3) with e | e | e | e <;> rw [e] <;> decide
  omega
theorem sp_X0_isDetermined : Sp yX0_isDetermined cX0_isDetermined 2 (some .boolean) 2 44 0 0 spec_X0_isDetermined := by
  refine sp_intro (by decide) (by rintro args n h K ⟨b, S, _, _, _, _, _, rfl, -⟩; exact Nat.le_of_ble_eq_true rfl) ?_
  rintro X args n h K hc hr ⟨b, S, c, sat, rsn, cul, G, rfl, hK, hcc, kk⟩
  obtain ⟨F, D, N, hB, h3, hFit, hF, hDN⟩ := id hK
  obtain ⟨M, d, g, v, r1, r2, r3, r4⟩ := hB.2.2.2.1
  have h8 := satN_8 (c := c) h3
  have hm := satN_lt c (nA S.1)
  have ed : d (satN c (nA S.1)) = solD S.1 (satN c (nA S.1)) := (r4 _ h8).2.2.1.trans (hDN _ hm).1
  have hs := hFit.sD hm
  refine sX0_isDetermined_0 hc hr hB.1 rfl rfl hB.2.2.2.1.obj rfl rfl ⟨b, S, c, sat, rsn, cul, G, rfl, hK, hcc, rfl, sX0_isDetermined_12 hc hr r2 ⟨⟨by omega, by omega, by omega⟩, ⟨?_, R6_0⟩, fun z => ?_, fun z => ?_⟩⟩
  · rw [Int.toNat_natCast, ed]
    unfold R6
    omega
  · rw [Int.toNat_natCast, ed] at z
    rw [if_pos z] at kk
    exact kk
  · rw [Int.toNat_natCast, ed] at z
    rw [if_neg z] at kk
    exact kk
/-- what sources and saturated amplifiers give -/
def gSrc (ps : List Part) : Nat → Int := ps.foldl (fun G p => if p.1 = 1 then va_up G p.2.1.toNat p.2.2.2 else G) (fun _ => 0)
def gStep (rail st : Int) (G : Nat → Int) (p : Part) : Nat → Int := if st = 1 then va_up G p.2.2.2.toNat rail else if st = 2 then va_up G p.2.2.2.toNat (-rail) else G
def gAmp (ps : List Part) (rail c : Int) : Nat → Nat → Int
  | 0 => gSrc ps
  | a + 1 => match (amps ps)[a]? with
    | none => gAmp ps rail c a
    | some p => gStep rail (c / 3 ^ a % 3) (gAmp ps rail c a) p
def givC (S : Stt) (c : Int) : Nat → Int := gAmp S.1 S.2.1 c (nA S.1)
set_option maxHeartbeats 4000000 in
set_option maxRecDepth 100000 in
theorem sX0_choose_0 {X : Xt} {n : Nat} {h : HP} {a0 : Nat} {x1 : Int} {fs1 : List Value} (hc : Cx X cX0_choose RX0 6 2 44) {K : KT} (hr : CxR X none K) (e1 : At h n a0 (.inl (0, fs1))) (z1 : fs1.length = 8)
    (P : spec_X0_saturatedIn [.ref a0, .int (i3 x1)] n h (kc X 0 0 3 [(0, .ref a0), (1, .int (i3 x1))] [.ref a0] n)) :
    Ok X 0 0 0 [(0, .ref a0), (1, .int (i3 x1))] [] n h := by
  refine ok_aload_n (pc := 0) hc dX0_choose_0 rfl 0 rfl ?_
  refine ok_aload_n (pc := 1) hc dX0_choose_1 rfl 0 rfl ?_
  refine ok_iload_n (pc := 2) hc dX0_choose_2 rfl 1 rfl ?_
  exact ok_callV (pc := 3) (a := a0) (cb := 0) (sb := 0) (st := [.ref a0]) hc [.int (i3 x1)] cv_X0_88 sp_X0_saturatedIn (by decide) dX0_choose_3 rfl e1.1 e1.2 rfl rfl rfl (Nat.le_of_ble_eq_true rfl) P

set_option maxHeartbeats 4000000 in
set_option maxRecDepth 100000 in
theorem sX0_choose_6 {X : Xt} {n : Nat} {h : HP} {a0 : Nat} {x1 : Int} {t0 : Int} {ta1 : Nat} {fs1 : List Value} (hc : Cx X cX0_choose RX0 6 2 44) {K : KT} (hr : CxR X none K) (e1 : At h n ta1 (.inl (0, fs1))) (z1 : fs1.length = 8)
    (P : Ok X 0 0 9 [(0, .ref a0), (1, .int (i3 x1))] [] n (va_up h ta1 (.inl (0, (fs1.set 5 (.int (i3 t0))))))) :
    Ok X 0 0 6 [(0, .ref a0), (1, .int (i3 x1))] [.int (i3 t0), .ref ta1] n h := by
  refine ok_put (pc := 6) hc fl_X0_91 dX0_choose_6 e1.1 e1.2 (by simp [List.length_set, z1]) (fun _ => rfl) (fun _ => rfl) ?_
  exact P

set_option maxHeartbeats 4000000 in
set_option maxRecDepth 100000 in
theorem sX0_choose_9 {X : Xt} {n : Nat} {h : HP} {a0 : Nat} {x1 : Int} {fs1 : List Value} {q2 : Nat} (hc : Cx X cX0_choose RX0 6 2 44) {K : KT} (hr : CxR X none K) (e1 : At h n a0 (.inl (0, fs1))) (z1 : fs1.length = 8) (v1_4 : fs1[4]? = some (.ref q2))
    (P : spec_J7_fill_d0a16 [.ref q2, .long (i6 0)] n h (kc X 0 0 14 [(0, .ref a0), (1, .int (i3 x1))] [] n)) :
    Ok X 0 0 9 [(0, .ref a0), (1, .int (i3 x1))] [] n h := by
  refine ok_aload_n (pc := 9) hc dX0_choose_9 rfl 0 rfl ?_
  refine ok_get (pc := 10) hc fl_X0_29 dX0_choose_10 e1.1 e1.2 v1_4 ?_
  refine ok_lconst (pc := 13) hc (v := i6 0) dX0_choose_13 (by decide) ?_
  exact ok_callS (pc := 14) (cb := 0) (sb := 0) (st := []) hc [.ref q2, .long (i6 0)] cs_X0_94 sp_J7_fill_d0a16 (by decide) dX0_choose_14 rfl rfl rfl rfl (Nat.le_of_ble_eq_true rfl) P

set_option maxHeartbeats 4000000 in
set_option maxRecDepth 100000 in
theorem sX0_choose_17 {X : Xt} {n : Nat} {h : HP} {a0 : Nat} {x1 : Int} {fs1 : List Value} {q2 : Nat} {fs3 : List Value} {q4 : Nat} (hc : Cx X cX0_choose RX0 6 2 44) {K : KT} (hr : CxR X none K) (e1 : At h n a0 (.inl (0, fs1))) (z1 : fs1.length = 8) (v1_0 : fs1[0]? = some (.ref q2)) (e3 : At h n q2 (.inl (4, fs3))) (z3 : fs3.length = 4) (v3_0 : fs3[0]? = some (.ref q4))
    (P : Ok X 0 0 27 [(0, .ref a0), (1, .int (i3 x1)), (2, .ref q4), (3, .int (i3 0))] [] n h) :
    Ok X 0 0 17 [(0, .ref a0), (1, .int (i3 x1))] [] n h := by
  refine ok_aload_n (pc := 17) hc dX0_choose_17 rfl 0 rfl ?_
  refine ok_get (pc := 18) hc fl_X0_12 dX0_choose_18 e1.1 e1.2 v1_0 ?_
  refine ok_get (pc := 21) hc fl_X0_44 dX0_choose_21 e3.1 e3.2 v3_0 ?_
  refine ok_astore_n (pc := 24) hc (lv' := [(2, .ref q4), (0, .ref a0), (1, .int (i3 x1))]) dX0_choose_24 rfl (by decide) rfl ?_
  refine ok_iconst (pc := 25) hc (v := i3 0) dX0_choose_25 (by decide) ?_
  refine ok_istore_n (pc := 26) hc (lv' := [(3, .int (i3 0)), (2, .ref q4), (0, .ref a0), (1, .int (i3 x1))]) dX0_choose_26 rfl (by decide) rfl ?_
  refine ok_lv [2, 3, 1, 0] rfl ?_
  exact P

set_option maxHeartbeats 4000000 in
set_option maxRecDepth 100000 in
theorem sX0_choose_27 {X : Xt} {n : Nat} {h : HP} {a0 : Nat} {x1 : Int} {a2 : Nat} {x3 : Int} {fs1 : List Value} {iv2 : Int} (hc : Cx X cX0_choose RX0 6 2 44) {K : KT} (hr : CxR X none K) (e1 : At h n a2 (.inl (2, fs1))) (z1 : fs1.length = 5) (v1_4 : fs1[4]? = some (.int (i3 iv2)))
    (P : (R3 x3) ∧ (R3 iv2) ∧ (iv2 ≤ x3 → Ok X 0 0 69 [(0, .ref a0), (1, .int (i3 x1)), (2, .ref a2), (3, .int (i3 x3))] [] n h) ∧ (¬ iv2 ≤ x3 → Ok X 0 0 35 [(0, .ref a0), (1, .int (i3 x1)), (2, .ref a2), (3, .int (i3 x3))] [] n h)) :
    Ok X 0 0 27 [(0, .ref a0), (1, .int (i3 x1)), (2, .ref a2), (3, .int (i3 x3))] [] n h := by
  refine ok_iload_n (pc := 27) hc dX0_choose_27 rfl 3 rfl ?_
  refine ok_aload_n (pc := 28) hc dX0_choose_28 rfl 2 rfl ?_
  refine ok_get (pc := 29) hc fl_X0_48 dX0_choose_29 e1.1 e1.2 v1_4 ?_
  obtain ⟨r3, P⟩ := P
  obtain ⟨r4, P⟩ := P
  refine zk_icmp_ge (pc := 32) (tgt := 69) hc dX0_choose_32 (by decide) r3 r4 (fun c => ?_) (fun c => ?_)
  · have P := P.1 c
    exact P
  · have P := P.2 c
    exact P

set_option maxHeartbeats 4000000 in
set_option maxRecDepth 100000 in
theorem sX0_choose_35 {X : Xt} {n : Nat} {h : HP} {a0 : Nat} {x1 : Int} {a2 : Nat} {x3 : Int} {fs1 : List Value} {q2 : Nat} {len3 : Nat} {f3 : Nat → Int} {fs5 : List Value} {q6 : Nat} {q7 : Nat} {len8 : Nat} {f8 : Nat → Int} {q9 : Nat} {len10 : Nat} {f10 : Nat → Int} {len12 : Nat} {f12 : Nat → Int} (hc : Cx X cX0_choose RX0 6 2 44) {K : KT} (hr : CxR X none K) (e1 : At h n a2 (.inl (2, fs1))) (z1 : fs1.length = 5) (v1_0 : fs1[0]? = some (.ref q2)) (e3 : At h n q2 (ai len3 f3)) (e5 : At h n a0 (.inl (0, fs5))) (z5 : fs5.length = 8) (v5_4 : fs5[4]? = some (.ref q6)) (v1_1 : fs1[1]? = some (.ref q7)) (e8 : At h n q7 (ai len8 f8)) (v1_3 : fs1[3]? = some (.ref q9)) (e10 : At h n q9 (ai len10 f10)) (e12 : At h n q6 (al len12 f12))
    (P : (Ix x3 len3) ∧ (R3 (f3 (x3 : Int).toNat)) ∧ (¬ (f3 (x3 : Int).toNat) = 1 → Ok X 0 0 27 [(0, .ref a0), (1, .int (i3 x1)), (2, .ref a2), (3, .int (i3 (x3 + 1)))] [] n h) ∧ ((f3 (x3 : Int).toNat) = 1 → (Ix x3 len8) ∧ (Ix x3 len10) ∧ (R3 (f10 (x3 : Int).toNat)) ∧ (Ix (f8 (x3 : Int).toNat) len12) ∧ Ok X 0 0 27 [(0, .ref a0), (1, .int (i3 x1)), (2, .ref a2), (3, .int (i3 (x3 + 1)))] [] n (va_up h q6 (al len12 (va_up f12 ((f8 (x3 : Int).toNat) : Int).toNat (f10 (x3 : Int).toNat)))))) :
    Ok X 0 0 35 [(0, .ref a0), (1, .int (i3 x1)), (2, .ref a2), (3, .int (i3 x3))] [] n h := by
  refine ok_aload_n (pc := 35) hc dX0_choose_35 rfl 2 rfl ?_
  refine ok_get (pc := 36) hc fl_X0_53 dX0_choose_36 e1.1 e1.2 v1_0 ?_
  refine ok_iload_n (pc := 39) hc dX0_choose_39 rfl 3 rfl ?_
  obtain ⟨r, P⟩ := P
  refine zk_iald (pc := 40) hc dX0_choose_40 e3.1 e3.2 r ?_
  refine ok_iconst (pc := 41) hc (v := i3 1) dX0_choose_41 (by decide) ?_
  obtain ⟨r4, P⟩ := P
  refine zk_icmp_ne (pc := 42) (tgt := 63) hc dX0_choose_42 (by decide) r4 ⟨by decide, by decide⟩ (fun c => ?_) (fun c => ?_)
  · have P := P.1 c
    refine zk_iinc (pc := 63) hc (q := 3) (x := x3) (lv' := [(3, .int (i3 (x3 + 1))), (0, .ref a0), (1, .int (i3 x1)), (2, .ref a2)]) dX0_choose_63 rfl (by decide) rfl ?_
    refine ok_goto (pc := 66) (tgt := 27) hc dX0_choose_66 (by decide) ?_
    refine ok_lv [1, 2, 3, 0] rfl ?_
    exact P
  · have P := P.2 c
    refine ok_aload_n (pc := 45) hc dX0_choose_45 rfl 0 rfl ?_
    refine ok_get (pc := 46) hc fl_X0_29 dX0_choose_46 e5.1 e5.2 v5_4 ?_
    refine ok_aload_n (pc := 49) hc dX0_choose_49 rfl 2 rfl ?_
    refine ok_get (pc := 50) hc fl_X0_100 dX0_choose_50 e1.1 e1.2 v1_1 ?_
    refine ok_iload_n (pc := 53) hc dX0_choose_53 rfl 3 rfl ?_
    obtain ⟨r, P⟩ := P
    refine zk_iald (pc := 54) hc dX0_choose_54 e8.1 e8.2 r ?_
    refine ok_aload_n (pc := 55) hc dX0_choose_55 rfl 2 rfl ?_
    refine ok_get (pc := 56) hc fl_X0_103 dX0_choose_56 e1.1 e1.2 v1_3 ?_
    refine ok_iload_n (pc := 59) hc dX0_choose_59 rfl 3 rfl ?_
    obtain ⟨r, P⟩ := P
    refine zk_iald (pc := 60) hc dX0_choose_60 e10.1 e10.2 r ?_
    obtain ⟨r11, P⟩ := P
    refine zk_i2l (pc := 61) hc dX0_choose_61 r11 ?_
    obtain ⟨r, P⟩ := P
    refine zk_last (pc := 62) hc dX0_choose_62 e12.1 e12.2 r ?_
    refine zk_iinc (pc := 63) hc (q := 3) (x := x3) (lv' := [(3, .int (i3 (x3 + 1))), (0, .ref a0), (1, .int (i3 x1)), (2, .ref a2)]) dX0_choose_63 rfl (by decide) rfl ?_
    refine ok_goto (pc := 66) (tgt := 27) hc dX0_choose_66 (by decide) ?_
    refine ok_lv [1, 2, 3, 0] rfl ?_
    exact P

set_option maxHeartbeats 4000000 in
set_option maxRecDepth 100000 in
theorem sX0_choose_69 {X : Xt} {n : Nat} {h : HP} {a0 : Nat} {x1 : Int} {a2 : Nat} {x3 : Int} (hc : Cx X cX0_choose RX0 6 2 44) {K : KT} (hr : CxR X none K) 
    (P : Ok X 0 0 71 [(0, .ref a0), (1, .int (i3 x1)), (2, .ref a2), (3, .int (i3 0))] [] n h) :
    Ok X 0 0 69 [(0, .ref a0), (1, .int (i3 x1)), (2, .ref a2), (3, .int (i3 x3))] [] n h := by
  refine ok_iconst (pc := 69) hc (v := i3 0) dX0_choose_69 (by decide) ?_
  refine ok_istore_n (pc := 70) hc (lv' := [(3, .int (i3 0)), (0, .ref a0), (1, .int (i3 x1)), (2, .ref a2)]) dX0_choose_70 rfl (by decide) rfl ?_
  refine ok_lv [1, 2, 3, 0] rfl ?_
  exact P

set_option maxHeartbeats 4000000 in
set_option maxRecDepth 100000 in
theorem sX0_choose_71 {X : Xt} {n : Nat} {h : HP} {a0 : Nat} {x1 : Int} {a2 : Nat} {x3 : Int} {fs1 : List Value} {iv2 : Int} (hc : Cx X cX0_choose RX0 6 2 44) {K : KT} (hr : CxR X none K) (e1 : At h n a0 (.inl (0, fs1))) (z1 : fs1.length = 8) (v1_2 : fs1[2]? = some (.int (i3 iv2)))
    (P : (R3 x3) ∧ (R3 iv2) ∧ (iv2 ≤ x3 → K (.inl none) n h) ∧ (¬ iv2 ≤ x3 → Ok X 0 0 79 [(0, .ref a0), (1, .int (i3 x1)), (2, .ref a2), (3, .int (i3 x3))] [] n h)) :
    Ok X 0 0 71 [(0, .ref a0), (1, .int (i3 x1)), (2, .ref a2), (3, .int (i3 x3))] [] n h := by
  refine ok_iload_n (pc := 71) hc dX0_choose_71 rfl 3 rfl ?_
  refine ok_aload_n (pc := 72) hc dX0_choose_72 rfl 0 rfl ?_
  refine ok_get (pc := 73) hc fl_X0_40 dX0_choose_73 e1.1 e1.2 v1_2 ?_
  obtain ⟨r3, P⟩ := P
  obtain ⟨r4, P⟩ := P
  refine zk_icmp_ge (pc := 76) (tgt := 151) hc dX0_choose_76 (by decide) r3 r4 (fun c => ?_) (fun c => ?_)
  · have P := P.1 c
    exact ok_vret (st := []) (pc := 151) hc hr dX0_choose_151 P
  · have P := P.2 c
    exact P

set_option maxHeartbeats 4000000 in
set_option maxRecDepth 100000 in
theorem sX0_choose_79 {X : Xt} {n : Nat} {h : HP} {a0 : Nat} {x1 : Int} {a2 : Nat} {x3 : Int} {fs1 : List Value} {q2 : Nat} {fs3 : List Value} {q4 : Nat} {len5 : Nat} {f5 : Nat → Int} {len6 : Nat} {f6 : Nat → Int} {q9 : Nat} {q10 : Nat} {fs11 : List Value} {iv12 : Int} {len14 : Nat} {f14 : Nat → Int} (hc : Cx X cX0_choose RX0 6 2 44) {K : KT} (hr : CxR X none K) (e1 : At h n a2 (.inl (2, fs1))) (z1 : fs1.length = 5) (v1_3 : fs1[3]? = some (.ref q2)) (e3 : At h n a0 (.inl (0, fs3))) (z3 : fs3.length = 8) (v3_1 : fs3[1]? = some (.ref q4)) (e5 : At h n q4 (ai len5 f5)) (e6 : At h n q2 (ai len6 f6)) (v3_4 : fs3[4]? = some (.ref q9)) (v3_0 : fs3[0]? = some (.ref q10)) (e11 : At h n q10 (.inl (4, fs11))) (z11 : fs11.length = 4) (v11_1 : fs11[1]? = some (.int (i3 iv12))) (e14 : At h n q9 (al len14 f14))
    (P : (Ix x3 len5) ∧ (Ix (f5 (x3 : Int).toNat) len6) ∧ ((0 ≤ x1 ∧ x1 ≤ 2147483647) ∧ 0 ≤ x3 ∧ x3 < 4) ∧ (R3 (x1 / 3 ^ (x3).toNat % 3)) ∧ (¬ (x1 / 3 ^ (x3).toNat % 3) = 1 → (R3 (x1 / 3 ^ (x3).toNat % 3)) ∧ (¬ (x1 / 3 ^ (x3).toNat % 3) = 2 → Ok X 0 0 71 [(0, .ref a0), (1, .int (i3 x1)), (2, .ref a2), (3, .int (i3 (x3 + 1)))] [] n h) ∧ ((x1 / 3 ^ (x3).toNat % 3) = 2 → (R3 (-iv12)) ∧ (Ix (f6 ((f5 (x3 : Int).toNat) : Int).toNat) len14) ∧ Ok X 0 0 71 [(0, .ref a0), (1, .int (i3 x1)), (2, .ref a2), (3, .int (i3 (x3 + 1)))] [] n (va_up h q9 (al len14 (va_up f14 ((f6 ((f5 (x3 : Int).toNat) : Int).toNat) : Int).toNat (-iv12)))))) ∧ ((x1 / 3 ^ (x3).toNat % 3) = 1 → (R3 iv12) ∧ (Ix (f6 ((f5 (x3 : Int).toNat) : Int).toNat) len14) ∧ Ok X 0 0 71 [(0, .ref a0), (1, .int (i3 x1)), (2, .ref a2), (3, .int (i3 (x3 + 1)))] [] n (va_up h q9 (al len14 (va_up f14 ((f6 ((f5 (x3 : Int).toNat) : Int).toNat) : Int).toNat iv12))))) :
    Ok X 0 0 79 [(0, .ref a0), (1, .int (i3 x1)), (2, .ref a2), (3, .int (i3 x3))] [] n h := by
  refine ok_aload_n (pc := 79) hc dX0_choose_79 rfl 2 rfl ?_
  refine ok_get (pc := 80) hc fl_X0_103 dX0_choose_80 e1.1 e1.2 v1_3 ?_
  refine ok_aload_n (pc := 83) hc dX0_choose_83 rfl 0 rfl ?_
  refine ok_get (pc := 84) hc fl_X0_18 dX0_choose_84 e3.1 e3.2 v3_1 ?_
  refine ok_iload_n (pc := 87) hc dX0_choose_87 rfl 3 rfl ?_
  obtain ⟨r, P⟩ := P
  refine zk_iald (pc := 88) hc dX0_choose_88 e5.1 e5.2 r ?_
  obtain ⟨r, P⟩ := P
  refine zk_iald (pc := 89) hc dX0_choose_89 e6.1 e6.2 r ?_
  refine ok_istore (pc := 90) hc (lv' := [(4, .int (i3 (f6 ((f5 (x3 : Int).toNat) : Int).toNat))), (0, .ref a0), (1, .int (i3 x1)), (2, .ref a2), (3, .int (i3 x3))]) dX0_choose_90 (by decide) rfl ?_
  refine ok_iload_n (pc := 92) hc dX0_choose_92 rfl 2 rfl ?_
  refine ok_iload_n (pc := 93) hc dX0_choose_93 rfl 4 rfl ?_
  obtain ⟨r0, P⟩ := P
  refine ok_callN (pc := 94) (cb := 0) (sb := 0) (st := []) hc [.int (i3 x1), .int (i3 x3)] cn_X0_81 sp_X6_stateIn (by decide) dX0_choose_94 rfl rfl rfl rfl (Nat.le_of_ble_eq_true rfl) (⟨_, _, rfl, r0, rfl, ?_⟩)
  show Ok X 0 0 (94 + 3) [(4, .int (i3 (f6 ((f5 (x3 : Int).toNat) : Int).toNat))), (0, .ref a0), (1, .int (i3 x1)), (2, .ref a2), (3, .int (i3 x3))] [.int (i3 (x1 / 3 ^ (x3).toNat % 3))] n h
  refine ok_istore (pc := 97) hc (lv' := [(5, .int (i3 (x1 / 3 ^ (x3).toNat % 3))), (4, .int (i3 (f6 ((f5 (x3 : Int).toNat) : Int).toNat))), (0, .ref a0), (1, .int (i3 x1)), (2, .ref a2), (3, .int (i3 x3))]) dX0_choose_97 (by decide) rfl ?_
  refine ok_iload (pc := 99) hc dX0_choose_99 0 rfl ?_
  refine ok_iconst (pc := 101) hc (v := i3 1) dX0_choose_101 (by decide) ?_
  obtain ⟨r7, P⟩ := P
  refine zk_icmp_ne (pc := 102) (tgt := 123) hc dX0_choose_102 (by decide) r7 ⟨by decide, by decide⟩ (fun c => ?_) (fun c => ?_)
  · have P := P.1 c
    refine ok_iload (pc := 123) hc dX0_choose_123 0 rfl ?_
    refine ok_iconst (pc := 125) hc (v := i3 2) dX0_choose_125 (by decide) ?_
    obtain ⟨r8, P⟩ := P
    refine zk_icmp_ne (pc := 126) (tgt := 145) hc dX0_choose_126 (by decide) r8 ⟨by decide, by decide⟩ (fun c => ?_) (fun c => ?_)
    · have P := P.1 c
      refine zk_iinc (pc := 145) hc (q := 5) (x := x3) (lv' := [(3, .int (i3 (x3 + 1))), (5, .int (i3 (x1 / 3 ^ (x3).toNat % 3))), (4, .int (i3 (f6 ((f5 (x3 : Int).toNat) : Int).toNat))), (0, .ref a0), (1, .int (i3 x1)), (2, .ref a2)]) dX0_choose_145 rfl (by decide) rfl ?_
      refine ok_goto (pc := 148) (tgt := 71) hc dX0_choose_148 (by decide) ?_
      refine ok_lv [3, 4, 5, 0] rfl ?_
      exact P
    · have P := P.2 c
      refine ok_aload_n (pc := 129) hc dX0_choose_129 rfl 2 rfl ?_
      refine ok_get (pc := 130) hc fl_X0_29 dX0_choose_130 e3.1 e3.2 v3_4 ?_
      refine ok_iload (pc := 133) hc dX0_choose_133 1 rfl ?_
      refine ok_aload_n (pc := 135) hc dX0_choose_135 rfl 2 rfl ?_
      refine ok_get (pc := 136) hc fl_X0_12 dX0_choose_136 e3.1 e3.2 v3_0 ?_
      refine ok_get (pc := 139) hc fl_X0_106 dX0_choose_139 e11.1 e11.2 v11_1 ?_
      refine zk_ineg (pc := 142) hc dX0_choose_142 ?_
      obtain ⟨r13, P⟩ := P
      refine zk_i2l (pc := 143) hc dX0_choose_143 r13 ?_
      obtain ⟨r, P⟩ := P
      refine zk_last (pc := 144) hc dX0_choose_144 e14.1 e14.2 r ?_
      refine zk_iinc (pc := 145) hc (q := 5) (x := x3) (lv' := [(3, .int (i3 (x3 + 1))), (5, .int (i3 (x1 / 3 ^ (x3).toNat % 3))), (4, .int (i3 (f6 ((f5 (x3 : Int).toNat) : Int).toNat))), (0, .ref a0), (1, .int (i3 x1)), (2, .ref a2)]) dX0_choose_145 rfl (by decide) rfl ?_
      refine ok_goto (pc := 148) (tgt := 71) hc dX0_choose_148 (by decide) ?_
      refine ok_lv [3, 4, 5, 0] rfl ?_
      exact P
  · have P := P.2 c
    refine ok_aload_n (pc := 105) hc dX0_choose_105 rfl 2 rfl ?_
    refine ok_get (pc := 106) hc fl_X0_29 dX0_choose_106 e3.1 e3.2 v3_4 ?_
    refine ok_iload (pc := 109) hc dX0_choose_109 1 rfl ?_
    refine ok_aload_n (pc := 111) hc dX0_choose_111 rfl 2 rfl ?_
    refine ok_get (pc := 112) hc fl_X0_12 dX0_choose_112 e3.1 e3.2 v3_0 ?_
    refine ok_get (pc := 115) hc fl_X0_106 dX0_choose_115 e11.1 e11.2 v11_1 ?_
    obtain ⟨r15, P⟩ := P
    refine zk_i2l (pc := 118) hc dX0_choose_118 r15 ?_
    obtain ⟨r, P⟩ := P
    refine zk_last (pc := 119) hc dX0_choose_119 e14.1 e14.2 r ?_
    refine ok_goto (pc := 120) (tgt := 145) hc dX0_choose_120 (by decide) ?_
    refine zk_iinc (pc := 145) hc (q := 5) (x := x3) (lv' := [(3, .int (i3 (x3 + 1))), (5, .int (i3 (x1 / 3 ^ (x3).toNat % 3))), (4, .int (i3 (f6 ((f5 (x3 : Int).toNat) : Int).toNat))), (0, .ref a0), (1, .int (i3 x1)), (2, .ref a2)]) dX0_choose_145 rfl (by decide) rfl ?_
    refine ok_goto (pc := 148) (tgt := 71) hc dX0_choose_148 (by decide) ?_
    refine ok_lv [3, 4, 5, 0] rfl ?_
    exact P

def spec_X0_choose (args : List Value) (n : Nat) (h : HP) (K : KT) : Prop := ∃ (b : Nat) (S : Stt) (c sat rsn cul : Int) (G : Nat → Int), args = [.ref b, .int (i3 c)] ∧ BnK h n b S sat rsn cul G ∧ (0 ≤ c ∧ c ≤ 26) ∧ ∀ (h' : HP) (G' : Nat → Int), BnK h' n b S (satN c (nA S.1)) rsn cul G' → (∀ j, j < 7 → G' j = givC S c j) → Fr h h' b (b + 27) → K (.inl none) n h'
theorem sp_X0_choose : Sp yX0_choose cX0_choose 6 none 2 44 0 0 spec_X0_choose := by
  refine sp_intro (by decide) (by rintro args n h K ⟨b, S, _, _, _, _, _, rfl, -⟩; exact Nat.le_of_ble_eq_true rfl) ?_
  rintro X args n h K hc hr ⟨b, S, c, sat, rsn, cul, G, rfl, hK, hcc, kk⟩
  have hob : ∀ {hh : HP} {s : Int} {G : Nat → Int}, BnK hh n b S s rsn cul G → At hh n b (.inl (0, [.ref (b + 1), .ref (b + 7), .int (i3 (nA S.1)), .ref (b + 8), .ref (b + 27), .int (i3 s), .int (i3 rsn), .int (i3 cul)])) ∧ StA hh n (b + 1) S ∧ At hh n (b + 27) (al 7 G) := by
    rintro hh s G ⟨F, D, N, hB, -⟩
    exact ⟨hB.1, hB.2.1, hB.2.2.2.2⟩
  obtain ⟨F, D, N, hB, h3, hFit, hF, hDN⟩ := id hK
  have L71 : ∀ (j a : Nat) (G : Nat → Int) (hh : HP), a + j = nA S.1 → BnK hh n b S (satN c (nA S.1)) rsn cul G → (∀ k, k < 7 → G k = gAmp S.1 S.2.1 c a k) → Fr h hh b (b + 27) → Ok X 0 0 71 [(0, .ref b), (1, .int (i3 c)), (2, .ref (b + 2)), (3, .int (i3 a))] [] n hh := by
    intro j
    induction j with
    | zero =>
      intro a G hh ha hB hG hf
      have : a = nA S.1 := by omega
      subst this
      exact sX0_choose_71 hc hr (hob hB).1 rfl rfl ⟨R3_s (by omega), R3_s (by omega), fun _ => kk hh G hB hG hf, fun c => absurd (Int.le_refl _) c⟩
    | succ j ih =>
      intro a G hh ha hB hG hf
      obtain ⟨F, D, N, hC, -, -, hF, -⟩ := id hB
      obtain ⟨i, p, hA⟩ := AmpAt.ex (show a < nA S.1 by omega)
      have hFa := hF a i p hA
      have hs := st_r (c := c) (a := a)
      obtain ⟨k, f, s, t, E, E1, E2, E3, E4, hv, hw, hl, hcap⟩ := id hC.2.1.2.1
      have hi := hA.lt.1
      have hpe := Option.some.inj ((hv i hi).symm.trans hA.1)
      have hPW := hw p (List.mem_of_getElem? hA.1)
      have h2 := hA.2.1
      have et : t i = p.2.2.2 := by rw [← hpe]
      have hrail := hC.2.1.2.2.1
      have ht : 0 ≤ p.2.2.2 ∧ p.2.2.2 ≤ 6 := by
        unfold PW at hPW
        omega
      have hst : ∀ G', gAmp S.1 S.2.1 c (a + 1) = G' → G' = gStep S.2.1 (c / 3 ^ a % 3) (gAmp S.1 S.2.1 c a) p := by
        rintro G' rfl
        show (match (amps S.1)[a]? with | none => gAmp S.1 S.2.1 c a | some p => gStep S.2.1 (c / 3 ^ a % 3) (gAmp S.1 S.2.1 c a) p) = _
        rw [hA.amps]
      have hst := hst _ rfl
      have ix : Ix (F (a : Int).toNat) 12 := by
        rw [Int.toNat_natCast, hFa]
        exact ⟨by omega, by omega, by omega⟩
      have tn : t (F (a : Int).toNat).toNat = p.2.2.2 := by rw [Int.toNat_natCast, hFa, Int.toNat_natCast, et]
      have ixt : Ix (t (F (a : Int).toNat).toNat) 7 := by
        rw [tn]
        exact ⟨by omega, by omega, by omega⟩
      have sn : c / 3 ^ (a : Int).toNat % 3 = c / 3 ^ a % 3 := by rw [Int.toNat_natCast]
      refine sX0_choose_71 hc hr hC.1 rfl rfl ⟨R3_s (by omega), R3_s (by omega), fun c => absurd c (by omega), fun _ => ?_⟩
      refine sX0_choose_79 hc hr E rfl rfl hC.1 rfl rfl hC.2.2.1 E4 rfl rfl hC.2.1.1 rfl rfl hC.2.2.2.2 ⟨⟨by omega, by omega, by omega⟩, ix, ⟨⟨by omega, by omega⟩, by omega, by omega⟩, R3_s (by rw [sn]; omega), fun z => ⟨R3_s (by rw [sn]; omega), fun y => ?_, fun y => ⟨R3_s (by omega), ixt, ?_⟩⟩, fun z => ⟨R3_s (by omega), ixt, ?_⟩⟩
      · rw [sn] at z y
        refine ih (a + 1) G hh (by omega) hB (fun k' hk => ?_) hf
        rw [hst]
        unfold gStep
        rw [if_neg z, if_neg y]
        exact hG k' hk
      · rw [sn] at z y
        rw [tn]
        refine ih (a + 1) _ _ (by omega) (hB.ug _) (fun k' hk => ?_) (hf.up (by omega))
        rw [hst]
        unfold gStep
        rw [if_neg z, if_pos y]
        exact up_pt hG rfl k' hk
      · rw [sn] at z
        rw [tn]
        refine ih (a + 1) _ _ (by omega) (hB.ug _) (fun k' hk => ?_) (hf.up (by omega))
        rw [hst]
        unfold gStep
        rw [if_pos z]
        exact up_pt hG rfl k' hk
  have L27 : ∀ (j i : Nat) (G : Nat → Int) (hh : HP), i + j = S.1.length → BnK hh n b S (satN c (nA S.1)) rsn cul G → (∀ k, k < 7 → (S.1.drop i).foldl (fun G p => if p.1 = 1 then va_up G p.2.1.toNat p.2.2.2 else G) G k = gSrc S.1 k) → Fr h hh b (b + 27) → Ok X 0 0 27 [(0, .ref b), (1, .int (i3 c)), (2, .ref (b + 2)), (3, .int (i3 i))] [] n hh := by
    intro j
    induction j with
    | zero =>
      intro i G hh hi hB hG hf
      have : i = S.1.length := by omega
      subst this
      rw [List.drop_length] at hG
      obtain ⟨k, f, s, t, E, E1, E2, E3, E4, hv, hw, hl, hcap⟩ := id (hob hB).2.1.2.1
      exact sX0_choose_27 hc hr E rfl rfl ⟨R3_s (by omega), R3_s (by omega), fun _ => sX0_choose_69 hc hr (L71 (nA S.1) 0 G hh (by omega) hB hG hf), fun c => absurd (Int.le_refl _) c⟩
    | succ j ih =>
      intro i G hh hi hB hG hf
      obtain ⟨k, f, s, t, E, E1, E2, E3, E4, hv, hw, hl, hcap⟩ := id (hob hB).2.1.2.1
      have hp := hv i (by omega)
      have hPW := hw _ (List.mem_of_getElem? hp)
      have hb := hPW.b
      simp only at hb
      rw [drop_s hp] at hG
      refine sX0_choose_27 hc hr E rfl rfl ⟨R3_s (by omega), R3_s (by omega), fun c => absurd c (by omega), fun _ => ?_⟩
      refine sX0_choose_35 hc hr E rfl rfl E1 (hob hB).1 rfl rfl rfl E2 rfl E4 (hob hB).2.2 ⟨⟨by omega, by omega, by omega⟩, R3_s (by simp only [Int.toNat_natCast]; omega), fun z => ?_, fun z => ⟨⟨by omega, by omega, by omega⟩, ⟨by omega, by omega, by omega⟩, R3_s (by simp only [Int.toNat_natCast]; omega), ⟨by simp only [Int.toNat_natCast]; omega, by simp only [Int.toNat_natCast]; omega, by simp only [Int.toNat_natCast]; omega⟩, ?_⟩⟩
      all_goals simp only [Int.toNat_natCast] at z
      · refine ih (i + 1) G hh (by omega) hB (fun k' hk => ?_) hf
        rw [← hG k' hk, List.foldl_cons, if_neg z]
      · rw [Int.toNat_natCast]
        refine ih (i + 1) _ _ (by omega) (hB.ug _) (fun k' hk => ?_) (hf.up (by omega))
        rw [← hG k' hk, List.foldl_cons, if_pos z]
  refine sX0_choose_0 hc hr hB.1 rfl ⟨b, S, c, sat, rsn, cul, G, rfl, hK, hcc, rfl, sX0_choose_6 hc hr hB.1 rfl ?_⟩
  have hK1 := hK.ub (satN c (nA S.1)) rsn cul
  refine sX0_choose_9 hc hr (hob hK1).1 rfl rfl ⟨b + 27, 7, G, 0, rfl, (hob hK1).2.2, by omega, fun G1 hG1 => ⟨rfl, ?_⟩⟩
  have hK2 := hK1.ug G1
  refine sX0_choose_17 hc hr (hob hK2).1 rfl rfl (hob hK2).2.1.1 rfl rfl (L27 S.1.length 0 G1 _ (by omega) hK2 ?_ ((Fr.rf.up (by omega)).up (by omega)))
  have fc : ∀ (l : List Part) (G G' : Nat → Int), (∀ k, k < 7 → G k = G' k) → ∀ k, k < 7 → l.foldl (fun G p => if p.1 = 1 then va_up G p.2.1.toNat p.2.2.2 else G) G k = l.foldl (fun G p => if p.1 = 1 then va_up G p.2.1.toNat p.2.2.2 else G) G' k := by
    intro l
    induction l with
    | nil => intro G G' h k hk; exact h k hk
    | cons p l ih =>
      intro G G' h k hk
      rw [List.foldl_cons, List.foldl_cons]
      refine ih _ _ (fun k' hk' => ?_) k hk
      by_cases z : p.1 = 1
      · rw [if_pos z, if_pos z]
        exact up_pt h rfl k' hk'
      · rw [if_neg z, if_neg z]
        exact h k' hk'
  exact fun k hk => fc S.1 G1 (fun _ => 0) hG1 k hk
def sumN (f : Nat → Int) : Nat → Int
  | 0 => 0
  | i + 1 => sumN f i + f i
theorem sumN_eq {f g : Nat → Int} : ∀ {i : Nat}, (∀ j, j < i → f j = g j) → sumN f i = sumN g i
  | 0, _ => rfl
  | i + 1, h => by
    unfold sumN
    rw [sumN_eq (fun j hj => h j (by omega)), h i (by omega)]
def numer (ps : List Part) (m : Nat) (G : Nat → Int) (k : Nat) : Int := sumN (fun i => solN ps m (7 * k + i) * G i) 7
set_option maxHeartbeats 4000000 in
set_option maxRecDepth 100000 in
theorem sX0_denominator_0 {X : Xt} {n : Nat} {h : HP} {a0 : Nat} {fs1 : List Value} {q2 : Nat} {fs3 : List Value} {q4 : Nat} {iv5 : Int} {len6 : Nat} {f6 : Nat → Int} (hc : Cx X cX0_denominator RX0 1 0 0) {K : KT} (hr : CxR X (some .long) K) (e1 : At h n a0 (.inl (0, fs1))) (z1 : fs1.length = 8) (v1_3 : fs1[3]? = some (.ref q2)) (e3 : At h n q2 (.inl (3, fs3))) (z3 : fs3.length = 3) (v3_0 : fs3[0]? = some (.ref q4)) (v1_5 : fs1[5]? = some (.int (i3 iv5))) (e6 : At h n q4 (al len6 f6))
    (P : (Ix iv5 len6) ∧ K (.inl (some (.long (i6 (f6 (iv5 : Int).toNat))))) n h) :
    Ok X 0 0 0 [(0, .ref a0)] [] n h := by
  refine ok_aload_n (pc := 0) hc dX0_denominator_0 rfl 0 rfl ?_
  refine ok_get (pc := 1) hc fl_X0_25 dX0_denominator_1 e1.1 e1.2 v1_3 ?_
  refine ok_get (pc := 4) hc fl_X0_85 dX0_denominator_4 e3.1 e3.2 v3_0 ?_
  refine ok_aload_n (pc := 7) hc dX0_denominator_7 rfl 0 rfl ?_
  refine ok_get (pc := 8) hc fl_X0_91 dX0_denominator_8 e1.1 e1.2 v1_5 ?_
  obtain ⟨r, P⟩ := P
  refine zk_lald (pc := 11) hc dX0_denominator_11 e6.1 e6.2 r ?_
  exact ok_lret (st := []) (pc := 12) hc hr dX0_denominator_12 P

def spec_X0_denominator (args : List Value) (n : Nat) (h : HP) (K : KT) : Prop := ∃ (b m : Nat) (S : Stt) (rsn cul : Int) (G : Nat → Int), args = [.ref b] ∧ BnK h n b S (m : Nat) rsn cul G ∧ m < 2 ^ nA S.1 ∧ K (.inl (some (.long (i6 (solD S.1 m))))) n h
theorem sp_X0_denominator : Sp yX0_denominator cX0_denominator 1 (some .long) 0 0 0 0 spec_X0_denominator := by
  refine sp_intro (by decide) (by rintro args n h K ⟨b, m, S, _, _, _, rfl, -⟩; exact Nat.le_of_ble_eq_true rfl) ?_
  rintro X args n h K hc hr ⟨b, m, S, rsn, cul, G, rfl, ⟨F, D, N, hB, h3, hFit, hF, hDN⟩, hm, kk⟩
  obtain ⟨M, d, g, v, r1, r2, r3, r4⟩ := hB.2.2.2.1
  have h8 := pow8 h3 hm
  refine sX0_denominator_0 hc hr hB.1 rfl rfl hB.2.2.2.1.obj rfl rfl rfl r2 ⟨⟨by omega, by omega, by omega⟩, ?_⟩
  rw [Int.toNat_natCast, (r4 m h8).2.2.1.trans (hDN m hm).1]
  exact kk
set_option maxHeartbeats 4000000 in
set_option maxRecDepth 100000 in
theorem sX0_numerator_0 {X : Xt} {n : Nat} {h : HP} {a0 : Nat} {x1 : Int} {fs1 : List Value} {q2 : Nat} {fs3 : List Value} {q4 : Nat} {iv5 : Int} {len6 : Nat} {f6 : Nat → Option Nat} {q7 : Nat} (hc : Cx X cX0_numerator RX0 6 0 0) {K : KT} (hr : CxR X (some .long) K) (e1 : At h n a0 (.inl (0, fs1))) (z1 : fs1.length = 8) (v1_3 : fs1[3]? = some (.ref q2)) (e3 : At h n q2 (.inl (3, fs3))) (z3 : fs3.length = 3) (v3_1 : fs3[1]? = some (.ref q4)) (v1_5 : fs1[5]? = some (.int (i3 iv5))) (e6 : At h n q4 (.inr (4, len6, .inr (.inr f6)))) (g8 : (f6 (iv5 : Int).toNat) = some q7)
    (P : (Ix iv5 len6) ∧ Ok X 0 0 18 [(0, .ref a0), (1, .int (i3 x1)), (2, .ref q7), (3, .long (i6 0)), (5, .int (i3 0))] [] n h) :
    Ok X 0 0 0 [(0, .ref a0), (1, .int (i3 x1))] [] n h := by
  refine ok_aload_n (pc := 0) hc dX0_numerator_0 rfl 0 rfl ?_
  refine ok_get (pc := 1) hc fl_X0_25 dX0_numerator_1 e1.1 e1.2 v1_3 ?_
  refine ok_get (pc := 4) hc fl_X0_109 dX0_numerator_4 e3.1 e3.2 v3_1 ?_
  refine ok_aload_n (pc := 7) hc dX0_numerator_7 rfl 0 rfl ?_
  refine ok_get (pc := 8) hc fl_X0_91 dX0_numerator_8 e1.1 e1.2 v1_5 ?_
  obtain ⟨r, P⟩ := P
  refine zk_aald (pc := 11) hc dX0_numerator_11 e6.1 e6.2 rfl r g8 ?_
  refine ok_astore_n (pc := 12) hc (lv' := [(2, .ref q7), (0, .ref a0), (1, .int (i3 x1))]) dX0_numerator_12 rfl (by decide) rfl ?_
  refine ok_lconst (pc := 13) hc (v := i6 0) dX0_numerator_13 (by decide) ?_
  refine ok_lstore_n (pc := 14) hc (lv' := [(3, .long (i6 0)), (2, .ref q7), (0, .ref a0), (1, .int (i3 x1))]) dX0_numerator_14 rfl (by decide) rfl ?_
  refine ok_iconst (pc := 15) hc (v := i3 0) dX0_numerator_15 (by decide) ?_
  refine ok_istore (pc := 16) hc (lv' := [(5, .int (i3 0)), (3, .long (i6 0)), (2, .ref q7), (0, .ref a0), (1, .int (i3 x1))]) dX0_numerator_16 (by decide) rfl ?_
  refine ok_lv [3, 4, 2, 1, 0] rfl ?_
  exact P

set_option maxHeartbeats 4000000 in
set_option maxRecDepth 100000 in
theorem sX0_numerator_18 {X : Xt} {n : Nat} {h : HP} {a0 : Nat} {x1 : Int} {a2 : Nat} {l3 : Int} {x5 : Int} (hc : Cx X cX0_numerator RX0 6 0 0) {K : KT} (hr : CxR X (some .long) K) 
    (P : (R3 x5) ∧ (7 ≤ x5 → K (.inl (some (.long (i6 l3)))) n h) ∧ (¬ 7 ≤ x5 → Ok X 0 0 25 [(0, .ref a0), (1, .int (i3 x1)), (2, .ref a2), (3, .long (i6 l3)), (5, .int (i3 x5))] [] n h)) :
    Ok X 0 0 18 [(0, .ref a0), (1, .int (i3 x1)), (2, .ref a2), (3, .long (i6 l3)), (5, .int (i3 x5))] [] n h := by
  refine ok_iload (pc := 18) hc dX0_numerator_18 4 rfl ?_
  refine ok_bipush (pc := 20) hc (v := i3 7) dX0_numerator_20 (by decide) ?_
  obtain ⟨r1, P⟩ := P
  refine zk_icmp_ge (pc := 22) (tgt := 51) hc dX0_numerator_22 (by decide) r1 ⟨by decide, by decide⟩ (fun c => ?_) (fun c => ?_)
  · have P := P.1 c
    refine ok_lload_n (pc := 51) hc dX0_numerator_51 rfl 3 rfl ?_
    exact ok_lret (st := []) (pc := 52) hc hr dX0_numerator_52 P
  · have P := P.2 c
    exact P

set_option maxHeartbeats 4000000 in
set_option maxRecDepth 100000 in
theorem sX0_numerator_25 {X : Xt} {n : Nat} {h : HP} {a0 : Nat} {x1 : Int} {a2 : Nat} {l3 : Int} {x5 : Int} {len1 : Nat} {f1 : Nat → Int} {fs2 : List Value} {q3 : Nat} {len4 : Nat} {f4 : Nat → Int} (hc : Cx X cX0_numerator RX0 6 0 0) {K : KT} (hr : CxR X (some .long) K) (e1 : At h n a2 (al len1 f1)) (e2 : At h n a0 (.inl (0, fs2))) (z2 : fs2.length = 8) (v2_4 : fs2[4]? = some (.ref q3)) (e4 : At h n q3 (al len4 f4))
    (P : (Ix ((7 * x1) + x5) len1) ∧ (Ix x5 len4) ∧ Ok X 0 0 18 [(0, .ref a0), (1, .int (i3 x1)), (2, .ref a2), (3, .long (i6 (l3 + ((f1 (((7 * x1) + x5) : Int).toNat) * (f4 (x5 : Int).toNat))))), (5, .int (i3 (x5 + 1)))] [] n h) :
    Ok X 0 0 25 [(0, .ref a0), (1, .int (i3 x1)), (2, .ref a2), (3, .long (i6 l3)), (5, .int (i3 x5))] [] n h := by
  refine ok_lload_n (pc := 25) hc dX0_numerator_25 rfl 3 rfl ?_
  refine ok_aload_n (pc := 26) hc dX0_numerator_26 rfl 2 rfl ?_
  refine ok_bipush (pc := 27) hc (v := i3 7) dX0_numerator_27 (by decide) ?_
  refine ok_iload_n (pc := 29) hc dX0_numerator_29 rfl 1 rfl ?_
  refine zk_imul (pc := 30) hc dX0_numerator_30 ?_
  refine ok_iload (pc := 31) hc dX0_numerator_31 4 rfl ?_
  refine zk_iadd (pc := 33) hc dX0_numerator_33 ?_
  obtain ⟨r, P⟩ := P
  refine zk_lald (pc := 34) hc dX0_numerator_34 e1.1 e1.2 r ?_
  refine ok_aload_n (pc := 35) hc dX0_numerator_35 rfl 0 rfl ?_
  refine ok_get (pc := 36) hc fl_X0_29 dX0_numerator_36 e2.1 e2.2 v2_4 ?_
  refine ok_iload (pc := 39) hc dX0_numerator_39 4 rfl ?_
  obtain ⟨r, P⟩ := P
  refine zk_lald (pc := 41) hc dX0_numerator_41 e4.1 e4.2 r ?_
  refine zk_lmul (pc := 42) hc dX0_numerator_42 ?_
  refine zk_ladd (pc := 43) hc dX0_numerator_43 ?_
  refine ok_lstore_n (pc := 44) hc (lv' := [(3, .long (i6 (l3 + ((f1 (((7 * x1) + x5) : Int).toNat) * (f4 (x5 : Int).toNat))))), (0, .ref a0), (1, .int (i3 x1)), (2, .ref a2), (5, .int (i3 x5))]) dX0_numerator_44 rfl (by decide) rfl ?_
  refine zk_iinc (pc := 45) hc (q := 4) (x := x5) (lv' := [(5, .int (i3 (x5 + 1))), (3, .long (i6 (l3 + ((f1 (((7 * x1) + x5) : Int).toNat) * (f4 (x5 : Int).toNat))))), (0, .ref a0), (1, .int (i3 x1)), (2, .ref a2)]) dX0_numerator_45 rfl (by decide) rfl ?_
  refine ok_goto (pc := 48) (tgt := 18) hc dX0_numerator_48 (by decide) ?_
  refine ok_lv [2, 3, 4, 1, 0] rfl ?_
  exact P

def spec_X0_numerator (args : List Value) (n : Nat) (h : HP) (K : KT) : Prop := ∃ (b m k : Nat) (S : Stt) (rsn cul : Int) (G : Nat → Int), args = [.ref b, .int (i3 k)] ∧ BnK h n b S (m : Nat) rsn cul G ∧ m < 2 ^ nA S.1 ∧ k < 7 ∧ K (.inl (some (.long (i6 (numer S.1 m G k))))) n h
theorem sp_X0_numerator : Sp yX0_numerator cX0_numerator 6 (some .long) 0 0 0 0 spec_X0_numerator := by
  refine sp_intro (by decide) (by rintro args n h K ⟨b, m, k, S, _, _, _, rfl, -⟩; exact Nat.le_of_ble_eq_true rfl) ?_
  rintro X args n h K hc hr ⟨b, m, k, S, rsn, cul, G, rfl, ⟨F, D, N, hB, h3, hFit, hF, hDN⟩, hm, hk, kk⟩
  obtain ⟨M, d, g, v, r1, r2, r3, r4⟩ := hB.2.2.2.1
  have h8 := pow8 h3 hm
  have hv : ∀ x, x < 49 → v m x = solN S.1 m x := fun x hx => ((r4 m h8).2.2.2 x hx).trans (congrFun (hDN m hm).2 x)
  have L : ∀ (j i : Nat), i + j = 7 → Ok X 0 0 18 [(0, .ref b), (1, .int (i3 k)), (2, .ref (b + 8 + 3 + m)), (3, .long (i6 (sumN (fun i => solN S.1 m (7 * k + i) * G i) i))), (5, .int (i3 i))] [] n h := by
    intro j
    induction j with
    | zero =>
      intro i hi
      have : i = 7 := by omega
      subst this
      exact sX0_numerator_18 hc hr ⟨R3_s (by omega), fun _ => kk, fun c => absurd c (by omega)⟩
    | succ j ih =>
      intro i hi
      refine sX0_numerator_18 hc hr ⟨R3_s (by omega), fun c => absurd c (by omega), fun _ => ?_⟩
      refine sX0_numerator_25 hc hr (r4 m h8).2.1 hB.1 rfl rfl hB.2.2.2.2 ⟨⟨by omega, by omega, by omega⟩, ⟨by omega, by omega, by omega⟩, ?_⟩
      rw [show ((7 : Int) * k + i).toNat = 7 * k + i by omega, Int.toNat_natCast, hv _ (by omega)]
      exact ih (i + 1) (by omega)
  exact sX0_numerator_0 hc hr hB.1 rfl rfl hB.2.2.2.1.obj rfl rfl rfl r3 (q7 := b + 8 + 3 + m) (by rw [Int.toNat_natCast]; exact (r4 m h8).1) ⟨⟨by omega, by omega, by omega⟩, L 7 0 rfl⟩
