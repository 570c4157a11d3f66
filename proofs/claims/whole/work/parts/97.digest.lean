/-! part 97: digest: the class -/
def mixS (g : Nat → Int) : Nat → Nat → Int → Int
  | 0, _, x => x
  | j + 1, i, x => mixS g j (i + 1) (31 * x + g i)
def mixW (q : Dsk) : Nat → Nat → Int → Int
  | 0, _, x => x
  | j + 1, c, x => mixW q j (c + 1) (31 * (31 * x + (jud q.1 c).1) + (jud q.1 c).2)
def digA (q : Dsk) : Int := mixS (fun w => unL (opCount q w)) 10 0 2081
def digB (q : Dsk) : Int := mixW q (3 ^ nA q.1.1) 0 (mixA q (nA q.1.1) 0 (mixV q 7 0 (mixP q q.1.1.length 0 (digA q))))
def opDig (q : Dsk) : Int := mixS (fun i => q.2.2.2.2.getD i 0) q.2.2.2.2.length 0 (31 * (31 * digB q + bitsI (meanD q)) + q.2.2.2.2.length)
theorem opCount_r {q : Dsk} (hG : GdD q) (hl : q.2.1.length ≤ 8) (w : Int) : R3 (unL (opCount q w)) := by
  have h1 := hG.1.1.1
  have h2 := hG.1.1.2.1
  have h3 := hG.1.2.1
  have h4 := hG.1.2.2.1
  have h5 := hG.1.2.2.2
  have h6 := hG.2.2.2
  have h27 := ref_27 hG.1
  have hpc := pow_c (nA q.1.1)
  have h8 := holdN_r q.1 (3 ^ nA q.1.1)
  have h9 := detN_r q.1 (3 ^ nA q.1.1)
  have hu : Mk (usedM q.1.1) := (Mk.uf (fun p hp => (hG.1.1.2.2.1 p hp).1) 0 Mk0).gnd
  unfold Mk at hu
  unfold opCount
  split
  · exact R3_s (by show -1000000 ≤ (q.1.1.length : Int) ∧ (q.1.1.length : Int) ≤ 1000000; omega)
  split
  · exact R3_s (by show -1000000 ≤ (nA q.1.1 : Int) ∧ (nA q.1.1 : Int) ≤ 1000000; omega)
  split
  · exact R3_s (by show -1000000 ≤ q.1.2.1 ∧ q.1.2.1 ≤ 1000000; omega)
  split
  · exact R3_s (by show -1000000 ≤ q.1.2.2.1 ∧ q.1.2.2.1 ≤ 1000000; omega)
  split
  · exact R3_s (by show -1000000 ≤ q.1.2.2.2 ∧ q.1.2.2.2 ≤ 1000000; omega)
  split
  · exact R3_s (by show -1000000 ≤ holdN q.1 (3 ^ nA q.1.1) ∧ holdN q.1 (3 ^ nA q.1.1) ≤ 1000000; omega)
  split
  · exact R3_s (by show -1000000 ≤ detN q.1 (3 ^ nA q.1.1) ∧ detN q.1 (3 ^ nA q.1.1) ≤ 1000000; omega)
  split
  · exact R3_s (by show -1000000 ≤ usedM q.1.1 ∧ usedM q.1.1 ≤ 1000000; omega)
  split
  · exact R3_s (by show -1000000 ≤ (q.2.1.length : Int) ∧ (q.2.1.length : Int) ≤ 1000000; omega)
  split
  · exact R3_s (by show -1000000 ≤ q.2.2.2.1 ∧ q.2.2.2.1 ≤ 1000000; omega)
  · exact R3_0
theorem opCount_ok {q : Dsk} {w : Int} (h : 0 ≤ w ∧ w ≤ 9) : ∃ z, opCount q w = .inl z := by
  rcases (show w = 0 ∨ w = 1 ∨ w = 2 ∨ w = 3 ∨ w = 4 ∨ w = 5 ∨ w = 6 ∨ w = 7 ∨ w = 8 ∨ w = 9 by omega) with e | e | e | e | e | e | e | e | e | e <;> subst e <;> exact ⟨_, rfl⟩
theorem jud_r2 (S : Stt) (c : Int) (h : nA S.1 ≤ 3) : -1 ≤ (jud S c).2 ∧ (jud S c).2 ≤ 3 := by
  have L : ∀ (l : List Part) (m a : Nat) (G : Nat → Int), a + l.length ≤ 3 → -1 ≤ (judL S m G c l a).2 ∧ (judL S m G c l a).2 ≤ 3 := by
    intro l
    induction l with
    | nil => intro m a G _; exact ⟨(by decide : (-1 : Int) ≤ -1), (by decide : (-1 : Int) ≤ 3)⟩
    | cons p l ih =>
      intro m a G ha
      rw [List.length_cons] at ha
      unfold judL
      split
      · exact ih m (a + 1) G (by omega)
      · exact ⟨by show (-1 : Int) ≤ (a : Int); omega, by show (a : Int) ≤ 3; omega⟩
  unfold jud
  split
  · exact ⟨(by decide : (-1 : Int) ≤ -1), (by decide : (-1 : Int) ≤ 3)⟩
  · exact L _ _ _ _ (by rw [amps_len]; omega)
set_option maxHeartbeats 4000000 in
set_option maxRecDepth 100000 in
theorem sX6_digest_0 {X : Xt} {n : Nat} {h : HP} {a0 : Nat} {bb : Nat} {sb9 : Nat} (hc : Cx X cX6_digest RX6 4 9 159) {K : KT} (hr : CxR X (some .long) K) 
    (P : Ok X bb sb9 6 [(0, .ref a0), (1, .long (i6 2081)), (3, .int (i3 0))] [] n h) :
    Ok X bb sb9 0 [(0, .ref a0)] [] n h := by
  refine ok_ldc2 (pc := 0) hc (v := i6 2081) dX6_digest_0 (in_all (i := 641) (by decide +kernel) rfl) ?_
  refine ok_lstore_n (pc := 3) hc (lv' := [(1, .long (i6 2081)), (0, .ref a0)]) dX6_digest_3 rfl (by decide) rfl ?_
  refine ok_iconst (pc := 4) hc (v := i3 0) dX6_digest_4 (by decide) ?_
  refine ok_istore_n (pc := 5) hc (lv' := [(3, .int (i3 0)), (1, .long (i6 2081)), (0, .ref a0)]) dX6_digest_5 rfl (by decide) rfl ?_
  refine ok_lv [2, 1, 0] rfl ?_
  exact P

set_option maxHeartbeats 4000000 in
set_option maxRecDepth 100000 in
theorem sX6_digest_6 {X : Xt} {n : Nat} {h : HP} {a0 : Nat} {l1 : Int} {x3 : Int} {bb : Nat} {sb9 : Nat} (hc : Cx X cX6_digest RX6 4 9 159) {K : KT} (hr : CxR X (some .long) K) 
    (P : (R3 x3) ∧ (9 < x3 → Ok X bb sb9 29 [(0, .ref a0), (1, .long (i6 l1)), (3, .int (i3 x3))] [] n h) ∧ (¬ 9 < x3 → Ok X bb sb9 12 [(0, .ref a0), (1, .long (i6 l1)), (3, .int (i3 x3))] [] n h)) :
    Ok X bb sb9 6 [(0, .ref a0), (1, .long (i6 l1)), (3, .int (i3 x3))] [] n h := by
  refine ok_iload_n (pc := 6) hc dX6_digest_6 rfl 2 rfl ?_
  refine ok_bipush (pc := 7) hc (v := i3 9) dX6_digest_7 (by decide) ?_
  obtain ⟨r1, P⟩ := P
  refine zk_icmp_gt (pc := 9) (tgt := 29) hc dX6_digest_9 (by decide) r1 ⟨by decide, by decide⟩ (fun c => ?_) (fun c => ?_)
  · have P := P.1 c
    exact P
  · have P := P.2 c
    exact P

set_option maxHeartbeats 4000000 in
set_option maxRecDepth 100000 in
theorem sX6_digest_12 {X : Xt} {n : Nat} {h : HP} {a0 : Nat} {l1 : Int} {x3 : Int} {bb : Nat} {sb9 : Nat} {fs1 : List Value} (hc : Cx X cX6_digest RX6 4 9 159) {K : KT} (hr : CxR X (some .long) K) (e1 : At h n a0 (.inl (6, fs1))) (z1 : fs1.length = 6)
    (P : spec_X6_count [.ref a0, .int (i3 x3)] n h (kc X bb sb9 15 [(0, .ref a0), (1, .long (i6 l1)), (3, .int (i3 x3))] [.long (i6 l1)] n)) :
    Ok X (bb + 1) (sb9 + 6) 12 [(0, .ref a0), (1, .long (i6 l1)), (3, .int (i3 x3))] [] n h := by
  refine ok_lload_n (pc := 12) hc dX6_digest_12 rfl 1 rfl ?_
  refine ok_aload_n (pc := 13) hc dX6_digest_13 rfl 0 rfl ?_
  refine ok_iload_n (pc := 14) hc dX6_digest_14 rfl 2 rfl ?_
  exact ok_callV (pc := 15) (a := a0) (cb := bb) (sb := sb9) (st := [.long (i6 l1)]) hc [.int (i3 x3)] cv_X6_269 sp_X6_count (by decide) dX6_digest_15 rfl e1.1 e1.2 rfl rfl rfl (Nat.le_of_ble_eq_true rfl) P

set_option maxHeartbeats 4000000 in
set_option maxRecDepth 100000 in
theorem sX6_digest_18 {X : Xt} {n : Nat} {h : HP} {a0 : Nat} {l1 : Int} {x3 : Int} {t0 : Int} {tl1 : Int} {bb : Nat} {sb9 : Nat} (hc : Cx X cX6_digest RX6 4 9 159) {K : KT} (hr : CxR X (some .long) K) 
    (P : (R3 t0) ∧ Ok X bb sb9 6 [(0, .ref a0), (1, .long (i6 (31 * tl1 + t0))), (3, .int (i3 (x3 + 1)))] [] n h) :
    Ok X bb sb9 18 [(0, .ref a0), (1, .long (i6 l1)), (3, .int (i3 x3))] [.int (i3 t0), .long (i6 tl1)] n h := by
  obtain ⟨r1, P⟩ := P
  refine zk_i2l (pc := 18) hc dX6_digest_18 r1 ?_
  refine ok_callS (pc := 19) (cb := bb) (sb := sb9) (st := []) hc [.long (i6 tl1), .long (i6 t0)] cs_X6_272 sp_X6_mixed (by decide) dX6_digest_19 rfl rfl rfl rfl (Nat.le_of_ble_eq_true rfl) (⟨_, _, rfl, rfl, ?_⟩)
  show Ok X bb sb9 (19 + 3) [(0, .ref a0), (1, .long (i6 l1)), (3, .int (i3 x3))] [.long (i6 (31 * tl1 + t0))] n h
  refine ok_lstore_n (pc := 22) hc (lv' := [(1, .long (i6 (31 * tl1 + t0))), (0, .ref a0), (3, .int (i3 x3))]) dX6_digest_22 rfl (by decide) rfl ?_
  refine zk_iinc (pc := 23) hc (q := 2) (x := x3) (lv' := [(3, .int (i3 (x3 + 1))), (1, .long (i6 (31 * tl1 + t0))), (0, .ref a0)]) dX6_digest_23 rfl (by decide) rfl ?_
  refine ok_goto (pc := 26) (tgt := 6) hc dX6_digest_26 (by decide) ?_
  refine ok_lv [2, 1, 0] rfl ?_
  exact P

set_option maxHeartbeats 4000000 in
set_option maxRecDepth 100000 in
theorem sX6_digest_29 {X : Xt} {n : Nat} {h : HP} {a0 : Nat} {l1 : Int} {x3 : Int} {bb : Nat} {sb9 : Nat} {fs1 : List Value} (hc : Cx X cX6_digest RX6 4 9 159) {K : KT} (hr : CxR X (some .long) K) (e1 : At h n a0 (.inl (6, fs1))) (z1 : fs1.length = 6)
    (P : spec_X6_mixedParts [.ref a0, .long (i6 l1)] n h (kc X bb sb9 31 [(0, .ref a0), (1, .long (i6 l1)), (3, .int (i3 x3))] [] n)) :
    Ok X (bb + 96) (sb9 + 576) 29 [(0, .ref a0), (1, .long (i6 l1)), (3, .int (i3 x3))] [] n h := by
  refine ok_aload_n (pc := 29) hc dX6_digest_29 rfl 0 rfl ?_
  refine ok_lload_n (pc := 30) hc dX6_digest_30 rfl 1 rfl ?_
  exact ok_callV (pc := 31) (a := a0) (cb := bb) (sb := sb9) (st := []) hc [.long (i6 l1)] cv_X6_276 sp_X6_mixedParts (by decide) dX6_digest_31 rfl e1.1 e1.2 rfl rfl rfl (Nat.le_of_ble_eq_true rfl) P

set_option maxHeartbeats 4000000 in
set_option maxRecDepth 100000 in
theorem sX6_digest_34 {X : Xt} {n : Nat} {h : HP} {a0 : Nat} {l1 : Int} {x3 : Int} {tl0 : Int} {bb : Nat} {sb9 : Nat} {fs1 : List Value} (hc : Cx X cX6_digest RX6 4 9 159) {K : KT} (hr : CxR X (some .long) K) (e1 : At h n a0 (.inl (6, fs1))) (z1 : fs1.length = 6)
    (P : spec_X6_mixedVoltages [.ref a0, .long (i6 tl0)] n h (kc X bb sb9 37 [(0, .ref a0), (1, .long (i6 tl0)), (3, .int (i3 x3))] [] n)) :
    Ok X (bb + 28) (sb9 + 168) 34 [(0, .ref a0), (1, .long (i6 l1)), (3, .int (i3 x3))] [.long (i6 tl0)] n h := by
  refine ok_lstore_n (pc := 34) hc (lv' := [(1, .long (i6 tl0)), (0, .ref a0), (3, .int (i3 x3))]) dX6_digest_34 rfl (by decide) rfl ?_
  refine ok_aload_n (pc := 35) hc dX6_digest_35 rfl 1 rfl ?_
  refine ok_lload_n (pc := 36) hc dX6_digest_36 rfl 0 rfl ?_
  refine ok_lv [1, 0, 2] rfl ?_
  exact ok_callV (pc := 37) (a := a0) (cb := bb) (sb := sb9) (st := []) hc [.long (i6 tl0)] cv_X6_280 sp_X6_mixedVoltages (by decide) dX6_digest_37 rfl e1.1 e1.2 rfl rfl rfl (Nat.le_of_ble_eq_true rfl) P

set_option maxHeartbeats 4000000 in
set_option maxRecDepth 100000 in
theorem sX6_digest_40 {X : Xt} {n : Nat} {h : HP} {a0 : Nat} {l1 : Int} {x3 : Int} {tl0 : Int} {bb : Nat} {sb9 : Nat} {fs1 : List Value} (hc : Cx X cX6_digest RX6 4 9 159) {K : KT} (hr : CxR X (some .long) K) (e1 : At h n a0 (.inl (6, fs1))) (z1 : fs1.length = 6)
    (P : spec_X6_mixedAmplifiers [.ref a0, .long (i6 tl0)] n h (kc X bb sb9 43 [(0, .ref a0), (1, .long (i6 tl0)), (3, .int (i3 x3))] [] n)) :
    Ok X (bb + 9) (sb9 + 54) 40 [(0, .ref a0), (1, .long (i6 l1)), (3, .int (i3 x3))] [.long (i6 tl0)] n h := by
  refine ok_lstore_n (pc := 40) hc (lv' := [(1, .long (i6 tl0)), (0, .ref a0), (3, .int (i3 x3))]) dX6_digest_40 rfl (by decide) rfl ?_
  refine ok_aload_n (pc := 41) hc dX6_digest_41 rfl 1 rfl ?_
  refine ok_lload_n (pc := 42) hc dX6_digest_42 rfl 0 rfl ?_
  refine ok_lv [1, 0, 2] rfl ?_
  exact ok_callV (pc := 43) (a := a0) (cb := bb) (sb := sb9) (st := []) hc [.long (i6 tl0)] cv_X6_283 sp_X6_mixedAmplifiers (by decide) dX6_digest_43 rfl e1.1 e1.2 rfl rfl rfl (Nat.le_of_ble_eq_true rfl) P

set_option maxHeartbeats 4000000 in
set_option maxRecDepth 100000 in
theorem sX6_digest_46 {X : Xt} {n : Nat} {h : HP} {a0 : Nat} {l1 : Int} {x3 : Int} {tl0 : Int} {bb : Nat} {sb9 : Nat} (hc : Cx X cX6_digest RX6 4 9 159) {K : KT} (hr : CxR X (some .long) K) 
    (P : Ok X bb sb9 49 [(0, .ref a0), (1, .long (i6 tl0)), (3, .int (i3 0))] [] n h) :
    Ok X bb sb9 46 [(0, .ref a0), (1, .long (i6 l1)), (3, .int (i3 x3))] [.long (i6 tl0)] n h := by
  refine ok_lstore_n (pc := 46) hc (lv' := [(1, .long (i6 tl0)), (0, .ref a0), (3, .int (i3 x3))]) dX6_digest_46 rfl (by decide) rfl ?_
  refine ok_iconst (pc := 47) hc (v := i3 0) dX6_digest_47 (by decide) ?_
  refine ok_istore_n (pc := 48) hc (lv' := [(3, .int (i3 0)), (1, .long (i6 tl0)), (0, .ref a0)]) dX6_digest_48 rfl (by decide) rfl ?_
  refine ok_lv [2, 1, 0] rfl ?_
  exact P

set_option maxHeartbeats 4000000 in
set_option maxRecDepth 100000 in
theorem sX6_digest_49 {X : Xt} {n : Nat} {h : HP} {a0 : Nat} {l1 : Int} {x3 : Int} {bb : Nat} {sb9 : Nat} {fs1 : List Value} {q2 : Nat} {fs3 : List Value} (hc : Cx X cX6_digest RX6 4 9 159) {K : KT} (hr : CxR X (some .long) K) (e1 : At h n a0 (.inl (6, fs1))) (z1 : fs1.length = 6) (v1_0 : fs1[0]? = some (.ref q2)) (e3 : At h n q2 (.inl (0, fs3))) (z3 : fs3.length = 8)
    (P : spec_X0_cases [.ref q2] n h (kc X bb sb9 54 [(0, .ref a0), (1, .long (i6 l1)), (3, .int (i3 x3))] [.int (i3 x3)] n)) :
    Ok X bb sb9 49 [(0, .ref a0), (1, .long (i6 l1)), (3, .int (i3 x3))] [] n h := by
  refine ok_iload_n (pc := 49) hc dX6_digest_49 rfl 2 rfl ?_
  refine ok_aload_n (pc := 50) hc dX6_digest_50 rfl 0 rfl ?_
  refine ok_get (pc := 51) hc fl_X6_10 dX6_digest_51 e1.1 e1.2 v1_0 ?_
  exact ok_callV (pc := 54) (a := q2) (cb := bb) (sb := sb9) (st := [.int (i3 x3)]) hc [] cv_X6_286 sp_X0_cases (by decide) dX6_digest_54 rfl e3.1 e3.2 rfl rfl rfl (Nat.le_of_ble_eq_true rfl) P

set_option maxHeartbeats 4000000 in
set_option maxRecDepth 100000 in
theorem sX6_digest_57 {X : Xt} {n : Nat} {h : HP} {a0 : Nat} {l1 : Int} {x3 : Int} {t0 : Int} {t1 : Int} {bb : Nat} {sb9 : Nat} (hc : Cx X cX6_digest RX6 4 9 159) {K : KT} (hr : CxR X (some .long) K) 
    (P : (R3 t1) ∧ (R3 t0) ∧ (t0 ≤ t1 → Ok X bb sb9 88 [(0, .ref a0), (1, .long (i6 l1)), (3, .int (i3 x3))] [] n h) ∧ (¬ t0 ≤ t1 → Ok X bb sb9 60 [(0, .ref a0), (1, .long (i6 l1)), (3, .int (i3 x3))] [] n h)) :
    Ok X bb sb9 57 [(0, .ref a0), (1, .long (i6 l1)), (3, .int (i3 x3))] [.int (i3 t0), .int (i3 t1)] n h := by
  obtain ⟨r1, P⟩ := P
  obtain ⟨r2, P⟩ := P
  refine zk_icmp_ge (pc := 57) (tgt := 88) hc dX6_digest_57 (by decide) r1 r2 (fun c => ?_) (fun c => ?_)
  · have P := P.1 c
    exact P
  · have P := P.2 c
    exact P

set_option maxHeartbeats 4000000 in
set_option maxRecDepth 100000 in
theorem sX6_digest_60 {X : Xt} {n : Nat} {h : HP} {a0 : Nat} {l1 : Int} {x3 : Int} {bb : Nat} {sb9 : Nat} {fs1 : List Value} (hc : Cx X cX6_digest RX6 4 9 159) {K : KT} (hr : CxR X (some .long) K) (e1 : At h n a0 (.inl (6, fs1))) (z1 : fs1.length = 6)
    (P : spec_X6_why [.ref a0, .int (i3 x3)] n h (kc X bb sb9 63 [(0, .ref a0), (1, .long (i6 l1)), (3, .int (i3 x3))] [.long (i6 l1)] n)) :
    Ok X (bb + 1) (sb9 + 6) 60 [(0, .ref a0), (1, .long (i6 l1)), (3, .int (i3 x3))] [] n h := by
  refine ok_lload_n (pc := 60) hc dX6_digest_60 rfl 1 rfl ?_
  refine ok_aload_n (pc := 61) hc dX6_digest_61 rfl 0 rfl ?_
  refine ok_iload_n (pc := 62) hc dX6_digest_62 rfl 2 rfl ?_
  exact ok_callV (pc := 63) (a := a0) (cb := bb) (sb := sb9) (st := [.long (i6 l1)]) hc [.int (i3 x3)] cv_X6_289 sp_X6_why (by decide) dX6_digest_63 rfl e1.1 e1.2 rfl rfl rfl (Nat.le_of_ble_eq_true rfl) P

set_option maxHeartbeats 4000000 in
set_option maxRecDepth 100000 in
theorem sX6_digest_66 {X : Xt} {n : Nat} {h : HP} {a0 : Nat} {l1 : Int} {x3 : Int} {t0 : Int} {tl1 : Int} {bb : Nat} {sb9 : Nat} {fs2 : List Value} (hc : Cx X cX6_digest RX6 4 9 159) {K : KT} (hr : CxR X (some .long) K) (e2 : At h n a0 (.inl (6, fs2))) (z2 : fs2.length = 6)
    (P : (R3 t0) ∧ spec_X6_concerned [.ref a0, .int (i3 x3)] n h (kc X bb sb9 74 [(0, .ref a0), (1, .long (i6 (31 * tl1 + t0))), (3, .int (i3 x3))] [.long (i6 (31 * tl1 + t0))] n)) :
    Ok X (bb + 1) (sb9 + 6) 66 [(0, .ref a0), (1, .long (i6 l1)), (3, .int (i3 x3))] [.int (i3 t0), .long (i6 tl1)] n h := by
  obtain ⟨r1, P⟩ := P
  refine zk_i2l (pc := 66) hc dX6_digest_66 r1 ?_
  refine ok_callS (pc := 67) (cb := (bb + 1)) (sb := (sb9 + 6)) (st := []) hc [.long (i6 tl1), .long (i6 t0)] cs_X6_272 sp_X6_mixed (by decide) dX6_digest_67 rfl rfl rfl rfl (Nat.le_of_ble_eq_true rfl) (⟨_, _, rfl, rfl, ?_⟩)
  show Ok X (bb + 1) (sb9 + 6) (67 + 3) [(0, .ref a0), (1, .long (i6 l1)), (3, .int (i3 x3))] [.long (i6 (31 * tl1 + t0))] n h
  refine ok_lstore_n (pc := 70) hc (lv' := [(1, .long (i6 (31 * tl1 + t0))), (0, .ref a0), (3, .int (i3 x3))]) dX6_digest_70 rfl (by decide) rfl ?_
  refine ok_lload_n (pc := 71) hc dX6_digest_71 rfl 0 rfl ?_
  refine ok_aload_n (pc := 72) hc dX6_digest_72 rfl 1 rfl ?_
  refine ok_iload_n (pc := 73) hc dX6_digest_73 rfl 2 rfl ?_
  refine ok_lv [1, 0, 2] rfl ?_
  exact ok_callV (pc := 74) (a := a0) (cb := bb) (sb := sb9) (st := [.long (i6 (31 * tl1 + t0))]) hc [.int (i3 x3)] cv_X6_292 sp_X6_concerned (by decide) dX6_digest_74 rfl e2.1 e2.2 rfl rfl rfl (Nat.le_of_ble_eq_true rfl) P

set_option maxHeartbeats 4000000 in
set_option maxRecDepth 100000 in
theorem sX6_digest_77 {X : Xt} {n : Nat} {h : HP} {a0 : Nat} {l1 : Int} {x3 : Int} {t0 : Int} {tl1 : Int} {bb : Nat} {sb9 : Nat} (hc : Cx X cX6_digest RX6 4 9 159) {K : KT} (hr : CxR X (some .long) K) 
    (P : (R3 t0) ∧ Ok X bb sb9 49 [(0, .ref a0), (1, .long (i6 (31 * tl1 + t0))), (3, .int (i3 (x3 + 1)))] [] n h) :
    Ok X bb sb9 77 [(0, .ref a0), (1, .long (i6 l1)), (3, .int (i3 x3))] [.int (i3 t0), .long (i6 tl1)] n h := by
  obtain ⟨r1, P⟩ := P
  refine zk_i2l (pc := 77) hc dX6_digest_77 r1 ?_
  refine ok_callS (pc := 78) (cb := bb) (sb := sb9) (st := []) hc [.long (i6 tl1), .long (i6 t0)] cs_X6_272 sp_X6_mixed (by decide) dX6_digest_78 rfl rfl rfl rfl (Nat.le_of_ble_eq_true rfl) (⟨_, _, rfl, rfl, ?_⟩)
  show Ok X bb sb9 (78 + 3) [(0, .ref a0), (1, .long (i6 l1)), (3, .int (i3 x3))] [.long (i6 (31 * tl1 + t0))] n h
  refine ok_lstore_n (pc := 81) hc (lv' := [(1, .long (i6 (31 * tl1 + t0))), (0, .ref a0), (3, .int (i3 x3))]) dX6_digest_81 rfl (by decide) rfl ?_
  refine zk_iinc (pc := 82) hc (q := 2) (x := x3) (lv' := [(3, .int (i3 (x3 + 1))), (1, .long (i6 (31 * tl1 + t0))), (0, .ref a0)]) dX6_digest_82 rfl (by decide) rfl ?_
  refine ok_goto (pc := 85) (tgt := 49) hc dX6_digest_85 (by decide) ?_
  refine ok_lv [2, 1, 0] rfl ?_
  exact P

set_option maxHeartbeats 4000000 in
set_option maxRecDepth 100000 in
theorem sX6_digest_88 {X : Xt} {n : Nat} {h : HP} {a0 : Nat} {l1 : Int} {x3 : Int} {bb : Nat} {sb9 : Nat} {fs1 : List Value} (hc : Cx X cX6_digest RX6 4 9 159) {K : KT} (hr : CxR X (some .long) K) (e1 : At h n a0 (.inl (6, fs1))) (z1 : fs1.length = 6)
    (P : spec_X6_meanVoltage [.ref a0] n h (kc X bb sb9 90 [(0, .ref a0), (1, .long (i6 l1)), (3, .int (i3 x3))] [.long (i6 l1)] n)) :
    Ok X (bb + 24) (sb9 + 144) 88 [(0, .ref a0), (1, .long (i6 l1)), (3, .int (i3 x3))] [] n h := by
  refine ok_lload_n (pc := 88) hc dX6_digest_88 rfl 1 rfl ?_
  refine ok_aload_n (pc := 89) hc dX6_digest_89 rfl 0 rfl ?_
  exact ok_callV (pc := 90) (a := a0) (cb := bb) (sb := sb9) (st := [.long (i6 l1)]) hc [] cv_X6_295 sp_X6_meanVoltage (by decide) dX6_digest_90 rfl e1.1 e1.2 rfl rfl rfl (Nat.le_of_ble_eq_true rfl) P

set_option maxHeartbeats 4000000 in
set_option maxRecDepth 100000 in
theorem sX6_digest_93 {X : Xt} {n : Nat} {h : HP} {a0 : Nat} {l1 : Int} {x3 : Int} {td0 : UInt64} {tl1 : Int} {bb : Nat} {sb9 : Nat} (hc : Cx X cX6_digest RX6 4 9 159) {K : KT} (hr : CxR X (some .long) K) 
    (P : spec_X6_bitsOf [.double td0] n h (kc X bb sb9 93 [(0, .ref a0), (1, .long (i6 l1)), (3, .int (i3 x3))] [.long (i6 tl1)] n)) :
    Ok X bb sb9 93 [(0, .ref a0), (1, .long (i6 l1)), (3, .int (i3 x3))] [.double td0, .long (i6 tl1)] n h := by
  exact ok_callS (pc := 93) (cb := bb) (sb := sb9) (st := [.long (i6 tl1)]) hc [.double td0] cs_X6_299 sp_X6_bitsOf (by decide) dX6_digest_93 rfl rfl rfl rfl (Nat.le_of_ble_eq_true rfl) P

set_option maxHeartbeats 4000000 in
set_option maxRecDepth 100000 in
theorem sX6_digest_96 {X : Xt} {n : Nat} {h : HP} {a0 : Nat} {l1 : Int} {x3 : Int} {tl0 : Int} {tl1 : Int} {bb : Nat} {sb9 : Nat} {fs1 : List Value} {q2 : Nat} {fs3 : List Value} {iv4 : Int} (hc : Cx X cX6_digest RX6 4 9 159) {K : KT} (hr : CxR X (some .long) K) (e1 : At h n a0 (.inl (6, fs1))) (z1 : fs1.length = 6) (v1_2 : fs1[2]? = some (.ref q2)) (e3 : At h n q2 (.inl (5, fs3))) (z3 : fs3.length = 9) (v3_2 : fs3[2]? = some (.int (i3 iv4)))
    (P : (R3 iv4) ∧ Ok X bb sb9 115 [(0, .ref a0), (1, .long (i6 (31 * (31 * tl1 + tl0) + iv4))), (3, .int (i3 0))] [] n h) :
    Ok X bb sb9 96 [(0, .ref a0), (1, .long (i6 l1)), (3, .int (i3 x3))] [.long (i6 tl0), .long (i6 tl1)] n h := by
  refine ok_callS (pc := 96) (cb := bb) (sb := sb9) (st := []) hc [.long (i6 tl1), .long (i6 tl0)] cs_X6_272 sp_X6_mixed (by decide) dX6_digest_96 rfl rfl rfl rfl (Nat.le_of_ble_eq_true rfl) (⟨_, _, rfl, rfl, ?_⟩)
  show Ok X bb sb9 (96 + 3) [(0, .ref a0), (1, .long (i6 l1)), (3, .int (i3 x3))] [.long (i6 (31 * tl1 + tl0))] n h
  refine ok_lstore_n (pc := 99) hc (lv' := [(1, .long (i6 (31 * tl1 + tl0))), (0, .ref a0), (3, .int (i3 x3))]) dX6_digest_99 rfl (by decide) rfl ?_
  refine ok_lload_n (pc := 100) hc dX6_digest_100 rfl 0 rfl ?_
  refine ok_aload_n (pc := 101) hc dX6_digest_101 rfl 1 rfl ?_
  refine ok_get (pc := 102) hc fl_X6_22 dX6_digest_102 e1.1 e1.2 v1_2 ?_
  refine ok_get (pc := 105) hc fl_X6_95 dX6_digest_105 e3.1 e3.2 v3_2 ?_
  obtain ⟨r5, P⟩ := P
  refine zk_i2l (pc := 108) hc dX6_digest_108 r5 ?_
  refine ok_callS (pc := 109) (cb := bb) (sb := sb9) (st := []) hc [.long (i6 (31 * tl1 + tl0)), .long (i6 iv4)] cs_X6_272 sp_X6_mixed (by decide) dX6_digest_109 rfl rfl rfl rfl (Nat.le_of_ble_eq_true rfl) (⟨_, _, rfl, rfl, ?_⟩)
  show Ok X bb sb9 (109 + 3) [(1, .long (i6 (31 * tl1 + tl0))), (0, .ref a0), (3, .int (i3 x3))] [.long (i6 (31 * (31 * tl1 + tl0) + iv4))] n h
  refine ok_lstore_n (pc := 112) hc (lv' := [(1, .long (i6 (31 * (31 * tl1 + tl0) + iv4))), (0, .ref a0), (3, .int (i3 x3))]) dX6_digest_112 rfl (by decide) rfl ?_
  refine ok_iconst (pc := 113) hc (v := i3 0) dX6_digest_113 (by decide) ?_
  refine ok_istore_n (pc := 114) hc (lv' := [(3, .int (i3 0)), (1, .long (i6 (31 * (31 * tl1 + tl0) + iv4))), (0, .ref a0)]) dX6_digest_114 rfl (by decide) rfl ?_
  refine ok_lv [2, 1, 0] rfl ?_
  exact P

set_option maxHeartbeats 4000000 in
set_option maxRecDepth 100000 in
theorem sX6_digest_115 {X : Xt} {n : Nat} {h : HP} {a0 : Nat} {l1 : Int} {x3 : Int} {bb : Nat} {sb9 : Nat} {fs1 : List Value} {q2 : Nat} {fs3 : List Value} {iv4 : Int} {q7 : Nat} {len8 : Nat} {f8 : Nat → Int} (hc : Cx X cX6_digest RX6 4 9 159) {K : KT} (hr : CxR X (some .long) K) (e1 : At h n a0 (.inl (6, fs1))) (z1 : fs1.length = 6) (v1_2 : fs1[2]? = some (.ref q2)) (e3 : At h n q2 (.inl (5, fs3))) (z3 : fs3.length = 9) (v3_2 : fs3[2]? = some (.int (i3 iv4))) (v3_0 : fs3[0]? = some (.ref q7)) (e8 : At h n q7 (ac len8 f8))
    (P : (R3 x3) ∧ (R3 iv4) ∧ (iv4 ≤ x3 → K (.inl (some (.long (i6 l1)))) n h) ∧ (¬ iv4 ≤ x3 → (Ix x3 len8) ∧ (R3 (f8 (x3 : Int).toNat)) ∧ Ok X bb sb9 115 [(0, .ref a0), (1, .long (i6 (31 * l1 + (f8 (x3 : Int).toNat)))), (3, .int (i3 (x3 + 1)))] [] n h)) :
    Ok X bb sb9 115 [(0, .ref a0), (1, .long (i6 l1)), (3, .int (i3 x3))] [] n h := by
  refine ok_iload_n (pc := 115) hc dX6_digest_115 rfl 2 rfl ?_
  refine ok_aload_n (pc := 116) hc dX6_digest_116 rfl 0 rfl ?_
  refine ok_get (pc := 117) hc fl_X6_22 dX6_digest_117 e1.1 e1.2 v1_2 ?_
  refine ok_get (pc := 120) hc fl_X6_95 dX6_digest_120 e3.1 e3.2 v3_2 ?_
  obtain ⟨r5, P⟩ := P
  obtain ⟨r6, P⟩ := P
  refine zk_icmp_ge (pc := 123) (tgt := 147) hc dX6_digest_123 (by decide) r5 r6 (fun c => ?_) (fun c => ?_)
  · have P := P.1 c
    refine ok_lload_n (pc := 147) hc dX6_digest_147 rfl 1 rfl ?_
    exact ok_lret (st := []) (pc := 148) hc hr dX6_digest_148 P
  · have P := P.2 c
    refine ok_lload_n (pc := 126) hc dX6_digest_126 rfl 1 rfl ?_
    refine ok_aload_n (pc := 127) hc dX6_digest_127 rfl 0 rfl ?_
    refine ok_get (pc := 128) hc fl_X6_22 dX6_digest_128 e1.1 e1.2 v1_2 ?_
    refine ok_get (pc := 131) hc fl_X6_165 dX6_digest_131 e3.1 e3.2 v3_0 ?_
    refine ok_iload_n (pc := 134) hc dX6_digest_134 rfl 2 rfl ?_
    obtain ⟨r, P⟩ := P
    refine zk_cald (pc := 135) hc dX6_digest_135 e8.1 e8.2 r ?_
    obtain ⟨r9, P⟩ := P
    refine zk_i2l (pc := 136) hc dX6_digest_136 r9 ?_
    refine ok_callS (pc := 137) (cb := bb) (sb := sb9) (st := []) hc [.long (i6 l1), .long (i6 (f8 (x3 : Int).toNat))] cs_X6_272 sp_X6_mixed (by decide) dX6_digest_137 rfl rfl rfl rfl (Nat.le_of_ble_eq_true rfl) (⟨_, _, rfl, rfl, ?_⟩)
    show Ok X bb sb9 (137 + 3) [(0, .ref a0), (1, .long (i6 l1)), (3, .int (i3 x3))] [.long (i6 (31 * l1 + (f8 (x3 : Int).toNat)))] n h
    refine ok_lstore_n (pc := 140) hc (lv' := [(1, .long (i6 (31 * l1 + (f8 (x3 : Int).toNat)))), (0, .ref a0), (3, .int (i3 x3))]) dX6_digest_140 rfl (by decide) rfl ?_
    refine zk_iinc (pc := 141) hc (q := 2) (x := x3) (lv' := [(3, .int (i3 (x3 + 1))), (1, .long (i6 (31 * l1 + (f8 (x3 : Int).toNat)))), (0, .ref a0)]) dX6_digest_141 rfl (by decide) rfl ?_
    refine ok_goto (pc := 144) (tgt := 115) hc dX6_digest_144 (by decide) ?_
    refine ok_lv [2, 1, 0] rfl ?_
    exact P

def spec_X6_digest (args : List Value) (n : Nat) (h : HP) (K : KT) : Prop := ∃ (q : Dsk), args = [.ref 0] ∧ DkA h n q ∧ OkD q ∧ ∀ h', DkA h' n q → Fr h h' 0 127 → K (.inl (some (.long (i6 (opDig q))))) n h'
theorem sp_X6_digest : Sp yX6_digest cX6_digest 4 (some .long) 9 159 221 1326 spec_X6_digest := by
  refine sp_intro (by decide) (by rintro args n h K ⟨q, rfl, -⟩; exact Nat.le_of_ble_eq_true rfl) ?_
  rintro X args n h K hc hr ⟨q, rfl, hq, hO, kk⟩
  have hGd : GdD q := hq.2.2.2.2.2.2
  have hl8 : q.2.1.length ≤ 8 := by
    obtain ⟨o, _, h2, _⟩ := hq.2.2.2.2.1
    exact h2
  have h3 := hGd.1.1.2.1
  have h27 := pow27 h3
  have ec := p3c (nA q.1.1)
  have p0 := pow3_pos (nA q.1.1)
  have p3 := c27 h3
  -- the text
  have h115 : ∀ (j i : Nat) (x : Int) (hh : HP), i + j = q.2.2.2.2.length → DkA hh n q → Fr h hh 0 127 → mixS (fun i => q.2.2.2.2.getD i 0) j i x = opDig q → Ok X 0 0 115 [(0, .ref 0), (1, .long (i6 x)), (3, .int (i3 i))] [] n hh := by
    intro j
    induction j with
    | zero =>
      intro i x hh hi hd hf e
      have hd0 := hd
      obtain ⟨h0, hN, ⟨T, hT⟩, ⟨tx, hTx, ⟨rq, r1, r2, r3, r4⟩⟩, hH, hM, hG⟩ := hd
      have hl : q.2.2.2.2.length ≤ 60 := hTx.1
      have k := kk hh hd0 hf
      rw [← e] at k
      exact sX6_digest_115 (iv4 := (q.2.2.2.2.length : Int)) hc hr h0 rfl rfl r1 rfl rfl rfl r2 ⟨R3_s (by omega), R3_s (by omega), fun _ => k, fun z => absurd (by omega) z⟩
    | succ j ih =>
      intro i x hh hi hd hf e
      have hd0 := hd
      obtain ⟨h0, hN, ⟨T, hT⟩, ⟨tx, hTx, ⟨rq, r1, r2, r3, r4⟩⟩, hH, hM, hG⟩ := hd
      have hl : q.2.2.2.2.length ≤ 60 := hTx.1
      have hb := hTx.2 i (by omega)
      have e2 : mixS (fun i => q.2.2.2.2.getD i 0) j (i + 1) (31 * x + q.2.2.2.2.getD i 0) = opDig q := e
      rw [List.getD_eq_getElem?_getD, hb.1] at e2
      have nx := ih (i + 1) (31 * x + tx i) hh (by omega) hd0 hf e2
      refine sX6_digest_115 (iv4 := (q.2.2.2.2.length : Int)) hc hr h0 rfl rfl r1 rfl rfl rfl r2 ⟨R3_s (by omega), R3_s (by omega), fun z => absurd z (by omega), fun _ => ⟨⟨by omega, by omega, by omega⟩, ?_, ?_⟩⟩
      · rw [Int.toNat_natCast]
        exact R3_s (by omega)
      · rw [Int.toNat_natCast]
        exact nx
  -- the mean
  have h88 : ∀ (x : Int) (x3 : Int) (hh : HP), DkA hh n q → Fr h hh 0 127 → x = digB q → Ok X 24 144 88 [(0, .ref 0), (1, .long (i6 x)), (3, .int (i3 x3))] [] n hh := by
    intro x x3 hh hd hf e
    refine sX6_digest_88 (bb := 0) (sb9 := 0) hc hr hd.1 rfl ⟨q, rfl, hd, fun a b => mn_all hGd.1 hO.1 a b, fun h1 hd1 f1 => ⟨rfl, ?_⟩⟩
    refine sX6_digest_93 hc hr ⟨meanD q, rfl, meanD_gd hGd.1 hO.1, ⟨rfl, ?_⟩⟩
    have hd0 := hd1
    obtain ⟨h0, hN, ⟨T, hT⟩, ⟨tx, hTx, ⟨rq, r1, r2, r3, r4⟩⟩, hH, hM, hG⟩ := hd1
    have hl : q.2.2.2.2.length ≤ 60 := hTx.1
    refine sX6_digest_96 (iv4 := (q.2.2.2.2.length : Int)) hc hr h0 rfl rfl r1 rfl rfl ⟨R3_s (by omega), h115 q.2.2.2.2.length 0 _ h1 (by omega) hd0 (hf.tr f1) ?_⟩
    rw [e]
    rfl
  -- the cases
  have h49 : ∀ (j c : Nat) (x : Int) (hh : HP), c + j = 3 ^ nA q.1.1 → DkA hh n q → Fr h hh 0 127 → mixW q j c x = digB q → Ok X (24 + 2 * j) (144 + 12 * j) 49 [(0, .ref 0), (1, .long (i6 x)), (3, .int (i3 c))] [] n hh := by
    intro j
    induction j with
    | zero =>
      intro c x hh hcj hd hf e
      have : c = 3 ^ nA q.1.1 := by omega
      subst this
      obtain ⟨_, _, _, _, hK⟩ := id hd.2.1
      obtain ⟨_, _, _, hB, -⟩ := id hK
      refine sX6_digest_49 hc hr hd.1 rfl rfl hB.1 rfl ⟨1, q.1, _, _, _, _, rfl, hK, rfl, ?_⟩
      exact sX6_digest_57 hc hr ⟨R3_s (by omega), R3_s (by omega), fun _ => h88 x _ hh hd hf e, fun z => absurd z (by omega)⟩
    | succ j ih =>
      intro c x hh hcj hd hf e
      have e2 : mixW q j (c + 1) (31 * (31 * x + (jud q.1 c).1) + (jud q.1 c).2) = digB q := e
      obtain ⟨_, _, _, _, hK⟩ := id hd.2.1
      obtain ⟨_, _, _, hB, -⟩ := id hK
      have jr := jud_r q.1 c
      have jr2 := jud_r2 q.1 c h3
      refine sX6_digest_49 (bb := 24 + 2 * j + 1 + 1) (sb9 := 144 + 12 * j + 6 + 6) hc hr hd.1 rfl rfl hB.1 rfl ⟨1, q.1, _, _, _, _, rfl, hK, rfl, ?_⟩
      refine sX6_digest_57 hc hr ⟨R3_s (by omega), R3_s (by omega), fun z => absurd z (by omega), fun _ => ?_⟩
      have ew : opWhy q c = .inl (jud q.1 c).1 := by
        unfold opWhy
        rw [if_neg (show ¬ ¬ (0 ≤ (c : Int) ∧ (c : Int) < 3 ^ nA q.1.1) by omega)]
      have en : opConc q c = .inl (jud q.1 c).2 := by
        unfold opConc
        rw [if_neg (show ¬ ¬ (0 ≤ (c : Int) ∧ (c : Int) < 3 ^ nA q.1.1) by omega)]
      refine sX6_digest_60 (bb := 24 + 2 * j + 1) (sb9 := 144 + 12 * j + 6) hc hr hd.1 rfl ⟨q, c, rfl, R3_s (by omega), hd, fun h1 hd1 f1 => ?_⟩
      rw [ew]
      refine ⟨rfl, sX6_digest_66 (bb := 24 + 2 * j) (sb9 := 144 + 12 * j) hc hr hd1.1 rfl ⟨R3_s (by omega), q, c, rfl, R3_s (by omega), hd1, fun h2 hd2 f2 => ?_⟩⟩
      rw [en]
      exact ⟨rfl, sX6_digest_77 hc hr ⟨R3_s (by omega), ih (c + 1) _ h2 (by omega) hd2 ((hf.tr f1).tr f2) e2⟩⟩
  -- the counts
  have L : ∀ (j k : Nat) (x : Int) (hh : HP), k + j = 10 → DkA hh n q → Fr h hh 0 127 → mixS (fun w => unL (opCount q w)) j k x = digA q → Ok X (211 + j) (1266 + 6 * j) 6 [(0, .ref 0), (1, .long (i6 x)), (3, .int (i3 k))] [] n hh := by
    intro j
    induction j with
    | zero =>
      intro k x hh hk hd hf e
      have : k = 10 := by omega
      subst this
      have ex : x = digA q := e
      subst ex
      refine sX6_digest_6 hc hr ⟨R3_s (by omega), fun _ => ?_, fun z => absurd (by omega) z⟩
      refine sX6_digest_29 (bb := 115) (sb9 := 690) hc hr hd.1 rfl ⟨q, digA q, rfl, hd, ⟨rfl, ?_⟩⟩
      refine sX6_digest_34 (bb := 87) (sb9 := 522) hc hr hd.1 rfl ⟨q, _, rfl, hd, fun h1 hd1 f1 => ⟨rfl, ?_⟩⟩
      refine sX6_digest_40 (bb := 78) (sb9 := 468) hc hr hd1.1 rfl ⟨q, _, rfl, hd1, fun h2 hd2 f2 => ⟨rfl, sX6_digest_46 hc hr ?_⟩⟩
      exact (h49 (3 ^ nA q.1.1) 0 _ h2 (by omega) hd2 ((hf.tr f1).tr f2) rfl).up (by omega) (by omega)
    | succ j ih =>
      intro k x hh hk hd hf e
      have e2 : mixS (fun w => unL (opCount q w)) j (k + 1) (31 * x + unL (opCount q k)) = digA q := e
      refine sX6_digest_6 (bb := 211 + j + 1) (sb9 := 1266 + 6 * j + 6) hc hr ⟨R3_s (by omega), fun z => absurd z (by omega), fun _ => ?_⟩
      refine sX6_digest_12 (bb := 211 + j) (sb9 := 1266 + 6 * j) hc hr hd.1 rfl ⟨q, k, rfl, R3_s (by omega), hd, fun h1 hd1 f1 => ?_⟩
      rw [oV_un (opCount_ok (by omega))]
      exact ⟨rfl, sX6_digest_18 hc hr ⟨opCount_r hGd hl8 k, ih (k + 1) _ h1 (by omega) hd1 (hf.tr f1) e2⟩⟩
  exact sX6_digest_0 (bb := 221) (sb9 := 1326) hc hr (L 10 0 2081 h rfl hq Fr.rf rfl)
