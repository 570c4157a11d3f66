/-! part 96: the mean: no step is a NaN; the reference's mean -/
theorem volt_now {q : Dsk} {k w : Int} (hk : 0 ≤ k ∧ k < 7) (hw : w = 0 ∨ w = 1) : unL (opVolt q k w) = nowV q.1 k w := by
  unfold opVolt nowV
  rw [if_neg (fun c => c hk), if_neg (fun c => c hw)]
  split <;> rfl
theorem now_num {S : Stt} (hG : GdS S) (hO : StOk S) (hs : S.2.2.2 = 1) {k : Int} (hk : 0 ≤ k ∧ k ≤ 6) (hu : ¬ bcon (usedM S.1) k = 0) : (-3758096384000 ≤ nowV S k 0 ∧ nowV S k 0 ≤ 3758096384000) ∧ 0 < nowV S k 1 ∧ nowV S k 1 ≤ 536870912 := by
  have hsol := jud_sol (hO hs)
  have hsp := (cls_1 hG.1 hsol).1
  have hm := satN_lt S.2.2.1 (nA S.1)
  have hF := hG.fit.2
  have hn := numer_bd hF hm (show k.toNat < 7 by omega) (gAmp_bd (c := S.2.2.1) (fun p hp => (hG.1.2.2.1 p hp).1) (show 0 ≤ S.2.1 ∧ S.2.1 ≤ 1000 by have := hG.2.1; omega) (nA S.1))
  have hsd := hF.sD hm
  unfold nowV
  rw [if_neg (by omega), if_neg (by omega)]
  unfold nodeV
  have hu' : ¬ (k ≠ 0 ∧ bcon (usedM S.1) k = 0) := fun z => hu z.2
  rw [if_neg hu', if_neg hsol, if_neg hu', if_neg hsol]
  have e : givC S S.2.2.1 = gAmp S.1 S.2.1 S.2.2.1 (nA S.1) := rfl
  rw [e]
  generalize numer S.1 (satN S.2.2.1 (nA S.1)) (gAmp S.1 S.2.1 S.2.2.1 (nA S.1)) k.toNat = x at *
  generalize solD S.1 (satN S.2.2.1 (nA S.1)) = d at *
  have hg : 0 < Nat.gcd x.natAbs d.natAbs := Nat.gcd_pos_of_pos_right _ (by omega)
  unfold lowT
  rw [if_neg (Nat.ne_of_gt hg), if_neg (Nat.ne_of_gt hg), if_pos rfl, if_neg (show ¬ ((1 : Int) = 0) by decide)]
  have t1 := tdiv_bd (a := x) (p := (Nat.gcd x.natAbs d.natAbs : Nat))
  have t2 := tdiv_bd (a := d) (p := (Nat.gcd x.natAbs d.natAbs : Nat))
  obtain ⟨d1, hD⟩ : ((Nat.gcd x.natAbs d.natAbs : Nat) : Int) ∣ d := Int.ofNat_dvd_left.mpr (Nat.gcd_dvd_right _ _)
  have t4 : d.tdiv (Nat.gcd x.natAbs d.natAbs : Nat) = d1 := by
    generalize Nat.gcd x.natAbs d.natAbs = g at *
    rw [hD, Int.mul_tdiv_cancel_left _ (by omega)]
  have hd1 : 0 < d1 := by
    by_cases z : 0 < d1
    · exact z
    · have := Int.mul_le_mul_of_nonneg_left (show d1 ≤ 0 by omega) (show (0 : Int) ≤ (Nat.gcd x.natAbs d.natAbs : Nat) by omega)
      rw [← hD, Int.mul_zero] at this
      omega
  rw [t4] at t2 ⊢
  omega
theorem l2d_gd {z : Int} (h : -3758096384000 ≤ z ∧ z ≤ 3758096384000) : Gd (-52) 11 (FP.l2d (i6 z)) := by
  show Gd (-52) 11 (.ofNat (FP.Core.fromInt FP.Core.b64 (i6 z).toInt))
  rw [i6_toInt ⟨by omega, by omega⟩]
  exact fromI_gd (by omega)
theorem l2d_pos {z : Int} (h : 0 < z ∧ z ≤ 536870912) : ∃ c q, FP.l2d (i6 z) = dE false c q ∧ Nrm c q ∧ -52 ≤ q ∧ q ≤ 11 := by
  show ∃ c q, UInt64.ofNat (FP.Core.fromInt FP.Core.b64 (i6 z).toInt) = dE false c q ∧ _
  rw [i6_toInt ⟨by omega, by omega⟩]
  exact i2d_pos h.1 (by omega)
theorem i2d_pos3 {z : Int} (h : 0 < z ∧ z ≤ 7) : ∃ c q, FP.i2d (i3 z) = dE false c q ∧ Nrm c q ∧ -52 ≤ q ∧ q ≤ 11 := by
  show ∃ c q, UInt64.ofNat (FP.Core.fromInt FP.Core.b64 (i3 z).toInt) = dE false c q ∧ _
  rw [i3_toInt (R3_s (by omega))]
  exact i2d_pos h.1 (by omega)
theorem vD_gd {q : Dsk} (hG : GdS q.1) (hO : StOk q.1) (hs : q.1.2.2.2 = 1) {k : Nat} (hk : k ≤ 6) (hu : ¬ bcon (usedM q.1.1) k = 0) : Gd (-116) 12 (vD q k) := by
  have h := now_num hG hO hs (k := k) (by omega) hu
  unfold vD
  rw [volt_now (by omega) (Or.inl rfl), volt_now (by omega) (Or.inr rfl)]
  obtain ⟨c, r, e, hN, b1, b2⟩ := l2d_pos h.2
  rw [e]
  exact (ddiv_gd (l2d_gd h.1) hN ⟨b1, b2⟩ (by omega) (by omega)).le (by omega) (by omega)
theorem mean_ok {q : Dsk} (hG : GdS q.1) (hO : StOk q.1) (hs : q.1.2.2.2 = 1) (hn : 0 < nodesN (usedM q.1.1)) : ∀ (j k i : Nat) (w : UInt64), i + j = 6 → k = i + 1 → Gd (-116 - 53 * i) (12 + 3 * i) w → MnOk q (usedM q.1.1) j k w ∧ Gd (-900) 900 (FP.ddiv (meanN q (usedM q.1.1) j k w) (FP.i2d (i3 (nodesN (usedM q.1.1)))))
  | 0, k, i, w, hi, hk, hw => by
    have hr := nodesN_r (usedM q.1.1)
    obtain ⟨c, r, e, hN, b1, b2⟩ := i2d_pos3 (z := nodesN (usedM q.1.1)) ⟨hn, hr.2⟩
    have : i = 6 := by omega
    subst this
    have g := ddiv_gd hw hN ⟨b1, b2⟩ (by omega) (by omega)
    rw [← e] at g
    exact ⟨g.nn, g.le (by omega) (by omega)⟩
  | j + 1, k, i, w, hi, hk, hw => by
    by_cases u : bcon (usedM q.1.1) k = 0
    · have ih := mean_ok hG hO hs hn j (k + 1) (i + 1) w (by omega) (by omega) (hw.le (by omega) (by omega))
      refine ⟨Or.inl ⟨u, ih.1⟩, ?_⟩
      show Gd (-900) 900 (FP.ddiv (meanN q (usedM q.1.1) j (k + 1) (if bcon (usedM q.1.1) k = 0 then w else FP.dadd w (vD q k))) _)
      rw [if_pos u]
      exact ih.2
    · have hv := vD_gd hG hO hs (k := k) (by omega) u
      have ha := dadd_gd (lo := -116 - 53 * i) (hi := 12 + 3 * i) hw (hv.le (by omega) (by omega)) (by omega) (by omega)
      have ih := mean_ok hG hO hs hn j (k + 1) (i + 1) (FP.dadd w (vD q k)) (by omega) (by omega) (ha.le (by omega) (by omega))
      refine ⟨Or.inr ⟨u, hv.nn, ha.nn, ih.1⟩, ?_⟩
      show Gd (-900) 900 (FP.ddiv (meanN q (usedM q.1.1) j (k + 1) (if bcon (usedM q.1.1) k = 0 then w else FP.dadd w (vD q k))) _)
      rw [if_neg u]
      exact ih.2
theorem mn_all {q : Dsk} (hG : GdS q.1) (hO : StOk q.1) (hs : ¬ q.1.2.2.2 = 0) (hn : ¬ nodesN (usedM q.1.1) = 0) : MnOk q (usedM q.1.1) 6 1 FP.dconst0 := by
  have hr := nodesN_r (usedM q.1.1)
  exact (mean_ok hG hO (by have := hG.2.2.2; omega) (by omega) 6 1 0 FP.dconst0 rfl rfl (Or.inl rfl)).1
theorem meanD_gd {q : Dsk} (hG : GdS q.1) (hO : StOk q.1) : Gd (-900) 900 (meanD q) := by
  unfold meanD
  split
  · exact Or.inl rfl
  · split
    · exact Or.inl rfl
    · rename_i hs hn
      have hr := nodesN_r (usedM q.1.1)
      exact (mean_ok hG hO (by have := hG.2.2.2; omega) (by omega) 6 1 0 FP.dconst0 rfl rfl (Or.inl rfl)).2
set_option maxHeartbeats 4000000 in
set_option maxRecDepth 100000 in
theorem sX7_meanNow_0 {X : Xt} {n : Nat} {h : HP} {a0 : Nat} (hc : Cx X cX7_meanNow RX7 5 10 228) {K : KT} (hr : CxR X (some .double) K) 
    (P : Ok X 0 0 7 [(0, .ref a0), (1, .double FP.dconst0), (3, .int (i3 0)), (4, .int (i3 1))] [] n h) :
    Ok X 0 0 0 [(0, .ref a0)] [] n h := by
  refine ok_dconst0 (pc := 0) hc dX7_meanNow_0 ?_
  refine ok_dstore_n (pc := 1) hc (lv' := [(1, .double FP.dconst0), (0, .ref a0)]) dX7_meanNow_1 rfl (by decide) rfl ?_
  refine ok_iconst (pc := 2) hc (v := i3 0) dX7_meanNow_2 (by decide) ?_
  refine ok_istore_n (pc := 3) hc (lv' := [(3, .int (i3 0)), (1, .double FP.dconst0), (0, .ref a0)]) dX7_meanNow_3 rfl (by decide) rfl ?_
  refine ok_iconst (pc := 4) hc (v := i3 1) dX7_meanNow_4 (by decide) ?_
  refine ok_istore (pc := 5) hc (lv' := [(4, .int (i3 1)), (3, .int (i3 0)), (1, .double FP.dconst0), (0, .ref a0)]) dX7_meanNow_5 (by decide) rfl ?_
  refine ok_lv [3, 2, 1, 0] rfl ?_
  exact P

set_option maxHeartbeats 4000000 in
set_option maxRecDepth 100000 in
theorem sX7_meanNow_7 {X : Xt} {n : Nat} {h : HP} {a0 : Nat} {w1 : UInt64} {x3 : Int} {x4 : Int} (hc : Cx X cX7_meanNow RX7 5 10 228) {K : KT} (hr : CxR X (some .double) K) 
    (P : (R3 x4) ∧ (7 ≤ x4 → Ok X 0 0 63 [(0, .ref a0), (1, .double w1), (3, .int (i3 x3)), (4, .int (i3 x4))] [] n h) ∧ (¬ 7 ≤ x4 → Ok X 0 0 14 [(0, .ref a0), (1, .double w1), (3, .int (i3 x3)), (4, .int (i3 x4))] [] n h)) :
    Ok X 0 0 7 [(0, .ref a0), (1, .double w1), (3, .int (i3 x3)), (4, .int (i3 x4))] [] n h := by
  refine ok_iload (pc := 7) hc dX7_meanNow_7 3 rfl ?_
  refine ok_bipush (pc := 9) hc (v := i3 7) dX7_meanNow_9 (by decide) ?_
  obtain ⟨r1, P⟩ := P
  refine zk_icmp_ge (pc := 11) (tgt := 63) hc dX7_meanNow_11 (by decide) r1 ⟨by decide, by decide⟩ (fun c => ?_) (fun c => ?_)
  · have P := P.1 c
    exact P
  · have P := P.2 c
    exact P

set_option maxHeartbeats 4000000 in
set_option maxRecDepth 100000 in
theorem sX7_meanNow_14 {X : Xt} {n : Nat} {h : HP} {a0 : Nat} {w1 : UInt64} {x3 : Int} {x4 : Int} {fs1 : List Value} {q2 : Nat} {f3 : Nat → Int} {ps5 : List Part} (hc : Cx X cX7_meanNow RX7 5 10 228) {K : KT} (hr : CxR X (some .double) K) (e1 : At h n a0 (.inl (7, fs1))) (z1 : fs1.length = 24) (v1_1 : fs1[1]? = some (.ref q2)) (e3 : At h n q2 (ai 52 f3)) (hP5 : ZPs f3 ps5)
    (P : (Ix 51 52) ∧ (R3 (f3 (51 : Int).toNat)) ∧ (¬ (f3 (51 : Int).toNat) = 1 → Ok X 0 0 57 [(0, .ref a0), (1, .double w1), (3, .int (i3 x3)), (4, .int (i3 x4))] [] n h) ∧ ((f3 (51 : Int).toNat) = 1 → (R3 x4) ∧ ((ps5.any (fun p => atB p x4)) = false → Ok X 0 0 57 [(0, .ref a0), (1, .double w1), (3, .int (i3 x3)), (4, .int (i3 x4))] [] n h) ∧ ((ps5.any (fun p => atB p x4)) = true → spec_X7_present [.ref a0, .int (i3 x4), .int (i3 0)] n h (kc X 0 0 39 [(0, .ref a0), (1, .double w1), (3, .int (i3 x3)), (4, .int (i3 x4))] [.double w1] n)))) :
    Ok X 0 0 14 [(0, .ref a0), (1, .double w1), (3, .int (i3 x3)), (4, .int (i3 x4))] [] n h := by
  refine ok_aload_n (pc := 14) hc dX7_meanNow_14 rfl 0 rfl ?_
  refine ok_get (pc := 15) hc fl_X7_7 dX7_meanNow_15 e1.1 e1.2 v1_1 ?_
  refine ok_bipush (pc := 18) hc (v := i3 51) dX7_meanNow_18 (by decide) ?_
  obtain ⟨r, P⟩ := P
  refine zk_iald (pc := 20) hc dX7_meanNow_20 e3.1 e3.2 r ?_
  refine ok_iconst (pc := 21) hc (v := i3 1) dX7_meanNow_21 (by decide) ?_
  obtain ⟨r4, P⟩ := P
  refine zk_icmp_ne (pc := 22) (tgt := 57) hc dX7_meanNow_22 (by decide) r4 ⟨by decide, by decide⟩ (fun c => ?_) (fun c => ?_)
  · have P := P.1 c
    exact P
  · have P := P.2 c
    refine ok_aload_n (pc := 25) hc dX7_meanNow_25 rfl 0 rfl ?_
    refine ok_iload (pc := 26) hc dX7_meanNow_26 3 rfl ?_
    obtain ⟨r0, P⟩ := P
    refine ok_callV (pc := 28) (a := a0) (cb := 0) (sb := 0) (st := []) hc [.int (i3 x4)] cv_X7_71 sp_X7_isUsed (by decide) dX7_meanNow_28 rfl e1.1 e1.2 rfl rfl rfl (Nat.le_of_ble_eq_true rfl) (⟨_, _, _, _, rfl, ⟨_, _, ⟨e1.1, e1.2⟩, z1, v1_1, ⟨e3.1, e3.2⟩⟩, hP5, r0, rfl, ?_⟩)
    show Ok X 0 0 (28 + 3) [(0, .ref a0), (1, .double w1), (3, .int (i3 x3)), (4, .int (i3 x4))] [.int (i3 (bz (ps5.any (fun p => atB p x4))))] n h
    refine zk_if_eq (pc := 31) (tgt := 57) hc dX7_meanNow_31 (by decide) R3_bz (fun c => ?_) (fun c => ?_)
    · have P := P.1 (bz_0.mp c)
      exact P
    · have P := P.2 (bz_1.mp c)
      refine ok_dload_n (pc := 34) hc dX7_meanNow_34 rfl 1 rfl ?_
      refine ok_aload_n (pc := 35) hc dX7_meanNow_35 rfl 0 rfl ?_
      refine ok_iload (pc := 36) hc dX7_meanNow_36 3 rfl ?_
      refine ok_iconst (pc := 38) hc (v := i3 0) dX7_meanNow_38 (by decide) ?_
      exact ok_callV (pc := 39) (a := a0) (cb := 0) (sb := 0) (st := [.double w1]) hc [.int (i3 x4), .int (i3 0)] cv_X7_231 sp_X7_present (by decide) dX7_meanNow_39 rfl e1.1 e1.2 rfl rfl rfl (Nat.le_of_ble_eq_true rfl) P

set_option maxHeartbeats 4000000 in
set_option maxRecDepth 100000 in
theorem sX7_meanNow_42 {X : Xt} {n : Nat} {h : HP} {a0 : Nat} {w1 : UInt64} {x3 : Int} {x4 : Int} {tl0 : Int} {td1 : UInt64} {fs1 : List Value} (hc : Cx X cX7_meanNow RX7 5 10 228) {K : KT} (hr : CxR X (some .double) K) (e1 : At h n a0 (.inl (7, fs1))) (z1 : fs1.length = 24)
    (P : spec_X7_present [.ref a0, .int (i3 x4), .int (i3 1)] n h (kc X 0 0 47 [(0, .ref a0), (1, .double w1), (3, .int (i3 x3)), (4, .int (i3 x4))] [.double (FP.l2d (i6 tl0)), .double td1] n)) :
    Ok X 0 0 42 [(0, .ref a0), (1, .double w1), (3, .int (i3 x3)), (4, .int (i3 x4))] [.long (i6 tl0), .double td1] n h := by
  refine ok_l2d (pc := 42) hc dX7_meanNow_42 ?_
  refine ok_aload_n (pc := 43) hc dX7_meanNow_43 rfl 0 rfl ?_
  refine ok_iload (pc := 44) hc dX7_meanNow_44 3 rfl ?_
  refine ok_iconst (pc := 46) hc (v := i3 1) dX7_meanNow_46 (by decide) ?_
  exact ok_callV (pc := 47) (a := a0) (cb := 0) (sb := 0) (st := [.double (FP.l2d (i6 tl0)), .double td1]) hc [.int (i3 x4), .int (i3 1)] cv_X7_231 sp_X7_present (by decide) dX7_meanNow_47 rfl e1.1 e1.2 rfl rfl rfl (Nat.le_of_ble_eq_true rfl) P

set_option maxHeartbeats 4000000 in
set_option maxRecDepth 100000 in
theorem sX7_meanNow_50 {X : Xt} {n : Nat} {h : HP} {a0 : Nat} {w1 : UInt64} {x3 : Int} {x4 : Int} {tl0 : Int} {td1 : UInt64} {td2 : UInt64} (hc : Cx X cX7_meanNow RX7 5 10 228) {K : KT} (hr : CxR X (some .double) K) 
    (P : (vf_n64 (FP.ddiv td1 (FP.l2d (i6 tl0)))) ∧ (vf_n64 (FP.dadd td2 (FP.ddiv td1 (FP.l2d (i6 tl0))))) ∧ Ok X 0 0 57 [(0, .ref a0), (1, .double (FP.dadd td2 (FP.ddiv td1 (FP.l2d (i6 tl0))))), (3, .int (i3 (x3 + 1))), (4, .int (i3 x4))] [] n h) :
    Ok X 0 0 50 [(0, .ref a0), (1, .double w1), (3, .int (i3 x3)), (4, .int (i3 x4))] [.long (i6 tl0), .double td1, .double td2] n h := by
  refine ok_l2d (pc := 50) hc dX7_meanNow_50 ?_
  obtain ⟨r, P⟩ := P
  refine ok_ddiv (pc := 51) hc dX7_meanNow_51 r ?_
  obtain ⟨r, P⟩ := P
  refine ok_dadd (pc := 52) hc dX7_meanNow_52 r ?_
  refine ok_dstore_n (pc := 53) hc (lv' := [(1, .double (FP.dadd td2 (FP.ddiv td1 (FP.l2d (i6 tl0))))), (0, .ref a0), (3, .int (i3 x3)), (4, .int (i3 x4))]) dX7_meanNow_53 rfl (by decide) rfl ?_
  refine zk_iinc (pc := 54) hc (q := 2) (x := x3) (lv' := [(3, .int (i3 (x3 + 1))), (1, .double (FP.dadd td2 (FP.ddiv td1 (FP.l2d (i6 tl0))))), (0, .ref a0), (4, .int (i3 x4))]) dX7_meanNow_54 rfl (by decide) rfl ?_
  refine ok_lv [2, 1, 0, 3] rfl ?_
  exact P

set_option maxHeartbeats 4000000 in
set_option maxRecDepth 100000 in
theorem sX7_meanNow_57 {X : Xt} {n : Nat} {h : HP} {a0 : Nat} {w1 : UInt64} {x3 : Int} {x4 : Int} (hc : Cx X cX7_meanNow RX7 5 10 228) {K : KT} (hr : CxR X (some .double) K) 
    (P : Ok X 0 0 7 [(0, .ref a0), (1, .double w1), (3, .int (i3 x3)), (4, .int (i3 (x4 + 1)))] [] n h) :
    Ok X 0 0 57 [(0, .ref a0), (1, .double w1), (3, .int (i3 x3)), (4, .int (i3 x4))] [] n h := by
  refine zk_iinc (pc := 57) hc (q := 3) (x := x4) (lv' := [(4, .int (i3 (x4 + 1))), (0, .ref a0), (1, .double w1), (3, .int (i3 x3))]) dX7_meanNow_57 rfl (by decide) rfl ?_
  refine ok_goto (pc := 60) (tgt := 7) hc dX7_meanNow_60 (by decide) ?_
  refine ok_lv [1, 2, 3, 0] rfl ?_
  exact P

set_option maxHeartbeats 4000000 in
set_option maxRecDepth 100000 in
theorem sX7_meanNow_63 {X : Xt} {n : Nat} {h : HP} {a0 : Nat} {w1 : UInt64} {x3 : Int} {x4 : Int} (hc : Cx X cX7_meanNow RX7 5 10 228) {K : KT} (hr : CxR X (some .double) K) 
    (P : (R3 x3) ∧ (¬ x3 = 0 → (vf_n64 (FP.ddiv w1 (FP.i2d (i3 x3)))) ∧ K (.inl (some (.double (FP.ddiv w1 (FP.i2d (i3 x3)))))) n h) ∧ (x3 = 0 → K (.inl (some (.double FP.dconst0))) n h)) :
    Ok X 0 0 63 [(0, .ref a0), (1, .double w1), (3, .int (i3 x3)), (4, .int (i3 x4))] [] n h := by
  refine ok_iload_n (pc := 63) hc dX7_meanNow_63 rfl 2 rfl ?_
  obtain ⟨r1, P⟩ := P
  refine zk_if_ne (pc := 64) (tgt := 71) hc dX7_meanNow_64 (by decide) r1 (fun c => ?_) (fun c => ?_)
  · have P := P.1 c
    refine ok_dload_n (pc := 71) hc dX7_meanNow_71 rfl 1 rfl ?_
    refine ok_iload_n (pc := 72) hc dX7_meanNow_72 rfl 2 rfl ?_
    refine ok_i2d (pc := 73) hc dX7_meanNow_73 ?_
    obtain ⟨r, P⟩ := P
    refine ok_ddiv (pc := 74) hc dX7_meanNow_74 r ?_
    exact ok_dret (st := []) (pc := 75) hc hr dX7_meanNow_75 P
  · have P := P.2 c
    refine ok_dconst0 (pc := 67) hc dX7_meanNow_67 ?_
    refine ok_goto (pc := 68) (tgt := 75) hc dX7_meanNow_68 (by decide) ?_
    exact ok_dret (st := []) (pc := 75) hc hr dX7_meanNow_75 P

def spec_X7_meanNow (args : List Value) (n : Nat) (h : HP) (K : KT) : Prop := ∃ (I : Nat → Int) (F : Nat → Nat → Int) (q : Dsk), args = [.ref 128] ∧ MAt h n I F ∧ ZSt (F 1) q.1 ∧ GdS q.1 ∧ StOk q.1 ∧ ∀ (h' : HP) (I' : Nat → Int) (F' : Nat → Nat → Int), MAt h' n I' F' → KpI I I' → KpF F F' → Fr h h' 128 138 → K (.inl (some (.double (meanD q)))) n h'
theorem sp_X7_meanNow : Sp yX7_meanNow cX7_meanNow 5 (some .double) 10 228 0 0 spec_X7_meanNow := by
  refine sp_intro (by decide) (by rintro args n h K ⟨I, F, q, rfl, -⟩; exact Nat.le_of_ble_eq_true rfl) ?_
  rintro X args n h K hc hr ⟨I, F, q, rfl, hM0, hZ, hG, hO, kk⟩
  have hP := hZ.1
  have e51 : F 1 (51 : Int).toNat = q.1.2.2.2 := hZ.2.2.2
  have hpw : ∀ p ∈ q.1.1, PW p := fun p hp => (hG.1.2.2.1 p hp).1
  have hst := hG.2.2.2
  refine sX7_meanNow_0 hc hr ?_
  by_cases hs : q.1.2.2.2 = 0
  · -- not settled: nothing is added
    have em : meanD q = FP.dconst0 := by unfold meanD; rw [if_pos hs]
    rw [em] at kk
    have L : ∀ (j k : Nat), k + j = 7 → Ok X 0 0 7 [(0, .ref 128), (1, .double FP.dconst0), (3, .int (i3 0)), (4, .int (i3 k))] [] n h := by
      intro j
      induction j with
      | zero =>
        intro k hk
        exact sX7_meanNow_7 hc hr ⟨R3_s (by omega), fun _ => sX7_meanNow_63 hc hr ⟨R3_0, fun z => absurd rfl z, fun _ => kk h I F hM0 KpI.rf KpF.rf Fr.rf⟩, fun z => absurd (by omega) z⟩
      | succ j ih =>
        intro k hk
        refine sX7_meanNow_7 hc hr ⟨R3_s (by omega), fun z => absurd z (by omega), fun _ => sX7_meanNow_14 hc hr hM0.o rfl rfl hM0.z hP ?_⟩
        rw [e51]
        exact ⟨⟨by decide, by decide, by decide⟩, R3_s (by omega), fun _ => sX7_meanNow_57 hc hr (ih (k + 1) (by omega)), fun z => absurd z (by omega)⟩
    exact L 6 1 rfl
  · have hs1 : q.1.2.2.2 = 1 := by omega
    have hr7 := nodesN_r (usedM q.1.1)
    have hu := fun j hj => used_con (ps := q.1.1) hpw (j := j) hj
    have hb0 : bcon (usedM q.1.1) ((0 : Nat) : Int) = 0 := by
      have := hu 0 (by omega)
      rw [if_neg (fun z => z.1 rfl)] at this
      exact this
    have L : ∀ (j i : Nat) (w : UInt64) (hh : HP) (I2 : Nat → Int) (F2 : Nat → Nat → Int), i + j = 6 → meanN q (usedM q.1.1) j (i + 1) w = meanN q (usedM q.1.1) 6 1 FP.dconst0 → (nodesN (usedM q.1.1) = 0 ∨ MnOk q (usedM q.1.1) j (i + 1) w) → MAt hh n I2 F2 → KpI I I2 → KpF F F2 → Fr h hh 128 138 → Ok X 0 0 7 [(0, .ref 128), (1, .double w), (3, .int (i3 (sumN (fun j => bcon (usedM q.1.1) j) (i + 1)))), (4, .int (i3 ((i : Int) + 1)))] [] n hh := by
      intro j
      induction j with
      | zero =>
        intro i w hh I2 F2 hi hm ho hM kI kF hf
        have : i = 6 := by omega
        subst this
        have hm' : w = meanN q (usedM q.1.1) 6 1 FP.dconst0 := hm
        have kk := kk hh I2 F2 hM kI kF hf
        unfold meanD at kk
        rw [if_neg hs, ← hm'] at kk
        have es : sumN (fun j => bcon (usedM q.1.1) j) (6 + 1) = nodesN (usedM q.1.1) := rfl
        rw [es]
        refine sX7_meanNow_7 hc hr ⟨R3_s (by omega), fun _ => sX7_meanNow_63 hc hr ⟨R3_s (by omega), fun z => ?_, fun z => ?_⟩, fun z => absurd (by omega) z⟩
        · rw [if_neg z] at kk
          exact ⟨ho.resolve_left z, kk⟩
        · rw [if_pos z] at kk
          exact kk
      | succ j ih =>
        intro i w hh I2 F2 hi hm ho hM kI kF hf
        have h11 : F2 1 = F 1 := kF 1 (by omega)
        have hZ2 : ZSt (F2 1) q.1 := by rw [h11]; exact hZ
        have e51' : F2 1 (51 : Int).toNat = q.1.2.2.2 := hZ2.2.2.2
        have hm2 : meanN q (usedM q.1.1) j (i + 1 + 1) (if bcon (usedM q.1.1) ((i + 1 : Nat) : Int) = 0 then w else FP.dadd w (vD q (i + 1))) = meanN q (usedM q.1.1) 6 1 FP.dconst0 := hm
        have hk := hu ((i + 1 : Nat) : Int) (by omega)
        have es : sumN (fun j => bcon (usedM q.1.1) j) (i + 1 + 1) = sumN (fun j => bcon (usedM q.1.1) j) (i + 1) + bcon (usedM q.1.1) ((i + 1 : Nat) : Int) := rfl
        refine sX7_meanNow_7 hc hr ⟨R3_s (by omega), fun z => absurd z (by omega), fun _ => sX7_meanNow_14 hc hr hM.o rfl rfl hM.z hZ2.1 ?_⟩
        rw [e51']
        refine ⟨⟨by decide, by decide, by decide⟩, R3_s (by omega), fun z => absurd hs1 z, fun _ => ⟨R3_s (by omega), fun z => ?_, fun z => ?_⟩⟩
        · have hb : bcon (usedM q.1.1) ((i + 1 : Nat) : Int) = 0 := by
            rw [hk, if_neg (fun x => by rw [show (((i + 1 : Nat) : Int)) = (i : Int) + 1 by omega, z] at x; exact absurd x.2 (by decide))]
          rw [if_pos hb] at hm2
          have := ih (i + 1) w hh I2 F2 (by omega) hm2 (by
            rcases ho with o | o | o
            · exact Or.inl o
            · exact Or.inr o.2
            · exact absurd hb o.1) hM kI kF hf
          rw [es, hb, Int.add_zero] at this
          exact sX7_meanNow_57 hc hr this
        · have hb : bcon (usedM q.1.1) ((i + 1 : Nat) : Int) = 1 := by
            rw [hk, if_pos ⟨by omega, by rw [show (((i + 1 : Nat) : Int)) = (i : Int) + 1 by omega]; exact z⟩]
          rw [if_neg (show ¬ bcon (usedM q.1.1) ((i + 1 : Nat) : Int) = 0 by omega)] at hm2
          have hv : vf_n64 (vD q (i + 1)) := (vD_gd hG hO hs1 (k := i + 1) (by omega) (by omega)).nn
          have ho' : vf_n64 (FP.dadd w (vD q (i + 1))) ∧ (nodesN (usedM q.1.1) = 0 ∨ MnOk q (usedM q.1.1) j (i + 1 + 1) (FP.dadd w (vD q (i + 1)))) := by
            have hn : nodesN (usedM q.1.1) ≠ 0 := by
              intro y
              have : ∀ (m : Int) (N : Nat), i + 1 < N → 1 ≤ sumN (fun j => bcon m j) N ∨ bcon m ((i + 1 : Nat) : Int) = 0 := by
                intro m N hN
                have nn : ∀ N, 0 ≤ sumN (fun j => bcon m j) N := by
                  intro N
                  induction N with
                  | zero => exact Int.le_refl _
                  | succ N ih =>
                    have e : sumN (fun j => bcon m j) (N + 1) = sumN (fun j => bcon m j) N + bcon m N := rfl
                    have := bcon01 m N
                    omega
                induction N with
                | zero => omega
                | succ N ih =>
                  have e : sumN (fun j => bcon m j) (N + 1) = sumN (fun j => bcon m j) N + bcon m N := rfl
                  have b := bcon01 m N
                  have c := nn N
                  by_cases x : i + 1 = N
                  · subst x
                    omega
                  · have := ih (by omega)
                    omega
              have := this (usedM q.1.1) 7 (by omega)
              have e : nodesN (usedM q.1.1) = sumN (fun j => bcon (usedM q.1.1) j) 7 := rfl
              omega
            rcases ho with o | o | o
            · exact absurd o hn
            · exact absurd o.1 (by omega)
            · exact ⟨o.2.2.1, Or.inr o.2.2.2⟩
          refine ⟨I2, F2, q.1, ((i : Int) + 1), 0, rfl, hM, hZ2, hG, by omega, R3_0, fun h3 I3 F3 hM3 hI3 hF3 f3 => ⟨rfl, ?_⟩⟩
          have hZ3 : ZSt (F3 1) q.1 := by rw [hF3 1 (by omega)]; exact hZ2
          refine sX7_meanNow_42 hc hr hM3.o rfl ⟨I3, F3, q.1, ((i : Int) + 1), 1, rfl, hM3, hZ3, hG, by omega, R3_s (by omega), fun h4 I4 F4 hM4 hI4 hF4 f4 => ⟨rfl, ?_⟩⟩
          have ev : FP.ddiv (FP.l2d (i6 (nowV q.1 ((i : Int) + 1) 0))) (FP.l2d (i6 (nowV q.1 ((i : Int) + 1) 1))) = vD q (i + 1) := by
            unfold vD
            rw [volt_now (by omega) (Or.inl rfl), volt_now (by omega) (Or.inr rfl)]
            rfl
          refine sX7_meanNow_50 hc hr ?_
          rw [ev]
          refine ⟨hv, ho'.1, sX7_meanNow_57 hc hr ?_⟩
          have := ih (i + 1) (FP.dadd w (vD q (i + 1))) h4 I4 F4 (by omega) hm2 ho'.2 hM4 (fun k a b c => (hI4 k a b c).trans ((hI3 k a b c).trans (kI k a b c))) (kF.tr (hF3.tr hF4)) ((hf.tr f3).tr f4)
          rw [es, hb] at this
          exact this
    have l0 := L 6 0 FP.dconst0 h I F rfl rfl (by
      by_cases z : nodesN (usedM q.1.1) = 0
      · exact Or.inl z
      · exact Or.inr (mn_all hG hO hs z)) hM0 KpI.rf KpF.rf Fr.rf
    rw [show sumN (fun j => bcon (usedM q.1.1) j) (0 + 1) = 0 + bcon (usedM q.1.1) ((0 : Nat) : Int) from rfl, hb0] at l0
    exact l0
set_option maxHeartbeats 4000000 in
set_option maxRecDepth 100000 in
theorem sX7_meanVoltage_0 {X : Xt} {n : Nat} {h : HP} {a0 : Nat} {fs1 : List Value} (hc : Cx X cX7_meanVoltage RX7 1 11 252) {K : KT} (hr : CxR X (some .double) K) (e1 : At h n a0 (.inl (7, fs1))) (z1 : fs1.length = 24)
    (P : spec_X7_meanNow [.ref a0] n (va_up h a0 (.inl (7, (fs1.set 0 (.int (i3 0)))))) (kc X 0 0 6 [(0, .ref a0)] [] n)) :
    Ok X 0 0 0 [(0, .ref a0)] [] n h := by
  refine ok_aload_n (pc := 0) hc dX7_meanVoltage_0 rfl 0 rfl ?_
  refine ok_iconst (pc := 1) hc (v := i3 0) dX7_meanVoltage_1 (by decide) ?_
  refine ok_put (pc := 2) hc fl_X7_41 dX7_meanVoltage_2 e1.1 e1.2 (by simp [List.length_set, z1]) (fun _ => rfl) (fun _ => rfl) ?_
  refine ok_aload_n (pc := 5) hc dX7_meanVoltage_5 rfl 0 rfl ?_
  exact ok_callV (pc := 6) (a := a0) (cb := 0) (sb := 0) (st := []) hc [] cv_X7_260 sp_X7_meanNow (by decide) dX7_meanVoltage_6 rfl e1.1 up_self rfl rfl rfl (Nat.le_of_ble_eq_true rfl) P

set_option maxHeartbeats 4000000 in
set_option maxRecDepth 100000 in
theorem sX7_meanVoltage_9 {X : Xt} {n : Nat} {h : HP} {a0 : Nat} {td0 : UInt64} (hc : Cx X cX7_meanVoltage RX7 1 11 252) {K : KT} (hr : CxR X (some .double) K) 
    (P : K (.inl (some (.double td0))) n h) :
    Ok X 0 0 9 [(0, .ref a0)] [.double td0] n h := by
  exact ok_dret (st := []) (pc := 9) hc hr dX7_meanVoltage_9 P

def spec_X7_meanVoltage (args : List Value) (n : Nat) (h : HP) (K : KT) : Prop := ∃ (q : Dsk) (t : Int), args = [.ref 128] ∧ MdA h n q t ∧ ∀ h', MdA h' n q 0 → Fr h h' 128 138 → K (.inl (some (.double (meanD q)))) n h'
theorem sp_X7_meanVoltage : Sp yX7_meanVoltage cX7_meanVoltage 1 (some .double) 11 252 0 0 spec_X7_meanVoltage := by
  refine sp_intro (by decide) (by rintro args n h K ⟨q, t, rfl, -⟩; exact Nat.le_of_ble_eq_true rfl) ?_
  rintro X args n h K hc hr ⟨q, t, rfl, ⟨I, F, hM, hF, -, hGq, hOq⟩, kk⟩
  refine sX7_meanVoltage_0 hc hr hM.o rfl ⟨va_up I 0 0, F, q, rfl, hM.uo (va_up I 0 0), hF.1, hGq.1, hOq.1, fun h1 I1 F1 hM1 hI1 hF1 f1 => ⟨rfl, sX7_meanVoltage_9 hc hr ?_⟩⟩
  exact kk h1 (MdA.rd hM1 hF hI1.R hF1 hGq hOq) ((Fr.rf.up (by omega)).tr f1)
