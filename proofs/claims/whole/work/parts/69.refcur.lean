/-! part 69: the reference: currents -/
def othN (p : Part) (k : Int) : Int := if p.2.1 = k then p.2.2.1 else p.2.1
def kclS (k : Nat) (ρ : Nat → Int) (p : Part) : Nat → Int := if p.1 = 0 ∧ atB p k = true then fun q => (-p.2.2.2) * lb_d (some (othN p k).toNat) q + (fun q => p.2.2.2 * lb_d (some k) q + ρ q) q else ρ
/-- the sum of the currents at a node, as a row -/
def kclR (ps : List Part) (k : Nat) : Nat → Int := ps.foldl (kclS k) (fun _ => 0)
theorem kclR_s {ps : List Part} {i k : Nat} {p : Part} (h : ps[i]? = some p) : kclR (ps.take (i + 1)) k = kclS k (kclR (ps.take i) k) p := by
  unfold kclR
  rw [take_s h, List.foldl_append]
  rfl
theorem oth_src {ps : List Part} {i : Nat} {p : Part} {k o : Nat} (hp : ps[i]? = some p) (ha : atB p o = true) : o = 0 ∨ frF ps o = true ∨ srcI ps o ≠ -1 := by
  by_cases c : o = 0
  · exact Or.inl c
  · by_cases d : srcI ps o = -1
    · right
      left
      show freeB ps o = true
      unfold freeB
      rw [decide_eq_true (by omega), decide_eq_true d, List.any_eq_true.mpr ⟨p, List.mem_of_getElem? hp, ha⟩]
      rfl
    · exact Or.inr (Or.inr d)
set_option maxHeartbeats 4000000 in
set_option maxRecDepth 100000 in
theorem sX7_currents_0 {X : Xt} {n : Nat} {h : HP} {a0 : Nat} {x1 : Int} {x2 : Int} (hc : Cx X cX7_currents RX7 5 4 91) {K : KT} (hr : CxR X none K) 
    (P : Ok X 0 0 2 [(0, .ref a0), (1, .int (i3 x1)), (2, .int (i3 x2)), (3, .int (i3 0))] [] n h) :
    Ok X 0 0 0 [(0, .ref a0), (1, .int (i3 x1)), (2, .int (i3 x2))] [] n h := by
  refine ok_iconst (pc := 0) hc (v := i3 0) dX7_currents_0 (by decide) ?_
  refine ok_istore_n (pc := 1) hc (lv' := [(3, .int (i3 0)), (0, .ref a0), (1, .int (i3 x1)), (2, .int (i3 x2))]) dX7_currents_1 rfl (by decide) rfl ?_
  refine ok_lv [1, 2, 3, 0] rfl ?_
  exact P

set_option maxHeartbeats 4000000 in
set_option maxRecDepth 100000 in
theorem sX7_currents_2 {X : Xt} {n : Nat} {h : HP} {a0 : Nat} {x1 : Int} {x2 : Int} {x3 : Int} {fs1 : List Value} {q2 : Nat} {len3 : Nat} {f3 : Nat → Int} (hc : Cx X cX7_currents RX7 5 4 91) {K : KT} (hr : CxR X none K) (e1 : At h n a0 (.inl (7, fs1))) (z1 : fs1.length = 24) (v1_1 : fs1[1]? = some (.ref q2)) (e3 : At h n q2 (ai len3 f3))
    (P : (Ix 48 len3) ∧ (R3 x3) ∧ (R3 (f3 (48 : Int).toNat)) ∧ ((f3 (48 : Int).toNat) ≤ x3 → Ok X 0 0 92 [(0, .ref a0), (1, .int (i3 x1)), (2, .int (i3 x2)), (3, .int (i3 x3))] [] n h) ∧ (¬ (f3 (48 : Int).toNat) ≤ x3 → Ok X 0 0 13 [(0, .ref a0), (1, .int (i3 x1)), (2, .int (i3 x2)), (3, .int (i3 x3))] [] n h)) :
    Ok X 0 0 2 [(0, .ref a0), (1, .int (i3 x1)), (2, .int (i3 x2)), (3, .int (i3 x3))] [] n h := by
  refine ok_iload_n (pc := 2) hc dX7_currents_2 rfl 3 rfl ?_
  refine ok_aload_n (pc := 3) hc dX7_currents_3 rfl 0 rfl ?_
  refine ok_get (pc := 4) hc fl_X7_7 dX7_currents_4 e1.1 e1.2 v1_1 ?_
  refine ok_bipush (pc := 7) hc (v := i3 48) dX7_currents_7 (by decide) ?_
  obtain ⟨r, P⟩ := P
  refine zk_iald (pc := 9) hc dX7_currents_9 e3.1 e3.2 r ?_
  obtain ⟨r4, P⟩ := P
  obtain ⟨r5, P⟩ := P
  refine zk_icmp_ge (pc := 10) (tgt := 92) hc dX7_currents_10 (by decide) r4 r5 (fun c => ?_) (fun c => ?_)
  · have P := P.1 c
    exact P
  · have P := P.2 c
    exact P

set_option maxHeartbeats 4000000 in
set_option maxRecDepth 100000 in
theorem sX7_currents_13 {X : Xt} {n : Nat} {h : HP} {a0 : Nat} {x1 : Int} {x2 : Int} {x3 : Int} {fs1 : List Value} {q2 : Nat} {f3 : Nat → Int} {ps4 : List Part} (hc : Cx X cX7_currents RX7 5 4 91) {K : KT} (hr : CxR X none K) (e1 : At h n a0 (.inl (7, fs1))) (z1 : fs1.length = 24) (v1_1 : fs1[1]? = some (.ref q2)) (e3 : At h n q2 (ai 52 f3)) (hP4 : ZPs f3 ps4)
    (P : ((0 ≤ (4 : Int) * x3 ∧ (4 : Int) * x3 < 52) ∧ R3 0 ∧ R3 (f3 (4 * x3 : Int).toNat)) ∧ (¬ f3 (4 * x3 : Int).toNat = 0 → Ok X 0 0 86 [(0, .ref a0), (1, .int (i3 x1)), (2, .int (i3 x2)), (3, .int (i3 x3))] [] n h) ∧ (f3 (4 * x3 : Int).toNat = 0 → ((0 ≤ x3 ∧ x3 < ps4.length) ∧ R3 x1) ∧ ((atB (pAt ps4 x3) x1) = false → Ok X 0 0 86 [(0, .ref a0), (1, .int (i3 x1)), (2, .int (i3 x2)), (3, .int (i3 x3))] [] n h) ∧ ((atB (pAt ps4 x3) x1) = true → Ok X 0 0 31 [(0, .ref a0), (1, .int (i3 x1)), (2, .int (i3 x2)), (3, .int (i3 x3))] [] n h))) :
    Ok X 0 0 13 [(0, .ref a0), (1, .int (i3 x1)), (2, .int (i3 x2)), (3, .int (i3 x3))] [] n h := by
  refine ok_aload_n (pc := 13) hc dX7_currents_13 rfl 0 rfl ?_
  refine ok_iload_n (pc := 14) hc dX7_currents_14 rfl 3 rfl ?_
  refine ok_iconst (pc := 15) hc (v := i3 0) dX7_currents_15 (by decide) ?_
  obtain ⟨r0, P⟩ := P
  refine ok_callV (pc := 16) (a := a0) (cb := 0) (sb := 0) (st := []) hc [.int (i3 x3), .int (i3 0)] cv_X7_60 sp_X7_is (by decide) dX7_currents_16 rfl e1.1 e1.2 rfl rfl rfl (Nat.le_of_ble_eq_true rfl) (⟨_, _, _, _, rfl, ⟨_, _, ⟨e1.1, e1.2⟩, z1, v1_1, ⟨e3.1, e3.2⟩⟩, r0.1, r0.2.1, r0.2.2, rfl, ?_⟩)
  show Ok X 0 0 (16 + 3) [(0, .ref a0), (1, .int (i3 x1)), (2, .int (i3 x2)), (3, .int (i3 x3))] [.int (i3 (isZ f3 x3 0))] n h
  refine zk_if_eq (pc := 19) (tgt := 86) hc dX7_currents_19 (by decide) R3_isZ (fun c => ?_) (fun c => ?_)
  · have P := P.1 (isZ_0.mp c)
    exact P
  · have P := P.2 (isZ_1.mp c)
    refine ok_aload_n (pc := 22) hc dX7_currents_22 rfl 0 rfl ?_
    refine ok_iload_n (pc := 23) hc dX7_currents_23 rfl 3 rfl ?_
    refine ok_iload_n (pc := 24) hc dX7_currents_24 rfl 1 rfl ?_
    obtain ⟨r0, P⟩ := P
    refine ok_callV (pc := 25) (a := a0) (cb := 0) (sb := 0) (st := []) hc [.int (i3 x3), .int (i3 x1)] cv_X7_68 sp_X7_isAt (by decide) dX7_currents_25 rfl e1.1 e1.2 rfl rfl rfl (Nat.le_of_ble_eq_true rfl) (⟨_, (x3 : Int).toNat, _, _, pAt ps4 x3, _, (by rw [Int.toNat_of_nonneg r0.1.1]), ⟨_, _, ⟨e1.1, e1.2⟩, z1, v1_1, ⟨e3.1, e3.2⟩⟩, hP4, pAt_some r0.1, r0.2, rfl, ?_⟩)
    show Ok X 0 0 (25 + 3) [(0, .ref a0), (1, .int (i3 x1)), (2, .int (i3 x2)), (3, .int (i3 x3))] [.int (i3 (bz (atB (pAt ps4 x3) x1)))] n h
    refine zk_if_eq (pc := 28) (tgt := 86) hc dX7_currents_28 (by decide) R3_bz (fun c => ?_) (fun c => ?_)
    · have P := P.1 (bz_0.mp c)
      exact P
    · have P := P.2 (bz_1.mp c)
      exact P

set_option maxHeartbeats 4000000 in
set_option maxRecDepth 100000 in
theorem sX7_currents_31 {X : Xt} {n : Nat} {h : HP} {a0 : Nat} {x1 : Int} {x2 : Int} {x3 : Int} {fs1 : List Value} {q2 : Nat} {f3 : Nat → Int} (hc : Cx X cX7_currents RX7 5 4 91) {K : KT} (hr : CxR X none K) (e1 : At h n a0 (.inl (7, fs1))) (z1 : fs1.length = 24) (v1_1 : fs1[1]? = some (.ref q2)) (e3 : At h n q2 (ai 52 f3))
    (P : (0 ≤ (4 : Int) * x3 + 1 ∧ (4 : Int) * x3 + 1 < 52) ∧ (R3 (f3 (4 * x3 + 1 : Int).toNat)) ∧ (R3 x1) ∧ (¬ (f3 (4 * x3 + 1 : Int).toNat) = x1 → (0 ≤ (4 : Int) * x3 + 1 ∧ (4 : Int) * x3 + 1 < 52) ∧ Ok X 0 0 56 [(0, .ref a0), (1, .int (i3 x1)), (2, .int (i3 x2)), (3, .int (i3 x3))] [.int (i3 (f3 (4 * x3 + 1 : Int).toNat))] n h) ∧ ((f3 (4 * x3 + 1 : Int).toNat) = x1 → (0 ≤ (4 : Int) * x3 + 2 ∧ (4 : Int) * x3 + 2 < 52) ∧ Ok X 0 0 56 [(0, .ref a0), (1, .int (i3 x1)), (2, .int (i3 x2)), (3, .int (i3 x3))] [.int (i3 (f3 (4 * x3 + 2 : Int).toNat))] n h)) :
    Ok X 0 0 31 [(0, .ref a0), (1, .int (i3 x1)), (2, .int (i3 x2)), (3, .int (i3 x3))] [] n h := by
  refine ok_aload_n (pc := 31) hc dX7_currents_31 rfl 0 rfl ?_
  refine ok_iload_n (pc := 32) hc dX7_currents_32 rfl 3 rfl ?_
  refine ok_iconst (pc := 33) hc (v := i3 1) dX7_currents_33 (by decide) ?_
  obtain ⟨r0, P⟩ := P
  refine ok_callV (pc := 34) (a := a0) (cb := 0) (sb := 0) (st := []) hc [.int (i3 x3), .int (i3 1)] cv_X7_49 sp_X7_of (by decide) dX7_currents_34 rfl e1.1 e1.2 rfl rfl rfl (Nat.le_of_ble_eq_true rfl) (⟨_, _, _, _, rfl, ⟨_, _, ⟨e1.1, e1.2⟩, z1, v1_1, ⟨e3.1, e3.2⟩⟩, r0, rfl, ?_⟩)
  show Ok X 0 0 (34 + 3) [(0, .ref a0), (1, .int (i3 x1)), (2, .int (i3 x2)), (3, .int (i3 x3))] [.int (i3 (f3 (4 * x3 + 1 : Int).toNat))] n h
  refine ok_iload_n (pc := 37) hc dX7_currents_37 rfl 1 rfl ?_
  obtain ⟨r4, P⟩ := P
  obtain ⟨r5, P⟩ := P
  refine zk_icmp_ne (pc := 38) (tgt := 50) hc dX7_currents_38 (by decide) r4 r5 (fun c => ?_) (fun c => ?_)
  · have P := P.1 c
    refine ok_aload_n (pc := 50) hc dX7_currents_50 rfl 0 rfl ?_
    refine ok_iload_n (pc := 51) hc dX7_currents_51 rfl 3 rfl ?_
    refine ok_iconst (pc := 52) hc (v := i3 1) dX7_currents_52 (by decide) ?_
    obtain ⟨r0, P⟩ := P
    refine ok_callV (pc := 53) (a := a0) (cb := 0) (sb := 0) (st := []) hc [.int (i3 x3), .int (i3 1)] cv_X7_49 sp_X7_of (by decide) dX7_currents_53 rfl e1.1 e1.2 rfl rfl rfl (Nat.le_of_ble_eq_true rfl) (⟨_, _, _, _, rfl, ⟨_, _, ⟨e1.1, e1.2⟩, z1, v1_1, ⟨e3.1, e3.2⟩⟩, r0, rfl, ?_⟩)
    show Ok X 0 0 (53 + 3) [(0, .ref a0), (1, .int (i3 x1)), (2, .int (i3 x2)), (3, .int (i3 x3))] [.int (i3 (f3 (4 * x3 + 1 : Int).toNat))] n h
    exact P
  · have P := P.2 c
    refine ok_aload_n (pc := 41) hc dX7_currents_41 rfl 0 rfl ?_
    refine ok_iload_n (pc := 42) hc dX7_currents_42 rfl 3 rfl ?_
    refine ok_iconst (pc := 43) hc (v := i3 2) dX7_currents_43 (by decide) ?_
    obtain ⟨r0, P⟩ := P
    refine ok_callV (pc := 44) (a := a0) (cb := 0) (sb := 0) (st := []) hc [.int (i3 x3), .int (i3 2)] cv_X7_49 sp_X7_of (by decide) dX7_currents_44 rfl e1.1 e1.2 rfl rfl rfl (Nat.le_of_ble_eq_true rfl) (⟨_, _, _, _, rfl, ⟨_, _, ⟨e1.1, e1.2⟩, z1, v1_1, ⟨e3.1, e3.2⟩⟩, r0, rfl, ?_⟩)
    show Ok X 0 0 (44 + 3) [(0, .ref a0), (1, .int (i3 x1)), (2, .int (i3 x2)), (3, .int (i3 x3))] [.int (i3 (f3 (4 * x3 + 2 : Int).toNat))] n h
    refine ok_goto (pc := 47) (tgt := 56) hc dX7_currents_47 (by decide) ?_
    exact P

set_option maxHeartbeats 4000000 in
set_option maxRecDepth 100000 in
theorem sX7_currents_56 {X : Xt} {n : Nat} {h : HP} {a0 : Nat} {x1 : Int} {x2 : Int} {x3 : Int} {t0 : Int} {fs1 : List Value} {q2 : Nat} {f3 : Nat → Int} (hc : Cx X cX7_currents RX7 5 4 91) {K : KT} (hr : CxR X none K) (e1 : At h n a0 (.inl (7, fs1))) (z1 : fs1.length = 24) (v1_1 : fs1[1]? = some (.ref q2)) (e3 : At h n q2 (ai 52 f3))
    (P : (0 ≤ (4 : Int) * x3 + 3 ∧ (4 : Int) * x3 + 3 < 52) ∧ (R3 (f3 (4 * x3 + 3 : Int).toNat)) ∧ spec_X7_addTo [.ref a0, .int (i3 x1), .long (i6 (f3 (4 * x3 + 3 : Int).toNat)), .int (i3 x2)] n h (kc X 0 0 68 [(0, .ref a0), (1, .int (i3 x1)), (2, .int (i3 x2)), (3, .int (i3 x3)), (4, .int (i3 t0))] [] n)) :
    Ok X 0 0 56 [(0, .ref a0), (1, .int (i3 x1)), (2, .int (i3 x2)), (3, .int (i3 x3))] [.int (i3 t0)] n h := by
  refine ok_istore (pc := 56) hc (lv' := [(4, .int (i3 t0)), (0, .ref a0), (1, .int (i3 x1)), (2, .int (i3 x2)), (3, .int (i3 x3))]) dX7_currents_56 (by decide) rfl ?_
  refine ok_aload_n (pc := 58) hc dX7_currents_58 rfl 1 rfl ?_
  refine ok_iload_n (pc := 59) hc dX7_currents_59 rfl 2 rfl ?_
  refine ok_aload_n (pc := 60) hc dX7_currents_60 rfl 1 rfl ?_
  refine ok_iload_n (pc := 61) hc dX7_currents_61 rfl 4 rfl ?_
  refine ok_iconst (pc := 62) hc (v := i3 3) dX7_currents_62 (by decide) ?_
  obtain ⟨r0, P⟩ := P
  refine ok_callV (pc := 63) (a := a0) (cb := 0) (sb := 0) (st := [.int (i3 x1), .ref a0]) hc [.int (i3 x3), .int (i3 3)] cv_X7_49 sp_X7_of (by decide) dX7_currents_63 rfl e1.1 e1.2 rfl rfl rfl (Nat.le_of_ble_eq_true rfl) (⟨_, _, _, _, rfl, ⟨_, _, ⟨e1.1, e1.2⟩, z1, v1_1, ⟨e3.1, e3.2⟩⟩, r0, rfl, ?_⟩)
  show Ok X 0 0 (63 + 3) [(4, .int (i3 t0)), (0, .ref a0), (1, .int (i3 x1)), (2, .int (i3 x2)), (3, .int (i3 x3))] [.int (i3 (f3 (4 * x3 + 3 : Int).toNat)), .int (i3 x1), .ref a0] n h
  obtain ⟨r4, P⟩ := P
  refine zk_i2l (pc := 66) hc dX7_currents_66 r4 ?_
  refine ok_iload_n (pc := 67) hc dX7_currents_67 rfl 3 rfl ?_
  refine ok_lv [1, 2, 3, 4, 0] rfl ?_
  exact ok_callV (pc := 68) (a := a0) (cb := 0) (sb := 0) (st := []) hc [.int (i3 x1), .long (i6 (f3 (4 * x3 + 3 : Int).toNat)), .int (i3 x2)] cv_X7_88 sp_X7_addTo (by decide) dX7_currents_68 rfl e1.1 e1.2 rfl rfl rfl (Nat.le_of_ble_eq_true rfl) P

set_option maxHeartbeats 4000000 in
set_option maxRecDepth 100000 in
theorem sX7_currents_71 {X : Xt} {n : Nat} {h : HP} {a0 : Nat} {x1 : Int} {x2 : Int} {x3 : Int} {x4 : Int} {fs1 : List Value} {q2 : Nat} {f3 : Nat → Int} (hc : Cx X cX7_currents RX7 5 4 91) {K : KT} (hr : CxR X none K) (e1 : At h n a0 (.inl (7, fs1))) (z1 : fs1.length = 24) (v1_1 : fs1[1]? = some (.ref q2)) (e3 : At h n q2 (ai 52 f3))
    (P : (0 ≤ (4 : Int) * x3 + 3 ∧ (4 : Int) * x3 + 3 < 52) ∧ (R3 (-(f3 (4 * x3 + 3 : Int).toNat))) ∧ spec_X7_addTo [.ref a0, .int (i3 x4), .long (i6 (-(f3 (4 * x3 + 3 : Int).toNat))), .int (i3 x2)] n h (kc X 0 0 83 [(0, .ref a0), (1, .int (i3 x1)), (2, .int (i3 x2)), (3, .int (i3 x3))] [] n)) :
    Ok X 0 0 71 [(0, .ref a0), (1, .int (i3 x1)), (2, .int (i3 x2)), (3, .int (i3 x3)), (4, .int (i3 x4))] [] n h := by
  refine ok_aload_n (pc := 71) hc dX7_currents_71 rfl 0 rfl ?_
  refine ok_iload (pc := 72) hc dX7_currents_72 4 rfl ?_
  refine ok_aload_n (pc := 74) hc dX7_currents_74 rfl 0 rfl ?_
  refine ok_iload_n (pc := 75) hc dX7_currents_75 rfl 3 rfl ?_
  refine ok_iconst (pc := 76) hc (v := i3 3) dX7_currents_76 (by decide) ?_
  obtain ⟨r0, P⟩ := P
  refine ok_callV (pc := 77) (a := a0) (cb := 0) (sb := 0) (st := [.int (i3 x4), .ref a0]) hc [.int (i3 x3), .int (i3 3)] cv_X7_49 sp_X7_of (by decide) dX7_currents_77 rfl e1.1 e1.2 rfl rfl rfl (Nat.le_of_ble_eq_true rfl) (⟨_, _, _, _, rfl, ⟨_, _, ⟨e1.1, e1.2⟩, z1, v1_1, ⟨e3.1, e3.2⟩⟩, r0, rfl, ?_⟩)
  show Ok X 0 0 (77 + 3) [(0, .ref a0), (1, .int (i3 x1)), (2, .int (i3 x2)), (3, .int (i3 x3)), (4, .int (i3 x4))] [.int (i3 (f3 (4 * x3 + 3 : Int).toNat)), .int (i3 x4), .ref a0] n h
  refine zk_ineg (pc := 80) hc dX7_currents_80 ?_
  obtain ⟨r4, P⟩ := P
  refine zk_i2l (pc := 81) hc dX7_currents_81 r4 ?_
  refine ok_iload_n (pc := 82) hc dX7_currents_82 rfl 2 rfl ?_
  refine ok_lv [0, 1, 2, 3] rfl ?_
  exact ok_callV (pc := 83) (a := a0) (cb := 0) (sb := 0) (st := []) hc [.int (i3 x4), .long (i6 (-(f3 (4 * x3 + 3 : Int).toNat))), .int (i3 x2)] cv_X7_88 sp_X7_addTo (by decide) dX7_currents_83 rfl e1.1 e1.2 rfl rfl rfl (Nat.le_of_ble_eq_true rfl) P

set_option maxHeartbeats 4000000 in
set_option maxRecDepth 100000 in
theorem sX7_currents_86 {X : Xt} {n : Nat} {h : HP} {a0 : Nat} {x1 : Int} {x2 : Int} {x3 : Int} (hc : Cx X cX7_currents RX7 5 4 91) {K : KT} (hr : CxR X none K) 
    (P : Ok X 0 0 2 [(0, .ref a0), (1, .int (i3 x1)), (2, .int (i3 x2)), (3, .int (i3 (x3 + 1)))] [] n h) :
    Ok X 0 0 86 [(0, .ref a0), (1, .int (i3 x1)), (2, .int (i3 x2)), (3, .int (i3 x3))] [] n h := by
  refine zk_iinc (pc := 86) hc (q := 3) (x := x3) (lv' := [(3, .int (i3 (x3 + 1))), (0, .ref a0), (1, .int (i3 x1)), (2, .int (i3 x2))]) dX7_currents_86 rfl (by decide) rfl ?_
  refine ok_goto (pc := 89) (tgt := 2) hc dX7_currents_89 (by decide) ?_
  refine ok_lv [1, 2, 3, 0] rfl ?_
  exact P

set_option maxHeartbeats 4000000 in
set_option maxRecDepth 100000 in
theorem sX7_currents_92 {X : Xt} {n : Nat} {h : HP} {a0 : Nat} {x1 : Int} {x2 : Int} {x3 : Int} {fs1 : List Value} {iv2 : Int} (hc : Cx X cX7_currents RX7 5 4 91) {K : KT} (hr : CxR X none K) (e1 : At h n a0 (.inl (7, fs1))) (z1 : fs1.length = 24) (v1_12 : fs1[12]? = some (.int (i3 iv2)))
    (P : K (.inl none) n (va_up h a0 (.inl (7, (fs1.set 12 (.int (i3 (iv2 + 1)))))))) :
    Ok X 0 0 92 [(0, .ref a0), (1, .int (i3 x1)), (2, .int (i3 x2)), (3, .int (i3 x3))] [] n h := by
  refine ok_aload_n (pc := 92) hc dX7_currents_92 rfl 0 rfl ?_
  refine ok_dup (pc := 93) hc dX7_currents_93 rfl ?_
  refine ok_get (pc := 94) hc fl_X7_85 dX7_currents_94 e1.1 e1.2 v1_12 ?_
  refine ok_iconst (pc := 97) hc (v := i3 1) dX7_currents_97 (by decide) ?_
  refine zk_iadd (pc := 98) hc dX7_currents_98 ?_
  refine ok_put (pc := 99) hc fl_X7_85 dX7_currents_99 e1.1 e1.2 (by simp [List.length_set, z1]) (fun _ => rfl) (fun _ => rfl) ?_
  exact ok_vret (st := []) (pc := 102) hc hr dX7_currents_102 P

def spec_X7_currents (args : List Value) (n : Nat) (h : HP) (K : KT) : Prop := ∃ (I : Nat → Int) (F : Nat → Nat → Int) (ps : List Part) (k r : Nat) (off rail : Int), args = [.ref 128, .int (i3 k), .int (i3 off)] ∧ MAt h n I F ∧ ZPs (F 1) ps ∧ (∀ j, j < 7 → F 6 j = colF ps j) ∧ (k < 7 ∧ frF ps k = true ∧ I 12 = r ∧ r < 6) ∧ (off = 0 ∨ off = 1) ∧ RowIs ps (valF ps off rail) (F 7) r (fun _ => 0) ∧ ∀ (h' : HP) (R' : Nat → Int), MAt h' n (va_up I 12 ((r : Int) + 1)) (va_up F 7 R') → RowIs ps (valF ps off rail) R' r (kclR ps k) → (∀ x, x < 7 * r ∨ 7 * r + 7 ≤ x → R' x = F 7 x) → Fr h h' 128 138 → K (.inl none) n h'
theorem sp_X7_currents : Sp yX7_currents cX7_currents 5 none 4 91 0 0 spec_X7_currents := by
  refine sp_intro (by decide) (by rintro args n h K ⟨I, F, ps, k, r, off, rail, rfl, -⟩; exact Nat.le_of_ble_eq_true rfl) ?_
  rintro X args n h K hc hr ⟨I, F, ps, k, r, off, rail, rfl, hM0, hP, hC, ⟨hk, hfk, h12, hr6⟩, hoff, hR0, kk⟩
  have hl := hP.2.1
  have e48 : F 1 (48 : Int).toNat = ps.length := hP.1
  have L : ∀ (j i : Nat) (hh : HP) (R : Nat → Int), i + j = ps.length → MAt hh n I (va_up F 7 R) → RowIs ps (valF ps off rail) R r (kclR (ps.take i) k) → (∀ x, x < 7 * r ∨ 7 * r + 7 ≤ x → R x = F 7 x) → Fr h hh 128 138 → Ok X 0 0 2 [(0, .ref 128), (1, .int (i3 k)), (2, .int (i3 off)), (3, .int (i3 i))] [] n hh := by
    intro j
    induction j with
    | zero =>
      intro i hh R hi hM hR hx hf
      have : i = ps.length := by omega
      subst this
      rw [List.take_length] at hR
      refine sX7_currents_2 hc hr hM.o rfl rfl hM.z ⟨⟨by decide, by decide, by decide⟩, R3_s (by omega), ?_, fun _ => sX7_currents_92 hc hr hM.o rfl rfl ?_, fun c => absurd ?_ c⟩
      · show R3 (F 1 (48 : Int).toNat)
        exact R3_s (by omega)
      · have m1 := hM.uo (va_up I 12 ((r : Int) + 1))
        rw [h12]
        exact kk _ R m1 hR hx (hf.up (by omega))
      · show F 1 (48 : Int).toNat ≤ _
        omega
    | succ j ih =>
      intro i hh R hi hM hR hx hf
      have hp := hP.2.2.1 i (by omega)
      have hz := hP.of hp
      have hpw := hP.2.2.2 _ (List.mem_of_getElem? hp)
      have hb := hpw.b
      generalize hpe : ((F 1 (4 * i), F 1 (4 * i + 1), F 1 (4 * i + 2), F 1 (4 * i + 3)) : Part) = p at hp hpw hb
      have hz := hP.of hp
      have e0 : (4 * (i : Int)).toNat = 4 * i := by omega
      have e1 : (4 * (i : Int) + 1).toNat = 4 * i + 1 := by omega
      have e2 : (4 * (i : Int) + 2).toNat = 4 * i + 2 := by omega
      have e3 : (4 * (i : Int) + 3).toNat = 4 * i + 3 := by omega
      have ep : pAt ps i = p := pAt_of hp
      have skip : ¬ (p.1 = 0 ∧ atB p k = true) → Ok X 0 0 86 [(0, .ref 128), (1, .int (i3 k)), (2, .int (i3 off)), (3, .int (i3 i))] [] n hh := by
        intro c
        have i1 := ih (i + 1) hh R (by omega) hM (by rw [kclR_s hp]; unfold kclS; rw [if_neg c]; exact hR) hx hf
        exact sX7_currents_86 hc hr i1
      refine sX7_currents_2 hc hr hM.o rfl rfl hM.z ⟨⟨by decide, by decide, by decide⟩, R3_s (by omega), ?_, fun c => absurd (show F 1 (48 : Int).toNat ≤ _ from c) (by omega), fun _ => ?_⟩
      · show R3 (F 1 (48 : Int).toNat)
        exact R3_s (by omega)
      refine sX7_currents_13 hc hr hM.o rfl rfl hM.z hP ⟨⟨by omega, ⟨by decide, by decide⟩, ?_⟩, fun c => skip (fun z => c ?_), fun c => ⟨⟨by omega, R3_s (by omega)⟩, fun d => skip (fun z => ?_), fun d => ?_⟩⟩
      · show R3 (F 1 _)
        rw [e0, hz.1]
        exact R3_s (by omega)
      · show F 1 _ = 0
        rw [e0, hz.1]
        exact z.1
      · rw [ep, z.2] at d
        exact absurd d (by decide)
      · have c0 : p.1 = 0 := by
          rw [← hz.1, ← e0]
          exact c
        rw [ep] at d
        have hpw0 : 0 ≤ p.2.1 ∧ p.2.1 ≤ 6 ∧ 0 ≤ p.2.2.1 ∧ p.2.2.1 ≤ 6 ∧ 1 ≤ p.2.2.2 ∧ p.2.2.2 ≤ 4 := by
          unfold PW at hpw
          omega
        have two : ∀ o : Int, o = othN p k → Ok X 0 0 56 [(0, .ref 128), (1, .int (i3 k)), (2, .int (i3 off)), (3, .int (i3 i))] [.int (i3 o)] n hh := by
          intro o ho
          have hor : 0 ≤ o ∧ o ≤ 6 := by
            rw [ho]
            unfold othN
            split <;> omega
          obtain ⟨on, rfl⟩ : ∃ on : Nat, o = on := ⟨o.toNat, by omega⟩
          have eon : (othN p k).toNat = on := by omega
          have hao : atB p on = true := by
            unfold othN at ho
            unfold atB
            by_cases z : p.2.1 = k
            · rw [if_pos z] at ho
              rw [decide_eq_true (show p.2.2.1 = (on : Int) from ho.symm), decide_eq_true (show p.1 ≠ 1 by omega)]
              simp
            · rw [if_neg z] at ho
              rw [decide_eq_true (show p.2.1 = (on : Int) from ho.symm)]
              rfl
          refine sX7_currents_56 hc hr hM.o rfl rfl hM.z ⟨by omega, ?_, I, va_up F 7 R, ps, k, r, p.2.2.2, off, rail, _, ?_, hM, hP, hC, ⟨hk, h12, hr6⟩, hoff, fun _ => Or.inr (Or.inl hfk), hR, fun R1 hR1 hx1 => ⟨rfl, ?_⟩⟩
          · show R3 (F 1 _)
            rw [e3, hz.2.2.2]
            exact R3_s (by omega)
          · show [_, _, Value.long (i6 (F 1 _)), _] = _
            rw [e3, hz.2.2.2]
          · have hM1 : MAt (va_up hh 135 (al 42 R1)) n I (va_up F 7 R1) := hM.uu (j := 7) (by omega) R1
            refine sX7_currents_71 hc hr hM1.o rfl rfl hM1.z ⟨by omega, ?_, I, va_up F 7 R1, ps, on, r, -p.2.2.2, off, rail, _, ?_, hM1, hP, hC, ⟨by omega, h12, hr6⟩, hoff, fun _ => oth_src (k := k) hp hao, hR1, fun R2 hR2 hx2 => ⟨rfl, ?_⟩⟩
            · show R3 (-(F 1 _))
              rw [e3, hz.2.2.2]
              exact R3_s (by omega)
            · show [_, _, Value.long (i6 (-(F 1 _))), _] = _
              rw [e3, hz.2.2.2]
            · have hM2 : MAt (va_up (va_up hh 135 (al 42 R1)) 135 (al 42 R2)) n I (va_up F 7 R2) := hM1.uu (j := 7) (by omega) R2
              refine sX7_currents_86 hc hr (ih (i + 1) _ R2 (by omega) hM2 ?_ (fun x q => (hx2 x q).trans ((hx1 x q).trans (hx x q))) ((hf.up (by omega)).up (by omega)))
              rw [kclR_s hp]
              unfold kclS
              rw [if_pos ⟨c0, d⟩, eon]
              exact hR2
        refine sX7_currents_31 hc hr hM.o rfl rfl hM.z ⟨by omega, ?_, R3_s (by omega), fun z => ⟨by omega, ?_⟩, fun z => ⟨by omega, ?_⟩⟩
        · show R3 (F 1 _)
          rw [e1, hz.2.1]
          exact R3_s (by omega)
        · have z' : ¬ p.2.1 = k := by
            rw [← hz.2.1, ← e1]
            exact z
          refine two _ ?_
          show F 1 _ = _
          rw [e1, hz.2.1]
          unfold othN
          rw [if_neg z']
        · have z' : p.2.1 = k := by
            rw [← hz.2.1, ← e1]
            exact z
          refine two _ ?_
          show F 1 _ = _
          rw [e2, hz.2.2.1]
          unfold othN
          rw [if_pos z']
  refine sX7_currents_0 hc hr (L ps.length 0 h (F 7) (by omega) (hM0.u1 (by omega)) hR0 (fun x _ => rfl) Fr.rf)
