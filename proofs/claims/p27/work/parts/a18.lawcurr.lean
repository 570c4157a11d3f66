/-! part a18: the law's currents -/
set_option maxHeartbeats 4000000 in
set_option maxRecDepth 100000 in
theorem sL_currents_0 {X : Xt} {n : Nat} {h : HP} {a0 : Nat} {x1 : Int} {a2 : Nat} {a3 : Nat} {a4 : Nat} {bb : Nat} {sb9 : Nat} (hc : Cx X cL_currents RL 14 8 136) {K : KT} (hr : CxR X (some .boolean) K) 
    (P : Ok X bb sb9 3 [(0, .ref a0), (1, .int (i3 x1)), (2, .ref a2), (3, .ref a3), (4, .ref a4), (5, .int (i3 0))] [] n h) :
    Ok X bb sb9 0 [(0, .ref a0), (1, .int (i3 x1)), (2, .ref a2), (3, .ref a3), (4, .ref a4)] [] n h := by
  refine ok_iconst (pc := 0) hc (v := i3 0) dL_currents_0 (by decide) ?_
  refine ok_istore (pc := 1) hc (lv' := [(5, .int (i3 0)), (0, .ref a0), (1, .int (i3 x1)), (2, .ref a2), (3, .ref a3), (4, .ref a4)]) dL_currents_1 (by decide) rfl ?_
  refine ok_lv [1, 2, 3, 4, 5, 0] rfl ?_
  exact P

set_option maxHeartbeats 4000000 in
set_option maxRecDepth 100000 in
theorem sL_currents_3 {X : Xt} {n : Nat} {h : HP} {a0 : Nat} {x1 : Int} {a2 : Nat} {a3 : Nat} {a4 : Nat} {x5 : Int} {bb : Nat} {sb9 : Nat} {f1 : Nat → Int} {f4 : Nat → Int} (hc : Cx X cL_currents RL 14 8 136) {K : KT} (hr : CxR X (some .boolean) K) (e1 : At h n a2 (ai 4 f1)) (e4 : At h n a3 (ai 48 f4))
    (P : (Ix 0 4) ∧ (R3 x5) ∧ (R3 (f1 (0 : Int).toNat)) ∧ ((f1 (0 : Int).toNat) ≤ x5 → K (.inl (some (.int (i3 1)))) n h) ∧ (¬ (f1 (0 : Int).toNat) ≤ x5 → (Ix (4 * x5) 48) ∧ (R3 (f4 (4 * x5 : Int).toNat)) ∧ ((f4 (4 * x5 : Int).toNat) = 0 → Ok X bb sb9 23 [(0, .ref a0), (1, .int (i3 x1)), (2, .ref a2), (3, .ref a3), (4, .ref a4), (5, .int (i3 x5))] [] n h) ∧ (¬ (f4 (4 * x5 : Int).toNat) = 0 → Ok X bb sb9 3 [(0, .ref a0), (1, .int (i3 x1)), (2, .ref a2), (3, .ref a3), (4, .ref a4), (5, .int (i3 (x5 + 1)))] [] n h))) :
    Ok X bb sb9 3 [(0, .ref a0), (1, .int (i3 x1)), (2, .ref a2), (3, .ref a3), (4, .ref a4), (5, .int (i3 x5))] [] n h := by
  refine ok_iload (pc := 3) hc dL_currents_3 5 rfl ?_
  refine ok_aload_n (pc := 5) hc dL_currents_5 rfl 2 rfl ?_
  refine ok_iconst (pc := 6) hc (v := i3 0) dL_currents_6 (by decide) ?_
  obtain ⟨r, P⟩ := P
  refine zk_iald (pc := 7) hc dL_currents_7 e1.1 e1.2 r ?_
  obtain ⟨r2, P⟩ := P
  obtain ⟨r3, P⟩ := P
  refine zk_icmp_ge (pc := 8) (tgt := 182) hc dL_currents_8 (by decide) r2 r3 (fun c => ?_) (fun c => ?_)
  · have P := P.1 c
    refine ok_iconst (pc := 182) hc (v := i3 1) dL_currents_182 (by decide) ?_
    exact ok_zret (st := []) (pc := 183) hc (nar_z (by decide)) hr dL_currents_183 P
  · have P := P.2 c
    refine ok_iload (pc := 11) hc dL_currents_11 5 rfl ?_
    refine ok_aload_n (pc := 13) hc dL_currents_13 rfl 3 rfl ?_
    obtain ⟨r0, P⟩ := P
    refine ok_callS (pc := 14) (cb := bb) (sb := sb9) (st := []) hc [.int (i3 x5), .ref a3] cs_L_8 sp_L_kind (by decide) dL_currents_14 rfl rfl rfl rfl (Nat.le_of_ble_eq_true rfl) (⟨_, _, _, _, rfl, ⟨e4.1, e4.2⟩, r0, rfl, ?_⟩)
    show Ok X bb sb9 (14 + 3) [(0, .ref a0), (1, .int (i3 x1)), (2, .ref a2), (3, .ref a3), (4, .ref a4), (5, .int (i3 x5))] [.int (i3 (f4 (4 * x5 : Int).toNat))] n h
    obtain ⟨r5, P⟩ := P
    refine zk_if_eq (pc := 17) (tgt := 23) hc dL_currents_17 (by decide) r5 (fun c => ?_) (fun c => ?_)
    · have P := P.1 c
      exact P
    · have P := P.2 c
      refine ok_goto (pc := 20) (tgt := 176) hc dL_currents_20 (by decide) ?_
      refine zk_iinc (pc := 176) hc (q := 5) (x := x5) (lv' := [(5, .int (i3 (x5 + 1))), (0, .ref a0), (1, .int (i3 x1)), (2, .ref a2), (3, .ref a3), (4, .ref a4)]) dL_currents_176 rfl (by decide) rfl ?_
      refine ok_goto (pc := 179) (tgt := 3) hc dL_currents_179 (by decide) ?_
      refine ok_lv [1, 2, 3, 4, 5, 0] rfl ?_
      exact P

set_option maxHeartbeats 4000000 in
set_option maxRecDepth 100000 in
theorem sL_currents_23 {X : Xt} {n : Nat} {h : HP} {a0 : Nat} {x1 : Int} {a2 : Nat} {a3 : Nat} {a4 : Nat} {x5 : Int} {bb : Nat} {sb9 : Nat} {f1 : Nat → Int} (hc : Cx X cL_currents RL 14 8 136) {K : KT} (hr : CxR X (some .boolean) K) (e1 : At h n a3 (ai 48 f1))
    (P : (Ix ((4 * x5) + 1) 48) ∧ (Ix ((4 * x5) + 2) 48) ∧ (R3 x1) ∧ (x1 = 0 → Ok X bb sb9 95 [(0, .ref a0), (1, .int (i3 x1)), (2, .ref a2), (3, .ref a3), (4, .ref a4), (5, .int (i3 x5)), (6, .int (i3 (f1 (((4 * x5) + 1) : Int).toNat))), (7, .int (i3 (f1 (((4 * x5) + 2) : Int).toNat)))] [] n h) ∧ (¬ x1 = 0 → Ok X bb sb9 47 [(0, .ref a0), (1, .int (i3 x1)), (2, .ref a2), (3, .ref a3), (4, .ref a4), (5, .int (i3 x5)), (6, .int (i3 (f1 (((4 * x5) + 1) : Int).toNat))), (7, .int (i3 (f1 (((4 * x5) + 2) : Int).toNat)))] [] n h)) :
    Ok X bb sb9 23 [(0, .ref a0), (1, .int (i3 x1)), (2, .ref a2), (3, .ref a3), (4, .ref a4), (5, .int (i3 x5))] [] n h := by
  refine ok_aload_n (pc := 23) hc dL_currents_23 rfl 3 rfl ?_
  refine ok_iconst (pc := 24) hc (v := i3 4) dL_currents_24 (by decide) ?_
  refine ok_iload (pc := 25) hc dL_currents_25 5 rfl ?_
  refine zk_imul (pc := 27) hc dL_currents_27 ?_
  refine ok_iconst (pc := 28) hc (v := i3 1) dL_currents_28 (by decide) ?_
  refine zk_iadd (pc := 29) hc dL_currents_29 ?_
  obtain ⟨r, P⟩ := P
  refine zk_iald (pc := 30) hc dL_currents_30 e1.1 e1.2 r ?_
  refine ok_istore (pc := 31) hc (lv' := [(6, .int (i3 (f1 (((4 * x5) + 1) : Int).toNat))), (0, .ref a0), (1, .int (i3 x1)), (2, .ref a2), (3, .ref a3), (4, .ref a4), (5, .int (i3 x5))]) dL_currents_31 (by decide) rfl ?_
  refine ok_aload_n (pc := 33) hc dL_currents_33 rfl 4 rfl ?_
  refine ok_iconst (pc := 34) hc (v := i3 4) dL_currents_34 (by decide) ?_
  refine ok_iload (pc := 35) hc dL_currents_35 6 rfl ?_
  refine zk_imul (pc := 37) hc dL_currents_37 ?_
  refine ok_iconst (pc := 38) hc (v := i3 2) dL_currents_38 (by decide) ?_
  refine zk_iadd (pc := 39) hc dL_currents_39 ?_
  obtain ⟨r, P⟩ := P
  refine zk_iald (pc := 40) hc dL_currents_40 e1.1 e1.2 r ?_
  refine ok_istore (pc := 41) hc (lv' := [(7, .int (i3 (f1 (((4 * x5) + 2) : Int).toNat))), (6, .int (i3 (f1 (((4 * x5) + 1) : Int).toNat))), (0, .ref a0), (1, .int (i3 x1)), (2, .ref a2), (3, .ref a3), (4, .ref a4), (5, .int (i3 x5))]) dL_currents_41 (by decide) rfl ?_
  refine ok_iload_n (pc := 43) hc dL_currents_43 rfl 3 rfl ?_
  obtain ⟨r2, P⟩ := P
  refine zk_if_eq (pc := 44) (tgt := 95) hc dL_currents_44 (by decide) r2 (fun c => ?_) (fun c => ?_)
  · have P := P.1 c
    refine ok_lv [2, 3, 4, 5, 6, 7, 1, 0] rfl ?_
    exact P
  · have P := P.2 c
    refine ok_lv [2, 3, 4, 5, 6, 7, 1, 0] rfl ?_
    exact P

set_option maxHeartbeats 4000000 in
set_option maxRecDepth 100000 in
theorem sL_currents_47 {X : Xt} {n : Nat} {h : HP} {a0 : Nat} {x1 : Int} {a2 : Nat} {a3 : Nat} {a4 : Nat} {x5 : Int} {x6 : Int} {x7 : Int} {bb : Nat} {sb9 : Nat} {f1 : Nat → Int} {f3 : Nat → Int} {qs4 : List Part} {m4 : Nat} {γ4 : Nat → Int} (hc : Cx X cL_currents RL 14 8 136) {K : KT} (hr : CxR X (some .boolean) K) (e1 : At h n a3 (ai 48 f1)) (e3 : At h n a4 (al 56 f3)) (hS4 : Svd qs4 m4 γ4 f3)
    (P : (Ix ((4 * x5) + 3) 48) ∧ (R3 (f1 (((4 * x5) + 3) : Int).toNat)) ∧ (((0 : Int) ≤ x6 ∧ (x6 : Int) < 7) ∧ (((0) : Int) = 0 ∨ ((0) : Int) = 1)) ∧ (((0 : Int) ≤ x7 ∧ (x7 : Int) < 7) ∧ (((1) : Int) = 0 ∨ ((1) : Int) = 1)) ∧ (((0 : Int) ≤ x7 ∧ (x7 : Int) < 7) ∧ (((0) : Int) = 0 ∨ ((0) : Int) = 1)) ∧ (((0 : Int) ≤ x6 ∧ (x6 : Int) < 7) ∧ (((1) : Int) = 0 ∨ ((1) : Int) = 1)) ∧ Ok X bb sb9 98 [(0, .ref a0), (1, .int (i3 x1)), (2, .ref a2), (3, .ref a3), (4, .ref a4), (5, .int (i3 x5)), (6, .int (i3 x6)), (7, .int (i3 x7)), (8, .long (i6 ((f1 (((4 * x5) + 3) : Int).toNat) * (((lowT (numer qs4 m4 γ4 (x6 : Int).toNat) (solD qs4 m4) 0) * (lowT (numer qs4 m4 γ4 (x7 : Int).toNat) (solD qs4 m4) 1)) - ((lowT (numer qs4 m4 γ4 (x7 : Int).toNat) (solD qs4 m4) 0) * (lowT (numer qs4 m4 γ4 (x6 : Int).toNat) (solD qs4 m4) 1))))))] [] n h) :
    Ok X bb sb9 47 [(0, .ref a0), (1, .int (i3 x1)), (2, .ref a2), (3, .ref a3), (4, .ref a4), (5, .int (i3 x5)), (6, .int (i3 x6)), (7, .int (i3 x7))] [] n h := by
  refine ok_aload_n (pc := 47) hc dL_currents_47 rfl 3 rfl ?_
  refine ok_iconst (pc := 48) hc (v := i3 4) dL_currents_48 (by decide) ?_
  refine ok_iload (pc := 49) hc dL_currents_49 5 rfl ?_
  refine zk_imul (pc := 51) hc dL_currents_51 ?_
  refine ok_iconst (pc := 52) hc (v := i3 3) dL_currents_52 (by decide) ?_
  refine zk_iadd (pc := 53) hc dL_currents_53 ?_
  obtain ⟨r, P⟩ := P
  refine zk_iald (pc := 54) hc dL_currents_54 e1.1 e1.2 r ?_
  obtain ⟨r2, P⟩ := P
  refine zk_i2l (pc := 55) hc dL_currents_55 r2 ?_
  refine ok_iload (pc := 56) hc dL_currents_56 6 rfl ?_
  refine ok_iconst (pc := 58) hc (v := i3 0) dL_currents_58 (by decide) ?_
  refine ok_aload (pc := 59) hc dL_currents_59 4 rfl ?_
  obtain ⟨r0, P⟩ := P
  refine ok_callS (pc := 61) (cb := bb) (sb := sb9) (st := [.long (i6 (f1 (((4 * x5) + 3) : Int).toNat))]) hc [.int (i3 x6), .int (i3 0), .ref a4] cs_L_41 sp_L_part (by decide) dL_currents_61 rfl rfl rfl rfl (Nat.le_of_ble_eq_true rfl) (⟨_, _, _, _, _, _, _, rfl, ⟨e3.1, e3.2⟩, hS4, r0.1, r0.2, rfl, ?_⟩)
  show Ok X bb sb9 (61 + 3) [(0, .ref a0), (1, .int (i3 x1)), (2, .ref a2), (3, .ref a3), (4, .ref a4), (5, .int (i3 x5)), (6, .int (i3 x6)), (7, .int (i3 x7))] [.long (i6 (lowT (numer qs4 m4 γ4 (x6 : Int).toNat) (solD qs4 m4) 0)), .long (i6 (f1 (((4 * x5) + 3) : Int).toNat))] n h
  refine ok_iload (pc := 64) hc dL_currents_64 7 rfl ?_
  refine ok_iconst (pc := 66) hc (v := i3 1) dL_currents_66 (by decide) ?_
  refine ok_aload (pc := 67) hc dL_currents_67 4 rfl ?_
  obtain ⟨r0, P⟩ := P
  refine ok_callS (pc := 69) (cb := bb) (sb := sb9) (st := [.long (i6 (lowT (numer qs4 m4 γ4 (x6 : Int).toNat) (solD qs4 m4) 0)), .long (i6 (f1 (((4 * x5) + 3) : Int).toNat))]) hc [.int (i3 x7), .int (i3 1), .ref a4] cs_L_41 sp_L_part (by decide) dL_currents_69 rfl rfl rfl rfl (Nat.le_of_ble_eq_true rfl) (⟨_, _, _, _, _, _, _, rfl, ⟨e3.1, e3.2⟩, hS4, r0.1, r0.2, rfl, ?_⟩)
  show Ok X bb sb9 (69 + 3) [(0, .ref a0), (1, .int (i3 x1)), (2, .ref a2), (3, .ref a3), (4, .ref a4), (5, .int (i3 x5)), (6, .int (i3 x6)), (7, .int (i3 x7))] [.long (i6 (lowT (numer qs4 m4 γ4 (x7 : Int).toNat) (solD qs4 m4) 1)), .long (i6 (lowT (numer qs4 m4 γ4 (x6 : Int).toNat) (solD qs4 m4) 0)), .long (i6 (f1 (((4 * x5) + 3) : Int).toNat))] n h
  refine zk_lmul (pc := 72) hc dL_currents_72 ?_
  refine ok_iload (pc := 73) hc dL_currents_73 7 rfl ?_
  refine ok_iconst (pc := 75) hc (v := i3 0) dL_currents_75 (by decide) ?_
  refine ok_aload (pc := 76) hc dL_currents_76 4 rfl ?_
  obtain ⟨r0, P⟩ := P
  refine ok_callS (pc := 78) (cb := bb) (sb := sb9) (st := [.long (i6 ((lowT (numer qs4 m4 γ4 (x6 : Int).toNat) (solD qs4 m4) 0) * (lowT (numer qs4 m4 γ4 (x7 : Int).toNat) (solD qs4 m4) 1))), .long (i6 (f1 (((4 * x5) + 3) : Int).toNat))]) hc [.int (i3 x7), .int (i3 0), .ref a4] cs_L_41 sp_L_part (by decide) dL_currents_78 rfl rfl rfl rfl (Nat.le_of_ble_eq_true rfl) (⟨_, _, _, _, _, _, _, rfl, ⟨e3.1, e3.2⟩, hS4, r0.1, r0.2, rfl, ?_⟩)
  show Ok X bb sb9 (78 + 3) [(0, .ref a0), (1, .int (i3 x1)), (2, .ref a2), (3, .ref a3), (4, .ref a4), (5, .int (i3 x5)), (6, .int (i3 x6)), (7, .int (i3 x7))] [.long (i6 (lowT (numer qs4 m4 γ4 (x7 : Int).toNat) (solD qs4 m4) 0)), .long (i6 ((lowT (numer qs4 m4 γ4 (x6 : Int).toNat) (solD qs4 m4) 0) * (lowT (numer qs4 m4 γ4 (x7 : Int).toNat) (solD qs4 m4) 1))), .long (i6 (f1 (((4 * x5) + 3) : Int).toNat))] n h
  refine ok_iload (pc := 81) hc dL_currents_81 6 rfl ?_
  refine ok_iconst (pc := 83) hc (v := i3 1) dL_currents_83 (by decide) ?_
  refine ok_aload (pc := 84) hc dL_currents_84 4 rfl ?_
  obtain ⟨r0, P⟩ := P
  refine ok_callS (pc := 86) (cb := bb) (sb := sb9) (st := [.long (i6 (lowT (numer qs4 m4 γ4 (x7 : Int).toNat) (solD qs4 m4) 0)), .long (i6 ((lowT (numer qs4 m4 γ4 (x6 : Int).toNat) (solD qs4 m4) 0) * (lowT (numer qs4 m4 γ4 (x7 : Int).toNat) (solD qs4 m4) 1))), .long (i6 (f1 (((4 * x5) + 3) : Int).toNat))]) hc [.int (i3 x6), .int (i3 1), .ref a4] cs_L_41 sp_L_part (by decide) dL_currents_86 rfl rfl rfl rfl (Nat.le_of_ble_eq_true rfl) (⟨_, _, _, _, _, _, _, rfl, ⟨e3.1, e3.2⟩, hS4, r0.1, r0.2, rfl, ?_⟩)
  show Ok X bb sb9 (86 + 3) [(0, .ref a0), (1, .int (i3 x1)), (2, .ref a2), (3, .ref a3), (4, .ref a4), (5, .int (i3 x5)), (6, .int (i3 x6)), (7, .int (i3 x7))] [.long (i6 (lowT (numer qs4 m4 γ4 (x6 : Int).toNat) (solD qs4 m4) 1)), .long (i6 (lowT (numer qs4 m4 γ4 (x7 : Int).toNat) (solD qs4 m4) 0)), .long (i6 ((lowT (numer qs4 m4 γ4 (x6 : Int).toNat) (solD qs4 m4) 0) * (lowT (numer qs4 m4 γ4 (x7 : Int).toNat) (solD qs4 m4) 1))), .long (i6 (f1 (((4 * x5) + 3) : Int).toNat))] n h
  refine zk_lmul (pc := 89) hc dL_currents_89 ?_
  refine zk_lsub (pc := 90) hc dL_currents_90 ?_
  refine zk_lmul (pc := 91) hc dL_currents_91 ?_
  refine ok_goto (pc := 92) (tgt := 96) hc dL_currents_92 (by decide) ?_
  refine ok_lstore (pc := 96) hc (lv' := [(8, .long (i6 ((f1 (((4 * x5) + 3) : Int).toNat) * (((lowT (numer qs4 m4 γ4 (x6 : Int).toNat) (solD qs4 m4) 0) * (lowT (numer qs4 m4 γ4 (x7 : Int).toNat) (solD qs4 m4) 1)) - ((lowT (numer qs4 m4 γ4 (x7 : Int).toNat) (solD qs4 m4) 0) * (lowT (numer qs4 m4 γ4 (x6 : Int).toNat) (solD qs4 m4) 1)))))), (0, .ref a0), (1, .int (i3 x1)), (2, .ref a2), (3, .ref a3), (4, .ref a4), (5, .int (i3 x5)), (6, .int (i3 x6)), (7, .int (i3 x7))]) dL_currents_96 (by decide) rfl ?_
  refine ok_lv [1, 2, 3, 4, 5, 6, 7, 8, 0] rfl ?_
  exact P

set_option maxHeartbeats 4000000 in
set_option maxRecDepth 100000 in
theorem sL_currents_95 {X : Xt} {n : Nat} {h : HP} {a0 : Nat} {x1 : Int} {a2 : Nat} {a3 : Nat} {a4 : Nat} {x5 : Int} {x6 : Int} {x7 : Int} {bb : Nat} {sb9 : Nat} (hc : Cx X cL_currents RL 14 8 136) {K : KT} (hr : CxR X (some .boolean) K) 
    (P : Ok X bb sb9 98 [(0, .ref a0), (1, .int (i3 x1)), (2, .ref a2), (3, .ref a3), (4, .ref a4), (5, .int (i3 x5)), (6, .int (i3 x6)), (7, .int (i3 x7)), (8, .long (i6 0))] [] n h) :
    Ok X bb sb9 95 [(0, .ref a0), (1, .int (i3 x1)), (2, .ref a2), (3, .ref a3), (4, .ref a4), (5, .int (i3 x5)), (6, .int (i3 x6)), (7, .int (i3 x7))] [] n h := by
  refine ok_lconst (pc := 95) hc (v := i6 0) dL_currents_95 (by decide) ?_
  refine ok_lstore (pc := 96) hc (lv' := [(8, .long (i6 0)), (0, .ref a0), (1, .int (i3 x1)), (2, .ref a2), (3, .ref a3), (4, .ref a4), (5, .int (i3 x5)), (6, .int (i3 x6)), (7, .int (i3 x7))]) dL_currents_96 (by decide) rfl ?_
  refine ok_lv [1, 2, 3, 4, 5, 6, 7, 8, 0] rfl ?_
  exact P

set_option maxHeartbeats 4000000 in
set_option maxRecDepth 100000 in
theorem sL_currents_98 {X : Xt} {n : Nat} {h : HP} {a0 : Nat} {x1 : Int} {a2 : Nat} {a3 : Nat} {a4 : Nat} {x5 : Int} {x6 : Int} {x7 : Int} {l8 : Int} {bb : Nat} {sb9 : Nat} (hc : Cx X cL_currents RL 14 8 136) {K : KT} (hr : CxR X (some .boolean) K) 
    (P : (R3 x1) ∧ (x1 = 0 → Ok X bb sb9 122 [(0, .ref a0), (1, .int (i3 x1)), (2, .ref a2), (3, .ref a3), (4, .ref a4), (5, .int (i3 x5)), (6, .int (i3 x6)), (7, .int (i3 x7)), (8, .long (i6 l8))] [] n h) ∧ (¬ x1 = 0 → Ok X bb sb9 102 [(0, .ref a0), (1, .int (i3 x1)), (2, .ref a2), (3, .ref a3), (4, .ref a4), (5, .int (i3 x5)), (6, .int (i3 x6)), (7, .int (i3 x7)), (8, .long (i6 l8))] [] n h)) :
    Ok X bb sb9 98 [(0, .ref a0), (1, .int (i3 x1)), (2, .ref a2), (3, .ref a3), (4, .ref a4), (5, .int (i3 x5)), (6, .int (i3 x6)), (7, .int (i3 x7)), (8, .long (i6 l8))] [] n h := by
  refine ok_iload_n (pc := 98) hc dL_currents_98 rfl 1 rfl ?_
  obtain ⟨r1, P⟩ := P
  refine zk_if_eq (pc := 99) (tgt := 122) hc dL_currents_99 (by decide) r1 (fun c => ?_) (fun c => ?_)
  · have P := P.1 c
    exact P
  · have P := P.2 c
    exact P

set_option maxHeartbeats 4000000 in
set_option maxRecDepth 100000 in
theorem sL_currents_102 {X : Xt} {n : Nat} {h : HP} {a0 : Nat} {x1 : Int} {a2 : Nat} {a3 : Nat} {a4 : Nat} {x5 : Int} {x6 : Int} {x7 : Int} {l8 : Int} {bb : Nat} {sb9 : Nat} {f1 : Nat → Int} {qs2 : List Part} {m2 : Nat} {γ2 : Nat → Int} (hc : Cx X cL_currents RL 14 8 136) {K : KT} (hr : CxR X (some .boolean) K) (e1 : At h n a4 (al 56 f1)) (hS2 : Svd qs2 m2 γ2 f1)
    (P : (((0 : Int) ≤ x6 ∧ (x6 : Int) < 7) ∧ (((1) : Int) = 0 ∨ ((1) : Int) = 1)) ∧ (((0 : Int) ≤ x7 ∧ (x7 : Int) < 7) ∧ (((1) : Int) = 0 ∨ ((1) : Int) = 1)) ∧ Ok X bb sb9 125 [(0, .ref a0), (1, .int (i3 x1)), (2, .ref a2), (3, .ref a3), (4, .ref a4), (5, .int (i3 x5)), (6, .int (i3 x6)), (7, .int (i3 x7)), (8, .long (i6 l8)), (10, .long (i6 ((lowT (numer qs2 m2 γ2 (x6 : Int).toNat) (solD qs2 m2) 1) * (lowT (numer qs2 m2 γ2 (x7 : Int).toNat) (solD qs2 m2) 1))))] [] n h) :
    Ok X bb sb9 102 [(0, .ref a0), (1, .int (i3 x1)), (2, .ref a2), (3, .ref a3), (4, .ref a4), (5, .int (i3 x5)), (6, .int (i3 x6)), (7, .int (i3 x7)), (8, .long (i6 l8))] [] n h := by
  refine ok_iload (pc := 102) hc dL_currents_102 6 rfl ?_
  refine ok_iconst (pc := 104) hc (v := i3 1) dL_currents_104 (by decide) ?_
  refine ok_aload (pc := 105) hc dL_currents_105 4 rfl ?_
  obtain ⟨r0, P⟩ := P
  refine ok_callS (pc := 107) (cb := bb) (sb := sb9) (st := []) hc [.int (i3 x6), .int (i3 1), .ref a4] cs_L_41 sp_L_part (by decide) dL_currents_107 rfl rfl rfl rfl (Nat.le_of_ble_eq_true rfl) (⟨_, _, _, _, _, _, _, rfl, ⟨e1.1, e1.2⟩, hS2, r0.1, r0.2, rfl, ?_⟩)
  show Ok X bb sb9 (107 + 3) [(0, .ref a0), (1, .int (i3 x1)), (2, .ref a2), (3, .ref a3), (4, .ref a4), (5, .int (i3 x5)), (6, .int (i3 x6)), (7, .int (i3 x7)), (8, .long (i6 l8))] [.long (i6 (lowT (numer qs2 m2 γ2 (x6 : Int).toNat) (solD qs2 m2) 1))] n h
  refine ok_iload (pc := 110) hc dL_currents_110 7 rfl ?_
  refine ok_iconst (pc := 112) hc (v := i3 1) dL_currents_112 (by decide) ?_
  refine ok_aload (pc := 113) hc dL_currents_113 4 rfl ?_
  obtain ⟨r0, P⟩ := P
  refine ok_callS (pc := 115) (cb := bb) (sb := sb9) (st := [.long (i6 (lowT (numer qs2 m2 γ2 (x6 : Int).toNat) (solD qs2 m2) 1))]) hc [.int (i3 x7), .int (i3 1), .ref a4] cs_L_41 sp_L_part (by decide) dL_currents_115 rfl rfl rfl rfl (Nat.le_of_ble_eq_true rfl) (⟨_, _, _, _, _, _, _, rfl, ⟨e1.1, e1.2⟩, hS2, r0.1, r0.2, rfl, ?_⟩)
  show Ok X bb sb9 (115 + 3) [(0, .ref a0), (1, .int (i3 x1)), (2, .ref a2), (3, .ref a3), (4, .ref a4), (5, .int (i3 x5)), (6, .int (i3 x6)), (7, .int (i3 x7)), (8, .long (i6 l8))] [.long (i6 (lowT (numer qs2 m2 γ2 (x7 : Int).toNat) (solD qs2 m2) 1)), .long (i6 (lowT (numer qs2 m2 γ2 (x6 : Int).toNat) (solD qs2 m2) 1))] n h
  refine zk_lmul (pc := 118) hc dL_currents_118 ?_
  refine ok_goto (pc := 119) (tgt := 123) hc dL_currents_119 (by decide) ?_
  refine ok_lstore (pc := 123) hc (lv' := [(10, .long (i6 ((lowT (numer qs2 m2 γ2 (x6 : Int).toNat) (solD qs2 m2) 1) * (lowT (numer qs2 m2 γ2 (x7 : Int).toNat) (solD qs2 m2) 1)))), (0, .ref a0), (1, .int (i3 x1)), (2, .ref a2), (3, .ref a3), (4, .ref a4), (5, .int (i3 x5)), (6, .int (i3 x6)), (7, .int (i3 x7)), (8, .long (i6 l8))]) dL_currents_123 (by decide) rfl ?_
  refine ok_lv [1, 2, 3, 4, 5, 6, 7, 8, 9, 0] rfl ?_
  exact P

set_option maxHeartbeats 4000000 in
set_option maxRecDepth 100000 in
theorem sL_currents_122 {X : Xt} {n : Nat} {h : HP} {a0 : Nat} {x1 : Int} {a2 : Nat} {a3 : Nat} {a4 : Nat} {x5 : Int} {x6 : Int} {x7 : Int} {l8 : Int} {bb : Nat} {sb9 : Nat} (hc : Cx X cL_currents RL 14 8 136) {K : KT} (hr : CxR X (some .boolean) K) 
    (P : Ok X bb sb9 125 [(0, .ref a0), (1, .int (i3 x1)), (2, .ref a2), (3, .ref a3), (4, .ref a4), (5, .int (i3 x5)), (6, .int (i3 x6)), (7, .int (i3 x7)), (8, .long (i6 l8)), (10, .long (i6 0))] [] n h) :
    Ok X bb sb9 122 [(0, .ref a0), (1, .int (i3 x1)), (2, .ref a2), (3, .ref a3), (4, .ref a4), (5, .int (i3 x5)), (6, .int (i3 x6)), (7, .int (i3 x7)), (8, .long (i6 l8))] [] n h := by
  refine ok_lconst (pc := 122) hc (v := i6 0) dL_currents_122 (by decide) ?_
  refine ok_lstore (pc := 123) hc (lv' := [(10, .long (i6 0)), (0, .ref a0), (1, .int (i3 x1)), (2, .ref a2), (3, .ref a3), (4, .ref a4), (5, .int (i3 x5)), (6, .int (i3 x6)), (7, .int (i3 x7)), (8, .long (i6 l8))]) dL_currents_123 (by decide) rfl ?_
  refine ok_lv [1, 2, 3, 4, 5, 6, 7, 8, 9, 0] rfl ?_
  exact P

set_option maxHeartbeats 4000000 in
set_option maxRecDepth 100000 in
theorem sL_currents_125 {X : Xt} {n : Nat} {h : HP} {a0 : Nat} {x1 : Int} {a2 : Nat} {a3 : Nat} {a4 : Nat} {x5 : Int} {x6 : Int} {x7 : Int} {l8 : Int} {l10 : Int} {bb : Nat} {sb9 : Nat} (hc : Cx X cL_currents RL 14 8 136) {K : KT} (hr : CxR X (some .boolean) K) 
    (P : (R3 x1) ∧ (x1 = 0 → Ok X bb sb9 139 [(0, .ref a0), (1, .int (i3 x1)), (2, .ref a2), (3, .ref a3), (4, .ref a4), (5, .int (i3 x5)), (6, .int (i3 x6)), (7, .int (i3 x7)), (8, .long (i6 l8)), (10, .long (i6 l10))] [] n h) ∧ (¬ x1 = 0 → Ok X bb sb9 129 [(0, .ref a0), (1, .int (i3 x1)), (2, .ref a2), (3, .ref a3), (4, .ref a4), (5, .int (i3 x5)), (6, .int (i3 x6)), (7, .int (i3 x7)), (8, .long (i6 l8)), (10, .long (i6 l10))] [] n h)) :
    Ok X bb sb9 125 [(0, .ref a0), (1, .int (i3 x1)), (2, .ref a2), (3, .ref a3), (4, .ref a4), (5, .int (i3 x5)), (6, .int (i3 x6)), (7, .int (i3 x7)), (8, .long (i6 l8)), (10, .long (i6 l10))] [] n h := by
  refine ok_iload_n (pc := 125) hc dL_currents_125 rfl 1 rfl ?_
  obtain ⟨r1, P⟩ := P
  refine zk_if_eq (pc := 126) (tgt := 139) hc dL_currents_126 (by decide) r1 (fun c => ?_) (fun c => ?_)
  · have P := P.1 c
    exact P
  · have P := P.2 c
    exact P

set_option maxHeartbeats 4000000 in
set_option maxRecDepth 100000 in
theorem sL_currents_129 {X : Xt} {n : Nat} {h : HP} {a0 : Nat} {x1 : Int} {a2 : Nat} {a3 : Nat} {a4 : Nat} {x5 : Int} {x6 : Int} {x7 : Int} {l8 : Int} {l10 : Int} {bb : Nat} {sb9 : Nat} {fs1 : List Value} (hc : Cx X cL_currents RL 14 8 136) {K : KT} (hr : CxR X (some .boolean) K) (e1 : At h n a0 (.inl (6, fs1))) (z1 : fs1.length = 6)
    (P : (R6p l8 ∧ R6p l10) ∧ spec_X6_current [.ref a0, .int (i3 x5), .int (i3 0)] n h (kc X bb sb9 146 [(0, .ref a0), (1, .int (i3 x1)), (2, .ref a2), (3, .ref a3), (4, .ref a4), (5, .int (i3 x5)), (6, .int (i3 x6)), (7, .int (i3 x7)), (8, .long (i6 l8)), (10, .long (i6 l10)), (12, .long (i6 (gcZ l8 l10)))] [] n)) :
    Ok X (bb + 3) (sb9 + 18) 129 [(0, .ref a0), (1, .int (i3 x1)), (2, .ref a2), (3, .ref a3), (4, .ref a4), (5, .int (i3 x5)), (6, .int (i3 x6)), (7, .int (i3 x7)), (8, .long (i6 l8)), (10, .long (i6 l10))] [] n h := by
  refine ok_lload (pc := 129) hc dL_currents_129 8 rfl ?_
  refine ok_lload (pc := 131) hc dL_currents_131 9 rfl ?_
  obtain ⟨r0, P⟩ := P
  refine ok_callS (pc := 133) (cb := (bb + 3)) (sb := (sb9 + 18)) (st := []) hc [.long (i6 l8), .long (i6 l10)] cs_L_37 sp_L_common (by decide) dL_currents_133 rfl rfl rfl rfl (Nat.le_of_ble_eq_true rfl) (⟨_, _, rfl, r0, rfl, ?_⟩)
  show Ok X (bb + 3) (sb9 + 18) (133 + 3) [(0, .ref a0), (1, .int (i3 x1)), (2, .ref a2), (3, .ref a3), (4, .ref a4), (5, .int (i3 x5)), (6, .int (i3 x6)), (7, .int (i3 x7)), (8, .long (i6 l8)), (10, .long (i6 l10))] [.long (i6 (gcZ l8 l10))] n h
  refine ok_goto (pc := 136) (tgt := 140) hc dL_currents_136 (by decide) ?_
  refine ok_lstore (pc := 140) hc (lv' := [(12, .long (i6 (gcZ l8 l10))), (0, .ref a0), (1, .int (i3 x1)), (2, .ref a2), (3, .ref a3), (4, .ref a4), (5, .int (i3 x5)), (6, .int (i3 x6)), (7, .int (i3 x7)), (8, .long (i6 l8)), (10, .long (i6 l10))]) dL_currents_140 (by decide) rfl ?_
  refine ok_aload_n (pc := 142) hc dL_currents_142 rfl 1 rfl ?_
  refine ok_iload (pc := 143) hc dL_currents_143 6 rfl ?_
  refine ok_iconst (pc := 145) hc (v := i3 0) dL_currents_145 (by decide) ?_
  refine ok_lv [1, 2, 3, 4, 5, 6, 7, 8, 9, 10, 0] rfl ?_
  exact ok_callV (pc := 146) (a := a0) (cb := bb) (sb := sb9) (st := []) hc [.int (i3 x5), .int (i3 0)] cv_L_98 sp_X6_current (by decide) dL_currents_146 rfl e1.1 e1.2 rfl rfl rfl (Nat.le_of_ble_eq_true rfl) P

set_option maxHeartbeats 4000000 in
set_option maxRecDepth 100000 in
theorem sL_currents_139 {X : Xt} {n : Nat} {h : HP} {a0 : Nat} {x1 : Int} {a2 : Nat} {a3 : Nat} {a4 : Nat} {x5 : Int} {x6 : Int} {x7 : Int} {l8 : Int} {l10 : Int} {bb : Nat} {sb9 : Nat} {fs1 : List Value} (hc : Cx X cL_currents RL 14 8 136) {K : KT} (hr : CxR X (some .boolean) K) (e1 : At h n a0 (.inl (6, fs1))) (z1 : fs1.length = 6)
    (P : spec_X6_current [.ref a0, .int (i3 x5), .int (i3 0)] n h (kc X bb sb9 146 [(0, .ref a0), (1, .int (i3 x1)), (2, .ref a2), (3, .ref a3), (4, .ref a4), (5, .int (i3 x5)), (6, .int (i3 x6)), (7, .int (i3 x7)), (8, .long (i6 l8)), (10, .long (i6 l10)), (12, .long (i6 1))] [] n)) :
    Ok X (bb + 3) (sb9 + 18) 139 [(0, .ref a0), (1, .int (i3 x1)), (2, .ref a2), (3, .ref a3), (4, .ref a4), (5, .int (i3 x5)), (6, .int (i3 x6)), (7, .int (i3 x7)), (8, .long (i6 l8)), (10, .long (i6 l10))] [] n h := by
  refine ok_lconst (pc := 139) hc (v := i6 1) dL_currents_139 (by decide) ?_
  refine ok_lstore (pc := 140) hc (lv' := [(12, .long (i6 1)), (0, .ref a0), (1, .int (i3 x1)), (2, .ref a2), (3, .ref a3), (4, .ref a4), (5, .int (i3 x5)), (6, .int (i3 x6)), (7, .int (i3 x7)), (8, .long (i6 l8)), (10, .long (i6 l10))]) dL_currents_140 (by decide) rfl ?_
  refine ok_aload_n (pc := 142) hc dL_currents_142 rfl 1 rfl ?_
  refine ok_iload (pc := 143) hc dL_currents_143 6 rfl ?_
  refine ok_iconst (pc := 145) hc (v := i3 0) dL_currents_145 (by decide) ?_
  refine ok_lv [1, 2, 3, 4, 5, 6, 7, 8, 9, 10, 0] rfl ?_
  exact ok_callV (pc := 146) (a := a0) (cb := bb) (sb := sb9) (st := []) hc [.int (i3 x5), .int (i3 0)] cv_L_98 sp_X6_current (by decide) dL_currents_146 rfl e1.1 e1.2 rfl rfl rfl (Nat.le_of_ble_eq_true rfl) P

set_option maxHeartbeats 4000000 in
set_option maxRecDepth 100000 in
theorem sL_currents_149 {X : Xt} {n : Nat} {h : HP} {a0 : Nat} {x1 : Int} {a2 : Nat} {a3 : Nat} {a4 : Nat} {x5 : Int} {x6 : Int} {x7 : Int} {l8 : Int} {l10 : Int} {l12 : Int} {tl0 : Int} {bb : Nat} {sb9 : Nat} (hc : Cx X cL_currents RL 14 8 136) {K : KT} (hr : CxR X (some .boolean) K) 
    (P : (R6 l8 ∧ R6 l12 ∧ R6 ((l8 : Int).tdiv l12) ∧ l12 ≠ 0) ∧ (R6 tl0 ∧ R6 ((l8 : Int).tdiv l12)) ∧ (¬ tl0 = ((l8 : Int).tdiv l12) → K (.inl (some (.int (i3 0)))) n h) ∧ (tl0 = ((l8 : Int).tdiv l12) → Ok X bb sb9 158 [(0, .ref a0), (1, .int (i3 x1)), (2, .ref a2), (3, .ref a3), (4, .ref a4), (5, .int (i3 x5)), (6, .int (i3 x6)), (7, .int (i3 x7)), (8, .long (i6 l8)), (10, .long (i6 l10)), (12, .long (i6 l12))] [] n h)) :
    Ok X bb sb9 149 [(0, .ref a0), (1, .int (i3 x1)), (2, .ref a2), (3, .ref a3), (4, .ref a4), (5, .int (i3 x5)), (6, .int (i3 x6)), (7, .int (i3 x7)), (8, .long (i6 l8)), (10, .long (i6 l10)), (12, .long (i6 l12))] [.long (i6 tl0)] n h := by
  refine ok_lload (pc := 149) hc dL_currents_149 8 rfl ?_
  refine ok_lload (pc := 151) hc dL_currents_151 10 rfl ?_
  obtain ⟨r, P⟩ := P
  refine zk_ldiv (pc := 153) hc dL_currents_153 r ?_
  obtain ⟨r, P⟩ := P
  refine zk_lcmp (pc := 154) hc dL_currents_154 r ?_
  refine zk_if_ne (pc := 155) (tgt := 174) hc dL_currents_155 (by decide) R3_cmp (fun c => ?_) (fun c => ?_)
  · have P := P.1 (fun z => c (cmp_eq.mpr z))
    refine ok_iconst (pc := 174) hc (v := i3 0) dL_currents_174 (by decide) ?_
    exact ok_zret (st := []) (pc := 175) hc (nar_z (by decide)) hr dL_currents_175 P
  · have P := P.2 (cmp_eq.mp c)
    exact P

set_option maxHeartbeats 4000000 in
set_option maxRecDepth 100000 in
theorem sL_currents_158 {X : Xt} {n : Nat} {h : HP} {a0 : Nat} {x1 : Int} {a2 : Nat} {a3 : Nat} {a4 : Nat} {x5 : Int} {x6 : Int} {x7 : Int} {l8 : Int} {l10 : Int} {l12 : Int} {bb : Nat} {sb9 : Nat} {fs1 : List Value} (hc : Cx X cL_currents RL 14 8 136) {K : KT} (hr : CxR X (some .boolean) K) (e1 : At h n a0 (.inl (6, fs1))) (z1 : fs1.length = 6)
    (P : spec_X6_current [.ref a0, .int (i3 x5), .int (i3 1)] n h (kc X bb sb9 162 [(0, .ref a0), (1, .int (i3 x1)), (2, .ref a2), (3, .ref a3), (4, .ref a4), (5, .int (i3 x5)), (6, .int (i3 x6)), (7, .int (i3 x7)), (8, .long (i6 l8)), (10, .long (i6 l10)), (12, .long (i6 l12))] [] n)) :
    Ok X (bb + 3) (sb9 + 18) 158 [(0, .ref a0), (1, .int (i3 x1)), (2, .ref a2), (3, .ref a3), (4, .ref a4), (5, .int (i3 x5)), (6, .int (i3 x6)), (7, .int (i3 x7)), (8, .long (i6 l8)), (10, .long (i6 l10)), (12, .long (i6 l12))] [] n h := by
  refine ok_aload_n (pc := 158) hc dL_currents_158 rfl 0 rfl ?_
  refine ok_iload (pc := 159) hc dL_currents_159 5 rfl ?_
  refine ok_iconst (pc := 161) hc (v := i3 1) dL_currents_161 (by decide) ?_
  exact ok_callV (pc := 162) (a := a0) (cb := bb) (sb := sb9) (st := []) hc [.int (i3 x5), .int (i3 1)] cv_L_98 sp_X6_current (by decide) dL_currents_162 rfl e1.1 e1.2 rfl rfl rfl (Nat.le_of_ble_eq_true rfl) P

set_option maxHeartbeats 4000000 in
set_option maxRecDepth 100000 in
theorem sL_currents_165 {X : Xt} {n : Nat} {h : HP} {a0 : Nat} {x1 : Int} {a2 : Nat} {a3 : Nat} {a4 : Nat} {x5 : Int} {x6 : Int} {x7 : Int} {l8 : Int} {l10 : Int} {l12 : Int} {tl0 : Int} {bb : Nat} {sb9 : Nat} (hc : Cx X cL_currents RL 14 8 136) {K : KT} (hr : CxR X (some .boolean) K) 
    (P : (R6 l10 ∧ R6 l12 ∧ R6 ((l10 : Int).tdiv l12) ∧ l12 ≠ 0) ∧ (R6 tl0 ∧ R6 ((l10 : Int).tdiv l12)) ∧ (tl0 = ((l10 : Int).tdiv l12) → Ok X bb sb9 3 [(0, .ref a0), (1, .int (i3 x1)), (2, .ref a2), (3, .ref a3), (4, .ref a4), (5, .int (i3 (x5 + 1)))] [] n h) ∧ (¬ tl0 = ((l10 : Int).tdiv l12) → K (.inl (some (.int (i3 0)))) n h)) :
    Ok X bb sb9 165 [(0, .ref a0), (1, .int (i3 x1)), (2, .ref a2), (3, .ref a3), (4, .ref a4), (5, .int (i3 x5)), (6, .int (i3 x6)), (7, .int (i3 x7)), (8, .long (i6 l8)), (10, .long (i6 l10)), (12, .long (i6 l12))] [.long (i6 tl0)] n h := by
  refine ok_lload (pc := 165) hc dL_currents_165 9 rfl ?_
  refine ok_lload (pc := 167) hc dL_currents_167 10 rfl ?_
  obtain ⟨r, P⟩ := P
  refine zk_ldiv (pc := 169) hc dL_currents_169 r ?_
  obtain ⟨r, P⟩ := P
  refine zk_lcmp (pc := 170) hc dL_currents_170 r ?_
  refine zk_if_eq (pc := 171) (tgt := 176) hc dL_currents_171 (by decide) R3_cmp (fun c => ?_) (fun c => ?_)
  · have P := P.1 (cmp_eq.mp c)
    refine zk_iinc (pc := 176) hc (q := 5) (x := x5) (lv' := [(5, .int (i3 (x5 + 1))), (0, .ref a0), (1, .int (i3 x1)), (2, .ref a2), (3, .ref a3), (4, .ref a4), (6, .int (i3 x6)), (7, .int (i3 x7)), (8, .long (i6 l8)), (10, .long (i6 l10)), (12, .long (i6 l12))]) dL_currents_176 rfl (by decide) rfl ?_
    refine ok_goto (pc := 179) (tgt := 3) hc dL_currents_179 (by decide) ?_
    refine ok_lv [1, 2, 3, 4, 5, 0] rfl ?_
    exact P
  · have P := P.2 (fun z => c (cmp_eq.mpr z))
    refine ok_iconst (pc := 174) hc (v := i3 0) dL_currents_174 (by decide) ?_
    exact ok_zret (st := []) (pc := 175) hc (nar_z (by decide)) hr dL_currents_175 P

def spec_L_currents (args : List Value) (n : Nat) (h : HP) (K : KT) : Prop := ∃ (q : Dsk) (d a e : Nat) (Fd F E : Nat → Int), args = [.ref 0, .int (i3 q.1.2.2.2), .ref d, .ref a, .ref e] ∧ DkA h n q ∧ (127 < d ∧ 127 < a ∧ 127 < e) ∧ At h n d (ai 4 Fd) ∧ At h n a (ai 48 F) ∧ At h n e (al 56 E) ∧ DFS Fd q.1 ∧ PaF F q.1.1 ∧ (q.1.2.2.2 = 1 → Svd q.1.1 (satN q.1.2.2.1 (nA q.1.1)) (givC q.1 q.1.2.2.1) E) ∧ ∀ h', DkA h' n q → Fr h h' 0 127 → K (.inl (some (.int (i3 1)))) n h'
theorem DkA.gd {h : HP} {n : Nat} {q : Dsk} (p : DkA h n q) : GdD q := p.2.2.2.2.2.2
theorem prt_of {ps : List Part} {i : Nat} {p : Part} (h : ps[i]? = some p) : prt ps i = some p := by
  unfold prt
  rw [if_neg (by omega), show (i : Int).toNat = i by omega]
  exact h
set_option maxHeartbeats 4000000 in
theorem sp_L_currents : Sp yL_currents cL_currents 14 (some .boolean) 8 136 72 432 spec_L_currents := by
  refine sp_intro (by decide) (by rintro args n h K ⟨q, d, a, e, Fd, F, E, rfl, -⟩; exact Nat.le_of_ble_eq_true rfl) ?_
  rintro X args n h K hc hr ⟨q, d, a, e, Fd, F, E, rfl, hq0, ⟨ld, la, le⟩, ed0, ea0, ee0, hD, hP, hS, kk⟩
  have hG := hq0.gd.1
  have hl := hP.1
  have rr := hP.2.2.2
  have hd' : Fd (0 : Int).toNat = q.1.1.length := hD.1
  have hst := hG.2.2.2
  have rst : R3 q.1.2.2.2 := R3_s (by omega)
  have L : ∀ (j i : Nat), i + j = q.1.1.length → ∀ hh, DkA hh n q → Fr h hh 0 127 → Ok X (6 * j) (36 * j) 3 [(0, .ref 0), (1, .int (i3 q.1.2.2.2)), (2, .ref d), (3, .ref a), (4, .ref e), (5, .int (i3 i))] [] n hh := by
    intro j
    induction j with
    | zero =>
      intro i hi hh hq hf
      refine sL_currents_3 hc hr (ed0.fr hf (by omega)) (ea0.fr hf (by omega)) ⟨⟨by decide, by decide, by decide⟩, R3_s (by omega), R3_s (by omega), fun _ => kk hh hq hf, fun z => absurd (by omega) z⟩
    | succ j ih =>
      intro i hi hh hq hf
      have hp : q.1.1[i]? = some q.1.1[i] := List.getElem?_eq_getElem (by omega)
      generalize q.1.1[i] = p at hp
      obtain ⟨g0, g1, g2, g3, hi', hl', hw⟩ := hP.g hp
      have x0 : Ix (4 * (i : Int)) 48 := ⟨by omega, by omega, by omega⟩
      have x1 : Ix (4 * (i : Int) + 1) 48 := ⟨by omega, by omega, by omega⟩
      have x2 : Ix (4 * (i : Int) + 2) 48 := ⟨by omega, by omega, by omega⟩
      have x3 : Ix (4 * (i : Int) + 3) 48 := ⟨by omega, by omega, by omega⟩
      refine sL_currents_3 (bb := 6 * j + 3 + 3) (sb9 := 36 * j + 18 + 18) hc hr (ed0.fr hf (by omega)) (ea0.fr hf (by omega)) ⟨⟨by decide, by decide, by decide⟩, R3_s (by omega), R3_s (by omega), fun z => absurd z (by omega), fun _ => ⟨x0, rr _, fun z => ?_, fun z => ?_⟩⟩
      · rw [g0] at z
        have hto := told_res (hG.1.2.2.1 p (List.mem_of_getElem? hp)) z
        have g2' := g2 (by omega)
        have hoc : ∀ w : Int, w = 0 ∨ w = 1 → opCurr q i w = if q.1.2.2.2 = 0 then .inl 0 else .inl (curV q.1 q.1.2.2.1 p w) := by
          intro w hw
          unfold opCurr
          rw [prt_of hp]
          simp only
          rw [if_pos z, if_pos hw]
        refine sL_currents_23 hc hr (ea0.fr hf (by omega)) ?_
        rw [g1, g2']
        refine ⟨x1, x2, rst, fun y => ?_, fun y => ?_⟩
        · -- nothing is settled
          refine sL_currents_95 hc hr (sL_currents_98 hc hr ⟨rst, fun _ => sL_currents_122 hc hr (sL_currents_125 hc hr ⟨rst, fun _ => ?_, fun w => absurd y w⟩), fun w => absurd y w⟩)
          refine sL_currents_139 (bb := 6 * j + 3) (sb9 := 36 * j + 18) hc hr hq.1 rfl ⟨q, i, 0, rfl, R3_s (by omega), R3_0, hq, fun h1 hq1 f1 => ?_⟩
          rw [hoc 0 (Or.inl rfl), if_pos y]
          have e0 : (0 : Int).tdiv 1 = 0 := rfl
          refine ⟨rfl, sL_currents_149 (tl0 := 0) hc hr ?_⟩
          rw [e0]
          refine ⟨⟨R6_0, ⟨by decide, by decide⟩, R6_0, by decide⟩, ⟨R6_0, R6_0⟩, fun w => absurd rfl w, fun _ => ?_⟩
          refine sL_currents_158 (bb := 6 * j) (sb9 := 36 * j) hc hr hq1.1 rfl ⟨q, i, 1, rfl, R3_s (by omega), ⟨by decide, by decide⟩, hq1, fun h2 hq2 f2 => ?_⟩
          rw [hoc 1 (Or.inr rfl), if_pos y]
          refine ⟨rfl, sL_currents_165 (tl0 := 0) hc hr ?_⟩
          rw [e0]
          exact ⟨⟨R6_0, ⟨by decide, by decide⟩, R6_0, by decide⟩, ⟨R6_0, R6_0⟩, fun _ => ih (i + 1) (by omega) h2 hq2 ((hf.tr f1).tr f2), fun w => absurd rfl w⟩
        · have hs1 : q.1.2.2.2 = 1 := by omega
          have hS := hS hs1
          have far := low_far hS (a := p.2.1.toNat) (b := p.2.2.1.toNat) (by omega) (by omega)
          obtain ⟨B, C, hBC, hn⟩ := hS.n2
          obtain ⟨a1, a2, a3⟩ := hn p.2.1.toNat (by omega)
          obtain ⟨b1, b2, b3⟩ := hn p.2.2.1.toNat (by omega)
          have hcv : ∀ w : Int, curV q.1 q.1.2.2.1 p w = lowT (p.2.2.2 * (numer q.1.1 (satN q.1.2.2.1 (nA q.1.1)) (givC q.1 q.1.2.2.1) p.2.1.toNat - numer q.1.1 (satN q.1.2.2.1 (nA q.1.1)) (givC q.1 q.1.2.2.1) p.2.2.1.toNat)) (solD q.1.1 (satN q.1.2.2.1 (nA q.1.1))) w := fun _ => rfl
          refine sL_currents_47 hc hr (ea0.fr hf (by omega)) (ee0.fr hf (by omega)) hS ?_
          rw [g3]
          refine ⟨x3, R3_s (by omega), ⟨⟨by omega, by omega⟩, Or.inl rfl⟩, ⟨⟨by omega, by omega⟩, Or.inr rfl⟩, ⟨⟨by omega, by omega⟩, Or.inl rfl⟩, ⟨⟨by omega, by omega⟩, Or.inr rfl⟩, ?_⟩
          have hD0 := hS.2.1
          refine sL_currents_98 hc hr ⟨rst, fun w => absurd w y, fun _ => sL_currents_102 hc hr (ee0.fr hf (by omega)) hS ⟨⟨⟨by omega, by omega⟩, Or.inr rfl⟩, ⟨⟨by omega, by omega⟩, Or.inr rfl⟩, ?_⟩⟩
          refine sL_currents_125 hc hr ⟨rst, fun w => absurd w y, fun _ => ?_⟩
          generalize numer q.1.1 (satN q.1.2.2.1 (nA q.1.1)) (givC q.1 q.1.2.2.1) p.2.1.toNat = Na at *
          generalize numer q.1.1 (satN q.1.2.2.1 (nA q.1.1)) (givC q.1 q.1.2.2.1) p.2.2.1.toNat = Nb at *
          have hg4 : 1 ≤ p.2.2.2 ∧ p.2.2.2 ≤ 4 := ⟨by omega, by omega⟩
          have hdd := Int.mul_pos a2 b2
          have hBB := hBC.2.1
          have hd2 : lowT Na (solD q.1.1 (satN q.1.2.2.1 (nA q.1.1))) 1 * lowT Nb (solD q.1.1 (satN q.1.2.2.1 (nA q.1.1))) 1 ≤ 67108864 * 67108864 := Int.mul_le_mul (by omega) (by omega) (by omega) (by omega)
          generalize lowT Na (solD q.1.1 (satN q.1.2.2.1 (nA q.1.1))) 0 * lowT Nb (solD q.1.1 (satN q.1.2.2.1 (nA q.1.1))) 1 - lowT Nb (solD q.1.1 (satN q.1.2.2.1 (nA q.1.1))) 0 * lowT Na (solD q.1.1 (satN q.1.2.2.1 (nA q.1.1))) 1 = FA at *
          generalize lowT Na (solD q.1.1 (satN q.1.2.2.1 (nA q.1.1))) 1 * lowT Nb (solD q.1.1 (satN q.1.2.2.1 (nA q.1.1))) 1 = BL at *
          obtain ⟨AB, hAB⟩ : ∃ AB : Int, AB = p.2.2.2 * FA := ⟨_, rfl⟩
          have rAB : R6p AB := by
            have hm := mul_bd (a := p.2.2.2) (b := FA) (B := 4) (C := 1576259869579673600) ⟨by omega, hg4.2⟩ far.1
            rw [← hAB] at hm
            exact ⟨by omega, by omega⟩
          have rBL : R6p BL := ⟨by omega, by omega⟩
          have hcr : solD q.1.1 (satN q.1.2.2.1 (nA q.1.1)) * AB = BL * (p.2.2.2 * (Na - Nb)) := by
            rw [hAB, Int.mul_left_comm, far.2]
            grind
          have hlow := fun w : Int => low_eq (x := AB) (y := p.2.2.2 * (Na - Nb)) (w := w) hD0 hdd hcr
          rw [← hAB]
          have hg0 : 0 < Nat.gcd AB.natAbs BL.natAbs := Nat.gcd_pos_of_pos_right _ (by omega)
          have hgle : Nat.gcd AB.natAbs BL.natAbs ≤ BL.natAbs := Nat.le_of_dvd (by omega) (Nat.gcd_dvd_right _ _)
          have rg : R6 (gcZ AB BL) := by
            unfold gcZ
            unfold R6p at rBL
            exact ⟨by omega, by omega⟩
          have gz : gcZ AB BL ≠ 0 := by
            unfold gcZ
            omega
          have td : ∀ y : Int, R6p y → ∀ q : Int, R6 (y.tdiv q) := fun y hy q => by
            have := tdiv_bd (a := y) (p := q)
            unfold R6p at hy
            exact ⟨by omega, by omega⟩
          have v0 : curV q.1 q.1.2.2.1 p 0 = AB.tdiv (gcZ AB BL) := by
            rw [hcv, ← hlow 0]
            unfold lowT
            rw [if_neg (Nat.ne_of_gt hg0), if_pos rfl]
            rfl
          have v1 : curV q.1 q.1.2.2.1 p 1 = BL.tdiv (gcZ AB BL) := by
            rw [hcv, ← hlow 1]
            unfold lowT
            rw [if_neg (Nat.ne_of_gt hg0), if_neg (by decide)]
            rfl
          refine sL_currents_129 (bb := 6 * j + 3) (sb9 := 36 * j + 18) hc hr hq.1 rfl ⟨⟨rAB, rBL⟩, q, i, 0, rfl, R3_s (by omega), R3_0, hq, fun h1 hq1 f1 => ?_⟩
          rw [hoc 0 (Or.inl rfl), if_neg y, v0]
          refine ⟨rfl, sL_currents_149 (tl0 := AB.tdiv (gcZ AB BL)) hc hr ⟨⟨rAB.r, rg, td _ rAB _, gz⟩, ⟨td _ rAB _, td _ rAB _⟩, fun w => absurd rfl w, fun _ => ?_⟩⟩
          refine sL_currents_158 (bb := 6 * j) (sb9 := 36 * j) hc hr hq1.1 rfl ⟨q, i, 1, rfl, R3_s (by omega), ⟨by decide, by decide⟩, hq1, fun h2 hq2 f2 => ?_⟩
          rw [hoc 1 (Or.inr rfl), if_neg y, v1]
          exact ⟨rfl, sL_currents_165 (tl0 := BL.tdiv (gcZ AB BL)) hc hr ⟨⟨rBL.r, rg, td _ rBL _, gz⟩, ⟨td _ rBL _, td _ rBL _⟩, fun _ => ih (i + 1) (by omega) h2 hq2 ((hf.tr f1).tr f2), fun w => absurd rfl w⟩⟩
      · refine (ih (i + 1) (by omega) hh hq hf).up (by omega) (by omega)
  have L0 := L q.1.1.length 0 (by omega) h hq0 Fr.rf
  exact sL_currents_0 (bb := 72) (sb9 := 432) hc hr (L0.up (by omega) (by omega))
