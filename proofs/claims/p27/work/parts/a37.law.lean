/-! part a37: the law -/
set_option maxHeartbeats 4000000 in
set_option maxRecDepth 100000 in
theorem sL_law_40 {X : Xt} {n : Nat} {h : HP} {a1 : Nat} {a2 : Nat} {a3 : Nat} {a4 : Nat} {a5 : Nat} {a6 : Nat} {a7 : Nat} {bb : Nat} {sb9 : Nat} {f1 : Nat → Int} (hc : Cx X cL_law RL 13 13 510) {L9 : Nat} {xs : Nat → Int32} (hX : ScX X L9 xs) (hL : CxL X) (e1 : At h n a2 (ai 4 f1))
    (P : (Ix 1 4) ∧ (Ix 3 4) ∧ Ok X bb sb9 50 [(0, .ref (SA + 1)), (1, .ref a1), (2, .ref a2), (3, .ref a3), (4, .ref a4), (5, .ref a5), (6, .ref a6), (7, .ref a7)] [] n (va_up (va_up h a2 (ai 4 (va_up f1 (1 : Int).toNat 150))) a2 (ai 4 (va_up (va_up f1 (1 : Int).toNat 150) (3 : Int).toNat 1)))) :
    Ok X bb sb9 40 [(0, .ref (SA + 1)), (1, .ref a1), (2, .ref a2), (3, .ref a3), (4, .ref a4), (5, .ref a5), (6, .ref a6), (7, .ref a7)] [] n h := by
  refine ok_aload_n (pc := 40) hc dL_law_40 rfl 2 rfl ?_
  refine ok_iconst (pc := 41) hc (v := i3 1) dL_law_41 (by decide) ?_
  refine ok_sipush (pc := 42) hc (v := i3 150) dL_law_42 (by decide) ?_
  obtain ⟨r, P⟩ := P
  refine zk_iast (pc := 45) hc dL_law_45 e1.1 e1.2 r ?_
  refine ok_aload_n (pc := 46) hc dL_law_46 rfl 2 rfl ?_
  refine ok_iconst (pc := 47) hc (v := i3 3) dL_law_47 (by decide) ?_
  refine ok_iconst (pc := 48) hc (v := i3 1) dL_law_48 (by decide) ?_
  obtain ⟨r, P⟩ := P
  refine zk_iast (pc := 49) hc dL_law_49 e1.1 up_self r ?_
  exact P

set_option maxHeartbeats 4000000 in
set_option maxRecDepth 100000 in
theorem sL_law_50 {X : Xt} {n : Nat} {h : HP} {a1 : Nat} {a2 : Nat} {a3 : Nat} {a4 : Nat} {a5 : Nat} {a6 : Nat} {a7 : Nat} {bb : Nat} {sb9 : Nat} (hc : Cx X cL_law RL 13 13 510) {L9 : Nat} {xs : Nat → Int32} (hX : ScX X L9 xs) (hL : CxL X) 
    (P : (ClV [.ref (SA + 1), .ref a1, .ref a2, .ref a3, .ref a4, .ref a5, .ref a6, .ref a7] n ∧ ClV [] n) ∧ spec_L_told [.ref a1, .int (i3 0), .ref a2, .ref a3] n h (kg X bb sb9 54 [(0, .ref (SA + 1)), (1, .ref a1), (2, .ref a2), (3, .ref a3), (4, .ref a4), (5, .ref a5), (6, .ref a6), (7, .ref a7)] [] n)) :
    Ok X (bb + 455) (sb9 + 2830) 50 [(0, .ref (SA + 1)), (1, .ref a1), (2, .ref a2), (3, .ref a3), (4, .ref a4), (5, .ref a5), (6, .ref a6), (7, .ref a7)] [] n h := by
  refine ok_aload_n (pc := 50) hc dL_law_50 rfl 1 rfl ?_
  refine ok_iconst (pc := 51) hc (v := i3 0) dL_law_51 (by decide) ?_
  refine ok_aload_n (pc := 52) hc dL_law_52 rfl 2 rfl ?_
  refine ok_aload_n (pc := 53) hc dL_law_53 rfl 3 rfl ?_
  obtain ⟨rg, P⟩ := P
  exact ok_callSg (pc := 54) (cb := bb) (sb := sb9) (st := []) hc [.ref a1, .int (i3 0), .ref a2, .ref a3] cs_L_160 sp_L_told (by decide) dL_law_54 rfl rfl rfl rfl (Nat.le_of_ble_eq_true rfl) rg.1 rg.2 P

set_option maxHeartbeats 4000000 in
set_option maxRecDepth 100000 in
theorem sL_law_57 {X : Xt} {n : Nat} {h : HP} {a1 : Nat} {a2 : Nat} {a3 : Nat} {a4 : Nat} {a5 : Nat} {a6 : Nat} {a7 : Nat} {t0 : Int} {bb : Nat} {sb9 : Nat} (hc : Cx X cL_law RL 13 13 510) {L9 : Nat} {xs : Nat → Int32} (hX : ScX X L9 xs) (hL : CxL X) 
    (P : (R3 t0) ∧ (t0 = 0 → 0 = (1 : Int)) ∧ (¬ t0 = 0 → Ok X bb sb9 60 [(0, .ref (SA + 1)), (1, .ref a1), (2, .ref a2), (3, .ref a3), (4, .ref a4), (5, .ref a5), (6, .ref a6), (7, .ref a7)] [] n h)) :
    Ok X bb sb9 57 [(0, .ref (SA + 1)), (1, .ref a1), (2, .ref a2), (3, .ref a3), (4, .ref a4), (5, .ref a5), (6, .ref a6), (7, .ref a7)] [.int (i3 t0)] n h := by
  obtain ⟨r1, P⟩ := P
  refine zk_if_eq (pc := 57) (tgt := 90) hc dL_law_57 (by decide) r1 (fun c => ?_) (fun c => ?_)
  · have P := P.1 c
    refine ok_iconst (pc := 90) hc (v := i3 0) dL_law_90 (by decide) ?_
    exact ok_retL hc hL dL_law_91 P
  · have P := P.2 c
    exact P

set_option maxHeartbeats 4000000 in
set_option maxRecDepth 100000 in
theorem sL_law_60 {X : Xt} {n : Nat} {h : HP} {a1 : Nat} {a2 : Nat} {a3 : Nat} {a4 : Nat} {a5 : Nat} {a6 : Nat} {a7 : Nat} {bb : Nat} {sb9 : Nat} {fs1 : List Value} (hc : Cx X cL_law RL 13 13 510) {L9 : Nat} {xs : Nat → Int32} (hX : ScX X L9 xs) (hL : CxL X) (e1 : At h n a1 (.inl (6, fs1))) (z1 : fs1.length = 6)
    (P : spec_X6_count [.ref a1, .int (i3 8)] n h (kc X bb sb9 63 [(0, .ref (SA + 1)), (1, .ref a1), (2, .ref a2), (3, .ref a3), (4, .ref a4), (5, .ref a5), (6, .ref a6), (7, .ref a7)] [] n)) :
    Ok X (bb + 1) (sb9 + 6) 60 [(0, .ref (SA + 1)), (1, .ref a1), (2, .ref a2), (3, .ref a3), (4, .ref a4), (5, .ref a5), (6, .ref a6), (7, .ref a7)] [] n h := by
  refine ok_aload_n (pc := 60) hc dL_law_60 rfl 1 rfl ?_
  refine ok_bipush (pc := 61) hc (v := i3 8) dL_law_61 (by decide) ?_
  exact ok_callV (pc := 63) (a := a1) (cb := bb) (sb := sb9) (st := []) hc [.int (i3 8)] cv_L_91 sp_X6_count (by decide) dL_law_63 rfl e1.1 e1.2 rfl rfl rfl (Nat.le_of_ble_eq_true rfl) P

set_option maxHeartbeats 4000000 in
set_option maxRecDepth 100000 in
theorem sL_law_66 {X : Xt} {n : Nat} {h : HP} {a1 : Nat} {a2 : Nat} {a3 : Nat} {a4 : Nat} {a5 : Nat} {a6 : Nat} {a7 : Nat} {t0 : Int} {bb : Nat} {sb9 : Nat} (hc : Cx X cL_law RL 13 13 510) {L9 : Nat} {xs : Nat → Int32} (hX : ScX X L9 xs) (hL : CxL X) 
    (P : (R3 t0) ∧ (¬ t0 = 0 → 0 = (1 : Int)) ∧ (t0 = 0 → Ok X bb sb9 69 [(0, .ref (SA + 1)), (1, .ref a1), (2, .ref a2), (3, .ref a3), (4, .ref a4), (5, .ref a5), (6, .ref a6), (7, .ref a7)] [] n h)) :
    Ok X bb sb9 66 [(0, .ref (SA + 1)), (1, .ref a1), (2, .ref a2), (3, .ref a3), (4, .ref a4), (5, .ref a5), (6, .ref a6), (7, .ref a7)] [.int (i3 t0)] n h := by
  obtain ⟨r1, P⟩ := P
  refine zk_if_ne (pc := 66) (tgt := 90) hc dL_law_66 (by decide) r1 (fun c => ?_) (fun c => ?_)
  · have P := P.1 c
    refine ok_iconst (pc := 90) hc (v := i3 0) dL_law_90 (by decide) ?_
    exact ok_retL hc hL dL_law_91 P
  · have P := P.2 c
    exact P

set_option maxHeartbeats 4000000 in
set_option maxRecDepth 100000 in
theorem sL_law_69 {X : Xt} {n : Nat} {h : HP} {a1 : Nat} {a2 : Nat} {a3 : Nat} {a4 : Nat} {a5 : Nat} {a6 : Nat} {a7 : Nat} {bb : Nat} {sb9 : Nat} (hc : Cx X cL_law RL 13 13 510) {L9 : Nat} {xs : Nat → Int32} (hX : ScX X L9 xs) (hL : CxL X) 
    (P : spec_L_cell [.ref (SA + 1), .int (i3 0)] n h (kc X bb sb9 72 [(0, .ref (SA + 1)), (1, .ref a1), (2, .ref a2), (3, .ref a3), (4, .ref a4), (5, .ref a5), (6, .ref a6), (7, .ref a7)] [.ref a1] n)) :
    Ok X bb sb9 69 [(0, .ref (SA + 1)), (1, .ref a1), (2, .ref a2), (3, .ref a3), (4, .ref a4), (5, .ref a5), (6, .ref a6), (7, .ref a7)] [] n h := by
  refine ok_aload_n (pc := 69) hc dL_law_69 rfl 1 rfl ?_
  refine ok_aload_n (pc := 70) hc dL_law_70 rfl 0 rfl ?_
  refine ok_iconst (pc := 71) hc (v := i3 0) dL_law_71 (by decide) ?_
  exact ok_callS (pc := 72) (cb := bb) (sb := sb9) (st := [.ref a1]) hc [.ref (SA + 1), .int (i3 0)] cs_L_164 sp_L_cell (by decide) dL_law_72 rfl rfl rfl rfl (Nat.le_of_ble_eq_true rfl) P

set_option maxHeartbeats 4000000 in
set_option maxRecDepth 100000 in
theorem sL_law_75 {X : Xt} {n : Nat} {h : HP} {a1 : Nat} {a2 : Nat} {a3 : Nat} {a4 : Nat} {a5 : Nat} {a6 : Nat} {a7 : Nat} {t0 : Int} {ta1 : Nat} {bb : Nat} {sb9 : Nat} (hc : Cx X cL_law RL 13 13 510) {L9 : Nat} {xs : Nat → Int32} (hX : ScX X L9 xs) (hL : CxL X) 
    (P : spec_L_stage [.ref ta1, .int (i3 (band t0 2147483647)), .ref a2, .ref a3, .ref a6, .ref a7] n h (kc X bb sb9 84 [(0, .ref (SA + 1)), (1, .ref a1), (2, .ref a2), (3, .ref a3), (4, .ref a4), (5, .ref a5), (6, .ref a6), (7, .ref a7)] [] n)) :
    Ok X (bb + 58) (sb9 + 348) 75 [(0, .ref (SA + 1)), (1, .ref a1), (2, .ref a2), (3, .ref a3), (4, .ref a4), (5, .ref a5), (6, .ref a6), (7, .ref a7)] [.int (i3 t0), .ref ta1] n h := by
  refine ok_ldcI (pc := 75) hc (v := i3 2147483647) dL_law_75 (in_all (i := 843) (by decide +kernel) rfl) ?_
  refine zk_iand (pc := 77) hc dL_law_77 ?_
  refine ok_aload_n (pc := 78) hc dL_law_78 rfl 2 rfl ?_
  refine ok_aload_n (pc := 79) hc dL_law_79 rfl 3 rfl ?_
  refine ok_aload (pc := 80) hc dL_law_80 6 rfl ?_
  refine ok_aload (pc := 82) hc dL_law_82 7 rfl ?_
  exact ok_callS (pc := 84) (cb := bb) (sb := sb9) (st := []) hc [.ref ta1, .int (i3 (band t0 2147483647)), .ref a2, .ref a3, .ref a6, .ref a7] cs_L_143 sp_L_stage (by decide) dL_law_84 rfl rfl rfl rfl (Nat.le_of_ble_eq_true rfl) P

set_option maxHeartbeats 4000000 in
set_option maxRecDepth 100000 in
theorem sL_law_87 {X : Xt} {n : Nat} {h : HP} {a1 : Nat} {a2 : Nat} {a3 : Nat} {a4 : Nat} {a5 : Nat} {a6 : Nat} {a7 : Nat} {t0 : Int} {bb : Nat} {sb9 : Nat} (hc : Cx X cL_law RL 13 13 510) {L9 : Nat} {xs : Nat → Int32} (hX : ScX X L9 xs) (hL : CxL X) 
    (P : (R3 t0) ∧ (¬ t0 = 0 → Ok X bb sb9 92 [(0, .ref (SA + 1)), (1, .ref a1), (2, .ref a2), (3, .ref a3), (4, .ref a4), (5, .ref a5), (6, .ref a6), (7, .ref a7)] [] n h) ∧ (t0 = 0 → 0 = (1 : Int))) :
    Ok X bb sb9 87 [(0, .ref (SA + 1)), (1, .ref a1), (2, .ref a2), (3, .ref a3), (4, .ref a4), (5, .ref a5), (6, .ref a6), (7, .ref a7)] [.int (i3 t0)] n h := by
  obtain ⟨r1, P⟩ := P
  refine zk_if_ne (pc := 87) (tgt := 92) hc dL_law_87 (by decide) r1 (fun c => ?_) (fun c => ?_)
  · have P := P.1 c
    exact P
  · have P := P.2 c
    refine ok_iconst (pc := 90) hc (v := i3 0) dL_law_90 (by decide) ?_
    exact ok_retL hc hL dL_law_91 P

set_option maxHeartbeats 4000000 in
set_option maxRecDepth 100000 in
theorem sL_law_92 {X : Xt} {n : Nat} {h : HP} {a1 : Nat} {a2 : Nat} {a3 : Nat} {a4 : Nat} {a5 : Nat} {a6 : Nat} {a7 : Nat} {bb : Nat} {sb9 : Nat} (hc : Cx X cL_law RL 13 13 510) {L9 : Nat} {xs : Nat → Int32} (hX : ScX X L9 xs) (hL : CxL X) 
    (P : Ok X bb sb9 95 [(0, .ref (SA + 1)), (1, .ref a1), (2, .ref a2), (3, .ref a3), (4, .ref a4), (5, .ref a5), (6, .ref a6), (7, .ref a7), (8, .int (i3 1))] [] n h) :
    Ok X bb sb9 92 [(0, .ref (SA + 1)), (1, .ref a1), (2, .ref a2), (3, .ref a3), (4, .ref a4), (5, .ref a5), (6, .ref a6), (7, .ref a7)] [] n h := by
  refine ok_iconst (pc := 92) hc (v := i3 1) dL_law_92 (by decide) ?_
  refine ok_istore (pc := 93) hc (lv' := [(8, .int (i3 1)), (0, .ref (SA + 1)), (1, .ref a1), (2, .ref a2), (3, .ref a3), (4, .ref a4), (5, .ref a5), (6, .ref a6), (7, .ref a7)]) dL_law_93 (by decide) rfl ?_
  refine ok_lv [1, 2, 3, 4, 5, 6, 7, 8, 0] rfl ?_
  exact P

set_option maxHeartbeats 4000000 in
set_option maxRecDepth 100000 in
theorem sL_law_95 {X : Xt} {n : Nat} {h : HP} {a1 : Nat} {a2 : Nat} {a3 : Nat} {a4 : Nat} {a5 : Nat} {a6 : Nat} {a7 : Nat} {x8 : Int} {bb : Nat} {sb9 : Nat} (hc : Cx X cL_law RL 13 13 510) {L9 : Nat} {xs : Nat → Int32} (hX : ScX X L9 xs) (hL : CxL X) 
    (P : (R3 x8) ∧ (14 ≤ x8 → Ok X bb sb9 365 [(0, .ref (SA + 1)), (1, .ref a1), (2, .ref a2), (3, .ref a3), (4, .ref a4), (5, .ref a5), (6, .ref a6), (7, .ref a7), (8, .int (i3 x8))] [] n h) ∧ (¬ 14 ≤ x8 → Ok X bb sb9 102 [(0, .ref (SA + 1)), (1, .ref a1), (2, .ref a2), (3, .ref a3), (4, .ref a4), (5, .ref a5), (6, .ref a6), (7, .ref a7), (8, .int (i3 x8))] [] n h)) :
    Ok X bb sb9 95 [(0, .ref (SA + 1)), (1, .ref a1), (2, .ref a2), (3, .ref a3), (4, .ref a4), (5, .ref a5), (6, .ref a6), (7, .ref a7), (8, .int (i3 x8))] [] n h := by
  refine ok_iload (pc := 95) hc dL_law_95 8 rfl ?_
  refine ok_bipush (pc := 97) hc (v := i3 14) dL_law_97 (by decide) ?_
  obtain ⟨r1, P⟩ := P
  refine zk_icmp_ge (pc := 99) (tgt := 365) hc dL_law_99 (by decide) r1 ⟨by decide, by decide⟩ (fun c => ?_) (fun c => ?_)
  · have P := P.1 c
    exact P
  · have P := P.2 c
    exact P

set_option maxHeartbeats 4000000 in
set_option maxRecDepth 100000 in
theorem sL_law_102 {X : Xt} {n : Nat} {h : HP} {a1 : Nat} {a2 : Nat} {a3 : Nat} {a4 : Nat} {a5 : Nat} {a6 : Nat} {a7 : Nat} {x8 : Int} {bb : Nat} {sb9 : Nat} (hc : Cx X cL_law RL 13 13 510) {L9 : Nat} {xs : Nat → Int32} (hX : ScX X L9 xs) (hL : CxL X) 
    (P : spec_L_cell [.ref (SA + 1), .int (i3 (2 * x8))] n h (kc X bb sb9 107 [(0, .ref (SA + 1)), (1, .ref a1), (2, .ref a2), (3, .ref a3), (4, .ref a4), (5, .ref a5), (6, .ref a6), (7, .ref a7), (8, .int (i3 x8))] [] n)) :
    Ok X bb sb9 102 [(0, .ref (SA + 1)), (1, .ref a1), (2, .ref a2), (3, .ref a3), (4, .ref a4), (5, .ref a5), (6, .ref a6), (7, .ref a7), (8, .int (i3 x8))] [] n h := by
  refine ok_aload_n (pc := 102) hc dL_law_102 rfl 0 rfl ?_
  refine ok_iconst (pc := 103) hc (v := i3 2) dL_law_103 (by decide) ?_
  refine ok_iload (pc := 104) hc dL_law_104 8 rfl ?_
  refine zk_imul (pc := 106) hc dL_law_106 ?_
  exact ok_callS (pc := 107) (cb := bb) (sb := sb9) (st := []) hc [.ref (SA + 1), .int (i3 (2 * x8))] cs_L_164 sp_L_cell (by decide) dL_law_107 rfl rfl rfl rfl (Nat.le_of_ble_eq_true rfl) P

set_option maxHeartbeats 4000000 in
set_option maxRecDepth 100000 in
theorem sL_law_110 {X : Xt} {n : Nat} {h : HP} {a1 : Nat} {a2 : Nat} {a3 : Nat} {a4 : Nat} {a5 : Nat} {a6 : Nat} {a7 : Nat} {x8 : Int} {t0 : Int} {bb : Nat} {sb9 : Nat} (hc : Cx X cL_law RL 13 13 510) {L9 : Nat} {xs : Nat → Int32} (hX : ScX X L9 xs) (hL : CxL X) 
    (P : spec_L_cell [.ref (SA + 1), .int (i3 ((2 * x8) + 1))] n h (kc X bb sb9 122 [(0, .ref (SA + 1)), (1, .ref a1), (2, .ref a2), (3, .ref a3), (4, .ref a4), (5, .ref a5), (6, .ref a6), (7, .ref a7), (8, .int (i3 x8)), (9, .int (i3 (band t0 2147483647)))] [] n)) :
    Ok X bb sb9 110 [(0, .ref (SA + 1)), (1, .ref a1), (2, .ref a2), (3, .ref a3), (4, .ref a4), (5, .ref a5), (6, .ref a6), (7, .ref a7), (8, .int (i3 x8))] [.int (i3 t0)] n h := by
  refine ok_ldcI (pc := 110) hc (v := i3 2147483647) dL_law_110 (in_all (i := 843) (by decide +kernel) rfl) ?_
  refine zk_iand (pc := 112) hc dL_law_112 ?_
  refine ok_istore (pc := 113) hc (lv' := [(9, .int (i3 (band t0 2147483647))), (0, .ref (SA + 1)), (1, .ref a1), (2, .ref a2), (3, .ref a3), (4, .ref a4), (5, .ref a5), (6, .ref a6), (7, .ref a7), (8, .int (i3 x8))]) dL_law_113 (by decide) rfl ?_
  refine ok_aload_n (pc := 115) hc dL_law_115 rfl 1 rfl ?_
  refine ok_iconst (pc := 116) hc (v := i3 2) dL_law_116 (by decide) ?_
  refine ok_iload (pc := 117) hc dL_law_117 9 rfl ?_
  refine zk_imul (pc := 119) hc dL_law_119 ?_
  refine ok_iconst (pc := 120) hc (v := i3 1) dL_law_120 (by decide) ?_
  refine zk_iadd (pc := 121) hc dL_law_121 ?_
  refine ok_lv [1, 2, 3, 4, 5, 6, 7, 8, 9, 0] rfl ?_
  exact ok_callS (pc := 122) (cb := bb) (sb := sb9) (st := []) hc [.ref (SA + 1), .int (i3 ((2 * x8) + 1))] cs_L_164 sp_L_cell (by decide) dL_law_122 rfl rfl rfl rfl (Nat.le_of_ble_eq_true rfl) P

set_option maxHeartbeats 4000000 in
set_option maxRecDepth 100000 in
theorem sL_law_125 {X : Xt} {n : Nat} {h : HP} {a1 : Nat} {a2 : Nat} {a3 : Nat} {a4 : Nat} {a5 : Nat} {a6 : Nat} {a7 : Nat} {x8 : Int} {x9 : Int} {t0 : Int} {bb : Nat} {sb9 : Nat} {fs1 : List Value} (hc : Cx X cL_law RL 13 13 510) {L9 : Nat} {xs : Nat → Int32} (hX : ScX X L9 xs) (hL : CxL X) (e1 : At h n a1 (.inl (6, fs1))) (z1 : fs1.length = 6)
    (P : spec_X6_count [.ref a1, .int (i3 8)] n h (kc X bb sb9 133 [(0, .ref (SA + 1)), (1, .ref a1), (2, .ref a2), (3, .ref a3), (4, .ref a4), (5, .ref a5), (6, .ref a6), (7, .ref a7), (8, .int (i3 x8)), (9, .int (i3 x9)), (10, .int (i3 (band t0 2147483647)))] [] n)) :
    Ok X (bb + 1) (sb9 + 6) 125 [(0, .ref (SA + 1)), (1, .ref a1), (2, .ref a2), (3, .ref a3), (4, .ref a4), (5, .ref a5), (6, .ref a6), (7, .ref a7), (8, .int (i3 x8)), (9, .int (i3 x9))] [.int (i3 t0)] n h := by
  refine ok_ldcI (pc := 125) hc (v := i3 2147483647) dL_law_125 (in_all (i := 843) (by decide +kernel) rfl) ?_
  refine zk_iand (pc := 127) hc dL_law_127 ?_
  refine ok_istore (pc := 128) hc (lv' := [(10, .int (i3 (band t0 2147483647))), (0, .ref (SA + 1)), (1, .ref a1), (2, .ref a2), (3, .ref a3), (4, .ref a4), (5, .ref a5), (6, .ref a6), (7, .ref a7), (8, .int (i3 x8)), (9, .int (i3 x9))]) dL_law_128 (by decide) rfl ?_
  refine ok_aload_n (pc := 130) hc dL_law_130 rfl 2 rfl ?_
  refine ok_bipush (pc := 131) hc (v := i3 8) dL_law_131 (by decide) ?_
  refine ok_lv [1, 2, 3, 4, 5, 6, 7, 8, 9, 10, 0] rfl ?_
  exact ok_callV (pc := 133) (a := a1) (cb := bb) (sb := sb9) (st := []) hc [.int (i3 8)] cv_L_91 sp_X6_count (by decide) dL_law_133 rfl e1.1 e1.2 rfl rfl rfl (Nat.le_of_ble_eq_true rfl) P

set_option maxHeartbeats 4000000 in
set_option maxRecDepth 100000 in
theorem sL_law_136 {X : Xt} {n : Nat} {h : HP} {a1 : Nat} {a2 : Nat} {a3 : Nat} {a4 : Nat} {a5 : Nat} {a6 : Nat} {a7 : Nat} {x8 : Int} {x9 : Int} {x10 : Int} {t0 : Int} {bb : Nat} {sb9 : Nat} (hc : Cx X cL_law RL 13 13 510) {L9 : Nat} {xs : Nat → Int32} (hX : ScX X L9 xs) (hL : CxL X) 
    (P : Ok X bb sb9 141 [(0, .ref (SA + 1)), (1, .ref a1), (2, .ref a2), (3, .ref a3), (4, .ref a4), (5, .ref a5), (6, .ref a6), (7, .ref a7), (8, .int (i3 x8)), (9, .int (i3 x9)), (10, .int (i3 x10)), (11, .int (i3 t0)), (12, .int (i3 0))] [] n h) :
    Ok X bb sb9 136 [(0, .ref (SA + 1)), (1, .ref a1), (2, .ref a2), (3, .ref a3), (4, .ref a4), (5, .ref a5), (6, .ref a6), (7, .ref a7), (8, .int (i3 x8)), (9, .int (i3 x9)), (10, .int (i3 x10))] [.int (i3 t0)] n h := by
  refine ok_istore (pc := 136) hc (lv' := [(11, .int (i3 t0)), (0, .ref (SA + 1)), (1, .ref a1), (2, .ref a2), (3, .ref a3), (4, .ref a4), (5, .ref a5), (6, .ref a6), (7, .ref a7), (8, .int (i3 x8)), (9, .int (i3 x9)), (10, .int (i3 x10))]) dL_law_136 (by decide) rfl ?_
  refine ok_iconst (pc := 138) hc (v := i3 0) dL_law_138 (by decide) ?_
  refine ok_istore (pc := 139) hc (lv' := [(12, .int (i3 0)), (11, .int (i3 t0)), (0, .ref (SA + 1)), (1, .ref a1), (2, .ref a2), (3, .ref a3), (4, .ref a4), (5, .ref a5), (6, .ref a6), (7, .ref a7), (8, .int (i3 x8)), (9, .int (i3 x9)), (10, .int (i3 x10))]) dL_law_139 (by decide) rfl ?_
  refine ok_lv [2, 3, 4, 5, 6, 7, 8, 9, 10, 11, 12, 1, 0] rfl ?_
  exact P

set_option maxHeartbeats 4000000 in
set_option maxRecDepth 100000 in
theorem sL_law_141 {X : Xt} {n : Nat} {h : HP} {a1 : Nat} {a2 : Nat} {a3 : Nat} {a4 : Nat} {a5 : Nat} {a6 : Nat} {a7 : Nat} {x8 : Int} {x9 : Int} {x10 : Int} {x11 : Int} {x12 : Int} {bb : Nat} {sb9 : Nat} (hc : Cx X cL_law RL 13 13 510) {L9 : Nat} {xs : Nat → Int32} (hX : ScX X L9 xs) (hL : CxL X) 
    (P : (R3 x12) ∧ (4 ≤ x12 → Ok X bb sb9 162 [(0, .ref (SA + 1)), (1, .ref a1), (2, .ref a2), (3, .ref a3), (4, .ref a4), (5, .ref a5), (6, .ref a6), (7, .ref a7), (8, .int (i3 x8)), (9, .int (i3 x9)), (10, .int (i3 x10)), (11, .int (i3 x11)), (12, .int (i3 x12))] [] n h) ∧ (¬ 4 ≤ x12 → Ok X bb sb9 147 [(0, .ref (SA + 1)), (1, .ref a1), (2, .ref a2), (3, .ref a3), (4, .ref a4), (5, .ref a5), (6, .ref a6), (7, .ref a7), (8, .int (i3 x8)), (9, .int (i3 x9)), (10, .int (i3 x10)), (11, .int (i3 x11)), (12, .int (i3 x12))] [] n h)) :
    Ok X bb sb9 141 [(0, .ref (SA + 1)), (1, .ref a1), (2, .ref a2), (3, .ref a3), (4, .ref a4), (5, .ref a5), (6, .ref a6), (7, .ref a7), (8, .int (i3 x8)), (9, .int (i3 x9)), (10, .int (i3 x10)), (11, .int (i3 x11)), (12, .int (i3 x12))] [] n h := by
  refine ok_iload (pc := 141) hc dL_law_141 12 rfl ?_
  refine ok_iconst (pc := 143) hc (v := i3 4) dL_law_143 (by decide) ?_
  obtain ⟨r1, P⟩ := P
  refine zk_icmp_ge (pc := 144) (tgt := 162) hc dL_law_144 (by decide) r1 ⟨by decide, by decide⟩ (fun c => ?_) (fun c => ?_)
  · have P := P.1 c
    exact P
  · have P := P.2 c
    exact P

set_option maxHeartbeats 4000000 in
set_option maxRecDepth 100000 in
theorem sL_law_147 {X : Xt} {n : Nat} {h : HP} {a1 : Nat} {a2 : Nat} {a3 : Nat} {a4 : Nat} {a5 : Nat} {a6 : Nat} {a7 : Nat} {x8 : Int} {x9 : Int} {x10 : Int} {x11 : Int} {x12 : Int} {bb : Nat} {sb9 : Nat} {f1 : Nat → Int} {f2 : Nat → Int} (hc : Cx X cL_law RL 13 13 510) {L9 : Nat} {xs : Nat → Int32} (hX : ScX X L9 xs) (hL : CxL X) (e1 : At h n a2 (ai 4 f1)) (e2 : At h n a4 (ai 4 f2))
    (P : (Ix x12 4) ∧ (Ix x12 4) ∧ Ok X bb sb9 141 [(0, .ref (SA + 1)), (1, .ref a1), (2, .ref a2), (3, .ref a3), (4, .ref a4), (5, .ref a5), (6, .ref a6), (7, .ref a7), (8, .int (i3 x8)), (9, .int (i3 x9)), (10, .int (i3 x10)), (11, .int (i3 x11)), (12, .int (i3 (x12 + 1)))] [] n (va_up h a4 (ai 4 (va_up f2 (x12 : Int).toNat (f1 (x12 : Int).toNat))))) :
    Ok X bb sb9 147 [(0, .ref (SA + 1)), (1, .ref a1), (2, .ref a2), (3, .ref a3), (4, .ref a4), (5, .ref a5), (6, .ref a6), (7, .ref a7), (8, .int (i3 x8)), (9, .int (i3 x9)), (10, .int (i3 x10)), (11, .int (i3 x11)), (12, .int (i3 x12))] [] n h := by
  refine ok_aload (pc := 147) hc dL_law_147 4 rfl ?_
  refine ok_iload (pc := 149) hc dL_law_149 12 rfl ?_
  refine ok_aload_n (pc := 151) hc dL_law_151 rfl 2 rfl ?_
  refine ok_iload (pc := 152) hc dL_law_152 12 rfl ?_
  obtain ⟨r, P⟩ := P
  refine zk_iald (pc := 154) hc dL_law_154 e1.1 e1.2 r ?_
  obtain ⟨r, P⟩ := P
  refine zk_iast (pc := 155) hc dL_law_155 e2.1 e2.2 r ?_
  refine zk_iinc (pc := 156) hc (q := 12) (x := x12) (lv' := [(12, .int (i3 (x12 + 1))), (0, .ref (SA + 1)), (1, .ref a1), (2, .ref a2), (3, .ref a3), (4, .ref a4), (5, .ref a5), (6, .ref a6), (7, .ref a7), (8, .int (i3 x8)), (9, .int (i3 x9)), (10, .int (i3 x10)), (11, .int (i3 x11))]) dL_law_156 rfl (by decide) rfl ?_
  refine ok_goto (pc := 159) (tgt := 141) hc dL_law_159 (by decide) ?_
  refine ok_lv [1, 2, 3, 4, 5, 6, 7, 8, 9, 10, 11, 12, 0] rfl ?_
  exact P

set_option maxHeartbeats 4000000 in
set_option maxRecDepth 100000 in
theorem sL_law_162 {X : Xt} {n : Nat} {h : HP} {a1 : Nat} {a2 : Nat} {a3 : Nat} {a4 : Nat} {a5 : Nat} {a6 : Nat} {a7 : Nat} {x8 : Int} {x9 : Int} {x10 : Int} {x11 : Int} {x12 : Int} {bb : Nat} {sb9 : Nat} (hc : Cx X cL_law RL 13 13 510) {L9 : Nat} {xs : Nat → Int32} (hX : ScX X L9 xs) (hL : CxL X) 
    (P : Ok X bb sb9 165 [(0, .ref (SA + 1)), (1, .ref a1), (2, .ref a2), (3, .ref a3), (4, .ref a4), (5, .ref a5), (6, .ref a6), (7, .ref a7), (8, .int (i3 x8)), (9, .int (i3 x9)), (10, .int (i3 x10)), (11, .int (i3 x11)), (12, .int (i3 0))] [] n h) :
    Ok X bb sb9 162 [(0, .ref (SA + 1)), (1, .ref a1), (2, .ref a2), (3, .ref a3), (4, .ref a4), (5, .ref a5), (6, .ref a6), (7, .ref a7), (8, .int (i3 x8)), (9, .int (i3 x9)), (10, .int (i3 x10)), (11, .int (i3 x11)), (12, .int (i3 x12))] [] n h := by
  refine ok_iconst (pc := 162) hc (v := i3 0) dL_law_162 (by decide) ?_
  refine ok_istore (pc := 163) hc (lv' := [(12, .int (i3 0)), (0, .ref (SA + 1)), (1, .ref a1), (2, .ref a2), (3, .ref a3), (4, .ref a4), (5, .ref a5), (6, .ref a6), (7, .ref a7), (8, .int (i3 x8)), (9, .int (i3 x9)), (10, .int (i3 x10)), (11, .int (i3 x11))]) dL_law_163 (by decide) rfl ?_
  refine ok_lv [1, 2, 3, 4, 5, 6, 7, 8, 9, 10, 11, 12, 0] rfl ?_
  exact P

set_option maxHeartbeats 4000000 in
set_option maxRecDepth 100000 in
theorem sL_law_165 {X : Xt} {n : Nat} {h : HP} {a1 : Nat} {a2 : Nat} {a3 : Nat} {a4 : Nat} {a5 : Nat} {a6 : Nat} {a7 : Nat} {x8 : Int} {x9 : Int} {x10 : Int} {x11 : Int} {x12 : Int} {bb : Nat} {sb9 : Nat} (hc : Cx X cL_law RL 13 13 510) {L9 : Nat} {xs : Nat → Int32} (hX : ScX X L9 xs) (hL : CxL X) 
    (P : (R3 x12) ∧ (48 ≤ x12 → Ok X bb sb9 187 [(0, .ref (SA + 1)), (1, .ref a1), (2, .ref a2), (3, .ref a3), (4, .ref a4), (5, .ref a5), (6, .ref a6), (7, .ref a7), (8, .int (i3 x8)), (9, .int (i3 x9)), (10, .int (i3 x10)), (11, .int (i3 x11)), (12, .int (i3 x12))] [] n h) ∧ (¬ 48 ≤ x12 → Ok X bb sb9 172 [(0, .ref (SA + 1)), (1, .ref a1), (2, .ref a2), (3, .ref a3), (4, .ref a4), (5, .ref a5), (6, .ref a6), (7, .ref a7), (8, .int (i3 x8)), (9, .int (i3 x9)), (10, .int (i3 x10)), (11, .int (i3 x11)), (12, .int (i3 x12))] [] n h)) :
    Ok X bb sb9 165 [(0, .ref (SA + 1)), (1, .ref a1), (2, .ref a2), (3, .ref a3), (4, .ref a4), (5, .ref a5), (6, .ref a6), (7, .ref a7), (8, .int (i3 x8)), (9, .int (i3 x9)), (10, .int (i3 x10)), (11, .int (i3 x11)), (12, .int (i3 x12))] [] n h := by
  refine ok_iload (pc := 165) hc dL_law_165 12 rfl ?_
  refine ok_bipush (pc := 167) hc (v := i3 48) dL_law_167 (by decide) ?_
  obtain ⟨r1, P⟩ := P
  refine zk_icmp_ge (pc := 169) (tgt := 187) hc dL_law_169 (by decide) r1 ⟨by decide, by decide⟩ (fun c => ?_) (fun c => ?_)
  · have P := P.1 c
    exact P
  · have P := P.2 c
    exact P

set_option maxHeartbeats 4000000 in
set_option maxRecDepth 100000 in
theorem sL_law_172 {X : Xt} {n : Nat} {h : HP} {a1 : Nat} {a2 : Nat} {a3 : Nat} {a4 : Nat} {a5 : Nat} {a6 : Nat} {a7 : Nat} {x8 : Int} {x9 : Int} {x10 : Int} {x11 : Int} {x12 : Int} {bb : Nat} {sb9 : Nat} {f1 : Nat → Int} {f2 : Nat → Int} (hc : Cx X cL_law RL 13 13 510) {L9 : Nat} {xs : Nat → Int32} (hX : ScX X L9 xs) (hL : CxL X) (e1 : At h n a3 (ai 48 f1)) (e2 : At h n a5 (ai 48 f2))
    (P : (Ix x12 48) ∧ (Ix x12 48) ∧ Ok X bb sb9 165 [(0, .ref (SA + 1)), (1, .ref a1), (2, .ref a2), (3, .ref a3), (4, .ref a4), (5, .ref a5), (6, .ref a6), (7, .ref a7), (8, .int (i3 x8)), (9, .int (i3 x9)), (10, .int (i3 x10)), (11, .int (i3 x11)), (12, .int (i3 (x12 + 1)))] [] n (va_up h a5 (ai 48 (va_up f2 (x12 : Int).toNat (f1 (x12 : Int).toNat))))) :
    Ok X bb sb9 172 [(0, .ref (SA + 1)), (1, .ref a1), (2, .ref a2), (3, .ref a3), (4, .ref a4), (5, .ref a5), (6, .ref a6), (7, .ref a7), (8, .int (i3 x8)), (9, .int (i3 x9)), (10, .int (i3 x10)), (11, .int (i3 x11)), (12, .int (i3 x12))] [] n h := by
  refine ok_aload (pc := 172) hc dL_law_172 5 rfl ?_
  refine ok_iload (pc := 174) hc dL_law_174 12 rfl ?_
  refine ok_aload_n (pc := 176) hc dL_law_176 rfl 3 rfl ?_
  refine ok_iload (pc := 177) hc dL_law_177 12 rfl ?_
  obtain ⟨r, P⟩ := P
  refine zk_iald (pc := 179) hc dL_law_179 e1.1 e1.2 r ?_
  obtain ⟨r, P⟩ := P
  refine zk_iast (pc := 180) hc dL_law_180 e2.1 e2.2 r ?_
  refine zk_iinc (pc := 181) hc (q := 12) (x := x12) (lv' := [(12, .int (i3 (x12 + 1))), (0, .ref (SA + 1)), (1, .ref a1), (2, .ref a2), (3, .ref a3), (4, .ref a4), (5, .ref a5), (6, .ref a6), (7, .ref a7), (8, .int (i3 x8)), (9, .int (i3 x9)), (10, .int (i3 x10)), (11, .int (i3 x11))]) dL_law_181 rfl (by decide) rfl ?_
  refine ok_goto (pc := 184) (tgt := 165) hc dL_law_184 (by decide) ?_
  refine ok_lv [1, 2, 3, 4, 5, 6, 7, 8, 9, 10, 11, 12, 0] rfl ?_
  exact P

set_option maxHeartbeats 4000000 in
set_option maxRecDepth 100000 in
theorem sL_law_187 {X : Xt} {n : Nat} {h : HP} {a1 : Nat} {a2 : Nat} {a3 : Nat} {a4 : Nat} {a5 : Nat} {a6 : Nat} {a7 : Nat} {x8 : Int} {x9 : Int} {x10 : Int} {x11 : Int} {x12 : Int} {bb : Nat} {sb9 : Nat} (hc : Cx X cL_law RL 13 13 510) {L9 : Nat} {xs : Nat → Int32} (hX : ScX X L9 xs) (hL : CxL X) 
    (P : spec_L_at [.int (i3 (bshr x9 13)), .int (i3 14)] n h (kc X bb sb9 195 [(0, .ref (SA + 1)), (1, .ref a1), (2, .ref a2), (3, .ref a3), (4, .ref a4), (5, .ref a5), (6, .ref a6), (7, .ref a7), (8, .int (i3 x8)), (9, .int (i3 x9)), (10, .int (i3 x10)), (11, .int (i3 x11)), (12, .int (i3 x12))] [.ref a1] n)) :
    Ok X bb sb9 187 [(0, .ref (SA + 1)), (1, .ref a1), (2, .ref a2), (3, .ref a3), (4, .ref a4), (5, .ref a5), (6, .ref a6), (7, .ref a7), (8, .int (i3 x8)), (9, .int (i3 x9)), (10, .int (i3 x10)), (11, .int (i3 x11)), (12, .int (i3 x12))] [] n h := by
  refine ok_aload_n (pc := 187) hc dL_law_187 rfl 1 rfl ?_
  refine ok_iload (pc := 188) hc dL_law_188 9 rfl ?_
  refine ok_bipush (pc := 190) hc (v := i3 13) dL_law_190 (by decide) ?_
  refine zk_ishr (pc := 192) hc dL_law_192 ?_
  refine ok_bipush (pc := 193) hc (v := i3 14) dL_law_193 (by decide) ?_
  exact ok_callS (pc := 195) (cb := bb) (sb := sb9) (st := [.ref a1]) hc [.int (i3 (bshr x9 13)), .int (i3 14)] cs_L_71 sp_L_at (by decide) dL_law_195 rfl rfl rfl rfl (Nat.le_of_ble_eq_true rfl) P

set_option maxHeartbeats 4000000 in
set_option maxRecDepth 100000 in
theorem sL_law_198 {X : Xt} {n : Nat} {h : HP} {a1 : Nat} {a2 : Nat} {a3 : Nat} {a4 : Nat} {a5 : Nat} {a6 : Nat} {a7 : Nat} {x8 : Int} {x9 : Int} {x10 : Int} {x11 : Int} {x12 : Int} {t0 : Int} {ta1 : Nat} {bb : Nat} {sb9 : Nat} (hc : Cx X cL_law RL 13 13 510) {L9 : Nat} {xs : Nat → Int32} (hX : ScX X L9 xs) (hL : CxL X) 
    (P : spec_L_act [.ref ta1, .int (i3 t0), .int (i3 x9), .int (i3 x10), .ref a2, .ref a3, .ref a6, .ref a7] n h (kc X bb sb9 208 [(0, .ref (SA + 1)), (1, .ref a1), (2, .ref a2), (3, .ref a3), (4, .ref a4), (5, .ref a5), (6, .ref a6), (7, .ref a7), (8, .int (i3 x8)), (9, .int (i3 x9)), (10, .int (i3 x10)), (11, .int (i3 x11)), (12, .int (i3 x12))] [] n)) :
    Ok X (bb + 58) (sb9 + 348) 198 [(0, .ref (SA + 1)), (1, .ref a1), (2, .ref a2), (3, .ref a3), (4, .ref a4), (5, .ref a5), (6, .ref a6), (7, .ref a7), (8, .int (i3 x8)), (9, .int (i3 x9)), (10, .int (i3 x10)), (11, .int (i3 x11)), (12, .int (i3 x12))] [.int (i3 t0), .ref ta1] n h := by
  refine ok_iload (pc := 198) hc dL_law_198 9 rfl ?_
  refine ok_iload (pc := 200) hc dL_law_200 10 rfl ?_
  refine ok_aload_n (pc := 202) hc dL_law_202 rfl 2 rfl ?_
  refine ok_aload_n (pc := 203) hc dL_law_203 rfl 3 rfl ?_
  refine ok_aload (pc := 204) hc dL_law_204 6 rfl ?_
  refine ok_aload (pc := 206) hc dL_law_206 7 rfl ?_
  exact ok_callS (pc := 208) (cb := bb) (sb := sb9) (st := []) hc [.ref ta1, .int (i3 t0), .int (i3 x9), .int (i3 x10), .ref a2, .ref a3, .ref a6, .ref a7] cs_L_169 sp_L_act (by decide) dL_law_208 rfl rfl rfl rfl (Nat.le_of_ble_eq_true rfl) P

set_option maxHeartbeats 4000000 in
set_option maxRecDepth 100000 in
theorem sL_law_211 {X : Xt} {n : Nat} {h : HP} {a1 : Nat} {a2 : Nat} {a3 : Nat} {a4 : Nat} {a5 : Nat} {a6 : Nat} {a7 : Nat} {x8 : Int} {x9 : Int} {x10 : Int} {x11 : Int} {x12 : Int} {t0 : Int} {bb : Nat} {sb9 : Nat} (hc : Cx X cL_law RL 13 13 510) {L9 : Nat} {xs : Nat → Int32} (hX : ScX X L9 xs) (hL : CxL X) 
    (P : (R3 t0) ∧ (t0 = 0 → 0 = (1 : Int)) ∧ (¬ t0 = 0 → Ok X bb sb9 214 [(0, .ref (SA + 1)), (1, .ref a1), (2, .ref a2), (3, .ref a3), (4, .ref a4), (5, .ref a5), (6, .ref a6), (7, .ref a7), (8, .int (i3 x8)), (9, .int (i3 x9)), (10, .int (i3 x10)), (11, .int (i3 x11)), (12, .int (i3 x12))] [] n h)) :
    Ok X bb sb9 211 [(0, .ref (SA + 1)), (1, .ref a1), (2, .ref a2), (3, .ref a3), (4, .ref a4), (5, .ref a5), (6, .ref a6), (7, .ref a7), (8, .int (i3 x8)), (9, .int (i3 x9)), (10, .int (i3 x10)), (11, .int (i3 x11)), (12, .int (i3 x12))] [.int (i3 t0)] n h := by
  obtain ⟨r1, P⟩ := P
  refine zk_if_eq (pc := 211) (tgt := 227) hc dL_law_211 (by decide) r1 (fun c => ?_) (fun c => ?_)
  · have P := P.1 c
    refine ok_iconst (pc := 227) hc (v := i3 0) dL_law_227 (by decide) ?_
    exact ok_retL hc hL dL_law_228 P
  · have P := P.2 c
    exact P

set_option maxHeartbeats 4000000 in
set_option maxRecDepth 100000 in
theorem sL_law_214 {X : Xt} {n : Nat} {h : HP} {a1 : Nat} {a2 : Nat} {a3 : Nat} {a4 : Nat} {a5 : Nat} {a6 : Nat} {a7 : Nat} {x8 : Int} {x9 : Int} {x10 : Int} {x11 : Int} {x12 : Int} {bb : Nat} {sb9 : Nat} (hc : Cx X cL_law RL 13 13 510) {L9 : Nat} {xs : Nat → Int32} (hX : ScX X L9 xs) (hL : CxL X) 
    (P : (ClV [.ref (SA + 1), .ref a1, .ref a2, .ref a3, .ref a4, .ref a5, .ref a6, .ref a7, .int (i3 x8), .int (i3 x9), .int (i3 x10), .int (i3 x11), .int (i3 x12)] n ∧ ClV [] n) ∧ spec_L_told [.ref a1, .int (i3 (bshr x10 2)), .ref a2, .ref a3] n h (kg X bb sb9 221 [(0, .ref (SA + 1)), (1, .ref a1), (2, .ref a2), (3, .ref a3), (4, .ref a4), (5, .ref a5), (6, .ref a6), (7, .ref a7), (8, .int (i3 x8)), (9, .int (i3 x9)), (10, .int (i3 x10)), (11, .int (i3 x11)), (12, .int (i3 x12))] [] n)) :
    Ok X (bb + 455) (sb9 + 2830) 214 [(0, .ref (SA + 1)), (1, .ref a1), (2, .ref a2), (3, .ref a3), (4, .ref a4), (5, .ref a5), (6, .ref a6), (7, .ref a7), (8, .int (i3 x8)), (9, .int (i3 x9)), (10, .int (i3 x10)), (11, .int (i3 x11)), (12, .int (i3 x12))] [] n h := by
  refine ok_aload_n (pc := 214) hc dL_law_214 rfl 1 rfl ?_
  refine ok_iload (pc := 215) hc dL_law_215 10 rfl ?_
  refine ok_iconst (pc := 217) hc (v := i3 2) dL_law_217 (by decide) ?_
  refine zk_ishr (pc := 218) hc dL_law_218 ?_
  refine ok_aload_n (pc := 219) hc dL_law_219 rfl 2 rfl ?_
  refine ok_aload_n (pc := 220) hc dL_law_220 rfl 3 rfl ?_
  obtain ⟨rg, P⟩ := P
  exact ok_callSg (pc := 221) (cb := bb) (sb := sb9) (st := []) hc [.ref a1, .int (i3 (bshr x10 2)), .ref a2, .ref a3] cs_L_160 sp_L_told (by decide) dL_law_221 rfl rfl rfl rfl (Nat.le_of_ble_eq_true rfl) rg.1 rg.2 P

set_option maxHeartbeats 4000000 in
set_option maxRecDepth 100000 in
theorem sL_law_224 {X : Xt} {n : Nat} {h : HP} {a1 : Nat} {a2 : Nat} {a3 : Nat} {a4 : Nat} {a5 : Nat} {a6 : Nat} {a7 : Nat} {x8 : Int} {x9 : Int} {x10 : Int} {x11 : Int} {x12 : Int} {t0 : Int} {bb : Nat} {sb9 : Nat} (hc : Cx X cL_law RL 13 13 510) {L9 : Nat} {xs : Nat → Int32} (hX : ScX X L9 xs) (hL : CxL X) 
    (P : (R3 t0) ∧ (¬ t0 = 0 → Ok X bb sb9 229 [(0, .ref (SA + 1)), (1, .ref a1), (2, .ref a2), (3, .ref a3), (4, .ref a4), (5, .ref a5), (6, .ref a6), (7, .ref a7), (8, .int (i3 x8)), (9, .int (i3 x9)), (10, .int (i3 x10)), (11, .int (i3 x11)), (12, .int (i3 x12))] [] n h) ∧ (t0 = 0 → 0 = (1 : Int))) :
    Ok X bb sb9 224 [(0, .ref (SA + 1)), (1, .ref a1), (2, .ref a2), (3, .ref a3), (4, .ref a4), (5, .ref a5), (6, .ref a6), (7, .ref a7), (8, .int (i3 x8)), (9, .int (i3 x9)), (10, .int (i3 x10)), (11, .int (i3 x11)), (12, .int (i3 x12))] [.int (i3 t0)] n h := by
  obtain ⟨r1, P⟩ := P
  refine zk_if_ne (pc := 224) (tgt := 229) hc dL_law_224 (by decide) r1 (fun c => ?_) (fun c => ?_)
  · have P := P.1 c
    exact P
  · have P := P.2 c
    refine ok_iconst (pc := 227) hc (v := i3 0) dL_law_227 (by decide) ?_
    exact ok_retL hc hL dL_law_228 P

set_option maxHeartbeats 4000000 in
set_option maxRecDepth 100000 in
theorem sL_law_229 {X : Xt} {n : Nat} {h : HP} {a1 : Nat} {a2 : Nat} {a3 : Nat} {a4 : Nat} {a5 : Nat} {a6 : Nat} {a7 : Nat} {x8 : Int} {x9 : Int} {x10 : Int} {x11 : Int} {x12 : Int} {bb : Nat} {sb9 : Nat} (hc : Cx X cL_law RL 13 13 510) {L9 : Nat} {xs : Nat → Int32} (hX : ScX X L9 xs) (hL : CxL X) 
    (P : (R3 x11) ∧ (8 ≤ x11 → Ok X bb sb9 336 [(0, .ref (SA + 1)), (1, .ref a1), (2, .ref a2), (3, .ref a3), (4, .ref a4), (5, .ref a5), (6, .ref a6), (7, .ref a7), (8, .int (i3 x8)), (9, .int (i3 x9)), (10, .int (i3 x10)), (11, .int (i3 x11)), (12, .int (i3 x12))] [] n h) ∧ (¬ 8 ≤ x11 → Ok X bb sb9 236 [(0, .ref (SA + 1)), (1, .ref a1), (2, .ref a2), (3, .ref a3), (4, .ref a4), (5, .ref a5), (6, .ref a6), (7, .ref a7), (8, .int (i3 x8)), (9, .int (i3 x9)), (10, .int (i3 x10)), (11, .int (i3 x11)), (12, .int (i3 x12))] [] n h)) :
    Ok X bb sb9 229 [(0, .ref (SA + 1)), (1, .ref a1), (2, .ref a2), (3, .ref a3), (4, .ref a4), (5, .ref a5), (6, .ref a6), (7, .ref a7), (8, .int (i3 x8)), (9, .int (i3 x9)), (10, .int (i3 x10)), (11, .int (i3 x11)), (12, .int (i3 x12))] [] n h := by
  refine ok_iload (pc := 229) hc dL_law_229 11 rfl ?_
  refine ok_bipush (pc := 231) hc (v := i3 8) dL_law_231 (by decide) ?_
  obtain ⟨r1, P⟩ := P
  refine zk_icmp_ge (pc := 233) (tgt := 336) hc dL_law_233 (by decide) r1 ⟨by decide, by decide⟩ (fun c => ?_) (fun c => ?_)
  · have P := P.1 c
    exact P
  · have P := P.2 c
    exact P

set_option maxHeartbeats 4000000 in
set_option maxRecDepth 100000 in
theorem sL_law_236 {X : Xt} {n : Nat} {h : HP} {a1 : Nat} {a2 : Nat} {a3 : Nat} {a4 : Nat} {a5 : Nat} {a6 : Nat} {a7 : Nat} {x8 : Int} {x9 : Int} {x10 : Int} {x11 : Int} {x12 : Int} {bb : Nat} {sb9 : Nat} {fs1 : List Value} (hc : Cx X cL_law RL 13 13 510) {L9 : Nat} {xs : Nat → Int32} (hX : ScX X L9 xs) (hL : CxL X) (e1 : At h n a1 (.inl (6, fs1))) (z1 : fs1.length = 6)
    (P : spec_X6_count [.ref a1, .int (i3 8)] n h (kc X bb sb9 239 [(0, .ref (SA + 1)), (1, .ref a1), (2, .ref a2), (3, .ref a3), (4, .ref a4), (5, .ref a5), (6, .ref a6), (7, .ref a7), (8, .int (i3 x8)), (9, .int (i3 x9)), (10, .int (i3 x10)), (11, .int (i3 x11)), (12, .int (i3 x12))] [] n)) :
    Ok X (bb + 1) (sb9 + 6) 236 [(0, .ref (SA + 1)), (1, .ref a1), (2, .ref a2), (3, .ref a3), (4, .ref a4), (5, .ref a5), (6, .ref a6), (7, .ref a7), (8, .int (i3 x8)), (9, .int (i3 x9)), (10, .int (i3 x10)), (11, .int (i3 x11)), (12, .int (i3 x12))] [] n h := by
  refine ok_aload_n (pc := 236) hc dL_law_236 rfl 1 rfl ?_
  refine ok_bipush (pc := 237) hc (v := i3 8) dL_law_237 (by decide) ?_
  exact ok_callV (pc := 239) (a := a1) (cb := bb) (sb := sb9) (st := []) hc [.int (i3 8)] cv_L_91 sp_X6_count (by decide) dL_law_239 rfl e1.1 e1.2 rfl rfl rfl (Nat.le_of_ble_eq_true rfl) P

set_option maxHeartbeats 4000000 in
set_option maxRecDepth 100000 in
theorem sL_law_242 {X : Xt} {n : Nat} {h : HP} {a1 : Nat} {a2 : Nat} {a3 : Nat} {a4 : Nat} {a5 : Nat} {a6 : Nat} {a7 : Nat} {x8 : Int} {x9 : Int} {x10 : Int} {x11 : Int} {x12 : Int} {t0 : Int} {bb : Nat} {sb9 : Nat} (hc : Cx X cL_law RL 13 13 510) {L9 : Nat} {xs : Nat → Int32} (hX : ScX X L9 xs) (hL : CxL X) 
    (P : (R3 t0) ∧ (R3 (x11 + 1)) ∧ (¬ t0 = (x11 + 1) → Ok X bb sb9 336 [(0, .ref (SA + 1)), (1, .ref a1), (2, .ref a2), (3, .ref a3), (4, .ref a4), (5, .ref a5), (6, .ref a6), (7, .ref a7), (8, .int (i3 x8)), (9, .int (i3 x9)), (10, .int (i3 x10)), (11, .int (i3 x11)), (12, .int (i3 x12))] [] n h) ∧ (t0 = (x11 + 1) → Ok X bb sb9 249 [(0, .ref (SA + 1)), (1, .ref a1), (2, .ref a2), (3, .ref a3), (4, .ref a4), (5, .ref a5), (6, .ref a6), (7, .ref a7), (8, .int (i3 x8)), (9, .int (i3 x9)), (10, .int (i3 x10)), (11, .int (i3 x11)), (12, .int (i3 x12))] [] n h)) :
    Ok X bb sb9 242 [(0, .ref (SA + 1)), (1, .ref a1), (2, .ref a2), (3, .ref a3), (4, .ref a4), (5, .ref a5), (6, .ref a6), (7, .ref a7), (8, .int (i3 x8)), (9, .int (i3 x9)), (10, .int (i3 x10)), (11, .int (i3 x11)), (12, .int (i3 x12))] [.int (i3 t0)] n h := by
  refine ok_iload (pc := 242) hc dL_law_242 11 rfl ?_
  refine ok_iconst (pc := 244) hc (v := i3 1) dL_law_244 (by decide) ?_
  refine zk_iadd (pc := 245) hc dL_law_245 ?_
  obtain ⟨r1, P⟩ := P
  obtain ⟨r2, P⟩ := P
  refine zk_icmp_ne (pc := 246) (tgt := 336) hc dL_law_246 (by decide) r1 r2 (fun c => ?_) (fun c => ?_)
  · have P := P.1 c
    exact P
  · have P := P.2 c
    exact P

set_option maxHeartbeats 4000000 in
set_option maxRecDepth 100000 in
theorem sL_law_249 {X : Xt} {n : Nat} {h : HP} {a1 : Nat} {a2 : Nat} {a3 : Nat} {a4 : Nat} {a5 : Nat} {a6 : Nat} {a7 : Nat} {x8 : Int} {x9 : Int} {x10 : Int} {x11 : Int} {x12 : Int} {bb : Nat} {sb9 : Nat} (hc : Cx X cL_law RL 13 13 510) {L9 : Nat} {xs : Nat → Int32} (hX : ScX X L9 xs) (hL : CxL X) 
    (P : spec_L_at [.int (i3 (bshr x10 12)), .int (i3 4)] n h (kc X bb sb9 255 [(0, .ref (SA + 1)), (1, .ref a1), (2, .ref a2), (3, .ref a3), (4, .ref a4), (5, .ref a5), (6, .ref a6), (7, .ref a7), (8, .int (i3 x8)), (9, .int (i3 x9)), (10, .int (i3 x10)), (11, .int (i3 x11)), (12, .int (i3 x12))] [] n)) :
    Ok X bb sb9 249 [(0, .ref (SA + 1)), (1, .ref a1), (2, .ref a2), (3, .ref a3), (4, .ref a4), (5, .ref a5), (6, .ref a6), (7, .ref a7), (8, .int (i3 x8)), (9, .int (i3 x9)), (10, .int (i3 x10)), (11, .int (i3 x11)), (12, .int (i3 x12))] [] n h := by
  refine ok_iload (pc := 249) hc dL_law_249 10 rfl ?_
  refine ok_bipush (pc := 251) hc (v := i3 12) dL_law_251 (by decide) ?_
  refine zk_ishr (pc := 253) hc dL_law_253 ?_
  refine ok_iconst (pc := 254) hc (v := i3 4) dL_law_254 (by decide) ?_
  exact ok_callS (pc := 255) (cb := bb) (sb := sb9) (st := []) hc [.int (i3 (bshr x10 12)), .int (i3 4)] cs_L_71 sp_L_at (by decide) dL_law_255 rfl rfl rfl rfl (Nat.le_of_ble_eq_true rfl) P

set_option maxHeartbeats 4000000 in
set_option maxRecDepth 100000 in
theorem sL_law_258 {X : Xt} {n : Nat} {h : HP} {a1 : Nat} {a2 : Nat} {a3 : Nat} {a4 : Nat} {a5 : Nat} {a6 : Nat} {a7 : Nat} {x8 : Int} {x9 : Int} {x10 : Int} {x11 : Int} {x12 : Int} {t0 : Int} {bb : Nat} {sb9 : Nat} (hc : Cx X cL_law RL 13 13 510) {L9 : Nat} {xs : Nat → Int32} (hX : ScX X L9 xs) (hL : CxL X) 
    (P : (R3 t0) ∧ (¬ t0 = 0 → Ok X bb sb9 336 [(0, .ref (SA + 1)), (1, .ref a1), (2, .ref a2), (3, .ref a3), (4, .ref a4), (5, .ref a5), (6, .ref a6), (7, .ref a7), (8, .int (i3 x8)), (9, .int (i3 x9)), (10, .int (i3 x10)), (11, .int (i3 x11)), (12, .int (i3 x12))] [] n h) ∧ (t0 = 0 → Ok X bb sb9 261 [(0, .ref (SA + 1)), (1, .ref a1), (2, .ref a2), (3, .ref a3), (4, .ref a4), (5, .ref a5), (6, .ref a6), (7, .ref a7), (8, .int (i3 x8)), (9, .int (i3 x9)), (10, .int (i3 x10)), (11, .int (i3 x11)), (12, .int (i3 x12))] [] n h)) :
    Ok X bb sb9 258 [(0, .ref (SA + 1)), (1, .ref a1), (2, .ref a2), (3, .ref a3), (4, .ref a4), (5, .ref a5), (6, .ref a6), (7, .ref a7), (8, .int (i3 x8)), (9, .int (i3 x9)), (10, .int (i3 x10)), (11, .int (i3 x11)), (12, .int (i3 x12))] [.int (i3 t0)] n h := by
  obtain ⟨r1, P⟩ := P
  refine zk_if_ne (pc := 258) (tgt := 336) hc dL_law_258 (by decide) r1 (fun c => ?_) (fun c => ?_)
  · have P := P.1 c
    exact P
  · have P := P.2 c
    exact P

set_option maxHeartbeats 4000000 in
set_option maxRecDepth 100000 in
theorem sL_law_261 {X : Xt} {n : Nat} {h : HP} {a1 : Nat} {a2 : Nat} {a3 : Nat} {a4 : Nat} {a5 : Nat} {a6 : Nat} {a7 : Nat} {x8 : Int} {x9 : Int} {x10 : Int} {x11 : Int} {x12 : Int} {bb : Nat} {sb9 : Nat} {fs1 : List Value} (hc : Cx X cL_law RL 13 13 510) {L9 : Nat} {xs : Nat → Int32} (hX : ScX X L9 xs) (hL : CxL X) (e1 : At h n a1 (.inl (6, fs1))) (z1 : fs1.length = 6)
    (P : spec_X6_undo [.ref a1] n h (kc X bb sb9 262 [(0, .ref (SA + 1)), (1, .ref a1), (2, .ref a2), (3, .ref a3), (4, .ref a4), (5, .ref a5), (6, .ref a6), (7, .ref a7), (8, .int (i3 x8)), (9, .int (i3 x9)), (10, .int (i3 x10)), (11, .int (i3 x11)), (12, .int (i3 x12))] [] n)) :
    Ok X (bb + 1) (sb9 + 6) 261 [(0, .ref (SA + 1)), (1, .ref a1), (2, .ref a2), (3, .ref a3), (4, .ref a4), (5, .ref a5), (6, .ref a6), (7, .ref a7), (8, .int (i3 x8)), (9, .int (i3 x9)), (10, .int (i3 x10)), (11, .int (i3 x11)), (12, .int (i3 x12))] [] n h := by
  refine ok_aload_n (pc := 261) hc dL_law_261 rfl 1 rfl ?_
  exact ok_callV (pc := 262) (a := a1) (cb := bb) (sb := sb9) (st := []) hc [] cv_L_173 sp_X6_undo (by decide) dL_law_262 rfl e1.1 e1.2 rfl rfl rfl (Nat.le_of_ble_eq_true rfl) P

set_option maxHeartbeats 4000000 in
set_option maxRecDepth 100000 in
theorem sL_law_265 {X : Xt} {n : Nat} {h : HP} {a1 : Nat} {a2 : Nat} {a3 : Nat} {a4 : Nat} {a5 : Nat} {a6 : Nat} {a7 : Nat} {x8 : Int} {x9 : Int} {x10 : Int} {x11 : Int} {x12 : Int} {t0 : Int} {bb : Nat} {sb9 : Nat} (hc : Cx X cL_law RL 13 13 510) {L9 : Nat} {xs : Nat → Int32} (hX : ScX X L9 xs) (hL : CxL X) 
    (P : (R3 t0) ∧ (R3 x11) ∧ (t0 = x11 → Ok X bb sb9 275 [(0, .ref (SA + 1)), (1, .ref a1), (2, .ref a2), (3, .ref a3), (4, .ref a4), (5, .ref a5), (6, .ref a6), (7, .ref a7), (8, .int (i3 x8)), (9, .int (i3 x9)), (10, .int (i3 x10)), (11, .int (i3 x11)), (12, .int (i3 0))] [] n h) ∧ (¬ t0 = x11 → 0 = (1 : Int))) :
    Ok X bb sb9 265 [(0, .ref (SA + 1)), (1, .ref a1), (2, .ref a2), (3, .ref a3), (4, .ref a4), (5, .ref a5), (6, .ref a6), (7, .ref a7), (8, .int (i3 x8)), (9, .int (i3 x9)), (10, .int (i3 x10)), (11, .int (i3 x11)), (12, .int (i3 x12))] [.int (i3 t0)] n h := by
  refine ok_iload (pc := 265) hc dL_law_265 11 rfl ?_
  obtain ⟨r1, P⟩ := P
  obtain ⟨r2, P⟩ := P
  refine zk_icmp_eq (pc := 267) (tgt := 272) hc dL_law_267 (by decide) r1 r2 (fun c => ?_) (fun c => ?_)
  · have P := P.1 c
    refine ok_iconst (pc := 272) hc (v := i3 0) dL_law_272 (by decide) ?_
    refine ok_istore (pc := 273) hc (lv' := [(12, .int (i3 0)), (0, .ref (SA + 1)), (1, .ref a1), (2, .ref a2), (3, .ref a3), (4, .ref a4), (5, .ref a5), (6, .ref a6), (7, .ref a7), (8, .int (i3 x8)), (9, .int (i3 x9)), (10, .int (i3 x10)), (11, .int (i3 x11))]) dL_law_273 (by decide) rfl ?_
    refine ok_lv [1, 2, 3, 4, 5, 6, 7, 8, 9, 10, 11, 12, 0] rfl ?_
    exact P
  · have P := P.2 c
    refine ok_iconst (pc := 270) hc (v := i3 0) dL_law_270 (by decide) ?_
    exact ok_retL hc hL dL_law_271 P

set_option maxHeartbeats 4000000 in
set_option maxRecDepth 100000 in
theorem sL_law_275 {X : Xt} {n : Nat} {h : HP} {a1 : Nat} {a2 : Nat} {a3 : Nat} {a4 : Nat} {a5 : Nat} {a6 : Nat} {a7 : Nat} {x8 : Int} {x9 : Int} {x10 : Int} {x11 : Int} {x12 : Int} {bb : Nat} {sb9 : Nat} (hc : Cx X cL_law RL 13 13 510) {L9 : Nat} {xs : Nat → Int32} (hX : ScX X L9 xs) (hL : CxL X) 
    (P : (R3 x12) ∧ (4 ≤ x12 → Ok X bb sb9 296 [(0, .ref (SA + 1)), (1, .ref a1), (2, .ref a2), (3, .ref a3), (4, .ref a4), (5, .ref a5), (6, .ref a6), (7, .ref a7), (8, .int (i3 x8)), (9, .int (i3 x9)), (10, .int (i3 x10)), (11, .int (i3 x11)), (12, .int (i3 x12))] [] n h) ∧ (¬ 4 ≤ x12 → Ok X bb sb9 281 [(0, .ref (SA + 1)), (1, .ref a1), (2, .ref a2), (3, .ref a3), (4, .ref a4), (5, .ref a5), (6, .ref a6), (7, .ref a7), (8, .int (i3 x8)), (9, .int (i3 x9)), (10, .int (i3 x10)), (11, .int (i3 x11)), (12, .int (i3 x12))] [] n h)) :
    Ok X bb sb9 275 [(0, .ref (SA + 1)), (1, .ref a1), (2, .ref a2), (3, .ref a3), (4, .ref a4), (5, .ref a5), (6, .ref a6), (7, .ref a7), (8, .int (i3 x8)), (9, .int (i3 x9)), (10, .int (i3 x10)), (11, .int (i3 x11)), (12, .int (i3 x12))] [] n h := by
  refine ok_iload (pc := 275) hc dL_law_275 12 rfl ?_
  refine ok_iconst (pc := 277) hc (v := i3 4) dL_law_277 (by decide) ?_
  obtain ⟨r1, P⟩ := P
  refine zk_icmp_ge (pc := 278) (tgt := 296) hc dL_law_278 (by decide) r1 ⟨by decide, by decide⟩ (fun c => ?_) (fun c => ?_)
  · have P := P.1 c
    exact P
  · have P := P.2 c
    exact P

set_option maxHeartbeats 4000000 in
set_option maxRecDepth 100000 in
theorem sL_law_281 {X : Xt} {n : Nat} {h : HP} {a1 : Nat} {a2 : Nat} {a3 : Nat} {a4 : Nat} {a5 : Nat} {a6 : Nat} {a7 : Nat} {x8 : Int} {x9 : Int} {x10 : Int} {x11 : Int} {x12 : Int} {bb : Nat} {sb9 : Nat} {f1 : Nat → Int} {f2 : Nat → Int} (hc : Cx X cL_law RL 13 13 510) {L9 : Nat} {xs : Nat → Int32} (hX : ScX X L9 xs) (hL : CxL X) (e1 : At h n a4 (ai 4 f1)) (e2 : At h n a2 (ai 4 f2))
    (P : (Ix x12 4) ∧ (Ix x12 4) ∧ Ok X bb sb9 275 [(0, .ref (SA + 1)), (1, .ref a1), (2, .ref a2), (3, .ref a3), (4, .ref a4), (5, .ref a5), (6, .ref a6), (7, .ref a7), (8, .int (i3 x8)), (9, .int (i3 x9)), (10, .int (i3 x10)), (11, .int (i3 x11)), (12, .int (i3 (x12 + 1)))] [] n (va_up h a2 (ai 4 (va_up f2 (x12 : Int).toNat (f1 (x12 : Int).toNat))))) :
    Ok X bb sb9 281 [(0, .ref (SA + 1)), (1, .ref a1), (2, .ref a2), (3, .ref a3), (4, .ref a4), (5, .ref a5), (6, .ref a6), (7, .ref a7), (8, .int (i3 x8)), (9, .int (i3 x9)), (10, .int (i3 x10)), (11, .int (i3 x11)), (12, .int (i3 x12))] [] n h := by
  refine ok_aload_n (pc := 281) hc dL_law_281 rfl 2 rfl ?_
  refine ok_iload (pc := 282) hc dL_law_282 12 rfl ?_
  refine ok_aload (pc := 284) hc dL_law_284 4 rfl ?_
  refine ok_iload (pc := 286) hc dL_law_286 12 rfl ?_
  obtain ⟨r, P⟩ := P
  refine zk_iald (pc := 288) hc dL_law_288 e1.1 e1.2 r ?_
  obtain ⟨r, P⟩ := P
  refine zk_iast (pc := 289) hc dL_law_289 e2.1 e2.2 r ?_
  refine zk_iinc (pc := 290) hc (q := 12) (x := x12) (lv' := [(12, .int (i3 (x12 + 1))), (0, .ref (SA + 1)), (1, .ref a1), (2, .ref a2), (3, .ref a3), (4, .ref a4), (5, .ref a5), (6, .ref a6), (7, .ref a7), (8, .int (i3 x8)), (9, .int (i3 x9)), (10, .int (i3 x10)), (11, .int (i3 x11))]) dL_law_290 rfl (by decide) rfl ?_
  refine ok_goto (pc := 293) (tgt := 275) hc dL_law_293 (by decide) ?_
  refine ok_lv [1, 2, 3, 4, 5, 6, 7, 8, 9, 10, 11, 12, 0] rfl ?_
  exact P

set_option maxHeartbeats 4000000 in
set_option maxRecDepth 100000 in
theorem sL_law_296 {X : Xt} {n : Nat} {h : HP} {a1 : Nat} {a2 : Nat} {a3 : Nat} {a4 : Nat} {a5 : Nat} {a6 : Nat} {a7 : Nat} {x8 : Int} {x9 : Int} {x10 : Int} {x11 : Int} {x12 : Int} {bb : Nat} {sb9 : Nat} (hc : Cx X cL_law RL 13 13 510) {L9 : Nat} {xs : Nat → Int32} (hX : ScX X L9 xs) (hL : CxL X) 
    (P : Ok X bb sb9 299 [(0, .ref (SA + 1)), (1, .ref a1), (2, .ref a2), (3, .ref a3), (4, .ref a4), (5, .ref a5), (6, .ref a6), (7, .ref a7), (8, .int (i3 x8)), (9, .int (i3 x9)), (10, .int (i3 x10)), (11, .int (i3 x11)), (12, .int (i3 0))] [] n h) :
    Ok X bb sb9 296 [(0, .ref (SA + 1)), (1, .ref a1), (2, .ref a2), (3, .ref a3), (4, .ref a4), (5, .ref a5), (6, .ref a6), (7, .ref a7), (8, .int (i3 x8)), (9, .int (i3 x9)), (10, .int (i3 x10)), (11, .int (i3 x11)), (12, .int (i3 x12))] [] n h := by
  refine ok_iconst (pc := 296) hc (v := i3 0) dL_law_296 (by decide) ?_
  refine ok_istore (pc := 297) hc (lv' := [(12, .int (i3 0)), (0, .ref (SA + 1)), (1, .ref a1), (2, .ref a2), (3, .ref a3), (4, .ref a4), (5, .ref a5), (6, .ref a6), (7, .ref a7), (8, .int (i3 x8)), (9, .int (i3 x9)), (10, .int (i3 x10)), (11, .int (i3 x11))]) dL_law_297 (by decide) rfl ?_
  refine ok_lv [1, 2, 3, 4, 5, 6, 7, 8, 9, 10, 11, 12, 0] rfl ?_
  exact P

set_option maxHeartbeats 4000000 in
set_option maxRecDepth 100000 in
theorem sL_law_299 {X : Xt} {n : Nat} {h : HP} {a1 : Nat} {a2 : Nat} {a3 : Nat} {a4 : Nat} {a5 : Nat} {a6 : Nat} {a7 : Nat} {x8 : Int} {x9 : Int} {x10 : Int} {x11 : Int} {x12 : Int} {bb : Nat} {sb9 : Nat} (hc : Cx X cL_law RL 13 13 510) {L9 : Nat} {xs : Nat → Int32} (hX : ScX X L9 xs) (hL : CxL X) 
    (P : (R3 x12) ∧ (48 ≤ x12 → Ok X bb sb9 321 [(0, .ref (SA + 1)), (1, .ref a1), (2, .ref a2), (3, .ref a3), (4, .ref a4), (5, .ref a5), (6, .ref a6), (7, .ref a7), (8, .int (i3 x8)), (9, .int (i3 x9)), (10, .int (i3 x10)), (11, .int (i3 x11)), (12, .int (i3 x12))] [] n h) ∧ (¬ 48 ≤ x12 → Ok X bb sb9 306 [(0, .ref (SA + 1)), (1, .ref a1), (2, .ref a2), (3, .ref a3), (4, .ref a4), (5, .ref a5), (6, .ref a6), (7, .ref a7), (8, .int (i3 x8)), (9, .int (i3 x9)), (10, .int (i3 x10)), (11, .int (i3 x11)), (12, .int (i3 x12))] [] n h)) :
    Ok X bb sb9 299 [(0, .ref (SA + 1)), (1, .ref a1), (2, .ref a2), (3, .ref a3), (4, .ref a4), (5, .ref a5), (6, .ref a6), (7, .ref a7), (8, .int (i3 x8)), (9, .int (i3 x9)), (10, .int (i3 x10)), (11, .int (i3 x11)), (12, .int (i3 x12))] [] n h := by
  refine ok_iload (pc := 299) hc dL_law_299 12 rfl ?_
  refine ok_bipush (pc := 301) hc (v := i3 48) dL_law_301 (by decide) ?_
  obtain ⟨r1, P⟩ := P
  refine zk_icmp_ge (pc := 303) (tgt := 321) hc dL_law_303 (by decide) r1 ⟨by decide, by decide⟩ (fun c => ?_) (fun c => ?_)
  · have P := P.1 c
    exact P
  · have P := P.2 c
    exact P

set_option maxHeartbeats 4000000 in
set_option maxRecDepth 100000 in
theorem sL_law_306 {X : Xt} {n : Nat} {h : HP} {a1 : Nat} {a2 : Nat} {a3 : Nat} {a4 : Nat} {a5 : Nat} {a6 : Nat} {a7 : Nat} {x8 : Int} {x9 : Int} {x10 : Int} {x11 : Int} {x12 : Int} {bb : Nat} {sb9 : Nat} {f1 : Nat → Int} {f2 : Nat → Int} (hc : Cx X cL_law RL 13 13 510) {L9 : Nat} {xs : Nat → Int32} (hX : ScX X L9 xs) (hL : CxL X) (e1 : At h n a5 (ai 48 f1)) (e2 : At h n a3 (ai 48 f2))
    (P : (Ix x12 48) ∧ (Ix x12 48) ∧ Ok X bb sb9 299 [(0, .ref (SA + 1)), (1, .ref a1), (2, .ref a2), (3, .ref a3), (4, .ref a4), (5, .ref a5), (6, .ref a6), (7, .ref a7), (8, .int (i3 x8)), (9, .int (i3 x9)), (10, .int (i3 x10)), (11, .int (i3 x11)), (12, .int (i3 (x12 + 1)))] [] n (va_up h a3 (ai 48 (va_up f2 (x12 : Int).toNat (f1 (x12 : Int).toNat))))) :
    Ok X bb sb9 306 [(0, .ref (SA + 1)), (1, .ref a1), (2, .ref a2), (3, .ref a3), (4, .ref a4), (5, .ref a5), (6, .ref a6), (7, .ref a7), (8, .int (i3 x8)), (9, .int (i3 x9)), (10, .int (i3 x10)), (11, .int (i3 x11)), (12, .int (i3 x12))] [] n h := by
  refine ok_aload_n (pc := 306) hc dL_law_306 rfl 3 rfl ?_
  refine ok_iload (pc := 307) hc dL_law_307 12 rfl ?_
  refine ok_aload (pc := 309) hc dL_law_309 5 rfl ?_
  refine ok_iload (pc := 311) hc dL_law_311 12 rfl ?_
  obtain ⟨r, P⟩ := P
  refine zk_iald (pc := 313) hc dL_law_313 e1.1 e1.2 r ?_
  obtain ⟨r, P⟩ := P
  refine zk_iast (pc := 314) hc dL_law_314 e2.1 e2.2 r ?_
  refine zk_iinc (pc := 315) hc (q := 12) (x := x12) (lv' := [(12, .int (i3 (x12 + 1))), (0, .ref (SA + 1)), (1, .ref a1), (2, .ref a2), (3, .ref a3), (4, .ref a4), (5, .ref a5), (6, .ref a6), (7, .ref a7), (8, .int (i3 x8)), (9, .int (i3 x9)), (10, .int (i3 x10)), (11, .int (i3 x11))]) dL_law_315 rfl (by decide) rfl ?_
  refine ok_goto (pc := 318) (tgt := 299) hc dL_law_318 (by decide) ?_
  refine ok_lv [1, 2, 3, 4, 5, 6, 7, 8, 9, 10, 11, 12, 0] rfl ?_
  exact P

set_option maxHeartbeats 4000000 in
set_option maxRecDepth 100000 in
theorem sL_law_321 {X : Xt} {n : Nat} {h : HP} {a1 : Nat} {a2 : Nat} {a3 : Nat} {a4 : Nat} {a5 : Nat} {a6 : Nat} {a7 : Nat} {x8 : Int} {x9 : Int} {x10 : Int} {x11 : Int} {x12 : Int} {bb : Nat} {sb9 : Nat} (hc : Cx X cL_law RL 13 13 510) {L9 : Nat} {xs : Nat → Int32} (hX : ScX X L9 xs) (hL : CxL X) 
    (P : (ClV [.ref (SA + 1), .ref a1, .ref a2, .ref a3, .ref a4, .ref a5, .ref a6, .ref a7, .int (i3 x8), .int (i3 x9), .int (i3 x10), .int (i3 x11), .int (i3 x12)] n ∧ ClV [] n) ∧ spec_L_told [.ref a1, .int (i3 (bshr x10 3)), .ref a2, .ref a3] n h (kg X bb sb9 328 [(0, .ref (SA + 1)), (1, .ref a1), (2, .ref a2), (3, .ref a3), (4, .ref a4), (5, .ref a5), (6, .ref a6), (7, .ref a7), (8, .int (i3 x8)), (9, .int (i3 x9)), (10, .int (i3 x10)), (11, .int (i3 x11)), (12, .int (i3 x12))] [] n)) :
    Ok X (bb + 455) (sb9 + 2830) 321 [(0, .ref (SA + 1)), (1, .ref a1), (2, .ref a2), (3, .ref a3), (4, .ref a4), (5, .ref a5), (6, .ref a6), (7, .ref a7), (8, .int (i3 x8)), (9, .int (i3 x9)), (10, .int (i3 x10)), (11, .int (i3 x11)), (12, .int (i3 x12))] [] n h := by
  refine ok_aload_n (pc := 321) hc dL_law_321 rfl 1 rfl ?_
  refine ok_iload (pc := 322) hc dL_law_322 10 rfl ?_
  refine ok_iconst (pc := 324) hc (v := i3 3) dL_law_324 (by decide) ?_
  refine zk_ishr (pc := 325) hc dL_law_325 ?_
  refine ok_aload_n (pc := 326) hc dL_law_326 rfl 2 rfl ?_
  refine ok_aload_n (pc := 327) hc dL_law_327 rfl 3 rfl ?_
  obtain ⟨rg, P⟩ := P
  exact ok_callSg (pc := 328) (cb := bb) (sb := sb9) (st := []) hc [.ref a1, .int (i3 (bshr x10 3)), .ref a2, .ref a3] cs_L_160 sp_L_told (by decide) dL_law_328 rfl rfl rfl rfl (Nat.le_of_ble_eq_true rfl) rg.1 rg.2 P

set_option maxHeartbeats 4000000 in
set_option maxRecDepth 100000 in
theorem sL_law_331 {X : Xt} {n : Nat} {h : HP} {a1 : Nat} {a2 : Nat} {a3 : Nat} {a4 : Nat} {a5 : Nat} {a6 : Nat} {a7 : Nat} {x8 : Int} {x9 : Int} {x10 : Int} {x11 : Int} {x12 : Int} {t0 : Int} {bb : Nat} {sb9 : Nat} (hc : Cx X cL_law RL 13 13 510) {L9 : Nat} {xs : Nat → Int32} (hX : ScX X L9 xs) (hL : CxL X) 
    (P : (R3 t0) ∧ (¬ t0 = 0 → Ok X bb sb9 336 [(0, .ref (SA + 1)), (1, .ref a1), (2, .ref a2), (3, .ref a3), (4, .ref a4), (5, .ref a5), (6, .ref a6), (7, .ref a7), (8, .int (i3 x8)), (9, .int (i3 x9)), (10, .int (i3 x10)), (11, .int (i3 x11)), (12, .int (i3 x12))] [] n h) ∧ (t0 = 0 → 0 = (1 : Int))) :
    Ok X bb sb9 331 [(0, .ref (SA + 1)), (1, .ref a1), (2, .ref a2), (3, .ref a3), (4, .ref a4), (5, .ref a5), (6, .ref a6), (7, .ref a7), (8, .int (i3 x8)), (9, .int (i3 x9)), (10, .int (i3 x10)), (11, .int (i3 x11)), (12, .int (i3 x12))] [.int (i3 t0)] n h := by
  obtain ⟨r1, P⟩ := P
  refine zk_if_ne (pc := 331) (tgt := 336) hc dL_law_331 (by decide) r1 (fun c => ?_) (fun c => ?_)
  · have P := P.1 c
    exact P
  · have P := P.2 c
    refine ok_iconst (pc := 334) hc (v := i3 0) dL_law_334 (by decide) ?_
    exact ok_retL hc hL dL_law_335 P

set_option maxHeartbeats 4000000 in
set_option maxRecDepth 100000 in
theorem sL_law_336 {X : Xt} {n : Nat} {h : HP} {a1 : Nat} {a2 : Nat} {a3 : Nat} {a4 : Nat} {a5 : Nat} {a6 : Nat} {a7 : Nat} {x8 : Int} {x9 : Int} {x10 : Int} {x11 : Int} {x12 : Int} {bb : Nat} {sb9 : Nat} (hc : Cx X cL_law RL 13 13 510) {L9 : Nat} {xs : Nat → Int32} (hX : ScX X L9 xs) (hL : CxL X) 
    (P : (((0 : Int) ≤ x8 ∧ x8 ≤ 2147483647) ∧ (0 : Int) < 3 ∧ (3 : Int) ≤ 2147483647) ∧ (R3 (x8 % 3)) ∧ (¬ (x8 % 3) = 2 → Ok X bb sb9 359 [(0, .ref (SA + 1)), (1, .ref a1), (2, .ref a2), (3, .ref a3), (4, .ref a4), (5, .ref a5), (6, .ref a6), (7, .ref a7), (8, .int (i3 x8)), (9, .int (i3 x9)), (10, .int (i3 x10)), (11, .int (i3 x11)), (12, .int (i3 x12))] [] n h) ∧ ((x8 % 3) = 2 → Ok X bb sb9 344 [(0, .ref (SA + 1)), (1, .ref a1), (2, .ref a2), (3, .ref a3), (4, .ref a4), (5, .ref a5), (6, .ref a6), (7, .ref a7), (8, .int (i3 x8)), (9, .int (i3 x9)), (10, .int (i3 x10)), (11, .int (i3 x11)), (12, .int (i3 x12))] [] n h)) :
    Ok X bb sb9 336 [(0, .ref (SA + 1)), (1, .ref a1), (2, .ref a2), (3, .ref a3), (4, .ref a4), (5, .ref a5), (6, .ref a6), (7, .ref a7), (8, .int (i3 x8)), (9, .int (i3 x9)), (10, .int (i3 x10)), (11, .int (i3 x11)), (12, .int (i3 x12))] [] n h := by
  refine ok_iload (pc := 336) hc dL_law_336 8 rfl ?_
  refine ok_iconst (pc := 338) hc (v := i3 3) dL_law_338 (by decide) ?_
  obtain ⟨r, P⟩ := P
  refine zk_irem (pc := 339) hc dL_law_339 r ?_
  refine ok_iconst (pc := 340) hc (v := i3 2) dL_law_340 (by decide) ?_
  obtain ⟨r1, P⟩ := P
  refine zk_icmp_ne (pc := 341) (tgt := 359) hc dL_law_341 (by decide) r1 ⟨by decide, by decide⟩ (fun c => ?_) (fun c => ?_)
  · have P := P.1 c
    exact P
  · have P := P.2 c
    exact P

set_option maxHeartbeats 4000000 in
set_option maxRecDepth 100000 in
theorem sL_law_344 {X : Xt} {n : Nat} {h : HP} {a1 : Nat} {a2 : Nat} {a3 : Nat} {a4 : Nat} {a5 : Nat} {a6 : Nat} {a7 : Nat} {x8 : Int} {x9 : Int} {x10 : Int} {x11 : Int} {x12 : Int} {bb : Nat} {sb9 : Nat} (hc : Cx X cL_law RL 13 13 510) {L9 : Nat} {xs : Nat → Int32} (hX : ScX X L9 xs) (hL : CxL X) 
    (P : (ClV [.ref (SA + 1), .ref a1, .ref a2, .ref a3, .ref a4, .ref a5, .ref a6, .ref a7, .int (i3 x8), .int (i3 x9), .int (i3 x10), .int (i3 x11), .int (i3 x12)] n ∧ ClV [] n) ∧ spec_L_ahead [.ref a1, .int (i3 (bshr x10 2)), .ref a2, .ref a3] n h (kg X bb sb9 351 [(0, .ref (SA + 1)), (1, .ref a1), (2, .ref a2), (3, .ref a3), (4, .ref a4), (5, .ref a5), (6, .ref a6), (7, .ref a7), (8, .int (i3 x8)), (9, .int (i3 x9)), (10, .int (i3 x10)), (11, .int (i3 x11)), (12, .int (i3 x12))] [] n)) :
    Ok X (bb + 8) (sb9 + 188) 344 [(0, .ref (SA + 1)), (1, .ref a1), (2, .ref a2), (3, .ref a3), (4, .ref a4), (5, .ref a5), (6, .ref a6), (7, .ref a7), (8, .int (i3 x8)), (9, .int (i3 x9)), (10, .int (i3 x10)), (11, .int (i3 x11)), (12, .int (i3 x12))] [] n h := by
  refine ok_aload_n (pc := 344) hc dL_law_344 rfl 1 rfl ?_
  refine ok_iload (pc := 345) hc dL_law_345 10 rfl ?_
  refine ok_iconst (pc := 347) hc (v := i3 2) dL_law_347 (by decide) ?_
  refine zk_ishr (pc := 348) hc dL_law_348 ?_
  refine ok_aload_n (pc := 349) hc dL_law_349 rfl 2 rfl ?_
  refine ok_aload_n (pc := 350) hc dL_law_350 rfl 3 rfl ?_
  obtain ⟨rg, P⟩ := P
  exact ok_callSg (pc := 351) (cb := bb) (sb := sb9) (st := []) hc [.ref a1, .int (i3 (bshr x10 2)), .ref a2, .ref a3] cs_L_176 sp_L_ahead (by decide) dL_law_351 rfl rfl rfl rfl (Nat.le_of_ble_eq_true rfl) rg.1 rg.2 P

set_option maxHeartbeats 4000000 in
set_option maxRecDepth 100000 in
theorem sL_law_354 {X : Xt} {n : Nat} {h : HP} {a1 : Nat} {a2 : Nat} {a3 : Nat} {a4 : Nat} {a5 : Nat} {a6 : Nat} {a7 : Nat} {x8 : Int} {x9 : Int} {x10 : Int} {x11 : Int} {x12 : Int} {t0 : Int} {bb : Nat} {sb9 : Nat} (hc : Cx X cL_law RL 13 13 510) {L9 : Nat} {xs : Nat → Int32} (hX : ScX X L9 xs) (hL : CxL X) 
    (P : (R3 t0) ∧ (¬ t0 = 0 → Ok X bb sb9 359 [(0, .ref (SA + 1)), (1, .ref a1), (2, .ref a2), (3, .ref a3), (4, .ref a4), (5, .ref a5), (6, .ref a6), (7, .ref a7), (8, .int (i3 x8)), (9, .int (i3 x9)), (10, .int (i3 x10)), (11, .int (i3 x11)), (12, .int (i3 x12))] [] n h) ∧ (t0 = 0 → 0 = (1 : Int))) :
    Ok X bb sb9 354 [(0, .ref (SA + 1)), (1, .ref a1), (2, .ref a2), (3, .ref a3), (4, .ref a4), (5, .ref a5), (6, .ref a6), (7, .ref a7), (8, .int (i3 x8)), (9, .int (i3 x9)), (10, .int (i3 x10)), (11, .int (i3 x11)), (12, .int (i3 x12))] [.int (i3 t0)] n h := by
  obtain ⟨r1, P⟩ := P
  refine zk_if_ne (pc := 354) (tgt := 359) hc dL_law_354 (by decide) r1 (fun c => ?_) (fun c => ?_)
  · have P := P.1 c
    exact P
  · have P := P.2 c
    refine ok_iconst (pc := 357) hc (v := i3 0) dL_law_357 (by decide) ?_
    exact ok_retL hc hL dL_law_358 P

set_option maxHeartbeats 4000000 in
set_option maxRecDepth 100000 in
theorem sL_law_359 {X : Xt} {n : Nat} {h : HP} {a1 : Nat} {a2 : Nat} {a3 : Nat} {a4 : Nat} {a5 : Nat} {a6 : Nat} {a7 : Nat} {x8 : Int} {x9 : Int} {x10 : Int} {x11 : Int} {x12 : Int} {bb : Nat} {sb9 : Nat} (hc : Cx X cL_law RL 13 13 510) {L9 : Nat} {xs : Nat → Int32} (hX : ScX X L9 xs) (hL : CxL X) 
    (P : Ok X bb sb9 95 [(0, .ref (SA + 1)), (1, .ref a1), (2, .ref a2), (3, .ref a3), (4, .ref a4), (5, .ref a5), (6, .ref a6), (7, .ref a7), (8, .int (i3 (x8 + 1)))] [] n h) :
    Ok X bb sb9 359 [(0, .ref (SA + 1)), (1, .ref a1), (2, .ref a2), (3, .ref a3), (4, .ref a4), (5, .ref a5), (6, .ref a6), (7, .ref a7), (8, .int (i3 x8)), (9, .int (i3 x9)), (10, .int (i3 x10)), (11, .int (i3 x11)), (12, .int (i3 x12))] [] n h := by
  refine zk_iinc (pc := 359) hc (q := 8) (x := x8) (lv' := [(8, .int (i3 (x8 + 1))), (0, .ref (SA + 1)), (1, .ref a1), (2, .ref a2), (3, .ref a3), (4, .ref a4), (5, .ref a5), (6, .ref a6), (7, .ref a7), (9, .int (i3 x9)), (10, .int (i3 x10)), (11, .int (i3 x11)), (12, .int (i3 x12))]) dL_law_359 rfl (by decide) rfl ?_
  refine ok_goto (pc := 362) (tgt := 95) hc dL_law_362 (by decide) ?_
  refine ok_lv [1, 2, 3, 4, 5, 6, 7, 8, 0] rfl ?_
  exact P

set_option maxHeartbeats 4000000 in
set_option maxRecDepth 100000 in
theorem sL_law_365 {X : Xt} {n : Nat} {h : HP} {a1 : Nat} {a2 : Nat} {a3 : Nat} {a4 : Nat} {a5 : Nat} {a6 : Nat} {a7 : Nat} {x8 : Int} {bb : Nat} {sb9 : Nat} (hc : Cx X cL_law RL 13 13 510) {L9 : Nat} {xs : Nat → Int32} (hX : ScX X L9 xs) (hL : CxL X) 
    (P : 1 = (1 : Int)) :
    Ok X bb sb9 365 [(0, .ref (SA + 1)), (1, .ref a1), (2, .ref a2), (3, .ref a3), (4, .ref a4), (5, .ref a5), (6, .ref a6), (7, .ref a7), (8, .int (i3 x8))] [] n h := by
  refine ok_iconst (pc := 365) hc (v := i3 1) dL_law_365 (by decide) ?_
  exact ok_retL hc hL dL_law_366 P

/-- the law's world: the desk, and six arrays behind it -/
def LV (n : Nat) (q : Dsk) (Fd F D G : Nat → Int) (hh : HP) : Prop := (DkA hh n q ∧ 134 ≤ n) ∧ At hh n 128 (ai 4 Fd) ∧ At hh n 129 (ai 48 F) ∧ At hh n 130 (ai 4 D) ∧ At hh n 131 (ai 48 G) ∧ (∃ E, At hh n 132 (al 56 E)) ∧ (∃ E, At hh n 133 (al 56 E)) ∧ Nb hh n
theorem LV.d {n : Nat} {q : Dsk} {Fd F D G Z : Nat → Int} {hh : HP} (w : LV n q Fd F D G hh) : LV n q Z F D G (va_up hh 128 (ai 4 Z)) := by
  obtain ⟨⟨w1, hn⟩, w2, w3, w4, w5, ⟨E, w6⟩, ⟨E', w7⟩, w8⟩ := w
  exact ⟨⟨w1.out (lo := 128) (hi := 128) (Fr.rf.up (by omega)) (by omega), hn⟩, w2.it, w3.up (by omega), w4.up (by omega), w5.up (by omega), ⟨E, w6.up (by omega)⟩, ⟨E', w7.up (by omega)⟩, w8.up trivial⟩
theorem LV.a {n : Nat} {q : Dsk} {Fd F D G Z : Nat → Int} {hh : HP} (w : LV n q Fd F D G hh) : LV n q Fd Z D G (va_up hh 129 (ai 48 Z)) := by
  obtain ⟨⟨w1, hn⟩, w2, w3, w4, w5, ⟨E, w6⟩, ⟨E', w7⟩, w8⟩ := w
  exact ⟨⟨w1.out (lo := 129) (hi := 129) (Fr.rf.up (by omega)) (by omega), hn⟩, w2.up (by omega), w3.it, w4.up (by omega), w5.up (by omega), ⟨E, w6.up (by omega)⟩, ⟨E', w7.up (by omega)⟩, w8.up trivial⟩
theorem LV.dd {n : Nat} {q : Dsk} {Fd F D G Z : Nat → Int} {hh : HP} (w : LV n q Fd F D G hh) : LV n q Fd F Z G (va_up hh 130 (ai 4 Z)) := by
  obtain ⟨⟨w1, hn⟩, w2, w3, w4, w5, ⟨E, w6⟩, ⟨E', w7⟩, w8⟩ := w
  exact ⟨⟨w1.out (lo := 130) (hi := 130) (Fr.rf.up (by omega)) (by omega), hn⟩, w2.up (by omega), w3.up (by omega), w4.it, w5.up (by omega), ⟨E, w6.up (by omega)⟩, ⟨E', w7.up (by omega)⟩, w8.up trivial⟩
theorem LV.pp {n : Nat} {q : Dsk} {Fd F D G Z : Nat → Int} {hh : HP} (w : LV n q Fd F D G hh) : LV n q Fd F D Z (va_up hh 131 (ai 48 Z)) := by
  obtain ⟨⟨w1, hn⟩, w2, w3, w4, w5, ⟨E, w6⟩, ⟨E', w7⟩, w8⟩ := w
  exact ⟨⟨w1.out (lo := 131) (hi := 131) (Fr.rf.up (by omega)) (by omega), hn⟩, w2.up (by omega), w3.up (by omega), w4.up (by omega), w5.it, ⟨E, w6.up (by omega)⟩, ⟨E', w7.up (by omega)⟩, w8.up trivial⟩
theorem LV.fr {n : Nat} {q q' : Dsk} {Fd F D G : Nat → Int} {hh h' : HP} (w : LV n q Fd F D G hh) (p : DkA h' n q') (g : Fr hh h' 0 127) : LV n q' Fd F D G h' := by
  obtain ⟨⟨w1, hn⟩, w2, w3, w4, w5, ⟨E, w6⟩, ⟨E', w7⟩, w8⟩ := w
  exact ⟨⟨p, hn⟩, w2.fr g (by omega), w3.fr g (by omega), w4.fr g (by omega), w5.fr g (by omega), ⟨E, w6.fr g (by omega)⟩, ⟨E', w7.fr g (by omega)⟩, w8.fr g (by omega)⟩
theorem LV.gr {n n' : Nat} {q : Dsk} {Fd F D G : Nat → Int} {hh h' : HP} (w : LV n q Fd F D G hh) (hn : n ≤ n') (p : DkA h' n' q) (g : ∀ x, 127 < x → x < n → h' x = hh x) (b : Nb h' n') : LV n' q Fd F D G h' := by
  obtain ⟨⟨w1, h134⟩, w2, w3, w4, w5, ⟨E, w6⟩, ⟨E', w7⟩, w8⟩ := w
  have mv : ∀ {x : Nat} {c : AE}, 127 < x → At hh n x c → At h' n' x c := fun hx z => ⟨Nat.lt_of_lt_of_le z.1 hn, (g _ hx z.1).trans z.2⟩
  exact ⟨⟨p, by omega⟩, mv (by omega) w2, mv (by omega) w3, mv (by omega) w4, mv (by omega) w5, ⟨E, mv (by omega) w6⟩, ⟨E', mv (by omega) w7⟩, b⟩
theorem d4_law : D4 128 129 132 133 := ⟨⟨by decide, by decide, by decide, by decide⟩, by decide, by decide, by decide, by decide, by decide, by decide⟩
theorem LV.w4 {n : Nat} {q : Dsk} {Fd F D G : Nat → Int} {hh : HP} (w : LV n q Fd F D G hh) (hD : DFS Fd q.1) (hP : PaF F q.1.1) : W4 hh n 128 129 132 133 q hh := ⟨Fd, F, ⟨w.1.1, w.2.1, w.2.2.1, w.2.2.2.2.2.1, w.2.2.2.2.2.2.1, fun _ _ _ _ _ _ => rfl⟩, hD, hP⟩
theorem LV.act {n : Nat} {q q' : Dsk} {Fd F D G : Nat → Int} {hh h' : HP} (w : LV n q Fd F D G hh) (p : W4 hh n 128 129 132 133 q' h') : ∃ Fd' F', LV n q' Fd' F' D G h' ∧ DFS Fd' q'.1 ∧ PaF F' q'.1.1 := by
  obtain ⟨Fd', F', ⟨p1, p2, p3, ⟨E, p4⟩, ⟨E', p5⟩, p6⟩, hD, hP⟩ := p
  obtain ⟨⟨w1, hn⟩, w2, w3, w4, w5, _, _, w8⟩ := w
  refine ⟨Fd', F', ⟨⟨p1, hn⟩, p2, p3, ⟨w4.1, (p6 130 (by omega) (by omega) (by omega) (by omega) (by omega)).trans w4.2⟩, ⟨w5.1, (p6 131 (by omega) (by omega) (by omega) (by omega) (by omega)).trans w5.2⟩, ⟨E, p4⟩, ⟨E', p5⟩, fun i a b => ?_⟩, hD, hP⟩
  by_cases c1 : i = 128
  · subst c1; rw [p2.2]; trivial
  · by_cases c2 : i = 129
    · subst c2; rw [p3.2]; trivial
    · by_cases c3 : i = 132
      · subst c3; rw [p4.2]; trivial
      · by_cases c4 : i = 133
        · subst c4; rw [p5.2]; trivial
        · rw [p6 i (by omega) c1 c2 c3 c4]
          exact w8 i a b
theorem LV.told {n : Nat} {q : Dsk} {Fd F D G : Nat → Int} {hh : HP} (w : LV n q Fd F D G hh) (hD : DFS Fd q.1) (hP : PaF F q.1.1) (hO : OkF q) (hn : n ≤ 900) {x : Int} {K : KT} (k : ∀ h', LV (n + 2) q Fd F D G h' → K (.inl (some (.int (i3 1)))) (n + 2) h') : spec_L_told [.ref 0, .int (i3 x), .ref 128, .ref 129] n hh K :=
  ⟨q, x, 128, 129, Fd, F, rfl, w.1.1, ⟨by decide, by decide⟩, w.2.1, w.2.2.1, hD, hP, hO.1.1, w.2.2.2.2.2.2.2, ⟨by have := w.1.2; omega, by unfold SA; omega⟩, fun h' a b c => k h' (w.gr (by omega) a b c)⟩
theorem LV.ahead {n : Nat} {q : Dsk} {Fd F D G : Nat → Int} {hh : HP} (w : LV n q Fd F D G hh) (hD : DFS Fd q.1) (hP : PaF F q.1.1) (hn : n ≤ 900) {x : Int} {K : KT} (k : ∀ h', LV (n + 4) q Fd F D G h' → K (.inl (some (.int (i3 1)))) (n + 4) h') : spec_L_ahead [.ref 0, .int (i3 x), .ref 128, .ref 129] n hh K :=
  ⟨q, x, 128, 129, Fd, F, rfl, w.1.1, ⟨by decide, by decide⟩, w.2.1, w.2.2.1, hD, hP, w.2.2.2.2.2.2.2, ⟨by have := w.1.2; omega, by unfold SA; omega⟩, fun h' a b c => k h' (w.gr (by omega) a b c)⟩
theorem lw_cl {n : Nat} (h : 134 ≤ n) {vs : List Value} (t : ClV vs n) : ClV (.ref (SA + 1) :: .ref 0 :: .ref 128 :: .ref 129 :: .ref 130 :: .ref 131 :: .ref 132 :: .ref 133 :: vs) n :=
  ClV.s (Nat.le_succ _) (ClV.r (by omega) (ClV.r (by omega) (ClV.r (by omega) (ClV.r (by omega) (ClV.r (by omega) (ClV.r (by omega) (ClV.r (by omega) t)))))))
theorem lw_cl5 {n : Nat} (h : 134 ≤ n) {a b c d e : Int} : ClV [.ref (SA + 1), .ref 0, .ref 128, .ref 129, .ref 130, .ref 131, .ref 132, .ref 133, .int (i3 a), .int (i3 b), .int (i3 c), .int (i3 d), .int (i3 e)] n := by
  have ci : ∀ {v : Int} {vs : List Value}, ClV vs n → ClV (.int (i3 v) :: vs) n := fun t => ClV.i (fun j z => by cases z) t
  exact lw_cl h (ci (ci (ci (ci (ci ClV.z)))))
set_option maxHeartbeats 4000000 in
theorem lw_c1 {X : Xt} {L9 : Nat} {xs : Nat → Int32} {n : Nat} {q : Dsk} {Fd F D G : Nat → Int} {x8 x9 x10 x11 : Int} {bb sb9 : Nat} (hc : Cx X cL_law RL 13 13 510) (hX : ScX X L9 xs) (hL : CxL X) (k : ∀ hh Z x12, LV n q Fd F Z G hh → (∀ j, j < 4 → Z j = Fd j) → (∀ j, 4 ≤ j → Z j = D j) → Ok X bb sb9 162 [(0, .ref (SA + 1)), (1, .ref 0), (2, .ref 128), (3, .ref 129), (4, .ref 130), (5, .ref 131), (6, .ref 132), (7, .ref 133), (8, .int (i3 x8)), (9, .int (i3 x9)), (10, .int (i3 x10)), (11, .int (i3 x11)), (12, .int (i3 x12))] [] n hh) : ∀ (j i : Nat), i + j = 4 → ∀ hh Z, LV n q Fd F Z G hh → (∀ j, j < i → Z j = Fd j) → (∀ j, 4 ≤ j → Z j = D j) → Ok X bb sb9 141 [(0, .ref (SA + 1)), (1, .ref 0), (2, .ref 128), (3, .ref 129), (4, .ref 130), (5, .ref 131), (6, .ref 132), (7, .ref 133), (8, .int (i3 x8)), (9, .int (i3 x9)), (10, .int (i3 x10)), (11, .int (i3 x11)), (12, .int (i3 (i : Int)))] [] n hh := by
  intro j
  induction j with
  | zero =>
    intro i hi hh Z hw hz hy
    exact sL_law_141 hc hX hL ⟨R3_s (by omega), fun _ => k hh Z _ hw (fun j hj => hz j (by omega)) hy, fun z => absurd (by omega) z⟩
  | succ j ih =>
    intro i hi hh Z hw hz hy
    have xi : Ix (i : Int) 4 := ⟨by omega, by omega, by omega⟩
    refine sL_law_141 hc hX hL ⟨R3_s (by omega), fun z => absurd z (by omega), fun _ => sL_law_147 hc hX hL hw.2.1 hw.2.2.2.1 ⟨xi, xi, ?_⟩⟩
    rw [show (i : Int).toNat = i by omega]
    refine ih (i + 1) (by omega) _ _ hw.dd (fun k hk => ?_) (fun k hk => ?_)
    · by_cases z : k = i
      · subst z
        exact up_self
      · rw [up_ne z]
        exact hz k (by omega)
    · rw [up_ne (by omega)]
      exact hy k hk
set_option maxHeartbeats 4000000 in
theorem lw_c2 {X : Xt} {L9 : Nat} {xs : Nat → Int32} {n : Nat} {q : Dsk} {Fd F D G : Nat → Int} {x8 x9 x10 x11 : Int} {bb sb9 : Nat} (hc : Cx X cL_law RL 13 13 510) (hX : ScX X L9 xs) (hL : CxL X) (k : ∀ hh Z x12, LV n q Fd F D Z hh → (∀ j, j < 48 → Z j = F j) → (∀ j, 48 ≤ j → Z j = G j) → Ok X bb sb9 187 [(0, .ref (SA + 1)), (1, .ref 0), (2, .ref 128), (3, .ref 129), (4, .ref 130), (5, .ref 131), (6, .ref 132), (7, .ref 133), (8, .int (i3 x8)), (9, .int (i3 x9)), (10, .int (i3 x10)), (11, .int (i3 x11)), (12, .int (i3 x12))] [] n hh) : ∀ (j i : Nat), i + j = 48 → ∀ hh Z, LV n q Fd F D Z hh → (∀ j, j < i → Z j = F j) → (∀ j, 48 ≤ j → Z j = G j) → Ok X bb sb9 165 [(0, .ref (SA + 1)), (1, .ref 0), (2, .ref 128), (3, .ref 129), (4, .ref 130), (5, .ref 131), (6, .ref 132), (7, .ref 133), (8, .int (i3 x8)), (9, .int (i3 x9)), (10, .int (i3 x10)), (11, .int (i3 x11)), (12, .int (i3 (i : Int)))] [] n hh := by
  intro j
  induction j with
  | zero =>
    intro i hi hh Z hw hz hy
    exact sL_law_165 hc hX hL ⟨R3_s (by omega), fun _ => k hh Z _ hw (fun j hj => hz j (by omega)) hy, fun z => absurd (by omega) z⟩
  | succ j ih =>
    intro i hi hh Z hw hz hy
    have xi : Ix (i : Int) 48 := ⟨by omega, by omega, by omega⟩
    refine sL_law_165 hc hX hL ⟨R3_s (by omega), fun z => absurd z (by omega), fun _ => sL_law_172 hc hX hL hw.2.2.1 hw.2.2.2.2.1 ⟨xi, xi, ?_⟩⟩
    rw [show (i : Int).toNat = i by omega]
    refine ih (i + 1) (by omega) _ _ hw.pp (fun k hk => ?_) (fun k hk => ?_)
    · by_cases z : k = i
      · subst z
        exact up_self
      · rw [up_ne z]
        exact hz k (by omega)
    · rw [up_ne (by omega)]
      exact hy k hk
set_option maxHeartbeats 4000000 in
theorem lw_c3 {X : Xt} {L9 : Nat} {xs : Nat → Int32} {n : Nat} {q : Dsk} {Fd F D G : Nat → Int} {x8 x9 x10 x11 : Int} {bb sb9 : Nat} (hc : Cx X cL_law RL 13 13 510) (hX : ScX X L9 xs) (hL : CxL X) (k : ∀ hh Z x12, LV n q Z F D G hh → (∀ j, j < 4 → Z j = D j) → (∀ j, 4 ≤ j → Z j = Fd j) → Ok X bb sb9 296 [(0, .ref (SA + 1)), (1, .ref 0), (2, .ref 128), (3, .ref 129), (4, .ref 130), (5, .ref 131), (6, .ref 132), (7, .ref 133), (8, .int (i3 x8)), (9, .int (i3 x9)), (10, .int (i3 x10)), (11, .int (i3 x11)), (12, .int (i3 x12))] [] n hh) : ∀ (j i : Nat), i + j = 4 → ∀ hh Z, LV n q Z F D G hh → (∀ j, j < i → Z j = D j) → (∀ j, 4 ≤ j → Z j = Fd j) → Ok X bb sb9 275 [(0, .ref (SA + 1)), (1, .ref 0), (2, .ref 128), (3, .ref 129), (4, .ref 130), (5, .ref 131), (6, .ref 132), (7, .ref 133), (8, .int (i3 x8)), (9, .int (i3 x9)), (10, .int (i3 x10)), (11, .int (i3 x11)), (12, .int (i3 (i : Int)))] [] n hh := by
  intro j
  induction j with
  | zero =>
    intro i hi hh Z hw hz hy
    exact sL_law_275 hc hX hL ⟨R3_s (by omega), fun _ => k hh Z _ hw (fun j hj => hz j (by omega)) hy, fun z => absurd (by omega) z⟩
  | succ j ih =>
    intro i hi hh Z hw hz hy
    have xi : Ix (i : Int) 4 := ⟨by omega, by omega, by omega⟩
    refine sL_law_275 hc hX hL ⟨R3_s (by omega), fun z => absurd z (by omega), fun _ => sL_law_281 hc hX hL hw.2.2.2.1 hw.2.1 ⟨xi, xi, ?_⟩⟩
    rw [show (i : Int).toNat = i by omega]
    refine ih (i + 1) (by omega) _ _ hw.d (fun k hk => ?_) (fun k hk => ?_)
    · by_cases z : k = i
      · subst z
        exact up_self
      · rw [up_ne z]
        exact hz k (by omega)
    · rw [up_ne (by omega)]
      exact hy k hk
set_option maxHeartbeats 4000000 in
theorem lw_c4 {X : Xt} {L9 : Nat} {xs : Nat → Int32} {n : Nat} {q : Dsk} {Fd F D G : Nat → Int} {x8 x9 x10 x11 : Int} {bb sb9 : Nat} (hc : Cx X cL_law RL 13 13 510) (hX : ScX X L9 xs) (hL : CxL X) (k : ∀ hh Z x12, LV n q Fd Z D G hh → (∀ j, j < 48 → Z j = G j) → (∀ j, 48 ≤ j → Z j = F j) → Ok X bb sb9 321 [(0, .ref (SA + 1)), (1, .ref 0), (2, .ref 128), (3, .ref 129), (4, .ref 130), (5, .ref 131), (6, .ref 132), (7, .ref 133), (8, .int (i3 x8)), (9, .int (i3 x9)), (10, .int (i3 x10)), (11, .int (i3 x11)), (12, .int (i3 x12))] [] n hh) : ∀ (j i : Nat), i + j = 48 → ∀ hh Z, LV n q Fd Z D G hh → (∀ j, j < i → Z j = G j) → (∀ j, 48 ≤ j → Z j = F j) → Ok X bb sb9 299 [(0, .ref (SA + 1)), (1, .ref 0), (2, .ref 128), (3, .ref 129), (4, .ref 130), (5, .ref 131), (6, .ref 132), (7, .ref 133), (8, .int (i3 x8)), (9, .int (i3 x9)), (10, .int (i3 x10)), (11, .int (i3 x11)), (12, .int (i3 (i : Int)))] [] n hh := by
  intro j
  induction j with
  | zero =>
    intro i hi hh Z hw hz hy
    exact sL_law_299 hc hX hL ⟨R3_s (by omega), fun _ => k hh Z _ hw (fun j hj => hz j (by omega)) hy, fun z => absurd (by omega) z⟩
  | succ j ih =>
    intro i hi hh Z hw hz hy
    have xi : Ix (i : Int) 48 := ⟨by omega, by omega, by omega⟩
    refine sL_law_299 hc hX hL ⟨R3_s (by omega), fun z => absurd z (by omega), fun _ => sL_law_306 hc hX hL hw.2.2.2.2.1 hw.2.2.1 ⟨xi, xi, ?_⟩⟩
    rw [show (i : Int).toNat = i by omega]
    refine ih (i + 1) (by omega) _ _ hw.a (fun k hk => ?_) (fun k hk => ?_)
    · by_cases z : k = i
      · subst z
        exact up_self
      · rw [up_ne z]
        exact hz k (by omega)
    · rw [up_ne (by omega)]
      exact hy k hk
theorem hist_r {h : HP} {n : Nat} {q : Dsk} (p : DkA h n q) : q.2.1.length ≤ 8 := by
  obtain ⟨o, h1, h2, _⟩ := p.2.2.2.2.1
  exact h2
/-- what is taken back -/
theorem undo_v {q q' : Dsk} (hR : HR q q') (h8 : q.2.1.length < 8) (he : q'.2.1.length = q.2.1.length + 1) (hO : OkF q) (hO' : OkF q') : opUndo q' = ((q.1, q.2.1, q'.2.2), .inl (q.2.1.length : Int)) ∧ OkF (q.1, q.2.1, q'.2.2) := by
  have e : q'.2.1 = q.2.1 ++ [q.1] := by
    rcases hR with y | y
    · rw [y] at he
      omega
    · rw [y]
      unfold pushH
      rw [if_pos h8]
  refine ⟨?_, ⟨hO.1.1, hO.1.2.1, hO'.1.2.2⟩, hO.2.1, hO.2.2⟩
  unfold opUndo
  rw [e, List.getLast?_concat]
  simp only
  rw [List.dropLast_concat, List.length_append]
  show _ = ((q.1, q.2.1, q'.2.2), Sum.inl (q.2.1.length : Int))
  rw [show (((q.2.1.length + [q.1].length : Nat) : Int) - 1) = (q.2.1.length : Int) by show ((q.2.1.length + 1 : Nat) : Int) - 1 = _; omega]
set_option maxHeartbeats 16000000 in
theorem lw_loop {X : Xt} {L9 : Nat} {xs : Nat → Int32} (hc : Cx X cL_law RL 13 13 510) (hX : ScX X L9 xs) (hL : CxL X) : ∀ (j t : Nat), t + j = 14 → 1 ≤ t → ∀ (n : Nat) (hh : HP) (q : Dsk) (Fd F D G : Nat → Int), n + 8 * j ≤ 400 → LV n q Fd F D G hh → DFS Fd q.1 → PaF F q.1.1 → OkF q → Ok X (979 * j) (6214 * j) 95 [(0, .ref (SA + 1)), (1, .ref 0), (2, .ref 128), (3, .ref 129), (4, .ref 130), (5, .ref 131), (6, .ref 132), (7, .ref 133), (8, .int (i3 (t : Int)))] [] n hh := by
  intro j
  induction j with
  | zero =>
    intro t ht _ n hh q Fd F D G hn hw hD hP hO
    exact sL_law_95 hc hX hL ⟨R3_s (by omega), fun _ => sL_law_365 hc hX hL rfl, fun z => absurd (by omega) z⟩
  | succ j ih =>
    intro t ht ht1 n hh q Fd F D G hn hw hD hP hO
    have h134 := hw.1.2
    refine sL_law_95 hc hX hL ⟨R3_s (by omega), fun z => absurd z (by omega), fun _ => ?_⟩
    refine sL_law_102 hc hX hL ⟨_, rfl, ⟨by omega, by omega⟩, fun x => ⟨rfl, ?_⟩⟩
    refine sL_law_110 hc hX hL ⟨_, rfl, ⟨by omega, by omega⟩, fun y => ⟨rfl, ?_⟩⟩
    refine sL_law_125 (bb := 979 * j + 978) (sb9 := 6214 * j + 6208) hc hX hL hw.1.1.1 rfl ⟨q, 8, rfl, ⟨by decide, by decide⟩, hw.1.1, fun h1 hq1 f1 => ⟨rfl, ?_⟩⟩
    generalize band x 2147483647 = x
    generalize band y 2147483647 = y
    have hw1 := hw.fr hq1 f1
    have h8 := hist_r hq1
    have r11 : R3 (q.2.1.length : Int) := R3_s (by omega)
    refine sL_law_136 (t0 := (q.2.1.length : Int)) hc hX hL ?_
    refine lw_c1 hc hX hL (fun h2 D2 x12 hw2 e2 _ => sL_law_162 hc hX hL ?_) 4 0 rfl h1 D hw1 (fun j hj => absurd hj (Nat.not_lt_zero j)) (fun _ _ => rfl)
    refine lw_c2 hc hX hL (fun h3 G3 x12 hw3 e3 _ => ?_) 48 0 rfl h2 G hw2 (fun j hj => absurd hj (Nat.not_lt_zero j)) (fun _ _ => rfl)
    refine sL_law_187 hc hX hL ⟨_, 14, rfl, ⟨by decide, by decide⟩, fun z hz0 hz1 => ⟨rfl, ?_⟩⟩
    refine sL_law_198 (bb := 979 * j + 920) (sb9 := 6214 * j + 5860) hc hX hL ⟨q, z, x, y, 128, 129, 132, 133, rfl, ⟨hz0, hz1⟩, d4_law, hw3.w4 hD hP, hO, fun h4 q' hW4 hR hO' => ⟨rfl, ?_⟩⟩
    obtain ⟨Fd4, F4, hw4, hD4, hP4⟩ := hw3.act hW4
    refine sL_law_211 (t0 := 1) hc hX hL ⟨R3_s (by decide), fun z => absurd z (by decide), fun _ => ?_⟩
    refine sL_law_214 (bb := 979 * j + 465) (sb9 := 6214 * j + 3030) hc hX hL ⟨⟨lw_cl5 h134, ClV.z⟩, hw4.told hD4 hP4 hO' (by omega) (fun h5 hw5 => ⟨by omega, ?_⟩)⟩
    refine sL_law_224 (t0 := 1) hc hX hL ⟨R3_s (by decide), fun _ => ?_, fun z => absurd z (by decide)⟩
    -- what comes behind the taking back
    have tail : ∀ (n' : Nat) (h' : HP) (q2 : Dsk) (Fd' F' D' G' : Nat → Int) (x11 x12 : Int), n' ≤ n + 4 → LV n' q2 Fd' F' D' G' h' → DFS Fd' q2.1 → PaF F' q2.1.1 → OkF q2 → Ok X (979 * j + 8) (6214 * j + 188) 336 [(0, .ref (SA + 1)), (1, .ref 0), (2, .ref 128), (3, .ref 129), (4, .ref 130), (5, .ref 131), (6, .ref 132), (7, .ref 133), (8, .int (i3 (t : Int))), (9, .int (i3 x)), (10, .int (i3 y)), (11, .int (i3 x11)), (12, .int (i3 x12))] [] n' h' := fun n' h' q2 Fd' F' D' G' x11 x12 hn' hw' hD' hP' hO2 => by
      have nx := fun (n2 : Nat) (h2 : HP) (hn2 : n2 ≤ n + 8) (hw2 : LV n2 q2 Fd' F' D' G' h2) => ih (t + 1) (by omega) (by omega) n2 h2 q2 Fd' F' D' G' (by omega) hw2 hD' hP' hO2
      refine sL_law_336 hc hX hL ⟨⟨⟨by omega, by omega⟩, by decide, by decide⟩, R3_s (by omega), fun _ => ?_, fun _ => ?_⟩
      · refine (sL_law_359 hc hX hL ?_).up (cb := 979 * j) (sb := 6214 * j) (by omega) (by omega)
        exact nx n' h' (by omega) hw'
      · refine sL_law_344 (bb := 979 * j) (sb9 := 6214 * j) hc hX hL ⟨⟨lw_cl5 hw'.1.2, ClV.z⟩, hw'.ahead hD' hP' (by omega) (fun h2 hw2 => ⟨by omega, ?_⟩)⟩
        refine sL_law_354 (t0 := 1) hc hX hL ⟨R3_s (by decide), fun _ => sL_law_359 hc hX hL ?_, fun z => absurd z (by decide)⟩
        exact nx (n' + 4) h2 (by omega) hw2
    refine sL_law_229 hc hX hL ⟨r11, fun _ => ?_, fun w8 => ?_⟩
    · exact (tail (n + 2) h5 q' Fd4 F4 D2 G3 _ _ (by omega) hw5 hD4 hP4 hO').up (by omega) (by omega)
    · refine sL_law_236 (bb := 979 * j + 464) (sb9 := 6214 * j + 3024) hc hX hL hw5.1.1.1 rfl ⟨q', 8, rfl, ⟨by decide, by decide⟩, hw5.1.1, fun h6 hq6 f6 => ⟨rfl, ?_⟩⟩
      have hw6 := hw5.fr hq6 f6
      have h8' := hist_r hq6
      refine sL_law_242 (t0 := (q'.2.1.length : Int)) hc hX hL ⟨R3_s (by omega), R3_s (by omega), fun _ => ?_, fun we => ?_⟩
      · exact (tail (n + 2) h6 q' Fd4 F4 D2 G3 _ _ (by omega) hw6 hD4 hP4 hO').up (by omega) (by omega)
      · refine sL_law_249 hc hX hL ⟨_, 4, rfl, ⟨by decide, by decide⟩, fun u hu0 hu1 => ⟨rfl, ?_⟩⟩
        refine sL_law_258 hc hX hL ⟨R3_s (by omega), fun _ => ?_, fun _ => ?_⟩
        · exact (tail (n + 2) h6 q' Fd4 F4 D2 G3 _ _ (by omega) hw6 hD4 hP4 hO').up (by omega) (by omega)
        · obtain ⟨eu, hO3⟩ := undo_v hR (by omega) (by omega) hO hO'
          refine sL_law_261 (bb := 979 * j + 463) (sb9 := 6214 * j + 3018) hc hX hL hw6.1.1.1 rfl ⟨q', rfl, hw6.1.1, ?_⟩
          rw [eu]
          intro h7 hq7 f7
          have hw7 := hw6.fr hq7 f7
          refine ⟨rfl, sL_law_265 (t0 := (q.2.1.length : Int)) hc hX hL ⟨r11, r11, fun _ => ?_, fun z => absurd rfl z⟩⟩
          refine lw_c3 hc hX hL (fun h8 Fd8 x12 hw8 e8 _ => sL_law_296 hc hX hL ?_) 4 0 rfl h7 Fd4 hw7 (fun j hj => absurd hj (Nat.not_lt_zero j)) (fun _ _ => rfl)
          refine lw_c4 hc hX hL (fun h9 F9 x12 hw9 e9 e9' => ?_) 48 0 rfl h8 F4 hw8 (fun j hj => absurd hj (Nat.not_lt_zero j)) (fun _ _ => rfl)
          have hD9 : DFS Fd8 q.1 := hD.cong (fun j hj => (e8 j hj).trans (e2 j hj))
          have hP9 : PaF F9 q.1.1 := hP.cong (fun j hj => (e9 j hj).trans (e3 j hj)) (fun j => by
            by_cases z : j < 48
            · rw [e9 j z, e3 j z]
              exact hP.2.2.2 j
            · rw [e9' j (by omega)]
              exact hP4.2.2.2 j)
          refine sL_law_321 (bb := 979 * j + 8) (sb9 := 6214 * j + 188) hc hX hL ⟨⟨lw_cl5 hw9.1.2, ClV.z⟩, hw9.told hD9 hP9 hO3 (by omega) (fun h10 hw10 => ⟨by omega, ?_⟩)⟩
          refine sL_law_331 (t0 := 1) hc hX hL ⟨R3_s (by decide), fun _ => ?_, fun z => absurd z (by decide)⟩
          exact tail (n + 2 + 2) h10 _ Fd8 F9 D2 G3 _ _ (by omega) hw10 hD9 hP9 hO3
theorem okF_0 : OkF q0D := ⟨okD_0, begS (Or.inr rfl), fun S h => absurd h List.not_mem_nil⟩
set_option maxHeartbeats 16000000 in
theorem lw_entry {X : Xt} {L9 : Nat} {xs : Nat → Int32} (hc : Cx X cL_law RL 13 13 510) (hX : ScX X L9 xs) (hL : CxL X) (h : HP) : Ok X 13378 88188 0 [(0, .ref (SA + 1))] [] 0 h := by
  have hsa := sa139
  have hs1 : SA ≤ SA + 1 := by omega
  have c0 : Cl h 0 := fun i hi => absurd hi (Nat.not_lt_zero i)
  refine ok_new (pc := 0) (cb := 13377) (sb := 88182) (N := 6) hc nw_L_65 dL_law_0 (fun j z => by simp at z) c0 (ClV.s hs1 ClV.z) ClV.z (by omega) ?_
  have c1 := c0.new (e := .inl (6, [.null, .null, .null, .null, .null, .int (i3 0)])) (fun j z => (by simp only [Rf, List.mem_cons, List.not_mem_nil, or_false, reduceCtorEq, or_self] at z))
  refine ok_dup (pc := 3) hc dL_law_3 rfl ?_
  refine ok_callI (pc := 4) (cb := 13247) (sb := 84182) (a := 0) (st := [.ref 0]) hc [] ci_L_159 sp_X6_init (by decide) dL_law_4 rfl rfl rfl rfl (Nat.le_of_ble_eq_true rfl) (ClV.s hs1 ClV.z) (ClV.r (by omega) ClV.z) ⟨0, rfl, rfl, rfl, up_self, c1, fun h1 hD => ⟨by omega, ok_nz ?_⟩⟩
  have hB1 : Nb h1 128 := fun i a b => absurd b (by omega)
  have hD2 := hD.nz
  have c2 := cl_of (Nat.le_refl 128) hD hB1
  generalize nz h1 = h2 at hD2 c2
  refine ok_astore_n (pc := 7) hc (lv' := [(1, .ref 0), (0, .ref (SA + 1))]) dL_law_7 rfl (by decide) rfl ?_
  refine ok_iconst (pc := 8) (v := i3 4) hc dL_law_8 (by decide) ?_
  refine ok_newI (pc := 9) (cb := 13246) (sb := 84178) (len := 4) hc dL_law_9 ac_int (by omega) c2 (ClV.r (by omega) (ClV.s hs1 ClV.z)) ClV.z (by omega) ?_
  have c3 := c2.new (e := ai 4 (fun _ => 0)) (fun _ z => False.elim z)
  refine ok_astore_n (pc := 11) hc (lv' := [(2, .ref 128), (1, .ref 0), (0, .ref (SA + 1))]) dL_law_11 rfl (by decide) rfl ?_
  refine ok_bipush (pc := 12) (v := i3 48) hc dL_law_12 (by decide) ?_
  refine ok_newI (pc := 14) (cb := 13245) (sb := 84130) (len := 48) hc dL_law_14 ac_int (by omega) c3 (ClV.r (by omega) (ClV.r (by omega) (ClV.s hs1 ClV.z))) ClV.z (by omega) ?_
  have c4 := c3.new (e := ai 48 (fun _ => 0)) (fun _ z => False.elim z)
  refine ok_astore_n (pc := 16) hc (lv' := [(3, .ref 129), (2, .ref 128), (1, .ref 0), (0, .ref (SA + 1))]) dL_law_16 rfl (by decide) rfl ?_
  refine ok_iconst (pc := 17) (v := i3 4) hc dL_law_17 (by decide) ?_
  refine ok_newI (pc := 18) (cb := 13244) (sb := 84126) (len := 4) hc dL_law_18 ac_int (by omega) c4 (ClV.r (by omega) (ClV.r (by omega) (ClV.r (by omega) (ClV.s hs1 ClV.z)))) ClV.z (by omega) ?_
  have c5 := c4.new (e := ai 4 (fun _ => 0)) (fun _ z => False.elim z)
  refine ok_astore (pc := 20) hc (lv' := [(4, .ref 130), (3, .ref 129), (2, .ref 128), (1, .ref 0), (0, .ref (SA + 1))]) dL_law_20 (by decide) rfl ?_
  refine ok_bipush (pc := 22) (v := i3 48) hc dL_law_22 (by decide) ?_
  refine ok_newI (pc := 24) (cb := 13243) (sb := 84078) (len := 48) hc dL_law_24 ac_int (by omega) c5 (ClV.r (by omega) (ClV.r (by omega) (ClV.r (by omega) (ClV.r (by omega) (ClV.s hs1 ClV.z))))) ClV.z (by omega) ?_
  have c6 := c5.new (e := ai 48 (fun _ => 0)) (fun _ z => False.elim z)
  refine ok_astore (pc := 26) hc (lv' := [(5, .ref 131), (4, .ref 130), (3, .ref 129), (2, .ref 128), (1, .ref 0), (0, .ref (SA + 1))]) dL_law_26 (by decide) rfl ?_
  refine ok_bipush (pc := 28) (v := i3 56) hc dL_law_28 (by decide) ?_
  refine ok_newJ (pc := 30) (cb := 13242) (sb := 84022) (len := 56) hc dL_law_30 ac_long (by omega) c6 (ClV.r (by omega) (ClV.r (by omega) (ClV.r (by omega) (ClV.r (by omega) (ClV.r (by omega) (ClV.s hs1 ClV.z)))))) ClV.z (by omega) ?_
  have c7 := c6.new (e := al 56 (fun _ => 0)) (fun _ z => False.elim z)
  refine ok_astore (pc := 32) hc (lv' := [(6, .ref 132), (5, .ref 131), (4, .ref 130), (3, .ref 129), (2, .ref 128), (1, .ref 0), (0, .ref (SA + 1))]) dL_law_32 (by decide) rfl ?_
  refine ok_bipush (pc := 34) (v := i3 56) hc dL_law_34 (by decide) ?_
  refine ok_newJ (pc := 36) (cb := 13241) (sb := 83966) (len := 56) hc dL_law_36 ac_long (by omega) c7 (ClV.r (by omega) (ClV.r (by omega) (ClV.r (by omega) (ClV.r (by omega) (ClV.r (by omega) (ClV.r (by omega) (ClV.s hs1 ClV.z))))))) ClV.z (by omega) ?_
  refine ok_astore (pc := 38) hc (lv' := [(7, .ref 133), (6, .ref 132), (5, .ref 131), (4, .ref 130), (3, .ref 129), (2, .ref 128), (1, .ref 0), (0, .ref (SA + 1))]) dL_law_38 (by decide) rfl ?_
  refine ok_lv [7, 6, 5, 4, 3, 2, 1, 0] rfl ?_
  have hw0 : LV 134 q0D (fun _ => 0) (fun _ => 0) (fun _ => 0) (fun _ => 0) (va_up (va_up (va_up (va_up (va_up (va_up h2 128 (ai 4 (fun _ => 0))) 129 (ai 48 (fun _ => 0))) 130 (ai 4 (fun _ => 0))) 131 (ai 48 (fun _ => 0))) 132 (al 56 (fun _ => 0))) 133 (al 56 (fun _ => 0))) := by
    refine ⟨⟨(hD2.out (lo := 128) (hi := 133) ((((((Fr.rf.up (by omega)).up (by omega)).up (by omega)).up (by omega)).up (by omega)).up (by omega)) (by omega)).mo (by omega), Nat.le_refl _⟩, ⟨by omega, ?_⟩, ⟨by omega, ?_⟩, ⟨by omega, ?_⟩, ⟨by omega, ?_⟩, ⟨_, by omega, (up_ne (by omega)).trans up_self⟩, ⟨_, by omega, up_self⟩, fun i a b => ?_⟩
    · rw [up_ne (by omega), up_ne (by omega), up_ne (by omega), up_ne (by omega), up_ne (by omega), up_self]
    · rw [up_ne (by omega), up_ne (by omega), up_ne (by omega), up_ne (by omega), up_self]
    · rw [up_ne (by omega), up_ne (by omega), up_ne (by omega), up_self]
    · rw [up_ne (by omega), up_ne (by omega), up_self]
    · unfold va_up
      (repeat' split) <;> first | trivial | (exfalso; omega)
  generalize va_up (va_up (va_up (va_up (va_up (va_up h2 128 (ai 4 (fun _ => 0))) 129 (ai 48 (fun _ => 0))) 130 (ai 4 (fun _ => 0))) 131 (ai 48 (fun _ => 0))) 132 (al 56 (fun _ => 0))) 133 (al 56 (fun _ => 0)) = h3 at hw0
  have i4 : ∀ z : Int, 0 ≤ z → z < 4 → Ix z 4 := fun z a b => ⟨a, by omega, by omega⟩
  refine sL_law_40 (bb := 13241) (sb9 := 83966) hc hX hL hw0.2.1 ⟨i4 _ (by decide) (by decide), i4 _ (by decide) (by decide), ?_⟩
  rw [va_up2]
  have hw1 := hw0.d (Z := va_up (va_up (fun _ => 0) (1 : Int).toNat 150) (3 : Int).toNat 1)
  have hD1 : DFS (va_up (va_up (fun _ => 0) (1 : Int).toNat 150) (3 : Int).toNat 1) q0D.1 := ⟨rfl, rfl, rfl, rfl⟩
  have hP1 : PaF (fun _ => 0) q0D.1.1 := ⟨Nat.zero_le _, fun i p hp => by simp [q0D, S0] at hp, fun p hp => absurd hp List.not_mem_nil, fun _ => R3_0⟩
  generalize va_up (va_up (fun _ => (0 : Int)) (1 : Int).toNat 150) (3 : Int).toNat 1 = Fd1 at hw1 hD1
  generalize va_up h3 128 (ai 4 Fd1) = h4 at hw1
  refine sL_law_50 (bb := 12786) (sb9 := 81136) hc hX hL ⟨⟨lw_cl (Nat.le_refl _) ClV.z, ClV.z⟩, hw1.told hD1 hP1 okF_0 (by omega) (fun h5 hw5 => ⟨by omega, ?_⟩)⟩
  refine sL_law_57 (t0 := 1) hc hX hL ⟨R3_s (by decide), fun z => absurd z (by decide), fun _ => ?_⟩
  refine sL_law_60 (bb := 12785) (sb9 := 81130) hc hX hL hw5.1.1.1 rfl ⟨q0D, 8, rfl, ⟨by decide, by decide⟩, hw5.1.1, fun h6 hq6 f6 => ⟨rfl, ?_⟩⟩
  have hw6 := hw5.fr hq6 f6
  refine sL_law_66 (t0 := 0) hc hX hL ⟨R3_0, fun z => absurd rfl z, fun _ => ?_⟩
  refine sL_law_69 hc hX hL ⟨0, rfl, ⟨by decide, by decide⟩, fun z => ⟨rfl, ?_⟩⟩
  refine sL_law_75 (bb := 12727) (sb9 := 80782) hc hX hL ⟨q0D, _, 128, 129, 132, 133, rfl, d4_law, hw6.w4 hD1 hP1, okF_0, fun h7 q' hW7 hR hO' => ⟨rfl, ?_⟩⟩
  obtain ⟨Fd7, F7, hw7, hD7, hP7⟩ := hw6.act hW7
  refine sL_law_87 (t0 := 1) hc hX hL ⟨R3_s (by decide), fun _ => sL_law_92 hc hX hL ?_, fun z => absurd z (by decide)⟩
  exact lw_loop hc hX hL 13 1 rfl (Nat.le_refl _) _ h7 q' Fd7 F7 _ _ (by omega) hw7 hD7 hP7 hO'
