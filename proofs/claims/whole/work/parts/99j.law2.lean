/-! part 99j: the law: its other cases -/
set_option maxHeartbeats 4000000 in
set_option maxRecDepth 100000 in
theorem sL_law_148 {X : Xt} {n : Nat} {h : HP} {a1 : Nat} {a2 : Nat} {a3 : Nat} {x4 : Int} {bb : Nat} {sb9 : Nat} {fs1 : List Value} (hc : Cx X cL_law RL 9 13 302) {L9 : Nat} {xs : Nat → Int32} (hX : ScX X L9 xs) (hL : CxL X) (e1 : At h n a1 (.inl (6, fs1))) (z1 : fs1.length = 6)
    (P : spec_X6_begin [.ref a1] n h (kc X bb sb9 149 [(0, .ref (SA + 1)), (1, .ref a1), (2, .ref a2), (3, .ref a3), (4, .int (i3 x4))] [] n)) :
    Ok X bb sb9 148 [(0, .ref (SA + 1)), (1, .ref a1), (2, .ref a2), (3, .ref a3), (4, .int (i3 x4))] [] n h := by
  refine ok_aload_n (pc := 148) hc dL_law_148 rfl 1 rfl ?_
  exact ok_callV (pc := 149) (a := a1) (cb := bb) (sb := sb9) (st := []) hc [] cv_L_82 sp_X6_begin (by decide) dL_law_149 rfl e1.1 e1.2 rfl rfl rfl (Nat.le_of_ble_eq_true rfl) P
set_option maxHeartbeats 4000000 in
set_option maxRecDepth 100000 in
theorem sL_law_152 {X : Xt} {n : Nat} {h : HP} {a1 : Nat} {a2 : Nat} {a3 : Nat} {x4 : Int} {t0 : Int} {bb : Nat} {sb9 : Nat} {fs1 : List Value} (hc : Cx X cL_law RL 9 13 302) {L9 : Nat} {xs : Nat → Int32} (hX : ScX X L9 xs) (hL : CxL X) (e1 : At h n a2 (.inl (7, fs1))) (z1 : fs1.length = 24)
    (P : spec_X7_begin [.ref a2] n h (kc X bb sb9 153 [(0, .ref (SA + 1)), (1, .ref a1), (2, .ref a2), (3, .ref a3), (4, .int (i3 x4))] [.int (i3 t0)] n)) :
    Ok X bb sb9 152 [(0, .ref (SA + 1)), (1, .ref a1), (2, .ref a2), (3, .ref a3), (4, .int (i3 x4))] [.int (i3 t0)] n h := by
  refine ok_aload_n (pc := 152) hc dL_law_152 rfl 2 rfl ?_
  exact ok_callV (pc := 153) (a := a2) (cb := bb) (sb := sb9) (st := [.int (i3 t0)]) hc [] cv_L_85 sp_X7_begin (by decide) dL_law_153 rfl e1.1 e1.2 rfl rfl rfl (Nat.le_of_ble_eq_true rfl) P
set_option maxHeartbeats 4000000 in
set_option maxRecDepth 100000 in
theorem sL_law_156 {X : Xt} {n : Nat} {h : HP} {a1 : Nat} {a2 : Nat} {a3 : Nat} {x4 : Int} {t0 : Int} {t1 : Int} {bb : Nat} {sb9 : Nat} (hc : Cx X cL_law RL 9 13 302) {L9 : Nat} {xs : Nat → Int32} (hX : ScX X L9 xs) (hL : CxL X) 
    (P : (R3 t1) ∧ (R3 t0) ∧ (t1 = t0 → Ok X bb sb9 1415 [(0, .ref (SA + 1)), (1, .ref a1), (2, .ref a2), (3, .ref a3), (4, .int (i3 x4))] [] n h) ∧ (¬ t1 = t0 → 0 = (1 : Int))) :
    Ok X bb sb9 156 [(0, .ref (SA + 1)), (1, .ref a1), (2, .ref a2), (3, .ref a3), (4, .int (i3 x4))] [.int (i3 t0), .int (i3 t1)] n h := by
  obtain ⟨r1, P⟩ := P
  obtain ⟨r2, P⟩ := P
  refine zk_icmp_eq (pc := 156) (tgt := 1415) hc dL_law_156 (by decide) r1 r2 (fun c => ?_) (fun c => ?_)
  · have P := P.1 c
    exact P
  · have P := P.2 c
    refine ok_iconst (pc := 159) hc (v := i3 0) dL_law_159 (by decide) ?_
    exact ok_retL hc hL dL_law_160 P
theorem lw_begin {X : Xt} {L9 : Nat} {xs : Nat → Int32} (hc : Cx X cL_law RL 9 13 302) (hX : ScX X L9 xs) (hL : CxL X) (hL9 : L9 ≤ 2048) {i : Nat} (hi : i + 4 ≤ L9) {h : HP} {q : Dsk} (I : LwI h q) {bb sb9 : Nat} (k : ∀ (h' : HP) (q' : Dsk), LwI h' q' → Ok X bb sb9 1415 [(0, .ref (SA + 1)), (1, .ref 0), (2, .ref 128), (3, .ref 139), (4, .int (i3 i))] [] 140 h') : Ok X bb sb9 148 [(0, .ref (SA + 1)), (1, .ref 0), (2, .ref 128), (3, .ref 139), (4, .int (i3 i))] [] 140 h := by
  obtain ⟨hD, ⟨t, hM⟩, g, hg⟩ := I
  obtain ⟨I0, F0, m0, mf0, h00, hGd, hO⟩ := id hM
  refine sL_law_148 (bb := bb) (sb9 := sb9) hc hX hL hD.1 rfl ⟨q, rfl, hD, fun h1 hD1 f1 => ⟨rfl, ?_⟩⟩
  have hM1 : MdA h1 140 q t := hM.pt (fun x hx => f1 x (by omega))
  obtain ⟨I1, F1, m1, -⟩ := id hM1
  refine sL_law_152 hc hX hL m1.o rfl ⟨q, t, rfl, hM1, fun h2 hM2 f2 => ⟨rfl, ?_⟩⟩
  have kk := k h2 _ ⟨hD1.out f2 (by omega), ⟨_, hM2⟩, g, (hg.fr f1 (by omega)).fr f2 (by omega)⟩
  show Ok X bb sb9 156 [(0, .ref (SA + 1)), (1, .ref 0), (2, .ref 128), (3, .ref 139), (4, .int (i3 i))] [.int (i3 q.1.1.length), .int (i3 q.1.1.length)] 140 h2
  rw [← i3_T (i3 q.1.1.length)]
  exact sL_law_156 hc hX hL ⟨R3_T _, R3_T _, fun _ => kk, fun z => absurd rfl z⟩
set_option maxHeartbeats 4000000 in
set_option maxRecDepth 100000 in
theorem sL_law_665 {X : Xt} {n : Nat} {h : HP} {a1 : Nat} {a2 : Nat} {a3 : Nat} {x4 : Int} {bb : Nat} {sb9 : Nat} {fs1 : List Value} (hc : Cx X cL_law RL 9 13 302) {L9 : Nat} {xs : Nat → Int32} (hX : ScX X L9 xs) (hL : CxL X) (e1 : At h n a1 (.inl (6, fs1))) (z1 : fs1.length = 6)
    (P : spec_X6_clearInput [.ref a1] n h (kc X bb sb9 666 [(0, .ref (SA + 1)), (1, .ref a1), (2, .ref a2), (3, .ref a3), (4, .int (i3 x4))] [] n)) :
    Ok X bb sb9 665 [(0, .ref (SA + 1)), (1, .ref a1), (2, .ref a2), (3, .ref a3), (4, .int (i3 x4))] [] n h := by
  refine ok_aload_n (pc := 665) hc dL_law_665 rfl 1 rfl ?_
  exact ok_callV (pc := 666) (a := a1) (cb := bb) (sb := sb9) (st := []) hc [] cv_L_121 sp_X6_clearInput (by decide) dL_law_666 rfl e1.1 e1.2 rfl rfl rfl (Nat.le_of_ble_eq_true rfl) P
set_option maxHeartbeats 4000000 in
set_option maxRecDepth 100000 in
theorem sL_law_669 {X : Xt} {n : Nat} {h : HP} {a1 : Nat} {a2 : Nat} {a3 : Nat} {x4 : Int} {t0 : Int} {bb : Nat} {sb9 : Nat} {fs1 : List Value} (hc : Cx X cL_law RL 9 13 302) {L9 : Nat} {xs : Nat → Int32} (hX : ScX X L9 xs) (hL : CxL X) (e1 : At h n a2 (.inl (7, fs1))) (z1 : fs1.length = 24)
    (P : spec_X7_clearInput [.ref a2] n h (kc X bb sb9 670 [(0, .ref (SA + 1)), (1, .ref a1), (2, .ref a2), (3, .ref a3), (4, .int (i3 x4))] [.int (i3 t0)] n)) :
    Ok X bb sb9 669 [(0, .ref (SA + 1)), (1, .ref a1), (2, .ref a2), (3, .ref a3), (4, .int (i3 x4))] [.int (i3 t0)] n h := by
  refine ok_aload_n (pc := 669) hc dL_law_669 rfl 2 rfl ?_
  exact ok_callV (pc := 670) (a := a2) (cb := bb) (sb := sb9) (st := [.int (i3 t0)]) hc [] cv_L_124 sp_X7_clearInput (by decide) dL_law_670 rfl e1.1 e1.2 rfl rfl rfl (Nat.le_of_ble_eq_true rfl) P
set_option maxHeartbeats 4000000 in
set_option maxRecDepth 100000 in
theorem sL_law_673 {X : Xt} {n : Nat} {h : HP} {a1 : Nat} {a2 : Nat} {a3 : Nat} {x4 : Int} {t0 : Int} {t1 : Int} {bb : Nat} {sb9 : Nat} (hc : Cx X cL_law RL 9 13 302) {L9 : Nat} {xs : Nat → Int32} (hX : ScX X L9 xs) (hL : CxL X) 
    (P : (R3 t1) ∧ (R3 t0) ∧ (t1 = t0 → Ok X bb sb9 1415 [(0, .ref (SA + 1)), (1, .ref a1), (2, .ref a2), (3, .ref a3), (4, .int (i3 x4))] [] n h) ∧ (¬ t1 = t0 → 0 = (1 : Int))) :
    Ok X bb sb9 673 [(0, .ref (SA + 1)), (1, .ref a1), (2, .ref a2), (3, .ref a3), (4, .int (i3 x4))] [.int (i3 t0), .int (i3 t1)] n h := by
  obtain ⟨r1, P⟩ := P
  obtain ⟨r2, P⟩ := P
  refine zk_icmp_eq (pc := 673) (tgt := 1415) hc dL_law_673 (by decide) r1 r2 (fun c => ?_) (fun c => ?_)
  · have P := P.1 c
    exact P
  · have P := P.2 c
    refine ok_iconst (pc := 676) hc (v := i3 0) dL_law_676 (by decide) ?_
    exact ok_retL hc hL dL_law_677 P
theorem lw_clearInput {X : Xt} {L9 : Nat} {xs : Nat → Int32} (hc : Cx X cL_law RL 9 13 302) (hX : ScX X L9 xs) (hL : CxL X) (hL9 : L9 ≤ 2048) {i : Nat} (hi : i + 4 ≤ L9) {h : HP} {q : Dsk} (I : LwI h q) {bb sb9 : Nat} (k : ∀ (h' : HP) (q' : Dsk), LwI h' q' → Ok X bb sb9 1415 [(0, .ref (SA + 1)), (1, .ref 0), (2, .ref 128), (3, .ref 139), (4, .int (i3 i))] [] 140 h') : Ok X bb sb9 665 [(0, .ref (SA + 1)), (1, .ref 0), (2, .ref 128), (3, .ref 139), (4, .int (i3 i))] [] 140 h := by
  obtain ⟨hD, ⟨t, hM⟩, g, hg⟩ := I
  obtain ⟨I0, F0, m0, mf0, h00, hGd, hO⟩ := id hM
  refine sL_law_665 (bb := bb) (sb9 := sb9) hc hX hL hD.1 rfl ⟨q, rfl, hD, fun h1 hD1 f1 => ⟨rfl, ?_⟩⟩
  have hM1 : MdA h1 140 q t := hM.pt (fun x hx => f1 x (by omega))
  obtain ⟨I1, F1, m1, -⟩ := id hM1
  refine sL_law_669 hc hX hL m1.o rfl ⟨q, t, rfl, hM1, fun h2 hM2 f2 => ⟨rfl, ?_⟩⟩
  have kk := k h2 _ ⟨hD1.out f2 (by omega), ⟨_, hM2⟩, g, (hg.fr f1 (by omega)).fr f2 (by omega)⟩
  show Ok X bb sb9 673 [(0, .ref (SA + 1)), (1, .ref 0), (2, .ref 128), (3, .ref 139), (4, .int (i3 i))] [.int (i3 q.2.2.2.2.length), .int (i3 q.2.2.2.2.length)] 140 h2
  rw [← i3_T (i3 q.2.2.2.2.length)]
  exact sL_law_673 hc hX hL ⟨R3_T _, R3_T _, fun _ => kk, fun z => absurd rfl z⟩
set_option maxHeartbeats 4000000 in
set_option maxRecDepth 100000 in
theorem sL_law_678 {X : Xt} {n : Nat} {h : HP} {a1 : Nat} {a2 : Nat} {a3 : Nat} {x4 : Int} {bb : Nat} {sb9 : Nat} {fs1 : List Value} (hc : Cx X cL_law RL 9 13 302) {L9 : Nat} {xs : Nat → Int32} (hX : ScX X L9 xs) (hL : CxL X) (e1 : At h n a1 (.inl (6, fs1))) (z1 : fs1.length = 6)
    (P : spec_X6_firstError [.ref a1] n h (kc X bb sb9 679 [(0, .ref (SA + 1)), (1, .ref a1), (2, .ref a2), (3, .ref a3), (4, .int (i3 x4))] [] n)) :
    Ok X bb sb9 678 [(0, .ref (SA + 1)), (1, .ref a1), (2, .ref a2), (3, .ref a3), (4, .int (i3 x4))] [] n h := by
  refine ok_aload_n (pc := 678) hc dL_law_678 rfl 1 rfl ?_
  exact ok_callV (pc := 679) (a := a1) (cb := bb) (sb := sb9) (st := []) hc [] cv_L_125 sp_X6_firstError (by decide) dL_law_679 rfl e1.1 e1.2 rfl rfl rfl (Nat.le_of_ble_eq_true rfl) P
set_option maxHeartbeats 4000000 in
set_option maxRecDepth 100000 in
theorem sL_law_682 {X : Xt} {n : Nat} {h : HP} {a1 : Nat} {a2 : Nat} {a3 : Nat} {x4 : Int} {t0 : Int} {bb : Nat} {sb9 : Nat} {fs1 : List Value} (hc : Cx X cL_law RL 9 13 302) {L9 : Nat} {xs : Nat → Int32} (hX : ScX X L9 xs) (hL : CxL X) (e1 : At h n a2 (.inl (7, fs1))) (z1 : fs1.length = 24)
    (P : spec_X7_firstError [.ref a2] n h (kc X bb sb9 683 [(0, .ref (SA + 1)), (1, .ref a1), (2, .ref a2), (3, .ref a3), (4, .int (i3 x4))] [.int (i3 t0)] n)) :
    Ok X bb sb9 682 [(0, .ref (SA + 1)), (1, .ref a1), (2, .ref a2), (3, .ref a3), (4, .int (i3 x4))] [.int (i3 t0)] n h := by
  refine ok_aload_n (pc := 682) hc dL_law_682 rfl 2 rfl ?_
  exact ok_callV (pc := 683) (a := a2) (cb := bb) (sb := sb9) (st := [.int (i3 t0)]) hc [] cv_L_128 sp_X7_firstError (by decide) dL_law_683 rfl e1.1 e1.2 rfl rfl rfl (Nat.le_of_ble_eq_true rfl) P
set_option maxHeartbeats 4000000 in
set_option maxRecDepth 100000 in
theorem sL_law_686 {X : Xt} {n : Nat} {h : HP} {a1 : Nat} {a2 : Nat} {a3 : Nat} {x4 : Int} {t0 : Int} {t1 : Int} {bb : Nat} {sb9 : Nat} (hc : Cx X cL_law RL 9 13 302) {L9 : Nat} {xs : Nat → Int32} (hX : ScX X L9 xs) (hL : CxL X) 
    (P : (R3 t1) ∧ (R3 t0) ∧ (t1 = t0 → Ok X bb sb9 1415 [(0, .ref (SA + 1)), (1, .ref a1), (2, .ref a2), (3, .ref a3), (4, .int (i3 x4))] [] n h) ∧ (¬ t1 = t0 → 0 = (1 : Int))) :
    Ok X bb sb9 686 [(0, .ref (SA + 1)), (1, .ref a1), (2, .ref a2), (3, .ref a3), (4, .int (i3 x4))] [.int (i3 t0), .int (i3 t1)] n h := by
  obtain ⟨r1, P⟩ := P
  obtain ⟨r2, P⟩ := P
  refine zk_icmp_eq (pc := 686) (tgt := 1415) hc dL_law_686 (by decide) r1 r2 (fun c => ?_) (fun c => ?_)
  · have P := P.1 c
    exact P
  · have P := P.2 c
    refine ok_iconst (pc := 689) hc (v := i3 0) dL_law_689 (by decide) ?_
    exact ok_retL hc hL dL_law_690 P
theorem lw_firstError {X : Xt} {L9 : Nat} {xs : Nat → Int32} (hc : Cx X cL_law RL 9 13 302) (hX : ScX X L9 xs) (hL : CxL X) (hL9 : L9 ≤ 2048) {i : Nat} (hi : i + 4 ≤ L9) {h : HP} {q : Dsk} (I : LwI h q) {bb sb9 : Nat} (k : ∀ (h' : HP) (q' : Dsk), LwI h' q' → Ok X bb sb9 1415 [(0, .ref (SA + 1)), (1, .ref 0), (2, .ref 128), (3, .ref 139), (4, .int (i3 i))] [] 140 h') : Ok X bb sb9 678 [(0, .ref (SA + 1)), (1, .ref 0), (2, .ref 128), (3, .ref 139), (4, .int (i3 i))] [] 140 h := by
  obtain ⟨hD, ⟨t, hM⟩, g, hg⟩ := I
  obtain ⟨I0, F0, m0, mf0, h00, hGd, hO⟩ := id hM
  refine sL_law_678 (bb := bb) (sb9 := sb9) hc hX hL hD.1 rfl ⟨q, rfl, hD, fun h1 hD1 f1 => ⟨rfl, ?_⟩⟩
  have hM1 : MdA h1 140 q t := hM.pt (fun x hx => f1 x (by omega))
  obtain ⟨I1, F1, m1, -⟩ := id hM1
  refine sL_law_682 hc hX hL m1.o rfl ⟨q, t, rfl, hM1, fun h2 hM2 f2 => ⟨rfl, ?_⟩⟩
  have kk := k h2 _ ⟨hD1.out f2 (by omega), ⟨_, hM2⟩, g, (hg.fr f1 (by omega)).fr f2 (by omega)⟩
  show Ok X bb sb9 686 [(0, .ref (SA + 1)), (1, .ref 0), (2, .ref 128), (3, .ref 139), (4, .int (i3 i))] [.int (i3 (ferr q.2.2.2.2)), .int (i3 (ferr q.2.2.2.2))] 140 h2
  rw [← i3_T (i3 (ferr q.2.2.2.2))]
  exact sL_law_686 hc hX hL ⟨R3_T _, R3_T _, fun _ => kk, fun z => absurd rfl z⟩
set_option maxHeartbeats 4000000 in
set_option maxRecDepth 100000 in
theorem sL_law_1401 {X : Xt} {n : Nat} {h : HP} {a1 : Nat} {a2 : Nat} {a3 : Nat} {x4 : Int} {bb : Nat} {sb9 : Nat} {fs1 : List Value} (hc : Cx X cL_law RL 9 13 302) {L9 : Nat} {xs : Nat → Int32} (hX : ScX X L9 xs) (hL : CxL X) (e1 : At h n a1 (.inl (6, fs1))) (z1 : fs1.length = 6)
    (P : spec_X6_digest [.ref a1] n h (kc X bb sb9 1402 [(0, .ref (SA + 1)), (1, .ref a1), (2, .ref a2), (3, .ref a3), (4, .int (i3 x4))] [] n)) :
    Ok X (bb + 221) (sb9 + 1326) 1401 [(0, .ref (SA + 1)), (1, .ref a1), (2, .ref a2), (3, .ref a3), (4, .int (i3 x4))] [] n h := by
  refine ok_aload_n (pc := 1401) hc dL_law_1401 rfl 1 rfl ?_
  exact ok_callV (pc := 1402) (a := a1) (cb := bb) (sb := sb9) (st := []) hc [] cv_L_166 sp_X6_digest (by decide) dL_law_1402 rfl e1.1 e1.2 rfl rfl rfl (Nat.le_of_ble_eq_true rfl) P
set_option maxHeartbeats 4000000 in
set_option maxRecDepth 100000 in
theorem sL_law_1405 {X : Xt} {n : Nat} {h : HP} {a1 : Nat} {a2 : Nat} {a3 : Nat} {x4 : Int} {tl0 : Int} {bb : Nat} {sb9 : Nat} {fs1 : List Value} (hc : Cx X cL_law RL 9 13 302) {L9 : Nat} {xs : Nat → Int32} (hX : ScX X L9 xs) (hL : CxL X) (e1 : At h n a2 (.inl (7, fs1))) (z1 : fs1.length = 24)
    (P : spec_X7_digest [.ref a2] n h (kc X bb sb9 1406 [(0, .ref (SA + 1)), (1, .ref a1), (2, .ref a2), (3, .ref a3), (4, .int (i3 x4))] [.long (i6 tl0)] n)) :
    Ok X bb sb9 1405 [(0, .ref (SA + 1)), (1, .ref a1), (2, .ref a2), (3, .ref a3), (4, .int (i3 x4))] [.long (i6 tl0)] n h := by
  refine ok_aload_n (pc := 1405) hc dL_law_1405 rfl 2 rfl ?_
  exact ok_callV (pc := 1406) (a := a2) (cb := bb) (sb := sb9) (st := [.long (i6 tl0)]) hc [] cv_L_170 sp_X7_digest (by decide) dL_law_1406 rfl e1.1 e1.2 rfl rfl rfl (Nat.le_of_ble_eq_true rfl) P
set_option maxHeartbeats 4000000 in
set_option maxRecDepth 100000 in
theorem sL_law_1409 {X : Xt} {n : Nat} {h : HP} {a1 : Nat} {a2 : Nat} {a3 : Nat} {x4 : Int} {tl0 : Int} {tl1 : Int} {bb : Nat} {sb9 : Nat} (hc : Cx X cL_law RL 9 13 302) {L9 : Nat} {xs : Nat → Int32} (hX : ScX X L9 xs) (hL : CxL X) 
    (P : (R6 tl1 ∧ R6 tl0) ∧ (tl1 = tl0 → Ok X bb sb9 1415 [(0, .ref (SA + 1)), (1, .ref a1), (2, .ref a2), (3, .ref a3), (4, .int (i3 x4))] [] n h) ∧ (¬ tl1 = tl0 → 0 = (1 : Int))) :
    Ok X bb sb9 1409 [(0, .ref (SA + 1)), (1, .ref a1), (2, .ref a2), (3, .ref a3), (4, .int (i3 x4))] [.long (i6 tl0), .long (i6 tl1)] n h := by
  obtain ⟨r, P⟩ := P
  refine zk_lcmp (pc := 1409) hc dL_law_1409 r ?_
  refine zk_if_eq (pc := 1410) (tgt := 1415) hc dL_law_1410 (by decide) R3_cmp (fun c => ?_) (fun c => ?_)
  · have P := P.1 (cmp_eq.mp c)
    exact P
  · have P := P.2 (fun z => c (cmp_eq.mpr z))
    refine ok_iconst (pc := 1413) hc (v := i3 0) dL_law_1413 (by decide) ?_
    exact ok_retL hc hL dL_law_1414 P
theorem lw_digest {X : Xt} {L9 : Nat} {xs : Nat → Int32} (hc : Cx X cL_law RL 9 13 302) (hX : ScX X L9 xs) (hL : CxL X) (hL9 : L9 ≤ 2048) {i : Nat} (hi : i + 4 ≤ L9) {h : HP} {q : Dsk} (I : LwI h q) {bb sb9 : Nat} (k : ∀ (h' : HP) (q' : Dsk), LwI h' q' → Ok X bb sb9 1415 [(0, .ref (SA + 1)), (1, .ref 0), (2, .ref 128), (3, .ref 139), (4, .int (i3 i))] [] 140 h') : Ok X (bb + 221) (sb9 + 1326) 1401 [(0, .ref (SA + 1)), (1, .ref 0), (2, .ref 128), (3, .ref 139), (4, .int (i3 i))] [] 140 h := by
  obtain ⟨hD, ⟨t, hM⟩, g, hg⟩ := I
  obtain ⟨I0, F0, m0, mf0, h00, hGd, hO⟩ := id hM
  refine sL_law_1401 (bb := bb) (sb9 := sb9) hc hX hL hD.1 rfl ⟨q, rfl, hD, hO, fun h1 hD1 f1 => ⟨rfl, ?_⟩⟩
  have hM1 : MdA h1 140 q t := hM.pt (fun x hx => f1 x (by omega))
  obtain ⟨I1, F1, m1, -⟩ := id hM1
  refine sL_law_1405 hc hX hL m1.o rfl ⟨q, t, rfl, hM1, fun h2 hM2 f2 => ⟨rfl, ?_⟩⟩
  have kk := k h2 _ ⟨hD1.out f2 (by omega), ⟨_, hM2⟩, g, (hg.fr f1 (by omega)).fr f2 (by omega)⟩
  show Ok X bb sb9 1409 [(0, .ref (SA + 1)), (1, .ref 0), (2, .ref 128), (3, .ref 139), (4, .int (i3 i))] [.long (i6 (opDig q)), .long (i6 (opDig q))] 140 h2
  rw [← i6_T (i6 (opDig q))]
  exact sL_law_1409 hc hX hL ⟨⟨R6_T _, R6_T _⟩, fun _ => kk, fun z => absurd rfl z⟩
set_option maxHeartbeats 4000000 in
set_option maxRecDepth 100000 in
theorem sL_law_1360 {X : Xt} {n : Nat} {h : HP} {a1 : Nat} {a2 : Nat} {a3 : Nat} {x4 : Int} {bb : Nat} {sb9 : Nat} {fs1 : List Value} (hc : Cx X cL_law RL 9 13 302) {L9 : Nat} {xs : Nat → Int32} (hX : ScX X L9 xs) (hL : CxL X) (e1 : At h n a1 (.inl (6, fs1))) (z1 : fs1.length = 6)
    (P : spec_X6_meanVoltage [.ref a1] n h (kc X bb sb9 1361 [(0, .ref (SA + 1)), (1, .ref a1), (2, .ref a2), (3, .ref a3), (4, .int (i3 x4))] [] n)) :
    Ok X (bb + 24) (sb9 + 144) 1360 [(0, .ref (SA + 1)), (1, .ref a1), (2, .ref a2), (3, .ref a3), (4, .int (i3 x4))] [] n h := by
  refine ok_aload_n (pc := 1360) hc dL_law_1360 rfl 1 rfl ?_
  exact ok_callV (pc := 1361) (a := a1) (cb := bb) (sb := sb9) (st := []) hc [] cv_L_161 sp_X6_meanVoltage (by decide) dL_law_1361 rfl e1.1 e1.2 rfl rfl rfl (Nat.le_of_ble_eq_true rfl) P
set_option maxHeartbeats 4000000 in
set_option maxRecDepth 100000 in
theorem sL_law_1364 {X : Xt} {n : Nat} {h : HP} {a1 : Nat} {a2 : Nat} {a3 : Nat} {x4 : Int} {td0 : UInt64} {bb : Nat} {sb9 : Nat} {fs1 : List Value} (hc : Cx X cL_law RL 9 13 302) {L9 : Nat} {xs : Nat → Int32} (hX : ScX X L9 xs) (hL : CxL X) (e1 : At h n a2 (.inl (7, fs1))) (z1 : fs1.length = 24)
    (P : spec_X7_meanVoltage [.ref a2] n h (kc X bb sb9 1367 [(0, .ref (SA + 1)), (1, .ref a1), (2, .ref a2), (3, .ref a3), (4, .int (i3 x4)), (5, .double td0)] [] n)) :
    Ok X bb sb9 1364 [(0, .ref (SA + 1)), (1, .ref a1), (2, .ref a2), (3, .ref a3), (4, .int (i3 x4))] [.double td0] n h := by
  refine ok_dstore (pc := 1364) hc (lv' := [(5, .double td0), (0, .ref (SA + 1)), (1, .ref a1), (2, .ref a2), (3, .ref a3), (4, .int (i3 x4))]) dL_law_1364 (by decide) rfl ?_
  refine ok_aload_n (pc := 1366) hc dL_law_1366 rfl 3 rfl ?_
  refine ok_lv [1, 2, 3, 4, 5, 0] rfl ?_
  exact ok_callV (pc := 1367) (a := a2) (cb := bb) (sb := sb9) (st := []) hc [] cv_L_165 sp_X7_meanVoltage (by decide) dL_law_1367 rfl e1.1 e1.2 rfl rfl rfl (Nat.le_of_ble_eq_true rfl) P
set_option maxHeartbeats 4000000 in
set_option maxRecDepth 100000 in
theorem sL_law_1370 {X : Xt} {n : Nat} {h : HP} {a1 : Nat} {a2 : Nat} {a3 : Nat} {x4 : Int} {w5 : UInt64} {td0 : UInt64} {bb : Nat} {sb9 : Nat} (hc : Cx X cL_law RL 9 13 302) {L9 : Nat} {xs : Nat → Int32} (hX : ScX X L9 xs) (hL : CxL X) 
    (P : (R3 ((Op.cmpValue (FP.dcmp w5 td0) .l).toInt)) ∧ ((Op.cmpValue (FP.dcmp w5 td0) .l).toInt = 0 → Ok X bb sb9 1415 [(0, .ref (SA + 1)), (1, .ref a1), (2, .ref a2), (3, .ref a3), (4, .int (i3 x4))] [] n h) ∧ (¬ (Op.cmpValue (FP.dcmp w5 td0) .l).toInt = 0 → (R3 ((Op.cmpValue (FP.dcmp w5 w5) .l).toInt)) ∧ ((Op.cmpValue (FP.dcmp w5 w5) .l).toInt = 0 → 0 = (1 : Int)) ∧ (¬ (Op.cmpValue (FP.dcmp w5 w5) .l).toInt = 0 → (R3 ((Op.cmpValue (FP.dcmp td0 td0) .l).toInt)) ∧ (¬ (Op.cmpValue (FP.dcmp td0 td0) .l).toInt = 0 → Ok X bb sb9 1415 [(0, .ref (SA + 1)), (1, .ref a1), (2, .ref a2), (3, .ref a3), (4, .int (i3 x4))] [] n h) ∧ ((Op.cmpValue (FP.dcmp td0 td0) .l).toInt = 0 → 0 = (1 : Int))))) :
    Ok X bb sb9 1370 [(0, .ref (SA + 1)), (1, .ref a1), (2, .ref a2), (3, .ref a3), (4, .int (i3 x4)), (5, .double w5)] [.double td0] n h := by
  refine ok_dstore (pc := 1370) hc (lv' := [(7, .double td0), (0, .ref (SA + 1)), (1, .ref a1), (2, .ref a2), (3, .ref a3), (4, .int (i3 x4)), (5, .double w5)]) dL_law_1370 (by decide) rfl ?_
  refine ok_dload (pc := 1372) hc dL_law_1372 6 rfl ?_
  refine ok_dload (pc := 1374) hc dL_law_1374 0 rfl ?_
  refine ok_dcmp (pc := 1376) hc dL_law_1376 ?_
  rw [← i3_T (Op.cmpValue (FP.dcmp w5 td0) .l)]
  obtain ⟨r1, P⟩ := P
  refine zk_if_eq (pc := 1377) (tgt := 1398) hc dL_law_1377 (by decide) r1 (fun c => ?_) (fun c => ?_)
  · have P := P.1 c
    refine ok_goto (pc := 1398) (tgt := 1415) hc dL_law_1398 (by decide) ?_
    refine ok_lv [1, 2, 3, 4, 5] rfl ?_
    exact P
  · have P := P.2 c
    refine ok_dload (pc := 1380) hc dL_law_1380 6 rfl ?_
    refine ok_dload (pc := 1382) hc dL_law_1382 6 rfl ?_
    refine ok_dcmp (pc := 1384) hc dL_law_1384 ?_
    rw [← i3_T (Op.cmpValue (FP.dcmp w5 w5) .l)]
    obtain ⟨r2, P⟩ := P
    refine zk_if_eq (pc := 1385) (tgt := 1396) hc dL_law_1385 (by decide) r2 (fun c => ?_) (fun c => ?_)
    · have P := P.1 c
      refine ok_iconst (pc := 1396) hc (v := i3 0) dL_law_1396 (by decide) ?_
      exact ok_retL hc hL dL_law_1397 P
    · have P := P.2 c
      refine ok_dload (pc := 1388) hc dL_law_1388 0 rfl ?_
      refine ok_dload (pc := 1390) hc dL_law_1390 0 rfl ?_
      refine ok_dcmp (pc := 1392) hc dL_law_1392 ?_
      rw [← i3_T (Op.cmpValue (FP.dcmp td0 td0) .l)]
      obtain ⟨r3, P⟩ := P
      refine zk_if_ne (pc := 1393) (tgt := 1398) hc dL_law_1393 (by decide) r3 (fun c => ?_) (fun c => ?_)
      · have P := P.1 c
        refine ok_goto (pc := 1398) (tgt := 1415) hc dL_law_1398 (by decide) ?_
        refine ok_lv [1, 2, 3, 4, 5] rfl ?_
        exact P
      · have P := P.2 c
        refine ok_iconst (pc := 1396) hc (v := i3 0) dL_law_1396 (by decide) ?_
        exact ok_retL hc hL dL_law_1397 P
theorem lw_meanVoltage {X : Xt} {L9 : Nat} {xs : Nat → Int32} (hc : Cx X cL_law RL 9 13 302) (hX : ScX X L9 xs) (hL : CxL X) (hL9 : L9 ≤ 2048) {i : Nat} (hi : i + 4 ≤ L9) {h : HP} {q : Dsk} (I : LwI h q) {bb sb9 : Nat} (k : ∀ (h' : HP) (q' : Dsk), LwI h' q' → Ok X bb sb9 1415 [(0, .ref (SA + 1)), (1, .ref 0), (2, .ref 128), (3, .ref 139), (4, .int (i3 i))] [] 140 h') : Ok X (bb + 24) (sb9 + 144) 1360 [(0, .ref (SA + 1)), (1, .ref 0), (2, .ref 128), (3, .ref 139), (4, .int (i3 i))] [] 140 h := by
  obtain ⟨hD, ⟨t, hM⟩, g, hg⟩ := I
  obtain ⟨I0, F0, m0, mf0, h00, hGd, hO⟩ := id hM
  refine sL_law_1360 (bb := bb) (sb9 := sb9) hc hX hL hD.1 rfl ⟨q, rfl, hD, fun a b => mn_all hGd.1 hO.1 a b, fun h1 hD1 f1 => ⟨rfl, ?_⟩⟩
  have hM1 : MdA h1 140 q t := hM.pt (fun x hx => f1 x (by omega))
  obtain ⟨I1, F1, m1, -⟩ := id hM1
  refine sL_law_1364 hc hX hL m1.o rfl ⟨q, t, rfl, hM1, fun h2 hM2 f2 => ⟨rfl, ?_⟩⟩
  have kk := k h2 _ ⟨hD1.out f2 (by omega), ⟨_, hM2⟩, g, (hg.fr f1 (by omega)).fr f2 (by omega)⟩
  have e0 := dcmp_self (meanD_gd hGd.1 hO.1) .l
  refine sL_law_1370 (w5 := meanD q) (td0 := meanD q) hc hX hL ?_
  rw [e0]
  exact ⟨R3_0, fun _ => kk, fun z => absurd rfl z⟩
set_option maxHeartbeats 4000000 in
set_option maxRecDepth 100000 in
theorem sL_law_1084 {X : Xt} {n : Nat} {h : HP} {a1 : Nat} {a2 : Nat} {a3 : Nat} {x4 : Int} {bb : Nat} {sb9 : Nat} (hc : Cx X cL_law RL 9 13 302) {L9 : Nat} {xs : Nat → Int32} (hX : ScX X L9 xs) (hL : CxL X) 
    (P : (Ix (x4 + 1) L9) ∧ (Ix (x4 + 2) L9) ∧ ((xs ((x4 + 2) : Int).toNat).toInt = 0 → Ok X bb sb9 1106 [(0, .ref (SA + 1)), (1, .ref a1), (2, .ref a2), (3, .ref a3), (4, .int (i3 x4))] [.ref a3, .int (i3 0), .int (i3 ((xs ((x4 + 1) : Int).toNat).toInt)), .ref a1] n h) ∧ (¬ (xs ((x4 + 2) : Int).toNat).toInt = 0 → Ok X bb sb9 1106 [(0, .ref (SA + 1)), (1, .ref a1), (2, .ref a2), (3, .ref a3), (4, .int (i3 x4))] [.ref a3, .int (i3 1), .int (i3 ((xs ((x4 + 1) : Int).toNat).toInt)), .ref a1] n h)) :
    Ok X bb sb9 1084 [(0, .ref (SA + 1)), (1, .ref a1), (2, .ref a2), (3, .ref a3), (4, .int (i3 x4))] [] n h := by
  refine ok_aload_n (pc := 1084) hc dL_law_1084 rfl 1 rfl ?_
  refine ok_aload_n (pc := 1085) hc dL_law_1085 rfl 0 rfl ?_
  refine ok_iload (pc := 1086) hc dL_law_1086 4 rfl ?_
  refine ok_iconst (pc := 1088) hc (v := i3 1) dL_law_1088 (by decide) ?_
  refine zk_iadd (pc := 1089) hc dL_law_1089 ?_
  obtain ⟨r, P⟩ := P
  refine ok_sld (pc := 1090) hc hX dL_law_1090 r ?_
  refine ok_aload_n (pc := 1091) hc dL_law_1091 rfl 0 rfl ?_
  refine ok_iload (pc := 1092) hc dL_law_1092 4 rfl ?_
  refine ok_iconst (pc := 1094) hc (v := i3 2) dL_law_1094 (by decide) ?_
  refine zk_iadd (pc := 1095) hc dL_law_1095 ?_
  obtain ⟨r, P⟩ := P
  refine ok_sld (pc := 1096) hc hX dL_law_1096 r ?_
  refine zk_if_eq (pc := 1097) (tgt := 1104) hc dL_law_1097 (by decide) (R3_T _) (fun c => ?_) (fun c => ?_)
  · have P := P.1 c
    refine ok_iconst (pc := 1104) hc (v := i3 0) dL_law_1104 (by decide) ?_
    refine ok_aload_n (pc := 1105) hc dL_law_1105 rfl 3 rfl ?_
    exact P
  · have P := P.2 c
    refine ok_iconst (pc := 1100) hc (v := i3 1) dL_law_1100 (by decide) ?_
    refine ok_goto (pc := 1101) (tgt := 1105) hc dL_law_1101 (by decide) ?_
    refine ok_aload_n (pc := 1105) hc dL_law_1105 rfl 3 rfl ?_
    exact P
set_option maxHeartbeats 4000000 in
set_option maxRecDepth 100000 in
theorem sL_law_1106 {X : Xt} {n : Nat} {h : HP} {a1 : Nat} {a2 : Nat} {a3 : Nat} {x4 : Int} {ta0 : Nat} {t1 : Int} {t2 : Int} {ta3 : Nat} {bb : Nat} {sb9 : Nat} (hc : Cx X cL_law RL 9 13 302) {L9 : Nat} {xs : Nat → Int32} (hX : ScX X L9 xs) (hL : CxL X) 
    (P : spec_L_trip [.ref ta3, .int (i3 t2), .int (i3 t1), .ref ta0] n h (kn X bb sb9 1106 [(0, .ref (SA + 1)), (1, .ref a1), (2, .ref a2), (3, .ref a3), (4, .int (i3 x4))] [] n)) :
    Ok X (bb + 2) (sb9 + 12) 1106 [(0, .ref (SA + 1)), (1, .ref a1), (2, .ref a2), (3, .ref a3), (4, .int (i3 x4))] [.ref ta0, .int (i3 t1), .int (i3 t2), .ref ta3] n h := by
  exact ok_callSW (pc := 1106) (cb := bb) (sb := sb9) (st := []) hc [.ref ta3, .int (i3 t2), .int (i3 t1), .ref ta0] cw_L_148 sp_L_trip (by decide) dL_law_1106 rfl rfl rfl rfl (Nat.le_of_ble_eq_true rfl) P
set_option maxHeartbeats 4000000 in
set_option maxRecDepth 100000 in
theorem sL_law_1109 {X : Xt} {n : Nat} {h : HP} {a1 : Nat} {a2 : Nat} {a3 : Nat} {x4 : Int} {t0 : Int} {bb : Nat} {sb9 : Nat} {fs1 : List Value} (hc : Cx X cL_law RL 9 13 302) {L9 : Nat} {xs : Nat → Int32} (hX : ScX X L9 xs) (hL : CxL X) (e1 : At h n a2 (.inl (7, fs1))) (z1 : fs1.length = 24)
    (P : (Ix (x4 + 1) L9) ∧ (Ix (x4 + 2) L9) ∧ ((xs ((x4 + 2) : Int).toNat).toInt = 0 → spec_X7_trip [.ref a2, .int (i3 ((xs ((x4 + 1) : Int).toNat).toInt)), .int (i3 0)] n h (kc X bb sb9 1132 [(0, .ref (SA + 1)), (1, .ref a1), (2, .ref a2), (3, .ref a3), (4, .int (i3 x4)), (5, .int (i3 t0))] [] n)) ∧ (¬ (xs ((x4 + 2) : Int).toNat).toInt = 0 → spec_X7_trip [.ref a2, .int (i3 ((xs ((x4 + 1) : Int).toNat).toInt)), .int (i3 1)] n h (kc X bb sb9 1132 [(0, .ref (SA + 1)), (1, .ref a1), (2, .ref a2), (3, .ref a3), (4, .int (i3 x4)), (5, .int (i3 t0))] [] n))) :
    Ok X bb sb9 1109 [(0, .ref (SA + 1)), (1, .ref a1), (2, .ref a2), (3, .ref a3), (4, .int (i3 x4))] [.int (i3 t0)] n h := by
  refine ok_istore (pc := 1109) hc (lv' := [(5, .int (i3 t0)), (0, .ref (SA + 1)), (1, .ref a1), (2, .ref a2), (3, .ref a3), (4, .int (i3 x4))]) dL_law_1109 (by decide) rfl ?_
  refine ok_aload_n (pc := 1111) hc dL_law_1111 rfl 3 rfl ?_
  refine ok_aload_n (pc := 1112) hc dL_law_1112 rfl 1 rfl ?_
  refine ok_iload (pc := 1113) hc dL_law_1113 5 rfl ?_
  refine ok_iconst (pc := 1115) hc (v := i3 1) dL_law_1115 (by decide) ?_
  refine zk_iadd (pc := 1116) hc dL_law_1116 ?_
  obtain ⟨r, P⟩ := P
  refine ok_sld (pc := 1117) hc hX dL_law_1117 r ?_
  refine ok_aload_n (pc := 1118) hc dL_law_1118 rfl 1 rfl ?_
  refine ok_iload (pc := 1119) hc dL_law_1119 5 rfl ?_
  refine ok_iconst (pc := 1121) hc (v := i3 2) dL_law_1121 (by decide) ?_
  refine zk_iadd (pc := 1122) hc dL_law_1122 ?_
  obtain ⟨r, P⟩ := P
  refine ok_sld (pc := 1123) hc hX dL_law_1123 r ?_
  refine zk_if_eq (pc := 1124) (tgt := 1131) hc dL_law_1124 (by decide) (R3_T _) (fun c => ?_) (fun c => ?_)
  · have P := P.1 c
    refine ok_iconst (pc := 1131) hc (v := i3 0) dL_law_1131 (by decide) ?_
    refine ok_lv [1, 2, 3, 4, 5, 0] rfl ?_
    exact ok_callV (pc := 1132) (a := a2) (cb := bb) (sb := sb9) (st := []) hc [.int (i3 ((xs ((x4 + 1) : Int).toNat).toInt)), .int (i3 0)] cv_L_151 sp_X7_trip (by decide) dL_law_1132 rfl e1.1 e1.2 rfl rfl rfl (Nat.le_of_ble_eq_true rfl) P
  · have P := P.2 c
    refine ok_iconst (pc := 1127) hc (v := i3 1) dL_law_1127 (by decide) ?_
    refine ok_goto (pc := 1128) (tgt := 1132) hc dL_law_1128 (by decide) ?_
    refine ok_lv [1, 2, 3, 4, 5, 0] rfl ?_
    exact ok_callV (pc := 1132) (a := a2) (cb := bb) (sb := sb9) (st := []) hc [.int (i3 ((xs ((x4 + 1) : Int).toNat).toInt)), .int (i3 1)] cv_L_151 sp_X7_trip (by decide) dL_law_1132 rfl e1.1 e1.2 rfl rfl rfl (Nat.le_of_ble_eq_true rfl) P
set_option maxHeartbeats 4000000 in
set_option maxRecDepth 100000 in
theorem sL_law_1135 {X : Xt} {n : Nat} {h : HP} {a1 : Nat} {a2 : Nat} {a3 : Nat} {x4 : Int} {x5 : Int} {t0 : Int} {bb : Nat} {sb9 : Nat} {fs1 : List Value} (hc : Cx X cL_law RL 9 13 302) {L9 : Nat} {xs : Nat → Int32} (hX : ScX X L9 xs) (hL : CxL X) (e1 : At h n a2 (.inl (7, fs1))) (z1 : fs1.length = 24)
    (P : spec_X7_thrown [.ref a2] n h (kc X bb sb9 1138 [(0, .ref (SA + 1)), (1, .ref a1), (2, .ref a2), (3, .ref a3), (4, .int (i3 x4)), (5, .int (i3 x5)), (6, .int (i3 t0))] [] n)) :
    Ok X bb sb9 1135 [(0, .ref (SA + 1)), (1, .ref a1), (2, .ref a2), (3, .ref a3), (4, .int (i3 x4)), (5, .int (i3 x5))] [.int (i3 t0)] n h := by
  refine ok_istore (pc := 1135) hc (lv' := [(6, .int (i3 t0)), (0, .ref (SA + 1)), (1, .ref a1), (2, .ref a2), (3, .ref a3), (4, .int (i3 x4)), (5, .int (i3 x5))]) dL_law_1135 (by decide) rfl ?_
  refine ok_aload_n (pc := 1137) hc dL_law_1137 rfl 3 rfl ?_
  refine ok_lv [1, 2, 3, 4, 5, 6, 0] rfl ?_
  exact ok_callV (pc := 1138) (a := a2) (cb := bb) (sb := sb9) (st := []) hc [] cv_L_92 sp_X7_thrown (by decide) dL_law_1138 rfl e1.1 e1.2 rfl rfl rfl (Nat.le_of_ble_eq_true rfl) P
set_option maxHeartbeats 4000000 in
set_option maxRecDepth 100000 in
theorem sL_law_1141 {X : Xt} {n : Nat} {h : HP} {a1 : Nat} {a2 : Nat} {a3 : Nat} {x4 : Int} {x5 : Int} {x6 : Int} {t0 : Int} {bb : Nat} {sb9 : Nat} {len4 : Nat} {f4 : Nat → Int} (hc : Cx X cL_law RL 9 13 302) {L9 : Nat} {xs : Nat → Int32} (hX : ScX X L9 xs) (hL : CxL X) (e4 : At h n a3 (al len4 f4))
    (P : (R3 t0) ∧ (R3 x5) ∧ (t0 = x5 → (R3 x5) ∧ (¬ x5 = 0 → Ok X bb sb9 1415 [(0, .ref (SA + 1)), (1, .ref a1), (2, .ref a2), (3, .ref a3), (4, .int (i3 x4))] [] n h) ∧ (x5 = 0 → (Ix 0 len4) ∧ (R3 x6) ∧ (R6 (f4 (0 : Int).toNat) ∧ R6 x6) ∧ ((f4 (0 : Int).toNat) = x6 → Ok X bb sb9 1415 [(0, .ref (SA + 1)), (1, .ref a1), (2, .ref a2), (3, .ref a3), (4, .int (i3 x4))] [] n h) ∧ (¬ (f4 (0 : Int).toNat) = x6 → 0 = (1 : Int)))) ∧ (¬ t0 = x5 → 0 = (1 : Int))) :
    Ok X bb sb9 1141 [(0, .ref (SA + 1)), (1, .ref a1), (2, .ref a2), (3, .ref a3), (4, .int (i3 x4)), (5, .int (i3 x5)), (6, .int (i3 x6))] [.int (i3 t0)] n h := by
  refine ok_iload (pc := 1141) hc dL_law_1141 5 rfl ?_
  obtain ⟨r1, P⟩ := P
  obtain ⟨r2, P⟩ := P
  refine zk_icmp_eq (pc := 1143) (tgt := 1148) hc dL_law_1143 (by decide) r1 r2 (fun c => ?_) (fun c => ?_)
  · have P := P.1 c
    refine ok_iload (pc := 1148) hc dL_law_1148 5 rfl ?_
    obtain ⟨r3, P⟩ := P
    refine zk_if_ne (pc := 1150) (tgt := 1165) hc dL_law_1150 (by decide) r3 (fun c => ?_) (fun c => ?_)
    · have P := P.1 c
      refine ok_goto (pc := 1165) (tgt := 1415) hc dL_law_1165 (by decide) ?_
      refine ok_lv [0, 1, 2, 3, 4] rfl ?_
      exact P
    · have P := P.2 c
      refine ok_aload_n (pc := 1153) hc dL_law_1153 rfl 3 rfl ?_
      refine ok_iconst (pc := 1154) hc (v := i3 0) dL_law_1154 (by decide) ?_
      obtain ⟨r, P⟩ := P
      refine zk_lald (pc := 1155) hc dL_law_1155 e4.1 e4.2 r ?_
      refine ok_iload (pc := 1156) hc dL_law_1156 6 rfl ?_
      obtain ⟨r5, P⟩ := P
      refine zk_i2l (pc := 1158) hc dL_law_1158 r5 ?_
      obtain ⟨r, P⟩ := P
      refine zk_lcmp (pc := 1159) hc dL_law_1159 r ?_
      refine zk_if_eq (pc := 1160) (tgt := 1165) hc dL_law_1160 (by decide) R3_cmp (fun c => ?_) (fun c => ?_)
      · have P := P.1 (cmp_eq.mp c)
        refine ok_goto (pc := 1165) (tgt := 1415) hc dL_law_1165 (by decide) ?_
        refine ok_lv [0, 1, 2, 3, 4] rfl ?_
        exact P
      · have P := P.2 (fun z => c (cmp_eq.mpr z))
        refine ok_iconst (pc := 1163) hc (v := i3 0) dL_law_1163 (by decide) ?_
        exact ok_retL hc hL dL_law_1164 P
  · have P := P.2 c
    refine ok_iconst (pc := 1146) hc (v := i3 0) dL_law_1146 (by decide) ?_
    exact ok_retL hc hL dL_law_1147 P
theorem lw_trip {X : Xt} {L9 : Nat} {xs : Nat → Int32} (hc : Cx X cL_law RL 9 13 302) (hX : ScX X L9 xs) (hL : CxL X) (hL9 : L9 ≤ 2048) {i : Nat} (hi : i + 4 ≤ L9) {h : HP} {q : Dsk} (I : LwI h q) {bb sb9 : Nat} (k : ∀ (h' : HP) (q' : Dsk), LwI h' q' → Ok X bb sb9 1415 [(0, .ref (SA + 1)), (1, .ref 0), (2, .ref 128), (3, .ref 139), (4, .int (i3 i))] [] 140 h') : Ok X (bb + 2) (sb9 + 12) 1084 [(0, .ref (SA + 1)), (1, .ref 0), (2, .ref 128), (3, .ref 139), (4, .int (i3 i))] [] 140 h := by
  obtain ⟨hD, ⟨t, hM⟩, g, hg⟩ := I
  obtain ⟨p0, hp0⟩ : ∃ p : Int, p = (xs ((i : Int) + 1).toNat).toInt := ⟨_, rfl⟩
  obtain ⟨p1, hp1⟩ : ∃ p : Int, p = (xs ((i : Int) + 2).toNat).toInt := ⟨_, rfl⟩
  have r0 : R3 p0 := by rw [hp0]; exact R3_T _
  have go : ∀ y : Int, (p1 = 0 ∧ y = 0) ∨ (¬ p1 = 0 ∧ y = 1) → Ok X (bb + 2) (sb9 + 12) 1106 [(0, .ref (SA + 1)), (1, .ref 0), (2, .ref 128), (3, .ref 139), (4, .int (i3 i))] [.ref 139, .int (i3 y), .int (i3 p0), .ref 0] 140 h := by
    intro y hy
    have ry : R3 y := R3_s (by omega)
    refine sL_law_1106 (bb := bb) (sb9 := sb9) hc hX hL ⟨q, 139, g, p0, y, rfl, r0, ry, hD, hg, by omega, fun h1 g1 hD1 hg1 ez hfr => ⟨rfl, ?_⟩⟩
    have hM1 : MdA h1 140 q t := hM.pt (fun x hx => hfr x (by omega) (by omega))
    obtain ⟨I1, F1, m1, -⟩ := id hM1
    have nx : spec_X7_trip [.ref 128, .int (i3 p0), .int (i3 y)] 140 h1 (kc X bb sb9 1132 [(0, .ref (SA + 1)), (1, .ref 0), (2, .ref 128), (3, .ref 139), (4, .int (i3 i)), (5, .int (i3 (cdL [eIO, eIS] (opTrip q p0 y))))] [] 140) := by
      refine ⟨q, t, p0, y, rfl, r0, ry, hM1, fun h2 hM2 f2 => ⟨rfl, ?_⟩⟩
      obtain ⟨I2, F2, m2, -⟩ := id hM2
      show Ok X bb sb9 1135 [(0, .ref (SA + 1)), (1, .ref 0), (2, .ref 128), (3, .ref 139), (4, .int (i3 i)), (5, .int (i3 (cdL [eIO, eIS] (opTrip q p0 y))))] [.int (i3 (rvI (opTrip q p0 y)))] 140 h2
      rw [← i3_T (i3 (rvI (opTrip q p0 y)))]
      refine sL_law_1135 hc hX hL m2.o rfl ⟨_, _, rfl, hM2, ⟨rfl, ?_⟩⟩
      have kk := k h2 _ ⟨hD1.out f2 (by omega), ⟨_, hM2⟩, g1, hg1.fr f2 (by omega)⟩
      have rc : R3 (cdL [eIO, eIS] (opTrip q p0 y)) := R3_s (cdL_r _ _)
      refine sL_law_1141 hc hX hL (hg1.fr f2 (by omega)) ⟨rc, rc, fun _ => ⟨rc, fun _ => kk, fun z => ?_⟩, fun z => absurd rfl z⟩
      obtain ⟨w, ew⟩ := cdL_0 z
      have e0 := ez w ew
      have e1 : g1 (0 : Int).toNat = (i3 (rvI (opTrip q p0 y))).toInt := by rw [ew]; exact e0
      exact ⟨⟨by decide, by decide, by decide⟩, R3_T _, ⟨by rw [e1]; exact R36 (R3_T _), R36 (R3_T _)⟩, fun _ => kk, fun z => absurd e1 z⟩
    refine sL_law_1109 hc hX hL m1.o rfl ?_
    rw [← hp0, ← hp1]
    refine ⟨⟨by omega, by omega, by omega⟩, ⟨by omega, by omega, by omega⟩, fun z => ?_, fun z => ?_⟩
    · have : y = 0 := by omega
      rw [this] at nx ⊢
      exact nx
    · have : y = 1 := by omega
      rw [this] at nx ⊢
      exact nx
  refine sL_law_1084 hc hX hL ?_
  rw [← hp0, ← hp1]
  exact ⟨⟨by omega, by omega, by omega⟩, ⟨by omega, by omega, by omega⟩, fun z => go 0 (Or.inl ⟨z, rfl⟩), fun z => go 1 (Or.inr ⟨z, rfl⟩)⟩
