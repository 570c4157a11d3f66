/-! part 43: the desk: sweep -/
theorem foldl_set {α β : Type} (f : β → α → β) : ∀ {ps : List α} {i : Nat} {p p' : α} {a : β}, ps[i]? = some p → (∀ a, f a p' = f a p) → (ps.set i p').foldl f a = ps.foldl f a
  | [], i, p, p', a, h, _ => by simp at h
  | q :: ps, 0, p, p', a, h, e => by
    have := Option.some.inj h
    subst this
    show ps.foldl f (f a p') = ps.foldl f (f a q)
    rw [e]
  | q :: ps, i + 1, p, p', a, h, e => by
    show (ps.set i p').foldl f (f a q) = ps.foldl f (f a q)
    exact foldl_set f (ps := ps) (i := i) h e
theorem rowsM_val {c : Int} {ps : List Part} {i : Nat} {p : Part} {v : Int} (hp : ps[i]? = some p) (h1 : p.1 = 1) : rowsM c (ps.set i (valP p v)) = rowsM c ps := by
  have e1 : usedM (ps.set i (valP p v)) = usedM ps := by
    unfold usedM
    rw [foldl_set um1 hp (fun a => by
      unfold um1
      show (if p.1 = 2 then _ else if p.1 = 1 then _ else _) = (if p.1 = 2 then _ else if p.1 = 1 then _ else _)
      rw [if_neg (by omega), if_pos h1, if_neg (by omega), if_pos h1]
      rfl)]
  have e2 : drivenM (ps.set i (valP p v)) = drivenM ps := by
    unfold drivenM
    refine foldl_set dm1 hp (fun a => ?_)
    have := val_kd (p := p) (v := v) (by omega)
    have hd : drv (valP p v) = drv p := congrArg Prod.snd this
    unfold dm1
    rw [hd]
    rfl
  have e3 : balM (ps.set i (valP p v)) = balM ps := by
    unfold balM
    rw [e1, e2]
  unfold rowsM
  rw [e3, foldl_set (putP (balM ps) c) hp (fun a => by
    unfold putP
    show (if p.1 = 0 then _ else if p.1 = 2 then _ else a) = (if p.1 = 0 then _ else if p.1 = 2 then _ else a)
    rw [if_neg (by omega), if_neg (by omega), if_neg (by omega), if_neg (by omega)])]
theorem AmpAt.val {ps : List Part} {i a j : Nat} {p r : Part} {v : Int} (hp : ps[i]? = some p) (h1 : p.1 = 1) (h : AmpAt (ps.set i (valP p v)) a j r) : AmpAt ps a j r := by
  obtain ⟨q1, q2, q3⟩ := h
  have hi := (List.getElem?_eq_some_iff.mp hp).1
  have hji : j ≠ i := by
    intro e
    subst e
    rw [List.getElem?_set_self hi] at q1
    have := Option.some.inj q1
    subst this
    have q2 : p.1 = 2 := q2
    omega
  rw [List.getElem?_set_ne (fun q => hji q.symm)] at q1
  refine ⟨q1, q2, ?_⟩
  rw [← q3, nA_map, nA_map, List.map_take, List.map_take, map_set_eq kd hp (val_kd (v := v) (by omega))]
theorem BnK.val {h : HP} {n : Nat} {S : Stt} {sat rsn cul : Int} {G : Nat → Int} (hK : BnK h n 1 S sat rsn cul G) (hg : GdS S) {i : Nat} {p : Part} (hp : S.1[i]? = some p) (h1 : p.1 = 1) : ∃ t, At h n 7 (ai 12 t) ∧ t i = p.2.2.2 ∧ ∀ v : Int, (-200 ≤ v ∧ v ≤ 200) → BnK (va_up h 7 (ai 12 (va_up t i v))) n 1 (S.1.set i (valP p v), S.2) sat rsn cul G ∧ GdS (S.1.set i (valP p v), S.2) := by
  obtain ⟨F, D, N, hB, h3, hFit, hF, hDN⟩ := hK
  obtain ⟨k, f, s, t, E, E1, E2, E3, E4, hv, hw, hl, hcap⟩ := id hB.2.1.2.1
  have hi := (List.getElem?_eq_some_iff.mp hp).1
  have hpe := Option.some.inj ((hv i hi).symm.trans hp)
  refine ⟨t, E4, by rw [← hpe], fun v hvv => ?_⟩
  have hPW := hw p (List.mem_of_getElem? hp)
  have cs : stlB p v = true := by
    unfold stlB
    rw [if_neg (by omega)]
    exact decide_eq_true hvv
  have gg := hg.1.val hp (by omega) (val_pw hPW (by omega) cs)
  have f2 : Fr h (va_up h 7 (ai 12 (va_up t i v))) 7 7 := Fr.rf.up (by omega)
  have hS2 : StA (va_up h 7 (ai 12 (va_up t i v))) n 2 (S.1.set i (valP p v), S.2) := by
    refine ⟨(hB.2.1.1).fr f2 (by omega), ⟨k, f, s, va_up t i v, ?_, E1.fr f2 (by omega), E2.fr f2 (by omega), E3.fr f2 (by omega), E4.it, set_get hv hp, fun y hy => (gg.1.2.2.1 y hy).1, ?_, hcap⟩, hB.2.1.2.2⟩
    · show At _ n (2 + 1) (.inl (2, [.ref (2 + 1 + 1), .ref (2 + 1 + 2), .ref (2 + 1 + 3), .ref (2 + 1 + 4), .int (i3 ((S.1.set i (valP p v)).length : Nat))]))
      rw [List.length_set]
      exact E.fr f2 (by omega)
    · show (S.1.set i (valP p v)).length ≤ 12
      rw [List.length_set]
      exact hl
  have g2 : GdS (S.1.set i (valP p v), S.2) := ⟨gg.1, hg.2.1, by
    show 0 ≤ S.2.2.1 ∧ S.2.2.1 < 3 ^ nA (S.1.set i (valP p v))
    rw [gg.2]
    exact hg.2.2.1, hg.2.2.2⟩
  refine ⟨⟨F, D, N, ⟨?_, hS2, hB.2.2.1.fr f2 (by omega), hB.2.2.2.1.fr f2 (by omega), hB.2.2.2.2.fr f2 (by omega)⟩, g2.fit.1, g2.fit.2, fun a j r hA => hF a j r (hA.val hp h1), fun m hm => ?_⟩, g2⟩
  · show At _ n 1 (.inl (0, [.ref (1 + 1), .ref (1 + 7), .int (i3 (nA (S.1.set i (valP p v)))), .ref (1 + 8), .ref (1 + 27), .int (i3 sat), .int (i3 rsn), .int (i3 cul)]))
    rw [gg.2]
    exact hB.1.fr f2 (by omega)
  · have hm : m < 2 ^ nA (S.1.set i (valP p v)) := hm
    rw [gg.2] at hm
    have := hDN m hm
    unfold solD solN at this ⊢
    show D m = absZ (elimN 7 0 1 (rowsM m (S.1.set i (valP p v)))).1 ∧ N m = ansF (elimN 7 0 1 (rowsM m (S.1.set i (valP p v)))).2 (if 0 ≤ (elimN 7 0 1 (rowsM m (S.1.set i (valP p v)))).1 then 1 else -1)
    rw [rowsM_val hp h1]
    exact this
/-- a source's value, another by d -/
def addV (ps : List Part) (i : Nat) (d : Int) : List Part := match ps[i]? with
  | none => ps
  | some p => ps.set i (valP p (p.2.2.2 + d))
/-- f steps of a sweep: the state, and how often the present case changed -/
def swpL (i : Nat) (d : Int) : Nat → Stt → Int → Stt × Int
  | 0, S, k => (S, k)
  | f + 1, S, k => swpL i d f (setS (addV S.1 i d, S.2)) (if (setS (addV S.1 i d, S.2)).2.2.1 = S.2.2.1 then k else k + 1)
def opSweep (q : Dsk) (x v : Int) : Dsk × (Int ⊕ String) := match prt q.1.1 x with
  | none => (q, .inr eIO)
  | some p => if p.1 = 1 then (if -200 ≤ v ∧ v ≤ 200 then (((swpL x.toNat (if v ≤ p.2.2.2 then -1 else 1) (absZ (v - p.2.2.2)).toNat q.1 0).1, pushH q.2.1 q.1, q.2.2), .inl (swpL x.toNat (if v ≤ p.2.2.2 then -1 else 1) (absZ (v - p.2.2.2)).toNat q.1 0).2) else (q, .inr eIA)) else (q, .inr eIS)
set_option maxHeartbeats 4000000 in
set_option maxRecDepth 100000 in
theorem sX6_sweep_0 {X : Xt} {n : Nat} {h : HP} {a0 : Nat} {x1 : Int} {x2 : Int} {fs1 : List Value} (hc : Cx X cX6_sweep RX6 9 8 138) {K : KT} (hr : CxR X (some .int) K) (e1 : At h n a0 (.inl (6, fs1))) (z1 : fs1.length = 6)
    (P : spec_X6_requireSource [.ref a0, .int (i3 x1)] n h (kc X 1 6 2 [(0, .ref a0), (1, .int (i3 x1)), (2, .int (i3 x2))] [] n)) :
    Ok X 3 18 0 [(0, .ref a0), (1, .int (i3 x1)), (2, .int (i3 x2))] [] n h := by
  refine ok_aload_n (pc := 0) hc dX6_sweep_0 rfl 0 rfl ?_
  refine ok_iload_n (pc := 1) hc dX6_sweep_1 rfl 1 rfl ?_
  exact ok_callV (pc := 2) (a := a0) (cb := 1) (sb := 6) (st := []) hc [.int (i3 x1)] cv_X6_118 sp_X6_requireSource (by decide) dX6_sweep_2 rfl e1.1 e1.2 rfl rfl rfl (Nat.le_of_ble_eq_true rfl) P

set_option maxHeartbeats 4000000 in
set_option maxRecDepth 100000 in
theorem sX6_sweep_5 {X : Xt} {n : Nat} {h : HP} {a0 : Nat} {x1 : Int} {x2 : Int} {fs2 : List Value} {q3 : Nat} {q4 : Nat} {fs5 : List Value} {q6 : Nat} {fs7 : List Value} (hc : Cx X cX6_sweep RX6 9 8 138) {K : KT} (hr : CxR X (some .int) K) (e2 : At h n a0 (.inl (6, fs2))) (z2 : fs2.length = 6) (v2_3 : fs2[3]? = some (.ref q3)) (v2_0 : fs2[0]? = some (.ref q4)) (e5 : At h n q4 (.inl (0, fs5))) (z5 : fs5.length = 8) (v5_0 : fs5[0]? = some (.ref q6)) (e7 : At h n q3 (.inl (1, fs7))) (z7 : fs7.length = 3)
    (P : (R3 x2) ∧ (R3 (isV x2)) ∧ (¬ (isV x2) = 0 → spec_X1_record [.ref q3, .ref q6] n h (kc X 1 6 33 [(0, .ref a0), (1, .int (i3 x1)), (2, .int (i3 x2))] [] n)) ∧ ((isV x2) = 0 → K (.inr "java/lang/IllegalArgumentException") n h)) :
    Ok X 1 6 5 [(0, .ref a0), (1, .int (i3 x1)), (2, .int (i3 x2))] [] n h := by
  refine ok_iload_n (pc := 5) hc dX6_sweep_5 rfl 2 rfl ?_
  obtain ⟨r0, P⟩ := P
  refine ok_callS (pc := 6) (cb := 1) (sb := 6) (st := []) hc [.int (i3 x2)] cs_X6_121 sp_X6_isSourceValue (by decide) dX6_sweep_6 rfl rfl rfl rfl (Nat.le_of_ble_eq_true rfl) (⟨_, rfl, r0, rfl, ?_⟩)
  show Ok X 1 6 (6 + 3) [(0, .ref a0), (1, .int (i3 x1)), (2, .int (i3 x2))] [.int (i3 (isV x2))] n h
  obtain ⟨r1, P⟩ := P
  refine zk_if_ne (pc := 9) (tgt := 22) hc dX6_sweep_9 (by decide) r1 (fun c => ?_) (fun c => ?_)
  · have P := P.1 c
    refine ok_aload_n (pc := 22) hc dX6_sweep_22 rfl 0 rfl ?_
    refine ok_get (pc := 23) hc fl_X6_29 dX6_sweep_23 e2.1 e2.2 v2_3 ?_
    refine ok_aload_n (pc := 26) hc dX6_sweep_26 rfl 0 rfl ?_
    refine ok_get (pc := 27) hc fl_X6_10 dX6_sweep_27 e2.1 e2.2 v2_0 ?_
    refine ok_get (pc := 30) hc fl_X6_43 dX6_sweep_30 e5.1 e5.2 v5_0 ?_
    exact ok_callV (pc := 33) (a := q3) (cb := 1) (sb := 6) (st := []) hc [.ref q6] cv_X6_57 sp_X1_record (by decide) dX6_sweep_33 rfl e7.1 e7.2 rfl rfl rfl (Nat.le_of_ble_eq_true rfl) P
  · have P := P.2 c
    exact ok_throw (pc := 12) hc hr th_IAE rfl (is := 125) (text := "the target is -200 to 200") (by decide) dX6_sweep_12 dX6_sweep_15 dX6_sweep_16 dX6_sweep_18 dX6_sweep_21 (by decide) (by decide) (by decide) (by decide) P

set_option maxHeartbeats 4000000 in
set_option maxRecDepth 100000 in
theorem sX6_sweep_36 {X : Xt} {n : Nat} {h : HP} {a0 : Nat} {x1 : Int} {x2 : Int} {fs1 : List Value} {q2 : Nat} {fs3 : List Value} {q4 : Nat} {fs5 : List Value} {q6 : Nat} {fs7 : List Value} {q8 : Nat} {len9 : Nat} {f9 : Nat → Int} (hc : Cx X cX6_sweep RX6 9 8 138) {K : KT} (hr : CxR X (some .int) K) (e1 : At h n a0 (.inl (6, fs1))) (z1 : fs1.length = 6) (v1_0 : fs1[0]? = some (.ref q2)) (e3 : At h n q2 (.inl (0, fs3))) (z3 : fs3.length = 8) (v3_0 : fs3[0]? = some (.ref q4)) (e5 : At h n q4 (.inl (4, fs5))) (z5 : fs5.length = 4) (v5_0 : fs5[0]? = some (.ref q6)) (e7 : At h n q6 (.inl (2, fs7))) (z7 : fs7.length = 5) (v7_3 : fs7[3]? = some (.ref q8)) (e9 : At h n q8 (ai len9 f9))
    (P : (Ix x1 len9) ∧ (R3 (x2 - (f9 (x1 : Int).toNat))) ∧ (Ix x1 len9) ∧ (R3 x2) ∧ (R3 (f9 (x1 : Int).toNat)) ∧ (x2 ≤ (f9 (x1 : Int).toNat) → Ok X 1 6 80 [(0, .ref a0), (1, .int (i3 x1)), (2, .int (i3 x2)), (3, .ref q8), (4, .int (i3 (absZ (x2 - (f9 (x1 : Int).toNat))))), (5, .int (i3 (-1))), (6, .int (i3 0)), (7, .int (i3 0))] [] n h) ∧ (¬ x2 ≤ (f9 (x1 : Int).toNat) → Ok X 1 6 80 [(0, .ref a0), (1, .int (i3 x1)), (2, .int (i3 x2)), (3, .ref q8), (4, .int (i3 (absZ (x2 - (f9 (x1 : Int).toNat))))), (5, .int (i3 1)), (6, .int (i3 0)), (7, .int (i3 0))] [] n h)) :
    Ok X 1 6 36 [(0, .ref a0), (1, .int (i3 x1)), (2, .int (i3 x2))] [] n h := by
  refine ok_aload_n (pc := 36) hc dX6_sweep_36 rfl 0 rfl ?_
  refine ok_get (pc := 37) hc fl_X6_10 dX6_sweep_37 e1.1 e1.2 v1_0 ?_
  refine ok_get (pc := 40) hc fl_X6_43 dX6_sweep_40 e3.1 e3.2 v3_0 ?_
  refine ok_get (pc := 43) hc fl_X6_47 dX6_sweep_43 e5.1 e5.2 v5_0 ?_
  refine ok_get (pc := 46) hc fl_X6_102 dX6_sweep_46 e7.1 e7.2 v7_3 ?_
  refine ok_astore_n (pc := 49) hc (lv' := [(3, .ref q8), (0, .ref a0), (1, .int (i3 x1)), (2, .int (i3 x2))]) dX6_sweep_49 rfl (by decide) rfl ?_
  refine ok_iload_n (pc := 50) hc dX6_sweep_50 rfl 3 rfl ?_
  refine ok_aload_n (pc := 51) hc dX6_sweep_51 rfl 0 rfl ?_
  refine ok_iload_n (pc := 52) hc dX6_sweep_52 rfl 2 rfl ?_
  obtain ⟨r, P⟩ := P
  refine zk_iald (pc := 53) hc dX6_sweep_53 e9.1 e9.2 r ?_
  refine zk_isub (pc := 54) hc dX6_sweep_54 ?_
  obtain ⟨r0, P⟩ := P
  refine ok_callS (pc := 55) (cb := 1) (sb := 6) (st := []) hc [.int (i3 (x2 - (f9 (x1 : Int).toNat)))] cs_X6_127 sp_J9_abs_0f7a4 (by decide) dX6_sweep_55 rfl rfl rfl rfl (Nat.le_of_ble_eq_true rfl) (⟨_, rfl, r0, rfl, ?_⟩)
  show Ok X 1 6 (55 + 3) [(3, .ref q8), (0, .ref a0), (1, .int (i3 x1)), (2, .int (i3 x2))] [.int (i3 (absZ (x2 - (f9 (x1 : Int).toNat))))] n h
  refine ok_istore (pc := 58) hc (lv' := [(4, .int (i3 (absZ (x2 - (f9 (x1 : Int).toNat))))), (3, .ref q8), (0, .ref a0), (1, .int (i3 x1)), (2, .int (i3 x2))]) dX6_sweep_58 (by decide) rfl ?_
  refine ok_iload_n (pc := 60) hc dX6_sweep_60 rfl 4 rfl ?_
  refine ok_aload_n (pc := 61) hc dX6_sweep_61 rfl 1 rfl ?_
  refine ok_iload_n (pc := 62) hc dX6_sweep_62 rfl 3 rfl ?_
  obtain ⟨r, P⟩ := P
  refine zk_iald (pc := 63) hc dX6_sweep_63 e9.1 e9.2 r ?_
  obtain ⟨r10, P⟩ := P
  obtain ⟨r11, P⟩ := P
  refine zk_icmp_le (pc := 64) (tgt := 71) hc dX6_sweep_64 (by decide) r10 r11 (fun c => ?_) (fun c => ?_)
  · have P := P.1 c
    refine ok_iconst (pc := 71) hc (v := i3 (-1)) dX6_sweep_71 (by decide) ?_
    refine ok_istore (pc := 72) hc (lv' := [(5, .int (i3 (-1))), (4, .int (i3 (absZ (x2 - (f9 (x1 : Int).toNat))))), (3, .ref q8), (0, .ref a0), (1, .int (i3 x1)), (2, .int (i3 x2))]) dX6_sweep_72 (by decide) rfl ?_
    refine ok_iconst (pc := 74) hc (v := i3 0) dX6_sweep_74 (by decide) ?_
    refine ok_istore (pc := 75) hc (lv' := [(6, .int (i3 0)), (5, .int (i3 (-1))), (4, .int (i3 (absZ (x2 - (f9 (x1 : Int).toNat))))), (3, .ref q8), (0, .ref a0), (1, .int (i3 x1)), (2, .int (i3 x2))]) dX6_sweep_75 (by decide) rfl ?_
    refine ok_iconst (pc := 77) hc (v := i3 0) dX6_sweep_77 (by decide) ?_
    refine ok_istore (pc := 78) hc (lv' := [(7, .int (i3 0)), (6, .int (i3 0)), (5, .int (i3 (-1))), (4, .int (i3 (absZ (x2 - (f9 (x1 : Int).toNat))))), (3, .ref q8), (0, .ref a0), (1, .int (i3 x1)), (2, .int (i3 x2))]) dX6_sweep_78 (by decide) rfl ?_
    refine ok_lv [5, 6, 7, 4, 3, 2, 1, 0] rfl ?_
    exact P
  · have P := P.2 c
    refine ok_iconst (pc := 67) hc (v := i3 1) dX6_sweep_67 (by decide) ?_
    refine ok_goto (pc := 68) (tgt := 72) hc dX6_sweep_68 (by decide) ?_
    refine ok_istore (pc := 72) hc (lv' := [(5, .int (i3 1)), (4, .int (i3 (absZ (x2 - (f9 (x1 : Int).toNat))))), (3, .ref q8), (0, .ref a0), (1, .int (i3 x1)), (2, .int (i3 x2))]) dX6_sweep_72 (by decide) rfl ?_
    refine ok_iconst (pc := 74) hc (v := i3 0) dX6_sweep_74 (by decide) ?_
    refine ok_istore (pc := 75) hc (lv' := [(6, .int (i3 0)), (5, .int (i3 1)), (4, .int (i3 (absZ (x2 - (f9 (x1 : Int).toNat))))), (3, .ref q8), (0, .ref a0), (1, .int (i3 x1)), (2, .int (i3 x2))]) dX6_sweep_75 (by decide) rfl ?_
    refine ok_iconst (pc := 77) hc (v := i3 0) dX6_sweep_77 (by decide) ?_
    refine ok_istore (pc := 78) hc (lv' := [(7, .int (i3 0)), (6, .int (i3 0)), (5, .int (i3 1)), (4, .int (i3 (absZ (x2 - (f9 (x1 : Int).toNat))))), (3, .ref q8), (0, .ref a0), (1, .int (i3 x1)), (2, .int (i3 x2))]) dX6_sweep_78 (by decide) rfl ?_
    refine ok_lv [5, 6, 7, 4, 3, 2, 1, 0] rfl ?_
    exact P

set_option maxHeartbeats 4000000 in
set_option maxRecDepth 100000 in
theorem sX6_sweep_80 {X : Xt} {n : Nat} {h : HP} {a0 : Nat} {x1 : Int} {x2 : Int} {a3 : Nat} {x4 : Int} {x5 : Int} {x6 : Int} {x7 : Int} (hc : Cx X cX6_sweep RX6 9 8 138) {K : KT} (hr : CxR X (some .int) K) 
    (P : (R3 x7) ∧ (R3 x4) ∧ (x4 ≤ x7 → K (.inl (some (.int (i3 x6)))) n h) ∧ (¬ x4 ≤ x7 → Ok X 1 6 87 [(0, .ref a0), (1, .int (i3 x1)), (2, .int (i3 x2)), (3, .ref a3), (4, .int (i3 x4)), (5, .int (i3 x5)), (6, .int (i3 x6)), (7, .int (i3 x7))] [] n h)) :
    Ok X 1 6 80 [(0, .ref a0), (1, .int (i3 x1)), (2, .int (i3 x2)), (3, .ref a3), (4, .int (i3 x4)), (5, .int (i3 x5)), (6, .int (i3 x6)), (7, .int (i3 x7))] [] n h := by
  refine ok_iload (pc := 80) hc dX6_sweep_80 7 rfl ?_
  refine ok_iload (pc := 82) hc dX6_sweep_82 4 rfl ?_
  obtain ⟨r1, P⟩ := P
  obtain ⟨r2, P⟩ := P
  refine zk_icmp_ge (pc := 84) (tgt := 138) hc dX6_sweep_84 (by decide) r1 r2 (fun c => ?_) (fun c => ?_)
  · have P := P.1 c
    refine ok_iload (pc := 138) hc dX6_sweep_138 6 rfl ?_
    exact ok_iret (st := []) (pc := 140) hc hr dX6_sweep_140 P
  · have P := P.2 c
    exact P

set_option maxHeartbeats 4000000 in
set_option maxRecDepth 100000 in
theorem sX6_sweep_87 {X : Xt} {n : Nat} {h : HP} {a0 : Nat} {x1 : Int} {x2 : Int} {a3 : Nat} {x4 : Int} {x5 : Int} {x6 : Int} {x7 : Int} {fs1 : List Value} {q2 : Nat} {fs3 : List Value} {q4 : Nat} {fs5 : List Value} {iv6 : Int} {len7 : Nat} {f7 : Nat → Int} (hc : Cx X cX6_sweep RX6 9 8 138) {K : KT} (hr : CxR X (some .int) K) (e1 : At h n a0 (.inl (6, fs1))) (z1 : fs1.length = 6) (v1_0 : fs1[0]? = some (.ref q2)) (e3 : At h n q2 (.inl (0, fs3))) (z3 : fs3.length = 8) (v3_0 : fs3[0]? = some (.ref q4)) (e5 : At h n q4 (.inl (4, fs5))) (z5 : fs5.length = 4) (v5_2 : fs5[2]? = some (.int (i3 iv6))) (e7 : At h n a3 (ai len7 f7))
    (P : (Ix x1 len7) ∧ (Ix x1 len7) ∧ spec_X0_settle [.ref q2] n (va_up h a3 (ai len7 (va_up f7 (x1 : Int).toNat ((f7 (x1 : Int).toNat) + x5)))) (kc X 1 6 111 [(0, .ref a0), (1, .int (i3 x1)), (2, .int (i3 x2)), (3, .ref a3), (4, .int (i3 x4)), (5, .int (i3 x5)), (6, .int (i3 x6)), (7, .int (i3 x7)), (8, .int (i3 iv6))] [] n)) :
    Ok X 1 6 87 [(0, .ref a0), (1, .int (i3 x1)), (2, .int (i3 x2)), (3, .ref a3), (4, .int (i3 x4)), (5, .int (i3 x5)), (6, .int (i3 x6)), (7, .int (i3 x7))] [] n h := by
  refine ok_aload_n (pc := 87) hc dX6_sweep_87 rfl 0 rfl ?_
  refine ok_get (pc := 88) hc fl_X6_10 dX6_sweep_88 e1.1 e1.2 v1_0 ?_
  refine ok_get (pc := 91) hc fl_X6_43 dX6_sweep_91 e3.1 e3.2 v3_0 ?_
  refine ok_get (pc := 94) hc fl_X6_133 dX6_sweep_94 e5.1 e5.2 v5_2 ?_
  refine ok_istore (pc := 97) hc (lv' := [(8, .int (i3 iv6)), (0, .ref a0), (1, .int (i3 x1)), (2, .int (i3 x2)), (3, .ref a3), (4, .int (i3 x4)), (5, .int (i3 x5)), (6, .int (i3 x6)), (7, .int (i3 x7))]) dX6_sweep_97 (by decide) rfl ?_
  refine ok_aload_n (pc := 99) hc dX6_sweep_99 rfl 4 rfl ?_
  refine ok_iload_n (pc := 100) hc dX6_sweep_100 rfl 2 rfl ?_
  refine ok_dup2_11 (pc := 101) hc dX6_sweep_101 rfl rfl ?_
  obtain ⟨r, P⟩ := P
  refine zk_iald (pc := 102) hc dX6_sweep_102 e7.1 e7.2 r ?_
  refine ok_iload (pc := 103) hc dX6_sweep_103 6 rfl ?_
  refine zk_iadd (pc := 105) hc dX6_sweep_105 ?_
  obtain ⟨r, P⟩ := P
  refine zk_iast (pc := 106) hc dX6_sweep_106 e7.1 e7.2 r ?_
  refine ok_aload_n (pc := 107) hc dX6_sweep_107 rfl 1 rfl ?_
  refine ok_get (pc := 108) hc fl_X6_10 dX6_sweep_108 e1.1 ((up_ne (ne_oa e1.2 e7.2)).trans e1.2) v1_0 ?_
  refine ok_lv [1, 2, 3, 4, 5, 6, 7, 8, 0] rfl ?_
  exact ok_callV (pc := 111) (a := q2) (cb := 1) (sb := 6) (st := []) hc [] cv_X6_64 sp_X0_settle (by decide) dX6_sweep_111 rfl e3.1 ((up_ne (ne_oa e3.2 e7.2)).trans e3.2) rfl rfl rfl (Nat.le_of_ble_eq_true rfl) P

set_option maxHeartbeats 4000000 in
set_option maxRecDepth 100000 in
theorem sX6_sweep_114 {X : Xt} {n : Nat} {h : HP} {a0 : Nat} {x1 : Int} {x2 : Int} {a3 : Nat} {x4 : Int} {x5 : Int} {x6 : Int} {x7 : Int} {x8 : Int} {fs1 : List Value} {q2 : Nat} {fs3 : List Value} {q4 : Nat} {fs5 : List Value} {iv6 : Int} (hc : Cx X cX6_sweep RX6 9 8 138) {K : KT} (hr : CxR X (some .int) K) (e1 : At h n a0 (.inl (6, fs1))) (z1 : fs1.length = 6) (v1_0 : fs1[0]? = some (.ref q2)) (e3 : At h n q2 (.inl (0, fs3))) (z3 : fs3.length = 8) (v3_0 : fs3[0]? = some (.ref q4)) (e5 : At h n q4 (.inl (4, fs5))) (z5 : fs5.length = 4) (v5_2 : fs5[2]? = some (.int (i3 iv6)))
    (P : (R3 iv6) ∧ (R3 x8) ∧ (iv6 = x8 → Ok X 1 6 80 [(0, .ref a0), (1, .int (i3 x1)), (2, .int (i3 x2)), (3, .ref a3), (4, .int (i3 x4)), (5, .int (i3 x5)), (6, .int (i3 x6)), (7, .int (i3 (x7 + 1)))] [] n h) ∧ (¬ iv6 = x8 → Ok X 1 6 80 [(0, .ref a0), (1, .int (i3 x1)), (2, .int (i3 x2)), (3, .ref a3), (4, .int (i3 x4)), (5, .int (i3 x5)), (6, .int (i3 (x6 + 1))), (7, .int (i3 (x7 + 1)))] [] n h)) :
    Ok X 1 6 114 [(0, .ref a0), (1, .int (i3 x1)), (2, .int (i3 x2)), (3, .ref a3), (4, .int (i3 x4)), (5, .int (i3 x5)), (6, .int (i3 x6)), (7, .int (i3 x7)), (8, .int (i3 x8))] [] n h := by
  refine ok_aload_n (pc := 114) hc dX6_sweep_114 rfl 0 rfl ?_
  refine ok_get (pc := 115) hc fl_X6_10 dX6_sweep_115 e1.1 e1.2 v1_0 ?_
  refine ok_get (pc := 118) hc fl_X6_43 dX6_sweep_118 e3.1 e3.2 v3_0 ?_
  refine ok_get (pc := 121) hc fl_X6_133 dX6_sweep_121 e5.1 e5.2 v5_2 ?_
  refine ok_iload (pc := 124) hc dX6_sweep_124 8 rfl ?_
  obtain ⟨r7, P⟩ := P
  obtain ⟨r8, P⟩ := P
  refine zk_icmp_eq (pc := 126) (tgt := 132) hc dX6_sweep_126 (by decide) r7 r8 (fun c => ?_) (fun c => ?_)
  · have P := P.1 c
    refine zk_iinc (pc := 132) hc (q := 7) (x := x7) (lv' := [(7, .int (i3 (x7 + 1))), (0, .ref a0), (1, .int (i3 x1)), (2, .int (i3 x2)), (3, .ref a3), (4, .int (i3 x4)), (5, .int (i3 x5)), (6, .int (i3 x6)), (8, .int (i3 x8))]) dX6_sweep_132 rfl (by decide) rfl ?_
    refine ok_goto (pc := 135) (tgt := 80) hc dX6_sweep_135 (by decide) ?_
    refine ok_lv [1, 2, 3, 4, 5, 6, 7, 0] rfl ?_
    exact P
  · have P := P.2 c
    refine zk_iinc (pc := 129) hc (q := 6) (x := x6) (lv' := [(6, .int (i3 (x6 + 1))), (0, .ref a0), (1, .int (i3 x1)), (2, .int (i3 x2)), (3, .ref a3), (4, .int (i3 x4)), (5, .int (i3 x5)), (7, .int (i3 x7)), (8, .int (i3 x8))]) dX6_sweep_129 rfl (by decide) rfl ?_
    refine zk_iinc (pc := 132) hc (q := 7) (x := x7) (lv' := [(7, .int (i3 (x7 + 1))), (6, .int (i3 (x6 + 1))), (0, .ref a0), (1, .int (i3 x1)), (2, .int (i3 x2)), (3, .ref a3), (4, .int (i3 x4)), (5, .int (i3 x5)), (8, .int (i3 x8))]) dX6_sweep_132 rfl (by decide) rfl ?_
    refine ok_goto (pc := 135) (tgt := 80) hc dX6_sweep_135 (by decide) ?_
    refine ok_lv [2, 3, 4, 5, 6, 7, 1, 0] rfl ?_
    exact P

def spec_X6_sweep (args : List Value) (n : Nat) (h : HP) (K : KT) : Prop := ∃ (q : Dsk) (x v : Int), args = [.ref 0, .int (i3 x), .int (i3 v)] ∧ R3 x ∧ R3 v ∧ DkA h n q ∧ ∀ h', DkA h' n (opSweep q x v).1 → Fr h h' 0 127 → K (oV (opSweep q x v).2) n h'
theorem sp_X6_sweep : Sp yX6_sweep cX6_sweep 9 (some .int) 8 138 3 18 spec_X6_sweep := by
  refine sp_intro (by decide) (by rintro args n h K ⟨q, x, v, rfl, -⟩; exact Nat.le_of_ble_eq_true rfl) ?_
  rintro X args n h K hc hr ⟨⟨S, hist, im, kept, B⟩, x, v, rfl, hx, hv3, hq, kk⟩
  have hq0 := hq
  obtain ⟨h0, hN, ⟨T, hT⟩, hI, hH, hM, hG⟩ := hq
  obtain ⟨A, F, D, N, sat, rsn, cul, G, hB⟩ := hN.obj
  replace hB : BnC h n 1 S A F D N sat rsn cul G := hB
  obtain ⟨o, hHo⟩ := hH.obj
  unfold opSweep at kk
  simp only at kk
  have st : spec_X6_requireSource [.ref 0, .int (i3 x)] n h (kc X 1 6 2 [(0, .ref 0), (1, .int (i3 x)), (2, .int (i3 v))] [] n) := by
    refine ⟨_, x, rfl, hx, hq0, ?_⟩
    show (match prt S.1 x with | none => _ | some p => _)
    cases hp : prt S.1 x with
    | none =>
      rw [hp] at kk
      exact ⟨rfl, okT_out hc hr (kk h hq0 Fr.rf)⟩
    | some p =>
      rw [hp] at kk
      simp only at kk ⊢
      by_cases c1 : p.1 = 1
      · rw [if_pos c1] at kk ⊢
        refine ⟨rfl, ?_⟩
        have iv : isV v = if -200 ≤ v ∧ v ≤ 200 then 1 else 0 := rfl
        refine sX6_sweep_5 hc hr h0 rfl rfl rfl hB.1 rfl rfl hHo rfl ⟨hv3, by rw [iv]; split <;> exact ⟨by decide, by decide⟩, fun c2 => ⟨2, hist, S, rfl, hH, hB.2.1, by omega, fun h1 hH1 f1 => ⟨rfl, ?_⟩⟩, fun c2 => ?_⟩
        · have hvv : -200 ≤ v ∧ v ≤ 200 := by
            by_cases z : -200 ≤ v ∧ v ≤ 200
            · exact z
            · rw [iv, if_neg z] at c2
              exact absurd rfl c2
          rw [if_pos hvv] at kk
          obtain ⟨hr1, hp1⟩ := prt_some hp
          have hi : x.toNat < 12 := by
            have := hG.1.1.1
            have : S.1.length ≤ 12 := this
            omega
          have ex : ((x.toNat : Nat) : Int) = x := Int.toNat_of_nonneg hr1.1
          obtain ⟨d, hd⟩ : ∃ d : Int, d = if v ≤ p.2.2.2 then -1 else 1 := ⟨_, rfl⟩
          rw [← hd] at kk
          have hst : absZ (v - p.2.2.2) = ((absZ (v - p.2.2.2)).toNat : Nat) := by
            unfold absZ
            split <;> omega
          have hPW : PW p := (hG.1.1.2.2.1 p (List.mem_of_getElem? hp1)).1
          have hpv : -200 ≤ p.2.2.2 ∧ p.2.2.2 ≤ 200 := by
            have := hPW.b
            omega
          have hdv : v = p.2.2.2 + d * ((absZ (v - p.2.2.2)).toNat : Nat) := by
            rw [← hst]
            unfold absZ
            rw [hd]
            split <;> split <;> omega
          have hd1 : d = -1 ∨ d = 1 := by
            rw [hd]
            split
            · exact Or.inl rfl
            · exact Or.inr rfl
          have hn4 : (absZ (v - p.2.2.2)).toNat ≤ 400 := by
            unfold absZ
            split <;> omega
          have L : ∀ (j i : Nat) (S' : Stt) (p' : Part) (k : Int) (hh : HP), i + j = (absZ (v - p.2.2.2)).toNat → S'.1[x.toNat]? = some p' → p'.1 = 1 → p'.2.2.2 = p.2.2.2 + d * i → (0 ≤ k ∧ k ≤ i) → GdS S' → BnA hh n 1 S' → swpL x.toNat d j S' k = swpL x.toNat d (absZ (v - p.2.2.2)).toNat S 0 → Fr h1 hh 1 28 → Ok X 1 6 80 [(0, .ref 0), (1, .int (i3 x)), (2, .int (i3 v)), (3, .ref 7), (4, .int (i3 (absZ (v - p.2.2.2)))), (5, .int (i3 d)), (6, .int (i3 k)), (7, .int (i3 i))] [] n hh := by
            intro j
            induction j with
            | zero =>
              intro i S' p' k hh hij hp' h1' hv' hk hg hA e hf
              have : i = (absZ (v - p.2.2.2)).toNat := by omega
              refine sX6_sweep_80 hc hr ⟨R3_s (by omega), R3_s (by omega), fun _ => ?_, fun c => absurd c (by omega)⟩
              rw [← e] at kk
              exact kk hh ⟨(h0.fr f1 (by omega)).fr hf (by omega), hA, ⟨T, (hT.fr f1 (by omega)).fr hf (by omega)⟩, (hI.fr f1 (by omega)).fr hf (by omega), hH1.fr hf (by omega), (hM.fr f1 (by omega)).fr hf (by omega), hg, gd_push hG.2.1 hG.1, hG.2.2⟩ ((f1.sub (by omega) (by omega)).tr (hf.sub (by omega) (by omega)))
            | succ j ih =>
              intro i S' p' k hh hij hp' h1' hv' hk hg hA e hf
              obtain ⟨_, _, _, _, hK⟩ := id hA
              obtain ⟨_, _, _, hB', -⟩ := id hK
              obtain ⟨t, ht7, hti, hval⟩ := hK.val hg hp' h1'
              have hnv : -200 ≤ p'.2.2.2 + d ∧ p'.2.2.2 + d ≤ 200 := by
                rw [hv']
                rcases hd1 with z | z <;> rw [z] at hdv ⊢ <;> omega
              obtain ⟨hK2, g2⟩ := hval _ hnv
              have ea : addV S'.1 x.toNat d = S'.1.set x.toNat (valP p' (p'.2.2.2 + d)) := by
                unfold addV
                rw [hp']
              refine sX6_sweep_80 hc hr ⟨R3_s (by omega), R3_s (by omega), fun c => absurd c (by omega), fun _ => ?_⟩
              refine sX6_sweep_87 hc hr ((h0.fr f1 (by omega)).fr hf (by omega)) rfl rfl hB'.1 rfl rfl hB'.2.1.1 rfl rfl ht7 ⟨⟨by omega, by omega, by omega⟩, ⟨by omega, by omega, by omega⟩, 1, _, rfl, by rw [hti]; exact hK2.a, fun h3 hA3 f3 => ⟨rfl, ?_⟩⟩
              obtain ⟨_, _, _, _, _, _, _, _, hB3⟩ := hA3.obj
              have f13 : Fr hh h3 1 28 := (Fr.rf.up (by omega)).tr f3
              have hp3 : (setS (S'.1.set x.toNat (valP p' (p'.2.2.2 + d)), S'.2)).1[x.toNat]? = some (valP p' (p'.2.2.2 + d)) := by
                rw [setS_1]
                exact List.getElem?_set_self (List.getElem?_eq_some_iff.mp hp').1
              have hv3' : (valP p' (p'.2.2.2 + d)).2.2.2 = p.2.2.2 + d * ((i + 1 : Nat) : Int) := by
                show p'.2.2.2 + d = _
                rw [hv']
                rcases hd1 with z | z <;> rw [z] <;> omega
              have sr := hB3.2.1.2.2.2.1
              have sr0 := hB'.2.1.2.2.2.1
              rw [show swpL x.toNat d (j + 1) S' k = swpL x.toNat d j (setS (addV S'.1 x.toNat d, S'.2)) (if (setS (addV S'.1 x.toNat d, S'.2)).2.2.1 = S'.2.2.1 then k else k + 1) from rfl, ea] at e
              refine sX6_sweep_114 hc hr (((h0.fr f1 (by omega)).fr hf (by omega)).fr f13 (by omega)) rfl rfl hB3.1 rfl rfl hB3.2.1.1 rfl rfl ⟨R3_s (by omega), R3_s (by omega), fun z => ?_, fun z => ?_⟩
              · rw [if_pos z] at e
                exact ih (i + 1) _ _ k h3 (by omega) hp3 h1' hv3' (by omega) g2.set hA3 e (hf.tr f13)
              · rw [if_neg z] at e
                exact ih (i + 1) _ _ (k + 1) h3 (by omega) hp3 h1' hv3' (by omega) g2.set hA3 e (hf.tr f13)
          have hA1 := hN.fr f1 (by omega)
          obtain ⟨_, _, _, _, hK1⟩ := id hA1
          replace hK1 : BnK h1 n 1 S _ _ _ _ := hK1
          obtain ⟨_, _, _, hB1, -⟩ := id hK1
          obtain ⟨t, ht7, hti, -⟩ := hK1.val hG.1 hp1 c1
          have L0 := L (absZ (v - p.2.2.2)).toNat 0 S p 0 h1 (by omega) hp1 c1 (by simp) (by omega) hG.1 hA1 rfl Fr.rf
          refine sX6_sweep_36 hc hr (h0.fr f1 (by omega)) rfl rfl hB1.1 rfl rfl hB1.2.1.1 rfl rfl hB1.2.1.2.1.obj rfl rfl ht7 ?_
          rw [hti]
          refine ⟨⟨by omega, by omega, by omega⟩, R3_s (by omega), ⟨by omega, by omega, by omega⟩, hv3, R3_s (by omega), fun z => ?_, fun z => ?_⟩
          · rw [if_pos z] at hd
            rw [hd] at L0
            exact L0
          · rw [if_neg z] at hd
            rw [hd] at L0
            exact L0
        · have hvv : ¬ (-200 ≤ v ∧ v ≤ 200) := by
            intro z
            rw [iv, if_pos z] at c2
            exact absurd c2 (by decide)
          rw [if_neg hvv] at kk
          exact kk h hq0 Fr.rf
      · rw [if_neg c1] at kk ⊢
        exact ⟨rfl, okT_out hc hr (kk h hq0 Fr.rf)⟩
  exact sX6_sweep_0 hc hr h0 rfl st
