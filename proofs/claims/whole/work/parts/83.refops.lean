/-! part 83: the reference: begin, setRail, setValue, drop -/
def cdL (l : List String) : Int ⊕ String → Int
  | .inl _ => 0
  | .inr e => if l[0]? = some e then 1 else if l[1]? = some e then 2 else if l[2]? = some e then 3 else 4
def rvI : Int ⊕ String → Int
  | .inl z => z
  | .inr _ => 0
theorem ne_AS : eIA ≠ eIS := by decide
theorem ne_OS : eIO ≠ eIS := by decide
theorem ne_OA : eIO ≠ eIA := by decide
theorem cd_1 (a : String) (l : List String) : cdL (a :: l) (.inr a) = 1 := if_pos rfl
theorem cd_2 {a b : String} (l : List String) (h : a ≠ b) : cdL (a :: b :: l) (.inr b) = 2 := by
  show (if some a = some b then _ else if some b = some b then _ else _) = _
  rw [if_neg (fun z => h (Option.some.inj z)), if_pos rfl]
theorem cd_3 {a b c : String} (l : List String) (h : a ≠ c) (h2 : b ≠ c) : cdL (a :: b :: c :: l) (.inr c) = 3 := by
  show (if some a = some c then _ else if some b = some c then _ else if some c = some c then _ else _) = _
  rw [if_neg (fun z => h (Option.some.inj z)), if_neg (fun z => h2 (Option.some.inj z)), if_pos rfl]
theorem MdF.thr {I : Nat → Int} {F : Nat → Nat → Int} {q : Dsk} (h : MdF I F q) (t : Int) : MdF (va_up I 0 t) F q := h
/-- what a change leaves -/
theorem MdF.chg {I I' : Nat → Int} {F F' : Nat → Nat → Int} {q : Dsk} {S : Stt} {hist : List Stt} (h : MdF I F q) (hZ : ZSt (F' 1) S) (hH : HsR (F' 3) hist) (h3 : I' 3 = hist.length) (h5 : I' 5 = I 5) (h7 : I' 7 = I 7) (h4 : F' 4 = F 4) (h55 : F' 5 = F 5) : MdF I' F' (S, hist, q.2.2) := ⟨hZ, ⟨hH, h3⟩, ⟨h5.trans h.2.2.1.1, fun j hj hb => by rw [h4]; exact h.2.2.1.2 j hj hb⟩, by rw [h55]; exact h.2.2.2.1, h7.trans h.2.2.2.2⟩
theorem GdD.chg {q : Dsk} (h : GdD q) {S : Stt} (hS : GdS S) : GdD (S, pushH q.2.1 q.1, q.2.2) := ⟨hS, gd_push h.2.1 h.1, h.2.2⟩
/-- behind record and a new picture of the parts: settle, and the end -/
theorem rec_set {h : HP} {n : Nat} {q : Dsk} {I I1 I2 : Nat → Int} {F F1 F2 : Nat → Nat → Int} {S : Stt} {t : Int} (hF : MdF I F q) (hI1 : I1 = va_up (va_up I 0 t) 3 ((pushH q.2.1 q.1).length : Int)) (hF1 : ∀ j, j = 3 ∨ j = 4 ∨ j = 5 → F1 j = (va_up F 3 (F1 3)) j) (hH : HsR (F1 3) (pushH q.2.1 q.1)) (hM : MAt h n I2 F2) (hZ : ZSt (F2 1) S) (kI : KpR I1 I2) (kZ : KpZ F1 F2) (hGq : GdD q) (hOq : OkD q) (hG : GdS S) (hO : StOk S) : MdA h n (S, pushH q.2.1 q.1, q.2.2) t := by
  refine ⟨I2, F2, hM, hF.chg hZ (by rw [kZ 3 (by omega)]; exact hH) ?_ ?_ ?_ ?_ ?_, ?_, hGq.chg hG, hOq.push hO⟩
  · rw [kI 3 (by decide) (by decide) (by decide) (by decide), hI1, up_self]
  · rw [kI 5 (by decide) (by decide) (by decide) (by decide), hI1]
    rfl
  · rw [kI 7 (by decide) (by decide) (by decide) (by decide), hI1]
    rfl
  · rw [kZ 4 (by omega), hF1 4 (by omega)]
    rfl
  · rw [kZ 5 (by omega), hF1 5 (by omega)]
    rfl
  · rw [kI 0 (by decide) (by decide) (by decide) (by decide), hI1]
    rfl
set_option maxHeartbeats 4000000 in
set_option maxRecDepth 100000 in
theorem sX7_begin_0 {X : Xt} {n : Nat} {h : HP} {a0 : Nat} {fs1 : List Value} (hc : Cx X cX7_begin RX7 2 11 256) {K : KT} (hr : CxR X (some .int) K) (e1 : At h n a0 (.inl (7, fs1))) (z1 : fs1.length = 24)
    (P : spec_X7_record [.ref a0] n (va_up h a0 (.inl (7, (fs1.set 0 (.int (i3 0)))))) (kc X 0 0 6 [(0, .ref a0)] [] n)) :
    Ok X 0 0 0 [(0, .ref a0)] [] n h := by
  refine ok_aload_n (pc := 0) hc dX7_begin_0 rfl 0 rfl ?_
  refine ok_iconst (pc := 1) hc (v := i3 0) dX7_begin_1 (by decide) ?_
  refine ok_put (pc := 2) hc fl_X7_41 dX7_begin_2 e1.1 e1.2 (by simp [List.length_set, z1]) (fun _ => rfl) (fun _ => rfl) ?_
  refine ok_aload_n (pc := 5) hc dX7_begin_5 rfl 0 rfl ?_
  exact ok_callV (pc := 6) (a := a0) (cb := 0) (sb := 0) (st := []) hc [] cv_X7_147 sp_X7_record (by decide) dX7_begin_6 rfl e1.1 up_self rfl rfl rfl (Nat.le_of_ble_eq_true rfl) P

set_option maxHeartbeats 4000000 in
set_option maxRecDepth 100000 in
theorem sX7_begin_9 {X : Xt} {n : Nat} {h : HP} {a0 : Nat} {fs1 : List Value} {q2 : Nat} {len3 : Nat} {f3 : Nat → Int} (hc : Cx X cX7_begin RX7 2 11 256) {K : KT} (hr : CxR X (some .int) K) (e1 : At h n a0 (.inl (7, fs1))) (z1 : fs1.length = 24) (v1_1 : fs1[1]? = some (.ref q2)) (e3 : At h n q2 (ai len3 f3))
    (P : (Ix 48 len3) ∧ (Ix 48 len3) ∧ (Ix 49 len3) ∧ (Ix 50 len3) ∧ spec_X7_settle [.ref a0] n (va_up (va_up (va_up h q2 (ai len3 (va_up f3 (48 : Int).toNat 0))) q2 (ai len3 (va_up (va_up f3 (48 : Int).toNat 0) (49 : Int).toNat 150))) q2 (ai len3 (va_up (va_up (va_up f3 (48 : Int).toNat 0) (49 : Int).toNat 150) (50 : Int).toNat 0))) (kc X 0 0 44 [(0, .ref a0), (1, .int (i3 (f3 (48 : Int).toNat)))] [] n)) :
    Ok X 0 0 9 [(0, .ref a0)] [] n h := by
  refine ok_aload_n (pc := 9) hc dX7_begin_9 rfl 0 rfl ?_
  refine ok_get (pc := 10) hc fl_X7_7 dX7_begin_10 e1.1 e1.2 v1_1 ?_
  refine ok_bipush (pc := 13) hc (v := i3 48) dX7_begin_13 (by decide) ?_
  obtain ⟨r, P⟩ := P
  refine zk_iald (pc := 15) hc dX7_begin_15 e3.1 e3.2 r ?_
  refine ok_istore_n (pc := 16) hc (lv' := [(1, .int (i3 (f3 (48 : Int).toNat))), (0, .ref a0)]) dX7_begin_16 rfl (by decide) rfl ?_
  refine ok_aload_n (pc := 17) hc dX7_begin_17 rfl 1 rfl ?_
  refine ok_get (pc := 18) hc fl_X7_7 dX7_begin_18 e1.1 e1.2 v1_1 ?_
  refine ok_bipush (pc := 21) hc (v := i3 48) dX7_begin_21 (by decide) ?_
  refine ok_iconst (pc := 23) hc (v := i3 0) dX7_begin_23 (by decide) ?_
  obtain ⟨r, P⟩ := P
  refine zk_iast (pc := 24) hc dX7_begin_24 e3.1 e3.2 r ?_
  refine ok_aload_n (pc := 25) hc dX7_begin_25 rfl 1 rfl ?_
  refine ok_get (pc := 26) hc fl_X7_7 dX7_begin_26 e1.1 ((up_ne (ne_oa e1.2 e3.2)).trans e1.2) v1_1 ?_
  refine ok_bipush (pc := 29) hc (v := i3 49) dX7_begin_29 (by decide) ?_
  refine ok_sipush (pc := 31) hc (v := i3 150) dX7_begin_31 (by decide) ?_
  obtain ⟨r, P⟩ := P
  refine zk_iast (pc := 34) hc dX7_begin_34 e3.1 up_self r ?_
  refine ok_aload_n (pc := 35) hc dX7_begin_35 rfl 1 rfl ?_
  refine ok_get (pc := 36) hc fl_X7_7 dX7_begin_36 e1.1 ((up_ne (ne_oa e1.2 e3.2)).trans ((up_ne (ne_oa e1.2 e3.2)).trans e1.2)) v1_1 ?_
  refine ok_bipush (pc := 39) hc (v := i3 50) dX7_begin_39 (by decide) ?_
  refine ok_iconst (pc := 41) hc (v := i3 0) dX7_begin_41 (by decide) ?_
  obtain ⟨r, P⟩ := P
  refine zk_iast (pc := 42) hc dX7_begin_42 e3.1 up_self r ?_
  refine ok_aload_n (pc := 43) hc dX7_begin_43 rfl 1 rfl ?_
  refine ok_lv [1, 0] rfl ?_
  exact ok_callV (pc := 44) (a := a0) (cb := 0) (sb := 0) (st := []) hc [] cv_X7_150 sp_X7_settle (by decide) dX7_begin_44 rfl e1.1 ((up_ne (ne_oa e1.2 e3.2)).trans ((up_ne (ne_oa e1.2 e3.2)).trans ((up_ne (ne_oa e1.2 e3.2)).trans e1.2))) rfl rfl rfl (Nat.le_of_ble_eq_true rfl) P

set_option maxHeartbeats 4000000 in
set_option maxRecDepth 100000 in
theorem sX7_begin_47 {X : Xt} {n : Nat} {h : HP} {a0 : Nat} {x1 : Int} (hc : Cx X cX7_begin RX7 2 11 256) {K : KT} (hr : CxR X (some .int) K) 
    (P : K (.inl (some (.int (i3 x1)))) n h) :
    Ok X 0 0 47 [(0, .ref a0), (1, .int (i3 x1))] [] n h := by
  refine ok_iload_n (pc := 47) hc dX7_begin_47 rfl 1 rfl ?_
  exact ok_iret (st := []) (pc := 48) hc hr dX7_begin_48 P

def spec_X7_begin (args : List Value) (n : Nat) (h : HP) (K : KT) : Prop := ∃ (q : Dsk) (t : Int), args = [.ref 128] ∧ MdA h n q t ∧ ∀ h', MdA h' n (opBegin q) 0 → Fr h h' 128 138 → K (.inl (some (.int (i3 q.1.1.length)))) n h'
theorem gdS_begin {S : Stt} (h : GdS S) : GdS ([], 150, 0, S.2.2.2) := ⟨gdP_nil, ⟨(by decide : (10 : Int) ≤ 150), (by decide : (150 : Int) ≤ 200)⟩, ⟨Int.le_refl _, by show (0 : Int) < 3 ^ nA []; rw [nA_nil]; decide⟩, h.2.2.2⟩
theorem sp_X7_begin : Sp yX7_begin cX7_begin 2 (some .int) 11 256 0 0 spec_X7_begin := by
  refine sp_intro (by decide) (by rintro args n h K ⟨q, t, rfl, -⟩; exact Nat.le_of_ble_eq_true rfl) ?_
  rintro X args n h K hc hr ⟨q, t, rfl, ⟨I, F, hM0, hF, -, hGq, hOq⟩, kk⟩
  refine sX7_begin_0 hc hr hM0.o rfl ⟨va_up I 0 0, F, q.1, q.2.1, rfl, hM0.uo (va_up I 0 0), hF.1, hF.2.1.1, hF.2.1.2, fun h1 H hM1 hH f1 => ⟨rfl, ?_⟩⟩
  have e1 : va_up F 3 H 1 = F 1 := rfl
  have e48 : F 1 48 = q.1.1.length := hF.1.1.1
  have hM2 := ((hM1.ua (j := 1) (by omega) (va_up (F 1) 48 0)).uu (j := 1) (by omega) (va_up (va_up (F 1) 48 0) 49 150)).uu (j := 1) (by omega) (va_up (va_up (va_up (F 1) 48 0) 49 150) 50 0)
  have g := gdS_begin hGq.1
  have hl := hF.1.1.2.1
  refine sX7_begin_9 hc hr hM1.o rfl rfl hM1.z ⟨⟨by decide, by decide, by decide⟩, ⟨by decide, by decide, by decide⟩, ⟨by decide, by decide, by decide⟩, ⟨by decide, by decide, by decide⟩, _, _, ([], 150, 0, q.1.2.2.2), rfl, hM2, ?_, g, fun h2 I2 F2 hM3 hZ3 kI kZ f2 => ⟨rfl, ?_⟩⟩
  · rw [up_self]
    refine ⟨⟨(up_ne (by decide)).trans ((up_ne (by decide)).trans up_self), Nat.zero_le _, fun i hi => absurd hi (Nat.not_lt_zero i), fun p hp => absurd hp List.not_mem_nil⟩, (up_ne (by decide)).trans up_self, up_self, ?_⟩
    exact ((up_ne (by decide)).trans ((up_ne (by decide)).trans (up_ne (by decide)))).trans hF.1.2.2.2
  · have r3 : (va_up F 3 H) 1 (48 : Int).toNat = q.1.1.length := e48
    rw [r3]
    refine sX7_begin_47 hc hr (kk h2 ?_ (((Fr.rf.up (by omega)).tr f1).tr ((((Fr.rf.up (by omega)).up (by omega)).up (by omega)).tr f2)))
    exact rec_set (t := 0) hF rfl (fun j hj => by rcases hj with e | e | e <;> subst e <;> rfl) hH hM3 hZ3 kI kZ hGq hOq g.set (setS_ok g)
set_option maxHeartbeats 4000000 in
set_option maxRecDepth 100000 in
theorem sX7_setRail_0 {X : Xt} {n : Nat} {h : HP} {a0 : Nat} {x1 : Int} {fs1 : List Value} (hc : Cx X cX7_setRail RX7 3 11 256) {K : KT} (hr : CxR X (some .int) K) (e1 : At h n a0 (.inl (7, fs1))) (z1 : fs1.length = 24)
    (P : (R3 x1 ∧ R3 10 ∧ R3 200) ∧ (¬ (10 ≤ x1 ∧ x1 ≤ 200) → K (.inl (some (.int (i3 0)))) n (va_up h a0 (.inl (7, (fs1.set 0 (.int (i3 1))))))) ∧ ((10 ≤ x1 ∧ x1 ≤ 200) → spec_X7_record [.ref a0] n (va_up h a0 (.inl (7, (fs1.set 0 (.int (i3 0)))))) (kc X 0 0 31 [(0, .ref a0), (1, .int (i3 x1))] [] n))) :
    Ok X 0 0 0 [(0, .ref a0), (1, .int (i3 x1))] [] n h := by
  refine ok_aload_n (pc := 0) hc dX7_setRail_0 rfl 0 rfl ?_
  refine ok_iload_n (pc := 1) hc dX7_setRail_1 rfl 1 rfl ?_
  refine ok_bipush (pc := 2) hc (v := i3 10) dX7_setRail_2 (by decide) ?_
  refine ok_sipush (pc := 4) hc (v := i3 200) dX7_setRail_4 (by decide) ?_
  obtain ⟨r0, P⟩ := P
  refine ok_callS (pc := 7) (cb := 0) (sb := 0) (st := [.ref a0]) hc [.int (i3 x1), .int (i3 10), .int (i3 200)] cs_X7_45 sp_X7_within (by decide) dX7_setRail_7 rfl rfl rfl rfl (Nat.le_of_ble_eq_true rfl) (⟨_, _, _, rfl, r0, rfl, ?_⟩)
  show Ok X 0 0 (7 + 3) [(0, .ref a0), (1, .int (i3 x1))] [.int (i3 (inZ x1 10 200)), .ref a0] n h
  refine zk_if_eq (pc := 10) (tgt := 17) hc dX7_setRail_10 (by decide) R3_inZ (fun c => ?_) (fun c => ?_)
  · have P := P.1 (inZ_0.mp c)
    refine ok_iconst (pc := 17) hc (v := i3 1) dX7_setRail_17 (by decide) ?_
    refine ok_put (pc := 18) hc fl_X7_41 dX7_setRail_18 e1.1 e1.2 (by simp [List.length_set, z1]) (fun _ => rfl) (fun _ => rfl) ?_
    refine ok_aload_n (pc := 21) hc dX7_setRail_21 rfl 0 rfl ?_
    refine ok_get (pc := 22) hc fl_X7_41 dX7_setRail_22 e1.1 up_self (set_self (by simp [List.length_set, z1])) ?_
    refine zk_if_le (pc := 25) (tgt := 30) hc dX7_setRail_25 (by decide) ⟨by decide, by decide⟩ (fun c => absurd c (by decide)) (fun _ => ?_)
    refine ok_iconst (pc := 28) hc (v := i3 0) dX7_setRail_28 (by decide) ?_
    exact ok_iret (st := []) (pc := 29) hc hr dX7_setRail_29 P
  · have P := P.2 (inZ_1.mp c)
    refine ok_iconst (pc := 13) hc (v := i3 0) dX7_setRail_13 (by decide) ?_
    refine ok_goto (pc := 14) (tgt := 18) hc dX7_setRail_14 (by decide) ?_
    refine ok_put (pc := 18) hc fl_X7_41 dX7_setRail_18 e1.1 e1.2 (by simp [List.length_set, z1]) (fun _ => rfl) (fun _ => rfl) ?_
    refine ok_aload_n (pc := 21) hc dX7_setRail_21 rfl 0 rfl ?_
    refine ok_get (pc := 22) hc fl_X7_41 dX7_setRail_22 e1.1 up_self (set_self (by simp [List.length_set, z1])) ?_
    refine zk_if_le (pc := 25) (tgt := 30) hc dX7_setRail_25 (by decide) ⟨by decide, by decide⟩ (fun _ => ?_) (fun c => absurd c (by decide))
    refine ok_aload_n (pc := 30) hc dX7_setRail_30 rfl 0 rfl ?_
    exact ok_callV (pc := 31) (a := a0) (cb := 0) (sb := 0) (st := []) hc [] cv_X7_147 sp_X7_record (by decide) dX7_setRail_31 rfl e1.1 up_self rfl rfl rfl (Nat.le_of_ble_eq_true rfl) P

set_option maxHeartbeats 4000000 in
set_option maxRecDepth 100000 in
theorem sX7_setRail_34 {X : Xt} {n : Nat} {h : HP} {a0 : Nat} {x1 : Int} {fs1 : List Value} {q2 : Nat} {len3 : Nat} {f3 : Nat → Int} (hc : Cx X cX7_setRail RX7 3 11 256) {K : KT} (hr : CxR X (some .int) K) (e1 : At h n a0 (.inl (7, fs1))) (z1 : fs1.length = 24) (v1_1 : fs1[1]? = some (.ref q2)) (e3 : At h n q2 (ai len3 f3))
    (P : (Ix 49 len3) ∧ (Ix 49 len3) ∧ spec_X7_settle [.ref a0] n (va_up h q2 (ai len3 (va_up f3 (49 : Int).toNat x1))) (kc X 0 0 51 [(0, .ref a0), (1, .int (i3 x1)), (2, .int (i3 (f3 (49 : Int).toNat)))] [] n)) :
    Ok X 0 0 34 [(0, .ref a0), (1, .int (i3 x1))] [] n h := by
  refine ok_aload_n (pc := 34) hc dX7_setRail_34 rfl 0 rfl ?_
  refine ok_get (pc := 35) hc fl_X7_7 dX7_setRail_35 e1.1 e1.2 v1_1 ?_
  refine ok_bipush (pc := 38) hc (v := i3 49) dX7_setRail_38 (by decide) ?_
  obtain ⟨r, P⟩ := P
  refine zk_iald (pc := 40) hc dX7_setRail_40 e3.1 e3.2 r ?_
  refine ok_istore_n (pc := 41) hc (lv' := [(2, .int (i3 (f3 (49 : Int).toNat))), (0, .ref a0), (1, .int (i3 x1))]) dX7_setRail_41 rfl (by decide) rfl ?_
  refine ok_aload_n (pc := 42) hc dX7_setRail_42 rfl 1 rfl ?_
  refine ok_get (pc := 43) hc fl_X7_7 dX7_setRail_43 e1.1 e1.2 v1_1 ?_
  refine ok_bipush (pc := 46) hc (v := i3 49) dX7_setRail_46 (by decide) ?_
  refine ok_iload_n (pc := 48) hc dX7_setRail_48 rfl 2 rfl ?_
  obtain ⟨r, P⟩ := P
  refine zk_iast (pc := 49) hc dX7_setRail_49 e3.1 e3.2 r ?_
  refine ok_aload_n (pc := 50) hc dX7_setRail_50 rfl 1 rfl ?_
  refine ok_lv [1, 2, 0] rfl ?_
  exact ok_callV (pc := 51) (a := a0) (cb := 0) (sb := 0) (st := []) hc [] cv_X7_150 sp_X7_settle (by decide) dX7_setRail_51 rfl e1.1 ((up_ne (ne_oa e1.2 e3.2)).trans e1.2) rfl rfl rfl (Nat.le_of_ble_eq_true rfl) P

set_option maxHeartbeats 4000000 in
set_option maxRecDepth 100000 in
theorem sX7_setRail_54 {X : Xt} {n : Nat} {h : HP} {a0 : Nat} {x1 : Int} {x2 : Int} (hc : Cx X cX7_setRail RX7 3 11 256) {K : KT} (hr : CxR X (some .int) K) 
    (P : K (.inl (some (.int (i3 x2)))) n h) :
    Ok X 0 0 54 [(0, .ref a0), (1, .int (i3 x1)), (2, .int (i3 x2))] [] n h := by
  refine ok_iload_n (pc := 54) hc dX7_setRail_54 rfl 2 rfl ?_
  exact ok_iret (st := []) (pc := 55) hc hr dX7_setRail_55 P

def spec_X7_setRail (args : List Value) (n : Nat) (h : HP) (K : KT) : Prop := ∃ (q : Dsk) (t x : Int), args = [.ref 128, .int (i3 x)] ∧ R3 x ∧ MdA h n q t ∧ ∀ h', MdA h' n (opRail q x).1 (cdL [eIA] (opRail q x).2) → Fr h h' 128 138 → K (.inl (some (.int (i3 (rvI (opRail q x).2))))) n h'
theorem sp_X7_setRail : Sp yX7_setRail cX7_setRail 3 (some .int) 11 256 0 0 spec_X7_setRail := by
  refine sp_intro (by decide) (by rintro args n h K ⟨q, t, x, rfl, -⟩; exact Nat.le_of_ble_eq_true rfl) ?_
  rintro X args n h K hc hr ⟨q, t, x, rfl, hx, ⟨I, F, hM0, hF, -, hGq, hOq⟩, kk⟩
  unfold opRail at kk
  refine sX7_setRail_0 hc hr hM0.o rfl ⟨⟨hx, ⟨by decide, by decide⟩, ⟨by decide, by decide⟩⟩, fun c => ?_, fun c => ?_⟩
  · rw [if_neg c, cd_1] at kk
    exact kk _ ⟨va_up I 0 1, F, hM0.uo (va_up I 0 1), hF.thr 1, up_self, hGq, hOq⟩ (Fr.rf.up (by omega))
  · rw [if_pos c] at kk
    refine ⟨va_up I 0 0, F, q.1, q.2.1, rfl, hM0.uo (va_up I 0 0), hF.1, hF.2.1.1, hF.2.1.2, fun h1 H hM1 hH f1 => ⟨rfl, ?_⟩⟩
    have e49 : F 1 49 = q.1.2.1 := hF.1.2.1
    have hM2 := hM1.ua (j := 1) (by omega) (va_up (F 1) 49 x)
    have g : GdS (q.1.1, x, q.1.2.2) := ⟨hGq.1.1, c, hGq.1.2.2⟩
    refine sX7_setRail_34 hc hr hM1.o rfl rfl hM1.z ⟨⟨by decide, by decide, by decide⟩, ⟨by decide, by decide, by decide⟩, _, _, (q.1.1, x, q.1.2.2), rfl, hM2, ?_, g, fun h2 I2 F2 hM3 hZ3 kI kZ f2 => ⟨rfl, ?_⟩⟩
    · rw [up_self]
      exact ⟨hF.1.1.up (by decide) x, up_self, (up_ne (by decide)).trans hF.1.2.2.1, (up_ne (by decide)).trans hF.1.2.2.2⟩
    · have r3 : (va_up F 3 H) 1 (49 : Int).toNat = q.1.2.1 := e49
      rw [r3]
      refine sX7_setRail_54 hc hr (kk h2 ?_ (((Fr.rf.up (by omega)).tr f1).tr ((Fr.rf.up (by omega)).tr f2)))
      exact rec_set (t := 0) hF rfl (fun j hj => by rcases hj with e | e | e <;> subst e <;> rfl) hH hM3 hZ3 kI kZ hGq hOq g.set (setS_ok g)
set_option maxHeartbeats 4000000 in
set_option maxRecDepth 100000 in
theorem sX7_setValue_0 {X : Xt} {n : Nat} {h : HP} {a0 : Nat} {x1 : Int} {x2 : Int} {fs1 : List Value} {q2 : Nat} {f3 : Nat → Int} {ps4 : List Part} (hc : Cx X cX7_setValue RX7 4 11 256) {K : KT} (hr : CxR X (some .int) K) (e1 : At h n a0 (.inl (7, fs1))) (z1 : fs1.length = 24) (v1_1 : fs1[1]? = some (.ref q2)) (e3 : At h n q2 (ai 52 f3)) (hP4 : ZPs f3 ps4)
    (P : (R3 x1) ∧ ((decide (0 ≤ x1 ∧ x1 < ps4.length)) = true → ((0 ≤ (4 : Int) * x1 ∧ (4 : Int) * x1 < 52) ∧ R3 2 ∧ R3 (f3 (4 * x1 : Int).toNat)) ∧ (¬ f3 (4 * x1 : Int).toNat = 2 → ((0 ≤ x1 ∧ x1 < ps4.length) ∧ R3 x2) ∧ ((valB (pAt ps4 x1) x2) = false → K (.inl (some (.int (i3 0)))) n (va_up h a0 (.inl (7, (fs1.set 0 (.int (i3 3))))))) ∧ ((valB (pAt ps4 x1) x2) = true → spec_X7_record [.ref a0] n (va_up h a0 (.inl (7, (fs1.set 0 (.int (i3 0)))))) (kc X 0 0 53 [(0, .ref a0), (1, .int (i3 x1)), (2, .int (i3 x2))] [] n))) ∧ (f3 (4 * x1 : Int).toNat = 2 → K (.inl (some (.int (i3 0)))) n (va_up h a0 (.inl (7, (fs1.set 0 (.int (i3 2)))))))) ∧ ((decide (0 ≤ x1 ∧ x1 < ps4.length)) = false → K (.inl (some (.int (i3 0)))) n (va_up h a0 (.inl (7, (fs1.set 0 (.int (i3 1)))))))) :
    Ok X 0 0 0 [(0, .ref a0), (1, .int (i3 x1)), (2, .int (i3 x2))] [] n h := by
  refine ok_aload_n (pc := 0) hc dX7_setValue_0 rfl 0 rfl ?_
  refine ok_aload_n (pc := 1) hc dX7_setValue_1 rfl 0 rfl ?_
  refine ok_iload_n (pc := 2) hc dX7_setValue_2 rfl 1 rfl ?_
  obtain ⟨r0, P⟩ := P
  refine ok_callV (pc := 3) (a := a0) (cb := 0) (sb := 0) (st := [.ref a0]) hc [.int (i3 x1)] cv_X7_153 sp_X7_isPartB (by decide) dX7_setValue_3 rfl e1.1 e1.2 rfl rfl rfl (Nat.le_of_ble_eq_true rfl) (⟨_, _, _, _, rfl, ⟨_, _, ⟨e1.1, e1.2⟩, z1, v1_1, ⟨e3.1, e3.2⟩⟩, hP4, r0, rfl, ?_⟩)
  show Ok X 0 0 (3 + 3) [(0, .ref a0), (1, .int (i3 x1)), (2, .int (i3 x2))] [.int (i3 (bz (decide (0 ≤ x1 ∧ x1 < ps4.length)))), .ref a0] n h
  refine zk_if_ne (pc := 6) (tgt := 13) hc dX7_setValue_6 (by decide) R3_bz (fun c => ?_) (fun c => ?_)
  · have P := P.1 (bz_1.mp c)
    refine ok_aload_n (pc := 13) hc dX7_setValue_13 rfl 0 rfl ?_
    refine ok_iload_n (pc := 14) hc dX7_setValue_14 rfl 1 rfl ?_
    refine ok_iconst (pc := 15) hc (v := i3 2) dX7_setValue_15 (by decide) ?_
    obtain ⟨r0, P⟩ := P
    refine ok_callV (pc := 16) (a := a0) (cb := 0) (sb := 0) (st := [.ref a0]) hc [.int (i3 x1), .int (i3 2)] cv_X7_60 sp_X7_is (by decide) dX7_setValue_16 rfl e1.1 e1.2 rfl rfl rfl (Nat.le_of_ble_eq_true rfl) (⟨_, _, _, _, rfl, ⟨_, _, ⟨e1.1, e1.2⟩, z1, v1_1, ⟨e3.1, e3.2⟩⟩, r0.1, r0.2.1, r0.2.2, rfl, ?_⟩)
    show Ok X 0 0 (16 + 3) [(0, .ref a0), (1, .int (i3 x1)), (2, .int (i3 x2))] [.int (i3 (isZ f3 x1 2)), .ref a0] n h
    refine zk_if_eq (pc := 19) (tgt := 26) hc dX7_setValue_19 (by decide) R3_isZ (fun c => ?_) (fun c => ?_)
    · have P := P.1 (isZ_0.mp c)
      refine ok_aload_n (pc := 26) hc dX7_setValue_26 rfl 0 rfl ?_
      refine ok_iload_n (pc := 27) hc dX7_setValue_27 rfl 1 rfl ?_
      refine ok_iload_n (pc := 28) hc dX7_setValue_28 rfl 2 rfl ?_
      obtain ⟨r0, P⟩ := P
      refine ok_callV (pc := 29) (a := a0) (cb := 0) (sb := 0) (st := [.ref a0]) hc [.int (i3 x1), .int (i3 x2)] cv_X7_156 sp_X7_isValue (by decide) dX7_setValue_29 rfl e1.1 e1.2 rfl rfl rfl (Nat.le_of_ble_eq_true rfl) (⟨_, _, _, _, _, rfl, ⟨_, _, ⟨e1.1, e1.2⟩, z1, v1_1, ⟨e3.1, e3.2⟩⟩, hP4, r0.1, r0.2, rfl, ?_⟩)
      show Ok X 0 0 (29 + 3) [(0, .ref a0), (1, .int (i3 x1)), (2, .int (i3 x2))] [.int (i3 (bz (valB (pAt ps4 x1) x2))), .ref a0] n h
      refine zk_if_eq (pc := 32) (tgt := 39) hc dX7_setValue_32 (by decide) R3_bz (fun c => ?_) (fun c => ?_)
      · have P := P.1 (bz_0.mp c)
        refine ok_iconst (pc := 39) hc (v := i3 3) dX7_setValue_39 (by decide) ?_
        refine ok_put (pc := 40) hc fl_X7_41 dX7_setValue_40 e1.1 e1.2 (by simp [List.length_set, z1]) (fun _ => rfl) (fun _ => rfl) ?_
        refine ok_aload_n (pc := 43) hc dX7_setValue_43 rfl 0 rfl ?_
        refine ok_get (pc := 44) hc fl_X7_41 dX7_setValue_44 e1.1 up_self (set_self (by simp [List.length_set, z1])) ?_
        refine zk_if_le (pc := 47) (tgt := 52) hc dX7_setValue_47 (by decide) ⟨by decide, by decide⟩ (fun c => absurd c (by decide)) (fun _ => ?_)
        refine ok_iconst (pc := 50) hc (v := i3 0) dX7_setValue_50 (by decide) ?_
        exact ok_iret (st := []) (pc := 51) hc hr dX7_setValue_51 P
      · have P := P.2 (bz_1.mp c)
        refine ok_iconst (pc := 35) hc (v := i3 0) dX7_setValue_35 (by decide) ?_
        refine ok_goto (pc := 36) (tgt := 40) hc dX7_setValue_36 (by decide) ?_
        refine ok_put (pc := 40) hc fl_X7_41 dX7_setValue_40 e1.1 e1.2 (by simp [List.length_set, z1]) (fun _ => rfl) (fun _ => rfl) ?_
        refine ok_aload_n (pc := 43) hc dX7_setValue_43 rfl 0 rfl ?_
        refine ok_get (pc := 44) hc fl_X7_41 dX7_setValue_44 e1.1 up_self (set_self (by simp [List.length_set, z1])) ?_
        refine zk_if_le (pc := 47) (tgt := 52) hc dX7_setValue_47 (by decide) ⟨by decide, by decide⟩ (fun _ => ?_) (fun c => absurd c (by decide))
        refine ok_aload_n (pc := 52) hc dX7_setValue_52 rfl 0 rfl ?_
        exact ok_callV (pc := 53) (a := a0) (cb := 0) (sb := 0) (st := []) hc [] cv_X7_147 sp_X7_record (by decide) dX7_setValue_53 rfl e1.1 up_self rfl rfl rfl (Nat.le_of_ble_eq_true rfl) P
    · have P := P.2 (isZ_1.mp c)
      refine ok_iconst (pc := 22) hc (v := i3 2) dX7_setValue_22 (by decide) ?_
      refine ok_goto (pc := 23) (tgt := 40) hc dX7_setValue_23 (by decide) ?_
      refine ok_put (pc := 40) hc fl_X7_41 dX7_setValue_40 e1.1 e1.2 (by simp [List.length_set, z1]) (fun _ => rfl) (fun _ => rfl) ?_
      refine ok_aload_n (pc := 43) hc dX7_setValue_43 rfl 0 rfl ?_
      refine ok_get (pc := 44) hc fl_X7_41 dX7_setValue_44 e1.1 up_self (set_self (by simp [List.length_set, z1])) ?_
      refine zk_if_le (pc := 47) (tgt := 52) hc dX7_setValue_47 (by decide) ⟨by decide, by decide⟩ (fun c => absurd c (by decide)) (fun _ => ?_)
      refine ok_iconst (pc := 50) hc (v := i3 0) dX7_setValue_50 (by decide) ?_
      exact ok_iret (st := []) (pc := 51) hc hr dX7_setValue_51 P
  · have P := P.2 (bz_0.mp c)
    refine ok_iconst (pc := 9) hc (v := i3 1) dX7_setValue_9 (by decide) ?_
    refine ok_goto (pc := 10) (tgt := 40) hc dX7_setValue_10 (by decide) ?_
    refine ok_put (pc := 40) hc fl_X7_41 dX7_setValue_40 e1.1 e1.2 (by simp [List.length_set, z1]) (fun _ => rfl) (fun _ => rfl) ?_
    refine ok_aload_n (pc := 43) hc dX7_setValue_43 rfl 0 rfl ?_
    refine ok_get (pc := 44) hc fl_X7_41 dX7_setValue_44 e1.1 up_self (set_self (by simp [List.length_set, z1])) ?_
    refine zk_if_le (pc := 47) (tgt := 52) hc dX7_setValue_47 (by decide) ⟨by decide, by decide⟩ (fun c => absurd c (by decide)) (fun _ => ?_)
    refine ok_iconst (pc := 50) hc (v := i3 0) dX7_setValue_50 (by decide) ?_
    exact ok_iret (st := []) (pc := 51) hc hr dX7_setValue_51 P

set_option maxHeartbeats 4000000 in
set_option maxRecDepth 100000 in
theorem sX7_setValue_56 {X : Xt} {n : Nat} {h : HP} {a0 : Nat} {x1 : Int} {x2 : Int} {fs1 : List Value} {q2 : Nat} {f3 : Nat → Int} (hc : Cx X cX7_setValue RX7 4 11 256) {K : KT} (hr : CxR X (some .int) K) (e1 : At h n a0 (.inl (7, fs1))) (z1 : fs1.length = 24) (v1_1 : fs1[1]? = some (.ref q2)) (e3 : At h n q2 (ai 52 f3))
    (P : (0 ≤ (4 : Int) * x1 + 3 ∧ (4 : Int) * x1 + 3 < 52) ∧ (Ix ((4 * x1) + 3) 52) ∧ spec_X7_settle [.ref a0] n (va_up h q2 (ai 52 (va_up f3 (((4 * x1) + 3) : Int).toNat x2))) (kc X 0 0 75 [(0, .ref a0), (1, .int (i3 x1)), (2, .int (i3 x2)), (3, .int (i3 (f3 (4 * x1 + 3 : Int).toNat)))] [] n)) :
    Ok X 0 0 56 [(0, .ref a0), (1, .int (i3 x1)), (2, .int (i3 x2))] [] n h := by
  refine ok_aload_n (pc := 56) hc dX7_setValue_56 rfl 0 rfl ?_
  refine ok_iload_n (pc := 57) hc dX7_setValue_57 rfl 1 rfl ?_
  refine ok_iconst (pc := 58) hc (v := i3 3) dX7_setValue_58 (by decide) ?_
  obtain ⟨r0, P⟩ := P
  refine ok_callV (pc := 59) (a := a0) (cb := 0) (sb := 0) (st := []) hc [.int (i3 x1), .int (i3 3)] cv_X7_49 sp_X7_of (by decide) dX7_setValue_59 rfl e1.1 e1.2 rfl rfl rfl (Nat.le_of_ble_eq_true rfl) (⟨_, _, _, _, rfl, ⟨_, _, ⟨e1.1, e1.2⟩, z1, v1_1, ⟨e3.1, e3.2⟩⟩, r0, rfl, ?_⟩)
  show Ok X 0 0 (59 + 3) [(0, .ref a0), (1, .int (i3 x1)), (2, .int (i3 x2))] [.int (i3 (f3 (4 * x1 + 3 : Int).toNat))] n h
  refine ok_istore_n (pc := 62) hc (lv' := [(3, .int (i3 (f3 (4 * x1 + 3 : Int).toNat))), (0, .ref a0), (1, .int (i3 x1)), (2, .int (i3 x2))]) dX7_setValue_62 rfl (by decide) rfl ?_
  refine ok_aload_n (pc := 63) hc dX7_setValue_63 rfl 1 rfl ?_
  refine ok_get (pc := 64) hc fl_X7_7 dX7_setValue_64 e1.1 e1.2 v1_1 ?_
  refine ok_iconst (pc := 67) hc (v := i3 4) dX7_setValue_67 (by decide) ?_
  refine ok_iload_n (pc := 68) hc dX7_setValue_68 rfl 2 rfl ?_
  refine zk_imul (pc := 69) hc dX7_setValue_69 ?_
  refine ok_iconst (pc := 70) hc (v := i3 3) dX7_setValue_70 (by decide) ?_
  refine zk_iadd (pc := 71) hc dX7_setValue_71 ?_
  refine ok_iload_n (pc := 72) hc dX7_setValue_72 rfl 3 rfl ?_
  obtain ⟨r, P⟩ := P
  refine zk_iast (pc := 73) hc dX7_setValue_73 e3.1 e3.2 r ?_
  refine ok_aload_n (pc := 74) hc dX7_setValue_74 rfl 1 rfl ?_
  refine ok_lv [1, 2, 3, 0] rfl ?_
  exact ok_callV (pc := 75) (a := a0) (cb := 0) (sb := 0) (st := []) hc [] cv_X7_150 sp_X7_settle (by decide) dX7_setValue_75 rfl e1.1 ((up_ne (ne_oa e1.2 e3.2)).trans e1.2) rfl rfl rfl (Nat.le_of_ble_eq_true rfl) P

set_option maxHeartbeats 4000000 in
set_option maxRecDepth 100000 in
theorem sX7_setValue_78 {X : Xt} {n : Nat} {h : HP} {a0 : Nat} {x1 : Int} {x2 : Int} {x3 : Int} (hc : Cx X cX7_setValue RX7 4 11 256) {K : KT} (hr : CxR X (some .int) K) 
    (P : K (.inl (some (.int (i3 x3)))) n h) :
    Ok X 0 0 78 [(0, .ref a0), (1, .int (i3 x1)), (2, .int (i3 x2)), (3, .int (i3 x3))] [] n h := by
  refine ok_iload_n (pc := 78) hc dX7_setValue_78 rfl 3 rfl ?_
  exact ok_iret (st := []) (pc := 79) hc hr dX7_setValue_79 P

theorem prt_in {ps : List Part} {x : Int} (h : 0 ≤ x ∧ x < ps.length) : prt ps x = some (pAt ps x) := by
  unfold prt
  rw [if_neg (by omega)]
  exact pAt_some h
theorem prt_out {ps : List Part} {x : Int} (h : ¬ (0 ≤ x ∧ x < ps.length)) : prt ps x = none := by
  unfold prt
  by_cases c : x < 0
  · rw [if_pos c]
  · rw [if_neg c]
    exact List.getElem?_eq_none (by omega)
theorem ZPs.set {Z : Nat → Int} {ps : List Part} (h : ZPs Z ps) {i : Nat} {p : Part} (hp : ps[i]? = some p) {v : Int} (hv : PW (valP p v)) : ZPs (va_up Z (4 * i + 3) v) (ps.set i (valP p v)) := by
  have hi := (List.getElem?_eq_some_iff.mp hp).1
  have hl := h.2.1
  refine ⟨?_, by rw [List.length_set]; exact hl, fun j hj => ?_, fun q hq => ?_⟩
  · rw [List.length_set, up_ne (by omega)]
    exact h.1
  · rw [List.length_set] at hj
    by_cases c : j = i
    · subst c
      have hz := h.of hp
      rw [List.getElem?_set_self hj, up_ne (by omega), up_ne (by omega), up_ne (by omega), up_self, hz.1, hz.2.1, hz.2.2.1]
      rfl
    · rw [List.getElem?_set_ne (fun z => c z.symm), up_ne (by omega), up_ne (by omega), up_ne (by omega), up_ne (by omega)]
      exact h.2.2.1 j hj
  · rcases List.mem_or_eq_of_mem_set hq with z | z
    · exact h.2.2.2 q z
    · rw [z]
      exact hv
theorem gdS_val {S : Stt} (h : GdS S) {i : Nat} {p : Part} {v : Int} (hp : S.1[i]? = some p) (h2 : p.1 ≠ 2) (hv : stlB p v = true) : GdS (S.1.set i (valP p v), S.2) := by
  have gg := h.1.val hp h2 (val_pw (h.1.2.2.1 p (List.mem_of_getElem? hp)).1 h2 hv)
  refine ⟨gg.1, h.2.1, ?_, h.2.2.2⟩
  show 0 ≤ S.2.2.1 ∧ S.2.2.1 < 3 ^ nA (S.1.set i (valP p v))
  rw [gg.2]
  exact h.2.2.1
theorem ZSt.val {Z : Nat → Int} {S : Stt} (h : ZSt Z S) {i : Nat} {p : Part} {v : Int} (hp : S.1[i]? = some p) (hv : PW (valP p v)) : ZSt (va_up Z (4 * i + 3) v) (S.1.set i (valP p v), S.2) := by
  have hi := (List.getElem?_eq_some_iff.mp hp).1
  have hl := h.1.2.1
  exact ⟨h.1.set hp hv, (up_ne (by omega)).trans h.2.1, (up_ne (by omega)).trans h.2.2.1, (up_ne (by omega)).trans h.2.2.2⟩
def spec_X7_setValue (args : List Value) (n : Nat) (h : HP) (K : KT) : Prop := ∃ (q : Dsk) (t x v : Int), args = [.ref 128, .int (i3 x), .int (i3 v)] ∧ R3 x ∧ R3 v ∧ MdA h n q t ∧ ∀ h', MdA h' n (opValue q x v).1 (cdL [eIO, eIS, eIA] (opValue q x v).2) → Fr h h' 128 138 → K (.inl (some (.int (i3 (rvI (opValue q x v).2))))) n h'
theorem sp_X7_setValue : Sp yX7_setValue cX7_setValue 4 (some .int) 11 256 0 0 spec_X7_setValue := by
  refine sp_intro (by decide) (by rintro args n h K ⟨q, t, x, v, rfl, -⟩; exact Nat.le_of_ble_eq_true rfl) ?_
  rintro X args n h K hc hr ⟨q, t, x, v, rfl, hx, hv, ⟨I, F, hM0, hF, -, hGq, hOq⟩, kk⟩
  have hP := hF.1.1
  have hl := hP.2.1
  unfold opValue at kk
  have ret : ∀ tt : Int, MdA (va_up h 128 (.inl (7, mf (va_up I 0 tt)))) n q tt := fun tt => ⟨va_up I 0 tt, F, hM0.uo _, hF.thr tt, up_self, hGq, hOq⟩
  refine sX7_setValue_0 hc hr hM0.o rfl rfl hM0.z hP ⟨hx, fun c => ?_, fun c => ?_⟩
  · have hxr := of_decide_eq_true c
    have hp := pAt_some hxr
    rw [prt_in hxr] at kk
    obtain ⟨i, rfl⟩ : ∃ i : Nat, x = i := ⟨x.toNat, by omega⟩
    rw [show (i : Int).toNat = i by omega] at hp kk
    generalize pAt q.1.1 i = p at hp kk ⊢
    simp only at kk
    have hz := hP.of hp
    have hb := (hP.2.2.2 p (List.mem_of_getElem? hp)).b
    have e0 : F 1 (4 * (i : Int)).toNat = p.1 := by rw [show (4 * (i : Int)).toNat = 4 * i by omega, hz.1]
    rw [e0]
    refine ⟨⟨by omega, ⟨by decide, by decide⟩, R3_s (by omega)⟩, fun c2 => ⟨⟨by omega, hv⟩, fun cv => ?_, fun cv => ?_⟩, fun c2 => ?_⟩
    · have cv' : ¬ stlB p v = true := by
        intro z
        have : valB p v = stlB p v := rfl
        rw [this, z] at cv
        cases cv
      rw [if_neg c2, if_neg cv', cd_3 _ ne_OA ne_AS.symm] at kk
      exact kk _ (ret 3) (Fr.rf.up (by omega))
    · have cv' : stlB p v = true := cv
      rw [if_neg c2, if_pos cv'] at kk
      refine ⟨va_up I 0 0, F, q.1, q.2.1, rfl, hM0.uo (va_up I 0 0), hF.1, hF.2.1.1, hF.2.1.2, fun h1 H hM1 hH f1 => ⟨rfl, ?_⟩⟩
      have hM2 := hM1.ua (j := 1) (by omega) (va_up (F 1) (4 * i + 3) v)
      have g := gdS_val hGq.1 hp c2 cv'
      have e3 : (4 * (i : Int) + 3).toNat = 4 * i + 3 := by omega
      have r3 : (va_up F 3 H) 1 (4 * (i : Int) + 3).toNat = p.2.2.2 := by
        rw [e3]
        exact hz.2.2.2
      refine sX7_setValue_56 hc hr hM1.o rfl rfl hM1.z ⟨by omega, ⟨by omega, by omega, by omega⟩, ?_⟩
      rw [r3, e3]
      refine ⟨_, _, (q.1.1.set i (valP p v), q.1.2), rfl, hM2, ?_, g, fun h2 I2 F2 hM3 hZ3 kI kZ f2 => ⟨rfl, ?_⟩⟩
      · rw [up_self]
        exact hF.1.val hp (val_pw (hP.2.2.2 p (List.mem_of_getElem? hp)) c2 cv')
      · refine sX7_setValue_78 hc hr (kk h2 ?_ (((Fr.rf.up (by omega)).tr f1).tr ((Fr.rf.up (by omega)).tr f2)))
        exact rec_set (t := 0) hF rfl (fun j hj => by rcases hj with e | e | e <;> subst e <;> rfl) hH hM3 hZ3 kI kZ hGq hOq g.set (setS_ok g)
    · rw [if_pos c2, cd_2 _ ne_OS] at kk
      exact kk _ (ret 2) (Fr.rf.up (by omega))
  · rw [prt_out (of_decide_eq_false c)] at kk
    simp only [cd_1] at kk
    exact kk _ (ret 1) (Fr.rf.up (by omega))
set_option maxHeartbeats 4000000 in
set_option maxRecDepth 100000 in
theorem sX7_takeOut_0 {X : Xt} {n : Nat} {h : HP} {a0 : Nat} {x1 : Int} (hc : Cx X cX7_takeOut RX7 4 0 0) {K : KT} (hr : CxR X none K) 
    (P : Ok X 0 0 4 [(0, .ref a0), (1, .int (i3 x1)), (2, .int (i3 1)), (3, .int (i3 0))] [] n h) :
    Ok X 0 0 0 [(0, .ref a0), (1, .int (i3 x1))] [] n h := by
  refine ok_iconst (pc := 0) hc (v := i3 1) dX7_takeOut_0 (by decide) ?_
  refine ok_istore_n (pc := 1) hc (lv' := [(2, .int (i3 1)), (0, .ref a0), (1, .int (i3 x1))]) dX7_takeOut_1 rfl (by decide) rfl ?_
  refine ok_iconst (pc := 2) hc (v := i3 0) dX7_takeOut_2 (by decide) ?_
  refine ok_istore_n (pc := 3) hc (lv' := [(3, .int (i3 0)), (2, .int (i3 1)), (0, .ref a0), (1, .int (i3 x1))]) dX7_takeOut_3 rfl (by decide) rfl ?_
  refine ok_lv [2, 3, 1, 0] rfl ?_
  exact P

set_option maxHeartbeats 4000000 in
set_option maxRecDepth 100000 in
theorem sX7_takeOut_4 {X : Xt} {n : Nat} {h : HP} {a0 : Nat} {x1 : Int} {x2 : Int} {x3 : Int} (hc : Cx X cX7_takeOut RX7 4 0 0) {K : KT} (hr : CxR X none K) 
    (P : (R3 x3) ∧ (R3 x1) ∧ (x1 ≤ x3 → Ok X 0 0 19 [(0, .ref a0), (1, .int (i3 x1)), (2, .int (i3 x2)), (3, .int (i3 x3))] [] n h) ∧ (¬ x1 ≤ x3 → Ok X 0 0 4 [(0, .ref a0), (1, .int (i3 x1)), (2, .int (i3 (x2 * 3))), (3, .int (i3 (x3 + 1)))] [] n h)) :
    Ok X 0 0 4 [(0, .ref a0), (1, .int (i3 x1)), (2, .int (i3 x2)), (3, .int (i3 x3))] [] n h := by
  refine ok_iload_n (pc := 4) hc dX7_takeOut_4 rfl 3 rfl ?_
  refine ok_iload_n (pc := 5) hc dX7_takeOut_5 rfl 1 rfl ?_
  obtain ⟨r1, P⟩ := P
  obtain ⟨r2, P⟩ := P
  refine zk_icmp_ge (pc := 6) (tgt := 19) hc dX7_takeOut_6 (by decide) r1 r2 (fun c => ?_) (fun c => ?_)
  · have P := P.1 c
    exact P
  · have P := P.2 c
    refine ok_iload_n (pc := 9) hc dX7_takeOut_9 rfl 2 rfl ?_
    refine ok_iconst (pc := 10) hc (v := i3 3) dX7_takeOut_10 (by decide) ?_
    refine zk_imul (pc := 11) hc dX7_takeOut_11 ?_
    refine ok_istore_n (pc := 12) hc (lv' := [(2, .int (i3 (x2 * 3))), (0, .ref a0), (1, .int (i3 x1)), (3, .int (i3 x3))]) dX7_takeOut_12 rfl (by decide) rfl ?_
    refine zk_iinc (pc := 13) hc (q := 3) (x := x3) (lv' := [(3, .int (i3 (x3 + 1))), (2, .int (i3 (x2 * 3))), (0, .ref a0), (1, .int (i3 x1))]) dX7_takeOut_13 rfl (by decide) rfl ?_
    refine ok_goto (pc := 16) (tgt := 4) hc dX7_takeOut_16 (by decide) ?_
    refine ok_lv [2, 3, 1, 0] rfl ?_
    exact P

set_option maxHeartbeats 4000000 in
set_option maxRecDepth 100000 in
theorem sX7_takeOut_19 {X : Xt} {n : Nat} {h : HP} {a0 : Nat} {x1 : Int} {x2 : Int} {x3 : Int} {fs1 : List Value} {q2 : Nat} {len3 : Nat} {f3 : Nat → Int} (hc : Cx X cX7_takeOut RX7 4 0 0) {K : KT} (hr : CxR X none K) (e1 : At h n a0 (.inl (7, fs1))) (z1 : fs1.length = 24) (v1_1 : fs1[1]? = some (.ref q2)) (e3 : At h n q2 (ai len3 f3))
    (P : (Ix 50 len3) ∧ (((0 : Int) ≤ (f3 (50 : Int).toNat) ∧ (f3 (50 : Int).toNat) ≤ 2147483647) ∧ (0 : Int) < x2 ∧ (x2 : Int) ≤ 2147483647) ∧ (Ix 50 len3) ∧ (((0 : Int) ≤ (f3 (50 : Int).toNat) ∧ (f3 (50 : Int).toNat) ≤ 2147483647) ∧ (0 : Int) < (3 * x2) ∧ ((3 * x2) : Int) ≤ 2147483647) ∧ (Ix 50 len3) ∧ K (.inl none) n (va_up h q2 (ai len3 (va_up f3 (50 : Int).toNat (((f3 (50 : Int).toNat) % x2) + (((f3 (50 : Int).toNat) / (3 * x2)) * x2)))))) :
    Ok X 0 0 19 [(0, .ref a0), (1, .int (i3 x1)), (2, .int (i3 x2)), (3, .int (i3 x3))] [] n h := by
  refine ok_aload_n (pc := 19) hc dX7_takeOut_19 rfl 0 rfl ?_
  refine ok_get (pc := 20) hc fl_X7_7 dX7_takeOut_20 e1.1 e1.2 v1_1 ?_
  refine ok_bipush (pc := 23) hc (v := i3 50) dX7_takeOut_23 (by decide) ?_
  refine ok_aload_n (pc := 25) hc dX7_takeOut_25 rfl 0 rfl ?_
  refine ok_get (pc := 26) hc fl_X7_7 dX7_takeOut_26 e1.1 e1.2 v1_1 ?_
  refine ok_bipush (pc := 29) hc (v := i3 50) dX7_takeOut_29 (by decide) ?_
  obtain ⟨r, P⟩ := P
  refine zk_iald (pc := 31) hc dX7_takeOut_31 e3.1 e3.2 r ?_
  refine ok_iload_n (pc := 32) hc dX7_takeOut_32 rfl 2 rfl ?_
  obtain ⟨r, P⟩ := P
  refine zk_irem (pc := 33) hc dX7_takeOut_33 r ?_
  refine ok_aload_n (pc := 34) hc dX7_takeOut_34 rfl 0 rfl ?_
  refine ok_get (pc := 35) hc fl_X7_7 dX7_takeOut_35 e1.1 e1.2 v1_1 ?_
  refine ok_bipush (pc := 38) hc (v := i3 50) dX7_takeOut_38 (by decide) ?_
  obtain ⟨r, P⟩ := P
  refine zk_iald (pc := 40) hc dX7_takeOut_40 e3.1 e3.2 r ?_
  refine ok_iconst (pc := 41) hc (v := i3 3) dX7_takeOut_41 (by decide) ?_
  refine ok_iload_n (pc := 42) hc dX7_takeOut_42 rfl 2 rfl ?_
  refine zk_imul (pc := 43) hc dX7_takeOut_43 ?_
  obtain ⟨r, P⟩ := P
  refine zk_idiv (pc := 44) hc dX7_takeOut_44 r ?_
  refine ok_iload_n (pc := 45) hc dX7_takeOut_45 rfl 2 rfl ?_
  refine zk_imul (pc := 46) hc dX7_takeOut_46 ?_
  refine zk_iadd (pc := 47) hc dX7_takeOut_47 ?_
  obtain ⟨r, P⟩ := P
  refine zk_iast (pc := 48) hc dX7_takeOut_48 e3.1 e3.2 r ?_
  exact ok_vret (st := []) (pc := 49) hc hr dX7_takeOut_49 P

def spec_X7_takeOut (args : List Value) (n : Nat) (h : HP) (K : KT) : Prop := ∃ (I : Nat → Int) (F : Nat → Nat → Int) (a : Nat), args = [.ref 128, .int (i3 a)] ∧ MAt h n I F ∧ (a ≤ 3 ∧ 0 ≤ F 1 50 ∧ F 1 50 ≤ 1000) ∧ K (.inl none) n (va_up h 129 (ai 52 (va_up (F 1) 50 (outC (F 1 50) a))))
theorem sp_X7_takeOut : Sp yX7_takeOut cX7_takeOut 4 none 0 0 0 0 spec_X7_takeOut := by
  refine sp_intro (by decide) (by rintro args n h K ⟨I, F, a, rfl, -⟩; exact Nat.le_of_ble_eq_true rfl) ?_
  rintro X args n h K hc hr ⟨I, F, a, rfl, hM, ⟨ha, h50, h50'⟩, kk⟩
  have e50 : F 1 (50 : Int).toNat = F 1 50 := rfl
  have L : ∀ (j i : Nat), i + j = a → Ok X 0 0 4 [(0, .ref 128), (1, .int (i3 a)), (2, .int (i3 ((3 : Int) ^ i))), (3, .int (i3 i))] [] n h := by
    intro j
    induction j with
    | zero =>
      intro i hi
      have : i = a := by omega
      subst this
      have hp := pow3_pos i
      have h27 : (3 : Int) ^ i ≤ 27 := by
        have := pow27 ha
        rw [← pow_c]
        omega
      refine sX7_takeOut_4 hc hr ⟨R3_s (by omega), R3_s (by omega), fun _ => sX7_takeOut_19 hc hr hM.o rfl rfl hM.z ⟨⟨by decide, by decide, by decide⟩, ?_⟩, fun z => absurd (Int.le_refl _) z⟩
      rw [e50]
      refine ⟨⟨by omega, hp, by omega⟩, ⟨by decide, by decide, by decide⟩, ⟨by omega, by omega, by omega⟩, ⟨by decide, by decide, by decide⟩, ?_⟩
      have : F 1 50 % 3 ^ i + F 1 50 / (3 * 3 ^ i) * 3 ^ i = outC (F 1 50) i := Int.add_comm _ _
      rw [this]
      exact kk
    | succ j ih =>
      intro i hi
      have i1 := ih (i + 1) (by omega)
      rw [Int.pow_succ] at i1
      exact sX7_takeOut_4 hc hr ⟨R3_s (by omega), R3_s (by omega), fun z => absurd z (by omega), fun _ => i1⟩
  exact sX7_takeOut_0 hc hr (L a 0 (by omega))
set_option maxHeartbeats 4000000 in
set_option maxRecDepth 100000 in
theorem sX7_drop_0 {X : Xt} {n : Nat} {h : HP} {a0 : Nat} {x1 : Int} {fs1 : List Value} {q2 : Nat} {f3 : Nat → Int} {ps4 : List Part} (hc : Cx X cX7_drop RX7 3 11 256) {K : KT} (hr : CxR X (some .int) K) (e1 : At h n a0 (.inl (7, fs1))) (z1 : fs1.length = 24) (v1_1 : fs1[1]? = some (.ref q2)) (e3 : At h n q2 (ai 52 f3)) (hP4 : ZPs f3 ps4)
    (P : (R3 x1) ∧ ((decide (0 ≤ x1 ∧ x1 < ps4.length)) = false → K (.inl (some (.int (i3 0)))) n (va_up h a0 (.inl (7, (fs1.set 0 (.int (i3 1))))))) ∧ ((decide (0 ≤ x1 ∧ x1 < ps4.length)) = true → spec_X7_record [.ref a0] n (va_up h a0 (.inl (7, (fs1.set 0 (.int (i3 0)))))) (kc X 0 0 27 [(0, .ref a0), (1, .int (i3 x1))] [] n))) :
    Ok X 0 0 0 [(0, .ref a0), (1, .int (i3 x1))] [] n h := by
  refine ok_aload_n (pc := 0) hc dX7_drop_0 rfl 0 rfl ?_
  refine ok_aload_n (pc := 1) hc dX7_drop_1 rfl 0 rfl ?_
  refine ok_iload_n (pc := 2) hc dX7_drop_2 rfl 1 rfl ?_
  obtain ⟨r0, P⟩ := P
  refine ok_callV (pc := 3) (a := a0) (cb := 0) (sb := 0) (st := [.ref a0]) hc [.int (i3 x1)] cv_X7_153 sp_X7_isPartB (by decide) dX7_drop_3 rfl e1.1 e1.2 rfl rfl rfl (Nat.le_of_ble_eq_true rfl) (⟨_, _, _, _, rfl, ⟨_, _, ⟨e1.1, e1.2⟩, z1, v1_1, ⟨e3.1, e3.2⟩⟩, hP4, r0, rfl, ?_⟩)
  show Ok X 0 0 (3 + 3) [(0, .ref a0), (1, .int (i3 x1))] [.int (i3 (bz (decide (0 ≤ x1 ∧ x1 < ps4.length)))), .ref a0] n h
  refine zk_if_eq (pc := 6) (tgt := 13) hc dX7_drop_6 (by decide) R3_bz (fun c => ?_) (fun c => ?_)
  · have P := P.1 (bz_0.mp c)
    refine ok_iconst (pc := 13) hc (v := i3 1) dX7_drop_13 (by decide) ?_
    refine ok_put (pc := 14) hc fl_X7_41 dX7_drop_14 e1.1 e1.2 (by simp [List.length_set, z1]) (fun _ => rfl) (fun _ => rfl) ?_
    refine ok_aload_n (pc := 17) hc dX7_drop_17 rfl 0 rfl ?_
    refine ok_get (pc := 18) hc fl_X7_41 dX7_drop_18 e1.1 up_self (set_self (by simp [List.length_set, z1])) ?_
    refine zk_if_le (pc := 21) (tgt := 26) hc dX7_drop_21 (by decide) ⟨by decide, by decide⟩ (fun c => absurd c (by decide)) (fun _ => ?_)
    refine ok_iconst (pc := 24) hc (v := i3 0) dX7_drop_24 (by decide) ?_
    exact ok_iret (st := []) (pc := 25) hc hr dX7_drop_25 P
  · have P := P.2 (bz_1.mp c)
    refine ok_iconst (pc := 9) hc (v := i3 0) dX7_drop_9 (by decide) ?_
    refine ok_goto (pc := 10) (tgt := 14) hc dX7_drop_10 (by decide) ?_
    refine ok_put (pc := 14) hc fl_X7_41 dX7_drop_14 e1.1 e1.2 (by simp [List.length_set, z1]) (fun _ => rfl) (fun _ => rfl) ?_
    refine ok_aload_n (pc := 17) hc dX7_drop_17 rfl 0 rfl ?_
    refine ok_get (pc := 18) hc fl_X7_41 dX7_drop_18 e1.1 up_self (set_self (by simp [List.length_set, z1])) ?_
    refine zk_if_le (pc := 21) (tgt := 26) hc dX7_drop_21 (by decide) ⟨by decide, by decide⟩ (fun _ => ?_) (fun c => absurd c (by decide))
    refine ok_aload_n (pc := 26) hc dX7_drop_26 rfl 0 rfl ?_
    exact ok_callV (pc := 27) (a := a0) (cb := 0) (sb := 0) (st := []) hc [] cv_X7_147 sp_X7_record (by decide) dX7_drop_27 rfl e1.1 up_self rfl rfl rfl (Nat.le_of_ble_eq_true rfl) P

set_option maxHeartbeats 4000000 in
set_option maxRecDepth 100000 in
theorem sX7_drop_30 {X : Xt} {n : Nat} {h : HP} {a0 : Nat} {x1 : Int} {fs1 : List Value} {q2 : Nat} {f3 : Nat → Int} (hc : Cx X cX7_drop RX7 3 11 256) {K : KT} (hr : CxR X (some .int) K) (e1 : At h n a0 (.inl (7, fs1))) (z1 : fs1.length = 24) (v1_1 : fs1[1]? = some (.ref q2)) (e3 : At h n q2 (ai 52 f3))
    (P : ((0 ≤ (4 : Int) * x1 ∧ (4 : Int) * x1 < 52) ∧ R3 2 ∧ R3 (f3 (4 * x1 : Int).toNat)) ∧ (¬ f3 (4 * x1 : Int).toNat = 2 → Ok X 0 0 61 [(0, .ref a0), (1, .int (i3 x1))] [] n h) ∧ (f3 (4 * x1 : Int).toNat = 2 → Ok X 0 0 41 [(0, .ref a0), (1, .int (i3 x1)), (2, .int (i3 0))] [] n h)) :
    Ok X 0 0 30 [(0, .ref a0), (1, .int (i3 x1))] [] n h := by
  refine ok_aload_n (pc := 30) hc dX7_drop_30 rfl 0 rfl ?_
  refine ok_iload_n (pc := 31) hc dX7_drop_31 rfl 1 rfl ?_
  refine ok_iconst (pc := 32) hc (v := i3 2) dX7_drop_32 (by decide) ?_
  obtain ⟨r0, P⟩ := P
  refine ok_callV (pc := 33) (a := a0) (cb := 0) (sb := 0) (st := []) hc [.int (i3 x1), .int (i3 2)] cv_X7_60 sp_X7_is (by decide) dX7_drop_33 rfl e1.1 e1.2 rfl rfl rfl (Nat.le_of_ble_eq_true rfl) (⟨_, _, _, _, rfl, ⟨_, _, ⟨e1.1, e1.2⟩, z1, v1_1, ⟨e3.1, e3.2⟩⟩, r0.1, r0.2.1, r0.2.2, rfl, ?_⟩)
  show Ok X 0 0 (33 + 3) [(0, .ref a0), (1, .int (i3 x1))] [.int (i3 (isZ f3 x1 2))] n h
  refine zk_if_eq (pc := 36) (tgt := 61) hc dX7_drop_36 (by decide) R3_isZ (fun c => ?_) (fun c => ?_)
  · have P := P.1 (isZ_0.mp c)
    exact P
  · have P := P.2 (isZ_1.mp c)
    refine ok_iconst (pc := 39) hc (v := i3 0) dX7_drop_39 (by decide) ?_
    refine ok_istore_n (pc := 40) hc (lv' := [(2, .int (i3 0)), (0, .ref a0), (1, .int (i3 x1))]) dX7_drop_40 rfl (by decide) rfl ?_
    refine ok_lv [1, 2, 0] rfl ?_
    exact P

set_option maxHeartbeats 4000000 in
set_option maxRecDepth 100000 in
theorem sX7_drop_41 {X : Xt} {n : Nat} {h : HP} {a0 : Nat} {x1 : Int} {x2 : Int} {fs1 : List Value} {q2 : Nat} {f3 : Nat → Int} {ps4 : List Part} (hc : Cx X cX7_drop RX7 3 11 256) {K : KT} (hr : CxR X (some .int) K) (e1 : At h n a0 (.inl (7, fs1))) (z1 : fs1.length = 24) (v1_1 : fs1[1]? = some (.ref q2)) (e3 : At h n q2 (ai 52 f3)) (hP4 : ZPs f3 ps4)
    (P : (0 ≤ x2 ∧ x2 < nA ps4) ∧ (R3 (pOf ps4 x2)) ∧ (R3 x1) ∧ ((pOf ps4 x2) = x1 → Ok X 0 0 56 [(0, .ref a0), (1, .int (i3 x1)), (2, .int (i3 x2))] [] n h) ∧ (¬ (pOf ps4 x2) = x1 → Ok X 0 0 41 [(0, .ref a0), (1, .int (i3 x1)), (2, .int (i3 (x2 + 1)))] [] n h)) :
    Ok X 0 0 41 [(0, .ref a0), (1, .int (i3 x1)), (2, .int (i3 x2))] [] n h := by
  refine ok_aload_n (pc := 41) hc dX7_drop_41 rfl 0 rfl ?_
  refine ok_iload_n (pc := 42) hc dX7_drop_42 rfl 2 rfl ?_
  obtain ⟨r0, P⟩ := P
  refine ok_callV (pc := 43) (a := a0) (cb := 0) (sb := 0) (st := []) hc [.int (i3 x2)] cv_X7_92 sp_X7_partOf (by decide) dX7_drop_43 rfl e1.1 e1.2 rfl rfl rfl (Nat.le_of_ble_eq_true rfl) (⟨_, _, _, _, rfl, ⟨_, _, ⟨e1.1, e1.2⟩, z1, v1_1, ⟨e3.1, e3.2⟩⟩, hP4, r0, rfl, ?_⟩)
  show Ok X 0 0 (43 + 3) [(0, .ref a0), (1, .int (i3 x1)), (2, .int (i3 x2))] [.int (i3 (pOf ps4 x2))] n h
  refine ok_iload_n (pc := 46) hc dX7_drop_46 rfl 1 rfl ?_
  obtain ⟨r5, P⟩ := P
  obtain ⟨r6, P⟩ := P
  refine zk_icmp_eq (pc := 47) (tgt := 56) hc dX7_drop_47 (by decide) r5 r6 (fun c => ?_) (fun c => ?_)
  · have P := P.1 c
    exact P
  · have P := P.2 c
    refine zk_iinc (pc := 50) hc (q := 2) (x := x2) (lv' := [(2, .int (i3 (x2 + 1))), (0, .ref a0), (1, .int (i3 x1))]) dX7_drop_50 rfl (by decide) rfl ?_
    refine ok_goto (pc := 53) (tgt := 41) hc dX7_drop_53 (by decide) ?_
    refine ok_lv [1, 2, 0] rfl ?_
    exact P

set_option maxHeartbeats 4000000 in
set_option maxRecDepth 100000 in
theorem sX7_drop_56 {X : Xt} {n : Nat} {h : HP} {a0 : Nat} {x1 : Int} {x2 : Int} {fs1 : List Value} (hc : Cx X cX7_drop RX7 3 11 256) {K : KT} (hr : CxR X (some .int) K) (e1 : At h n a0 (.inl (7, fs1))) (z1 : fs1.length = 24)
    (P : spec_X7_takeOut [.ref a0, .int (i3 x2)] n h (kc X 0 0 58 [(0, .ref a0), (1, .int (i3 x1))] [] n)) :
    Ok X 0 0 56 [(0, .ref a0), (1, .int (i3 x1)), (2, .int (i3 x2))] [] n h := by
  refine ok_aload_n (pc := 56) hc dX7_drop_56 rfl 0 rfl ?_
  refine ok_iload_n (pc := 57) hc dX7_drop_57 rfl 2 rfl ?_
  refine ok_lv [0, 1] rfl ?_
  exact ok_callV (pc := 58) (a := a0) (cb := 0) (sb := 0) (st := []) hc [.int (i3 x2)] cv_X7_159 sp_X7_takeOut (by decide) dX7_drop_58 rfl e1.1 e1.2 rfl rfl rfl (Nat.le_of_ble_eq_true rfl) P

set_option maxHeartbeats 4000000 in
set_option maxRecDepth 100000 in
theorem sX7_drop_61 {X : Xt} {n : Nat} {h : HP} {a0 : Nat} {x1 : Int} {fs1 : List Value} {q2 : Nat} {len3 : Nat} {f3 : Nat → Int} (hc : Cx X cX7_drop RX7 3 11 256) {K : KT} (hr : CxR X (some .int) K) (e1 : At h n a0 (.inl (7, fs1))) (z1 : fs1.length = 24) (v1_1 : fs1[1]? = some (.ref q2)) (e3 : At h n q2 (ai len3 f3))
    (P : (Ix 48 len3) ∧ (Ix 48 len3) ∧ Ok X 0 0 76 [(0, .ref a0), (1, .int (i3 x1)), (2, .int (i3 (4 * x1)))] [] n (va_up h q2 (ai len3 (va_up f3 (48 : Int).toNat ((f3 (48 : Int).toNat) - 1))))) :
    Ok X 0 0 61 [(0, .ref a0), (1, .int (i3 x1))] [] n h := by
  refine ok_aload_n (pc := 61) hc dX7_drop_61 rfl 0 rfl ?_
  refine ok_get (pc := 62) hc fl_X7_7 dX7_drop_62 e1.1 e1.2 v1_1 ?_
  refine ok_bipush (pc := 65) hc (v := i3 48) dX7_drop_65 (by decide) ?_
  refine ok_dup2_11 (pc := 67) hc dX7_drop_67 rfl rfl ?_
  obtain ⟨r, P⟩ := P
  refine zk_iald (pc := 68) hc dX7_drop_68 e3.1 e3.2 r ?_
  refine ok_iconst (pc := 69) hc (v := i3 1) dX7_drop_69 (by decide) ?_
  refine zk_isub (pc := 70) hc dX7_drop_70 ?_
  obtain ⟨r, P⟩ := P
  refine zk_iast (pc := 71) hc dX7_drop_71 e3.1 e3.2 r ?_
  refine ok_iconst (pc := 72) hc (v := i3 4) dX7_drop_72 (by decide) ?_
  refine ok_iload_n (pc := 73) hc dX7_drop_73 rfl 1 rfl ?_
  refine zk_imul (pc := 74) hc dX7_drop_74 ?_
  refine ok_istore_n (pc := 75) hc (lv' := [(2, .int (i3 (4 * x1))), (0, .ref a0), (1, .int (i3 x1))]) dX7_drop_75 rfl (by decide) rfl ?_
  refine ok_lv [1, 2, 0] rfl ?_
  exact P

set_option maxHeartbeats 4000000 in
set_option maxRecDepth 100000 in
theorem sX7_drop_76 {X : Xt} {n : Nat} {h : HP} {a0 : Nat} {x1 : Int} {x2 : Int} {fs1 : List Value} {q2 : Nat} {len3 : Nat} {f3 : Nat → Int} (hc : Cx X cX7_drop RX7 3 11 256) {K : KT} (hr : CxR X (some .int) K) (e1 : At h n a0 (.inl (7, fs1))) (z1 : fs1.length = 24) (v1_1 : fs1[1]? = some (.ref q2)) (e3 : At h n q2 (ai len3 f3))
    (P : (Ix 48 len3) ∧ (R3 x2) ∧ (R3 (4 * (f3 (48 : Int).toNat))) ∧ ((4 * (f3 (48 : Int).toNat)) ≤ x2 → Ok X 0 0 109 [(0, .ref a0), (1, .int (i3 x1)), (2, .int (i3 x2))] [] n h) ∧ (¬ (4 * (f3 (48 : Int).toNat)) ≤ x2 → (Ix (x2 + 4) len3) ∧ (Ix x2 len3) ∧ Ok X 0 0 76 [(0, .ref a0), (1, .int (i3 x1)), (2, .int (i3 (x2 + 1)))] [] n (va_up h q2 (ai len3 (va_up f3 (x2 : Int).toNat (f3 ((x2 + 4) : Int).toNat)))))) :
    Ok X 0 0 76 [(0, .ref a0), (1, .int (i3 x1)), (2, .int (i3 x2))] [] n h := by
  refine ok_iload_n (pc := 76) hc dX7_drop_76 rfl 2 rfl ?_
  refine ok_iconst (pc := 77) hc (v := i3 4) dX7_drop_77 (by decide) ?_
  refine ok_aload_n (pc := 78) hc dX7_drop_78 rfl 0 rfl ?_
  refine ok_get (pc := 79) hc fl_X7_7 dX7_drop_79 e1.1 e1.2 v1_1 ?_
  refine ok_bipush (pc := 82) hc (v := i3 48) dX7_drop_82 (by decide) ?_
  obtain ⟨r, P⟩ := P
  refine zk_iald (pc := 84) hc dX7_drop_84 e3.1 e3.2 r ?_
  refine zk_imul (pc := 85) hc dX7_drop_85 ?_
  obtain ⟨r4, P⟩ := P
  obtain ⟨r5, P⟩ := P
  refine zk_icmp_ge (pc := 86) (tgt := 109) hc dX7_drop_86 (by decide) r4 r5 (fun c => ?_) (fun c => ?_)
  · have P := P.1 c
    exact P
  · have P := P.2 c
    refine ok_aload_n (pc := 89) hc dX7_drop_89 rfl 0 rfl ?_
    refine ok_get (pc := 90) hc fl_X7_7 dX7_drop_90 e1.1 e1.2 v1_1 ?_
    refine ok_iload_n (pc := 93) hc dX7_drop_93 rfl 2 rfl ?_
    refine ok_aload_n (pc := 94) hc dX7_drop_94 rfl 0 rfl ?_
    refine ok_get (pc := 95) hc fl_X7_7 dX7_drop_95 e1.1 e1.2 v1_1 ?_
    refine ok_iload_n (pc := 98) hc dX7_drop_98 rfl 2 rfl ?_
    refine ok_iconst (pc := 99) hc (v := i3 4) dX7_drop_99 (by decide) ?_
    refine zk_iadd (pc := 100) hc dX7_drop_100 ?_
    obtain ⟨r, P⟩ := P
    refine zk_iald (pc := 101) hc dX7_drop_101 e3.1 e3.2 r ?_
    obtain ⟨r, P⟩ := P
    refine zk_iast (pc := 102) hc dX7_drop_102 e3.1 e3.2 r ?_
    refine zk_iinc (pc := 103) hc (q := 2) (x := x2) (lv' := [(2, .int (i3 (x2 + 1))), (0, .ref a0), (1, .int (i3 x1))]) dX7_drop_103 rfl (by decide) rfl ?_
    refine ok_goto (pc := 106) (tgt := 76) hc dX7_drop_106 (by decide) ?_
    refine ok_lv [1, 2, 0] rfl ?_
    exact P

set_option maxHeartbeats 4000000 in
set_option maxRecDepth 100000 in
theorem sX7_drop_109 {X : Xt} {n : Nat} {h : HP} {a0 : Nat} {x1 : Int} {x2 : Int} {fs1 : List Value} (hc : Cx X cX7_drop RX7 3 11 256) {K : KT} (hr : CxR X (some .int) K) (e1 : At h n a0 (.inl (7, fs1))) (z1 : fs1.length = 24)
    (P : spec_X7_settle [.ref a0] n h (kc X 0 0 110 [(0, .ref a0), (1, .int (i3 x1)), (2, .int (i3 x2))] [] n)) :
    Ok X 0 0 109 [(0, .ref a0), (1, .int (i3 x1)), (2, .int (i3 x2))] [] n h := by
  refine ok_aload_n (pc := 109) hc dX7_drop_109 rfl 0 rfl ?_
  exact ok_callV (pc := 110) (a := a0) (cb := 0) (sb := 0) (st := []) hc [] cv_X7_150 sp_X7_settle (by decide) dX7_drop_110 rfl e1.1 e1.2 rfl rfl rfl (Nat.le_of_ble_eq_true rfl) P

set_option maxHeartbeats 4000000 in
set_option maxRecDepth 100000 in
theorem sX7_drop_113 {X : Xt} {n : Nat} {h : HP} {a0 : Nat} {x1 : Int} {x2 : Int} {fs1 : List Value} {q2 : Nat} {len3 : Nat} {f3 : Nat → Int} (hc : Cx X cX7_drop RX7 3 11 256) {K : KT} (hr : CxR X (some .int) K) (e1 : At h n a0 (.inl (7, fs1))) (z1 : fs1.length = 24) (v1_1 : fs1[1]? = some (.ref q2)) (e3 : At h n q2 (ai len3 f3))
    (P : (Ix 48 len3) ∧ K (.inl (some (.int (i3 (f3 (48 : Int).toNat))))) n h) :
    Ok X 0 0 113 [(0, .ref a0), (1, .int (i3 x1)), (2, .int (i3 x2))] [] n h := by
  refine ok_aload_n (pc := 113) hc dX7_drop_113 rfl 0 rfl ?_
  refine ok_get (pc := 114) hc fl_X7_7 dX7_drop_114 e1.1 e1.2 v1_1 ?_
  refine ok_bipush (pc := 117) hc (v := i3 48) dX7_drop_117 (by decide) ?_
  obtain ⟨r, P⟩ := P
  refine zk_iald (pc := 119) hc dX7_drop_119 e3.1 e3.2 r ?_
  exact ok_iret (st := []) (pc := 120) hc hr dX7_drop_120 P

def spec_X7_drop (args : List Value) (n : Nat) (h : HP) (K : KT) : Prop := ∃ (q : Dsk) (t x : Int), args = [.ref 128, .int (i3 x)] ∧ R3 x ∧ MdA h n q t ∧ ∀ h', MdA h' n (opDrop q x).1 (cdL [eIO] (opDrop q x).2) → Fr h h' 128 138 → K (.inl (some (.int (i3 (rvI (opDrop q x).2))))) n h'
theorem sp_X7_drop : Sp yX7_drop cX7_drop 3 (some .int) 11 256 0 0 spec_X7_drop := by
  refine sp_intro (by decide) (by rintro args n h K ⟨q, t, x, rfl, -⟩; exact Nat.le_of_ble_eq_true rfl) ?_
  rintro X args n h K hc hr ⟨q, t, x, rfl, hx, ⟨I, F, hM0, hF, -, hGq, hOq⟩, kk⟩
  have hP := hF.1.1
  have hl := hP.2.1
  unfold opDrop at kk
  refine sX7_drop_0 hc hr hM0.o rfl rfl hM0.z hP ⟨hx, fun c => ?_, fun c => ?_⟩
  · rw [prt_out (of_decide_eq_false c)] at kk
    simp only [cd_1] at kk
    exact kk _ ⟨va_up I 0 1, F, hM0.uo (va_up I 0 1), hF.thr 1, up_self, hGq, hOq⟩ (Fr.rf.up (by omega))
  · have hxr := of_decide_eq_true c
    have hp := pAt_some hxr
    rw [prt_in hxr] at kk
    obtain ⟨i, rfl⟩ : ∃ i : Nat, x = i := ⟨x.toNat, by omega⟩
    rw [show (i : Int).toNat = i by omega] at hp kk
    generalize pAt q.1.1 i = p at hp kk
    simp only at kk
    have hil : i < q.1.1.length := by omega
    have hz := hP.of hp
    have hb := (hP.2.2.2 p (List.mem_of_getElem? hp)).b
    have g : GdS (remS q.1 i p) := hGq.1.rem hp
    have hcase := hGq.1.2.2.1
    have h3A := hGq.1.1.2.1
    have h27 := ref_27 hGq.1
    refine ⟨va_up I 0 0, F, q.1, q.2.1, rfl, hM0.uo (va_up I 0 0), hF.1, hF.2.1.1, hF.2.1.2, fun h1 H hM1 hH f1 => ⟨rfl, ?_⟩⟩
    have f1' : Fr h h1 128 138 := (Fr.rf.up (by omega)).tr f1
    -- behind takeOut
    have h61 : ∀ (hh : HP) (v : Int), v = (if p.1 = 2 then outC q.1.2.2.1 (nA (q.1.1.take i)) else q.1.2.2.1) → MAt hh n (va_up (va_up I 0 0) 3 ((pushH q.2.1 q.1).length : Int)) (va_up (va_up F 3 H) 1 (va_up (F 1) 50 v)) → Fr h hh 128 138 → Ok X 0 0 61 [(0, .ref 128), (1, .int (i3 i))] [] n hh := by
      intro hh v hv hM2 hf
      have e48 : F 1 48 = q.1.1.length := hP.1
      have e48' : (va_up (va_up F 3 H) 1 (va_up (F 1) 50 v)) 1 (48 : Int).toNat = q.1.1.length := by
        show va_up (F 1) 50 v 48 = _
        exact (up_ne (by decide)).trans e48
      have hM3 := hM2.uu (j := 1) (by omega) (va_up (va_up (F 1) 50 v) 48 ((q.1.1.length : Int) - 1))
      -- the parts behind move
      have L : ∀ (j k : Nat) (h2 : HP) (Z : Nat → Int), k + j = 4 * (q.1.1.length - 1) → 4 * i ≤ k → MAt h2 n (va_up (va_up I 0 0) 3 ((pushH q.2.1 q.1).length : Int)) (va_up (va_up F 3 H) 1 Z) → Z 48 = (q.1.1.length : Int) - 1 → Z 49 = q.1.2.1 → Z 50 = v → Z 51 = q.1.2.2.2 → (∀ y, y < 48 → Z y = if 4 * i ≤ y ∧ y < k then F 1 (y + 4) else F 1 y) → Fr h h2 128 138 → Ok X 0 0 76 [(0, .ref 128), (1, .int (i3 i)), (2, .int (i3 k))] [] n h2 := by
        intro j
        induction j with
        | zero =>
          intro k h2 Z hk hik hM4 z48 z49 z50 z51 hz4 hf2
          have ez : (va_up (va_up F 3 H) 1 Z) 1 (48 : Int).toNat = (q.1.1.length : Int) - 1 := z48
          refine sX7_drop_76 hc hr hM4.o rfl rfl hM4.z ⟨⟨by decide, by decide, by decide⟩, R3_s (by omega), by rw [ez]; exact R3_s (by omega), fun _ => ?_, fun w => absurd (by rw [ez]; omega) w⟩
          have hZS : ZSt Z (remS q.1 i p) := by
            refine ⟨⟨?_, ?_, fun b hb => ?_, fun p' hp' => (g.1.2.2.1 p' hp').1⟩, z49, z50.trans hv, z51⟩
            · show Z 48 = ((q.1.1.eraseIdx i).length : Int)
              rw [List.length_eraseIdx, if_pos hil, z48]
              omega
            · show (q.1.1.eraseIdx i).length ≤ 12
              rw [List.length_eraseIdx, if_pos hil]
              omega
            · have hb' : b < (q.1.1.eraseIdx i).length := hb
              rw [List.length_eraseIdx, if_pos hil] at hb'
              show (q.1.1.eraseIdx i)[b]? = _
              rw [List.getElem?_eraseIdx, hz4 _ (by omega), hz4 _ (by omega), hz4 _ (by omega), hz4 _ (by omega)]
              by_cases w : b < i
              · rw [if_pos w, if_neg (by omega), if_neg (by omega), if_neg (by omega), if_neg (by omega)]
                exact hP.2.2.1 b (by omega)
              · rw [if_neg w, if_pos (by omega), if_pos (by omega), if_pos (by omega), if_pos (by omega)]
                exact hP.2.2.1 (b + 1) (by omega)
          refine sX7_drop_109 hc hr hM4.o rfl ⟨_, _, remS q.1 i p, rfl, hM4, hZS, g, fun h3 I3 F3 hM5 hZ5 kI kZ f3 => ⟨rfl, ?_⟩⟩
          refine sX7_drop_113 hc hr hM5.o rfl rfl hM5.z ⟨⟨by decide, by decide, by decide⟩, ?_⟩
          have el : F3 1 (48 : Int).toNat = (q.1.1.length : Int) - 1 := by
            have : F3 1 48 = ((setS (remS q.1 i p)).1.length : Int) := hZ5.1.1
            rw [setS_1] at this
            show F3 1 48 = _
            rw [this]
            show ((q.1.1.eraseIdx i).length : Int) = _
            rw [List.length_eraseIdx, if_pos hil]
            omega
          rw [el]
          refine kk h3 ?_ (hf2.tr f3)
          exact rec_set (t := 0) hF rfl (fun j hj => by rcases hj with e | e | e <;> subst e <;> rfl) hH hM5 hZ5 kI kZ hGq hOq g.set (setS_ok g)
        | succ j ih =>
          intro k h2 Z hk hik hM4 z48 z49 z50 z51 hz4 hf2
          have ez : (va_up (va_up F 3 H) 1 Z) 1 (48 : Int).toNat = (q.1.1.length : Int) - 1 := z48
          have ek : (k : Int).toNat = k := by omega
          have ek4 : ((k : Int) + 4).toNat = k + 4 := by omega
          refine sX7_drop_76 hc hr hM4.o rfl rfl hM4.z ⟨⟨by decide, by decide, by decide⟩, R3_s (by omega), by rw [ez]; exact R3_s (by omega), fun w => absurd w (by rw [ez]; omega), fun _ => ⟨⟨by omega, by omega, by omega⟩, ⟨by omega, by omega, by omega⟩, ?_⟩⟩
          rw [ek, ek4]
          have ev : (va_up (va_up F 3 H) 1 Z) 1 (k + 4) = F 1 (k + 4) := by
            show Z (k + 4) = _
            rw [hz4 _ (by omega), if_neg (by omega)]
          rw [ev]
          refine ih (k + 1) _ (va_up Z k (F 1 (k + 4))) (by omega) (by omega) (hM4.uu (j := 1) (by omega) _) ((up_ne (by omega)).trans z48) ((up_ne (by omega)).trans z49) ((up_ne (by omega)).trans z50) ((up_ne (by omega)).trans z51) (fun y hy => ?_) (hf2.up (by omega))
          by_cases w : y = k
          · subst w
            rw [up_self, if_pos (by omega)]
          · rw [up_ne w, hz4 y hy]
            by_cases u : 4 * i ≤ y ∧ y < k
            · rw [if_pos u, if_pos (by omega)]
            · rw [if_neg u, if_neg (by omega)]
      refine sX7_drop_61 hc hr hM2.o rfl rfl hM2.z ⟨⟨by decide, by decide, by decide⟩, ⟨by decide, by decide, by decide⟩, ?_⟩
      rw [e48']
      have l0 := L (4 * (q.1.1.length - 1) - 4 * i) (4 * i) _ _ (by omega) (Nat.le_refl _) hM3 up_self ((up_ne (by decide)).trans ((up_ne (by decide)).trans hF.1.2.1)) ((up_ne (by decide)).trans up_self) ((up_ne (by decide)).trans ((up_ne (by decide)).trans hF.1.2.2.2)) (fun y hy => by rw [up_ne (by omega), up_ne (by omega), if_neg (by omega)]) (hf.up (by omega))
      rw [show ((4 * i : Nat) : Int) = 4 * (i : Int) by omega] at l0
      exact l0
    have e50 : F 1 50 = q.1.2.2.1 := hF.1.2.2.1
    refine sX7_drop_30 hc hr hM1.o rfl rfl hM1.z ⟨⟨by omega, ⟨by decide, by decide⟩, ?_⟩, fun c2 => ?_, fun c2 => ?_⟩
    · show R3 (F 1 _)
      rw [show (4 * (i : Int)).toNat = 4 * i by omega, hz.1]
      exact R3_s (by omega)
    · have c2' : ¬ p.1 = 2 := fun z => c2 (by
        show F 1 _ = 2
        rw [show (4 * (i : Int)).toNat = 4 * i by omega, hz.1]
        exact z)
      have hM1' := hM1.u1 (j := 1) (by omega)
      refine h61 h1 q.1.2.2.1 (by rw [if_neg c2']) ?_ f1'
      have e : va_up (F 1) 50 q.1.2.2.1 = F 1 := by
        funext y
        by_cases w : y = 50
        · subst w
          rw [up_self, e50]
        · exact up_ne w
      rw [e]
      exact hM1'
    · have c2' : p.1 = 2 := by
        have : F 1 (4 * (i : Int)).toNat = 2 := c2
        rw [show (4 * (i : Int)).toNat = 4 * i by omega, hz.1] at this
        exact this
      have hA : AmpAt q.1.1 (nA (q.1.1.take i)) i p := ⟨hp, c2', rfl⟩
      have hal := hA.lt
      have LA : ∀ (j a : Nat), a + j = nA (q.1.1.take i) → Ok X 0 0 41 [(0, .ref 128), (1, .int (i3 i)), (2, .int (i3 a))] [] n h1 := by
        intro j
        induction j with
        | zero =>
          intro a ha
          have ea : a = nA (q.1.1.take i) := by omega
          have epo : pOf q.1.1 a = i := by rw [ea]; exact pOf_at hA
          refine sX7_drop_41 hc hr hM1.o rfl rfl hM1.z hP ⟨by omega, R3_s (by omega), R3_s (by omega), fun _ => ?_, fun w => absurd epo w⟩
          refine sX7_drop_56 hc hr hM1.o rfl ⟨_, _, a, rfl, hM1, ⟨by omega, by show 0 ≤ F 1 50; omega, by show F 1 50 ≤ 1000; omega⟩, ⟨rfl, ?_⟩⟩
          refine h61 _ (outC q.1.2.2.1 a) (by rw [if_pos c2', ea]) ?_ (f1'.up (by omega))
          have := hM1.ua (j := 1) (by omega) (va_up (F 1) 50 (outC (F 1 50) a))
          rw [e50] at this
          have e5 : (va_up F 3 H) 1 = F 1 := rfl
          rw [e5, e50]
          exact this
        | succ j ih =>
          intro a ha
          obtain ⟨k, p', hA'⟩ := AmpAt.ex (ps := q.1.1) (a := a) (by omega)
          have epo := pOf_at hA'
          have hne : (k : Int) ≠ i := by
            intro z
            have : k = i := by omega
            subst this
            have := hA'.2.2
            omega
          have hkl := hA'.lt.1
          refine sX7_drop_41 hc hr hM1.o rfl rfl hM1.z hP ⟨by omega, R3_s (by omega), R3_s (by omega), fun w => absurd (epo.symm.trans w) hne, fun _ => ih (a + 1) (by omega)⟩
      exact LA (nA (q.1.1.take i)) 0 (by omega)
