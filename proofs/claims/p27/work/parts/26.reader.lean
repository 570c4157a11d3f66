/-! part 26: class TextReader, at place 57: one character -/
def kl (c : Int) : Int := if c = 114 then 0 else if c = 115 then 1 else if c = 111 then 2 else -1
def nodeC (c : Int) : Int := if 48 ≤ c ∧ c ≤ 54 then 1 else 0
theorem kl_b (c : Int) : -1 ≤ kl c ∧ kl c ≤ 2 := by
  unfold kl
  split
  · omega
  · split
    · omega
    · split <;> omega
theorem node01 (c : Int) : nodeC c = 0 ∨ nodeC c = 1 := by unfold nodeC; split <;> simp
theorem node0 {c : Int} : nodeC c = 0 ↔ ¬ (48 ≤ c ∧ c ≤ 54) := by unfold nodeC; split <;> simp_all
set_option maxHeartbeats 4000000 in
set_option maxRecDepth 100000 in
theorem sX5_isNode_0 {X : Xt} {n : Nat} {h : HP} {x0 : Int} (hc : Cx X cX5_isNode RX5 1 0 0) {K : KT} (hr : CxR X (some .boolean) K) 
    (P : (R3 x0) ∧ (x0 < 48 → K (.inl (some (.int (i3 0)))) n h) ∧ (¬ x0 < 48 → (R3 x0) ∧ (55 ≤ x0 → K (.inl (some (.int (i3 0)))) n h) ∧ (¬ 55 ≤ x0 → K (.inl (some (.int (i3 1)))) n h))) :
    Ok X 0 0 0 [(0, .int (i3 x0))] [] n h := by
  refine ok_iload_n (pc := 0) hc dX5_isNode_0 rfl 0 rfl ?_
  refine ok_bipush (pc := 1) hc (v := i3 48) dX5_isNode_1 (by decide) ?_
  obtain ⟨r1, P⟩ := P
  refine zk_icmp_lt (pc := 3) (tgt := 16) hc dX5_isNode_3 (by decide) r1 ⟨by decide, by decide⟩ (fun c => ?_) (fun c => ?_)
  · have P := P.1 c
    refine ok_iconst (pc := 16) hc (v := i3 0) dX5_isNode_16 (by decide) ?_
    exact ok_zret (st := []) (pc := 17) hc (nar_z (by decide)) hr dX5_isNode_17 P
  · have P := P.2 c
    refine ok_iload_n (pc := 6) hc dX5_isNode_6 rfl 0 rfl ?_
    refine ok_bipush (pc := 7) hc (v := i3 55) dX5_isNode_7 (by decide) ?_
    obtain ⟨r2, P⟩ := P
    refine zk_icmp_ge (pc := 9) (tgt := 16) hc dX5_isNode_9 (by decide) r2 ⟨by decide, by decide⟩ (fun c => ?_) (fun c => ?_)
    · have P := P.1 c
      refine ok_iconst (pc := 16) hc (v := i3 0) dX5_isNode_16 (by decide) ?_
      exact ok_zret (st := []) (pc := 17) hc (nar_z (by decide)) hr dX5_isNode_17 P
    · have P := P.2 c
      refine ok_iconst (pc := 12) hc (v := i3 1) dX5_isNode_12 (by decide) ?_
      refine ok_goto (pc := 13) (tgt := 17) hc dX5_isNode_13 (by decide) ?_
      exact ok_zret (st := []) (pc := 17) hc (nar_z (by decide)) hr dX5_isNode_17 P

def spec_X5_isNode (args : List Value) (n : Nat) (h : HP) (K : KT) : Prop := ∃ x : Int, args = [.int (i3 x)] ∧ R3 x ∧ K (.inl (some (.int (i3 (nodeC x))))) n h
theorem sp_X5_isNode : Sp yX5_isNode cX5_isNode 1 (some .boolean) 0 0 0 0 spec_X5_isNode := by
  refine sp_intro (by decide) (by rintro args n h K ⟨x, rfl, -⟩; exact Nat.le_of_ble_eq_true rfl) ?_
  rintro X args n h K hc hr ⟨x, rfl, hx, k⟩
  unfold nodeC at k
  refine sX5_isNode_0 hc hr ⟨hx, fun c => ?_, fun c => ⟨hx, fun c2 => ?_, fun c2 => ?_⟩⟩
  · rw [if_neg (by omega)] at k
    exact k
  · rw [if_neg (by omega)] at k
    exact k
  · rw [if_pos (by omega)] at k
    exact k
set_option maxHeartbeats 4000000 in
set_option maxRecDepth 100000 in
theorem sX5_kindOfLetter_0 {X : Xt} {n : Nat} {h : HP} {x0 : Int} (hc : Cx X cX5_kindOfLetter RX5 1 0 0) {K : KT} (hr : CxR X (some .int) K) 
    (P : (R3 x0) ∧ (¬ x0 = 114 → (R3 x0) ∧ (¬ x0 = 115 → (R3 x0) ∧ (¬ x0 = 111 → K (.inl (some (.int (i3 (-1))))) n h) ∧ (x0 = 111 → K (.inl (some (.int (i3 2)))) n h)) ∧ (x0 = 115 → K (.inl (some (.int (i3 1)))) n h)) ∧ (x0 = 114 → K (.inl (some (.int (i3 0)))) n h)) :
    Ok X 0 0 0 [(0, .int (i3 x0))] [] n h := by
  refine ok_iload_n (pc := 0) hc dX5_kindOfLetter_0 rfl 0 rfl ?_
  refine ok_bipush (pc := 1) hc (v := i3 114) dX5_kindOfLetter_1 (by decide) ?_
  obtain ⟨r1, P⟩ := P
  refine zk_icmp_ne (pc := 3) (tgt := 8) hc dX5_kindOfLetter_3 (by decide) r1 ⟨by decide, by decide⟩ (fun c => ?_) (fun c => ?_)
  · have P := P.1 c
    refine ok_iload_n (pc := 8) hc dX5_kindOfLetter_8 rfl 0 rfl ?_
    refine ok_bipush (pc := 9) hc (v := i3 115) dX5_kindOfLetter_9 (by decide) ?_
    obtain ⟨r2, P⟩ := P
    refine zk_icmp_ne (pc := 11) (tgt := 16) hc dX5_kindOfLetter_11 (by decide) r2 ⟨by decide, by decide⟩ (fun c => ?_) (fun c => ?_)
    · have P := P.1 c
      refine ok_iload_n (pc := 16) hc dX5_kindOfLetter_16 rfl 0 rfl ?_
      refine ok_bipush (pc := 17) hc (v := i3 111) dX5_kindOfLetter_17 (by decide) ?_
      obtain ⟨r3, P⟩ := P
      refine zk_icmp_ne (pc := 19) (tgt := 26) hc dX5_kindOfLetter_19 (by decide) r3 ⟨by decide, by decide⟩ (fun c => ?_) (fun c => ?_)
      · have P := P.1 c
        refine ok_iconst (pc := 26) hc (v := i3 (-1)) dX5_kindOfLetter_26 (by decide) ?_
        exact ok_iret (st := []) (pc := 27) hc hr dX5_kindOfLetter_27 P
      · have P := P.2 c
        refine ok_iconst (pc := 22) hc (v := i3 2) dX5_kindOfLetter_22 (by decide) ?_
        refine ok_goto (pc := 23) (tgt := 27) hc dX5_kindOfLetter_23 (by decide) ?_
        exact ok_iret (st := []) (pc := 27) hc hr dX5_kindOfLetter_27 P
    · have P := P.2 c
      refine ok_iconst (pc := 14) hc (v := i3 1) dX5_kindOfLetter_14 (by decide) ?_
      exact ok_iret (st := []) (pc := 15) hc hr dX5_kindOfLetter_15 P
  · have P := P.2 c
    refine ok_iconst (pc := 6) hc (v := i3 0) dX5_kindOfLetter_6 (by decide) ?_
    exact ok_iret (st := []) (pc := 7) hc hr dX5_kindOfLetter_7 P

def spec_X5_kindOfLetter (args : List Value) (n : Nat) (h : HP) (K : KT) : Prop := ∃ x : Int, args = [.int (i3 x)] ∧ R3 x ∧ K (.inl (some (.int (i3 (kl x))))) n h
theorem sp_X5_kindOfLetter : Sp yX5_kindOfLetter cX5_kindOfLetter 1 (some .int) 0 0 0 0 spec_X5_kindOfLetter := by
  refine sp_intro (by decide) (by rintro args n h K ⟨x, rfl, -⟩; exact Nat.le_of_ble_eq_true rfl) ?_
  rintro X args n h K hc hr ⟨x, rfl, hx, k⟩
  unfold kl at k
  refine sX5_kindOfLetter_0 hc hr ⟨hx, fun c => ⟨hx, fun c2 => ⟨hx, fun c3 => ?_, fun c3 => ?_⟩, fun c2 => ?_⟩, fun c => ?_⟩
  · rw [if_neg c, if_neg c2, if_neg c3] at k
    exact k
  · rw [if_neg c, if_neg c2, if_pos c3] at k
    exact k
  · rw [if_neg c, if_pos c2] at k
    exact k
  · rw [if_pos c] at k
    exact k
/-- what the reader has read: kind, taken, source's node, negative, value, digits, parts -/
abbrev RdQ : Type := Int × Int × Int × Int × Int × (Nat → Int) × List Part
def RdC (h : HP) (n : Nat) (T : Nat → Int) (len : Int) (q : RdQ) : Prop := At h n 57 (.inl (5, [.ref 58, .ref 59, .int (i3 len), .int (i3 q.1), .ref 64, .int (i3 q.2.1), .int (i3 q.2.2.1), .int (i3 q.2.2.2.1), .int (i3 q.2.2.2.2.1)])) ∧ At h n 58 (ac 60 T) ∧ At h n 64 (ai 3 q.2.2.2.2.2.1) ∧ PtA h n 59 15 q.2.2.2.2.2.2
def RdX (h : HP) (n : Nat) (T : Nat → Int) (len : Int) : Prop := ∃ q, RdC h n T len q
theorem RdC.x {h : HP} {n : Nat} {T : Nat → Int} {len : Int} {q : RdQ} (p : RdC h n T len q) : RdX h n T len := ⟨q, p⟩
theorem RdC.fr {h h' : HP} {n lo hi : Nat} {T : Nat → Int} {len : Int} {q : RdQ} (p : RdC h n T len q) (g : Fr h h' lo hi) (d : 64 < lo ∨ hi < 57) : RdC h' n T len q := ⟨p.1.fr g (by omega), p.2.1.fr g (by omega), p.2.2.1.fr g (by omega), p.2.2.2.fr g (by omega)⟩
theorem RdX.fr {h h' : HP} {n lo hi : Nat} {T : Nat → Int} {len : Int} (p : RdX h n T len) (g : Fr h h' lo hi) (d : 64 < lo ∨ hi < 57) : RdX h' n T len := by
  obtain ⟨q, hq⟩ := p
  exact ⟨q, hq.fr g d⟩
/-- a change of the reader's own fields -/
theorem RdC.own {h : HP} {n : Nat} {T : Nat → Int} {len len' : Int} {q : RdQ} {k' t' s' n' v' : Int} (p : RdC h n T len q) : RdC (va_up h 57 (.inl (5, [.ref 58, .ref 59, .int (i3 len'), .int (i3 k'), .ref 64, .int (i3 t'), .int (i3 s'), .int (i3 n'), .int (i3 v')]))) n T len' (k', t', s', n', v', q.2.2.2.2.2.1, q.2.2.2.2.2.2) :=
  ⟨p.1.it, p.2.1.up (by omega), p.2.2.1.up (by omega), p.2.2.2.fr (lo := 57) (hi := 57) (Fr.rf.up (by omega)) (by omega)⟩
def q0R (D : Nat → Int) (ps : List Part) (k : Int) : RdQ := (k, 0, -1, 0, 0, D, ps)
theorem up_up {α : Type} (f : Nat → α) (k : Nat) (v w : α) : va_up (va_up f k v) k w = va_up f k w := bx_uu f k v w
set_option maxHeartbeats 4000000 in
set_option maxRecDepth 100000 in
theorem sX5_startPart_0 {X : Xt} {n : Nat} {h : HP} {a0 : Nat} {x1 : Int} {fs1 : List Value} (hc : Cx X cX5_startPart RX5 2 0 0) {K : KT} (hr : CxR X none K) (e1 : At h n a0 (.inl (5, fs1))) (z1 : fs1.length = 9)
    (P : K (.inl none) n (va_up (va_up (va_up (va_up (va_up h a0 (.inl (5, (fs1.set 3 (.int (i3 x1)))))) a0 (.inl (5, ((fs1.set 3 (.int (i3 x1))).set 5 (.int (i3 0)))))) a0 (.inl (5, (((fs1.set 3 (.int (i3 x1))).set 5 (.int (i3 0))).set 6 (.int (i3 (-1))))))) a0 (.inl (5, ((((fs1.set 3 (.int (i3 x1))).set 5 (.int (i3 0))).set 6 (.int (i3 (-1)))).set 7 (.int (i3 0)))))) a0 (.inl (5, (((((fs1.set 3 (.int (i3 x1))).set 5 (.int (i3 0))).set 6 (.int (i3 (-1)))).set 7 (.int (i3 0))).set 8 (.int (i3 0))))))) :
    Ok X 0 0 0 [(0, .ref a0), (1, .int (i3 x1))] [] n h := by
  refine ok_aload_n (pc := 0) hc dX5_startPart_0 rfl 0 rfl ?_
  refine ok_iload_n (pc := 1) hc dX5_startPart_1 rfl 1 rfl ?_
  refine ok_put (pc := 2) hc fl_X5_50 dX5_startPart_2 e1.1 e1.2 (by simp [List.length_set, z1]) (fun _ => rfl) (fun _ => rfl) ?_
  refine ok_aload_n (pc := 5) hc dX5_startPart_5 rfl 0 rfl ?_
  refine ok_iconst (pc := 6) hc (v := i3 0) dX5_startPart_6 (by decide) ?_
  refine ok_put (pc := 7) hc fl_X5_53 dX5_startPart_7 e1.1 up_self (by simp [List.length_set, z1]) (fun _ => rfl) (fun _ => rfl) ?_
  refine ok_aload_n (pc := 10) hc dX5_startPart_10 rfl 0 rfl ?_
  refine ok_iconst (pc := 11) hc (v := i3 (-1)) dX5_startPart_11 (by decide) ?_
  refine ok_put (pc := 12) hc fl_X5_56 dX5_startPart_12 e1.1 up_self (by simp [List.length_set, z1]) (fun _ => rfl) (fun _ => rfl) ?_
  refine ok_aload_n (pc := 15) hc dX5_startPart_15 rfl 0 rfl ?_
  refine ok_iconst (pc := 16) hc (v := i3 0) dX5_startPart_16 (by decide) ?_
  refine ok_put (pc := 17) hc fl_X5_59 dX5_startPart_17 e1.1 up_self (by simp [List.length_set, z1]) (fun _ => nar_z (by decide)) (fun _ => fit_zz (by decide)) ?_
  refine ok_aload_n (pc := 20) hc dX5_startPart_20 rfl 0 rfl ?_
  refine ok_iconst (pc := 21) hc (v := i3 0) dX5_startPart_21 (by decide) ?_
  refine ok_put (pc := 22) hc fl_X5_63 dX5_startPart_22 e1.1 up_self (by simp [List.length_set, z1]) (fun _ => rfl) (fun _ => rfl) ?_
  exact ok_vret (st := []) (pc := 25) hc hr dX5_startPart_25 P

def spec_X5_startPart (args : List Value) (n : Nat) (h : HP) (K : KT) : Prop := ∃ (k : Int) (T : Nat → Int) (len : Int) (q : RdQ), args = [.ref 57, .int (i3 k)] ∧ RdC h n T len q ∧ ∀ h', RdC h' n T len (q0R q.2.2.2.2.2.1 q.2.2.2.2.2.2 k) → Fr h h' 57 57 → K (.inl none) n h'
theorem sp_X5_startPart : Sp yX5_startPart cX5_startPart 2 none 0 0 0 0 spec_X5_startPart := by
  refine sp_intro (by decide) (by rintro args n h K ⟨k, T, len, q, rfl, -⟩; exact Nat.le_of_ble_eq_true rfl) ?_
  rintro X args n h K hc hr ⟨k, T, len, q, rfl, hq, kk⟩
  refine sX5_startPart_0 hc hr hq.1 rfl ?_
  refine kk _ ?_ (((((Fr.rf.up (by omega)).up (by omega)).up (by omega)).up (by omega)).up (by omega))
  rw [up_up, up_up, up_up, up_up]
  exact hq.own
set_option maxHeartbeats 4000000 in
set_option maxRecDepth 100000 in
theorem sX5_acceptsLetter_0 {X : Xt} {n : Nat} {h : HP} {a0 : Nat} {x1 : Int} {fs1 : List Value} (hc : Cx X cX5_acceptsLetter RX5 3 1 21) {K : KT} (hr : CxR X (some .boolean) K) (e1 : At h n a0 (.inl (5, fs1))) (z1 : fs1.length = 9)
    (P : (R3 x1) ∧ spec_X5_startPart [.ref a0, .int (i3 (kl x1))] n h (kc X 0 0 7 [(0, .ref a0), (1, .int (i3 x1)), (2, .int (i3 (kl x1)))] [] n)) :
    Ok X 0 0 0 [(0, .ref a0), (1, .int (i3 x1))] [] n h := by
  refine ok_iload_n (pc := 0) hc dX5_acceptsLetter_0 rfl 1 rfl ?_
  obtain ⟨r0, P⟩ := P
  refine ok_callS (pc := 1) (cb := 0) (sb := 0) (st := []) hc [.int (i3 x1)] cs_X5_75 sp_X5_kindOfLetter (by decide) dX5_acceptsLetter_1 rfl rfl rfl rfl (Nat.le_of_ble_eq_true rfl) (⟨_, rfl, r0, rfl, ?_⟩)
  show Ok X 0 0 (1 + 3) [(0, .ref a0), (1, .int (i3 x1))] [.int (i3 (kl x1))] n h
  refine ok_istore_n (pc := 4) hc (lv' := [(2, .int (i3 (kl x1))), (0, .ref a0), (1, .int (i3 x1))]) dX5_acceptsLetter_4 rfl (by decide) rfl ?_
  refine ok_aload_n (pc := 5) hc dX5_acceptsLetter_5 rfl 1 rfl ?_
  refine ok_iload_n (pc := 6) hc dX5_acceptsLetter_6 rfl 0 rfl ?_
  refine ok_lv [1, 2, 0] rfl ?_
  exact ok_callV (pc := 7) (a := a0) (cb := 0) (sb := 0) (st := []) hc [.int (i3 (kl x1))] cv_X5_32 sp_X5_startPart (by decide) dX5_acceptsLetter_7 rfl e1.1 e1.2 rfl rfl rfl (Nat.le_of_ble_eq_true rfl) P

set_option maxHeartbeats 4000000 in
set_option maxRecDepth 100000 in
theorem sX5_acceptsLetter_10 {X : Xt} {n : Nat} {h : HP} {a0 : Nat} {x1 : Int} {x2 : Int} (hc : Cx X cX5_acceptsLetter RX5 3 1 21) {K : KT} (hr : CxR X (some .boolean) K) 
    (P : (R3 x2) ∧ (x2 = (-1) → K (.inl (some (.int (i3 0)))) n h) ∧ (¬ x2 = (-1) → K (.inl (some (.int (i3 1)))) n h)) :
    Ok X 0 0 10 [(0, .ref a0), (1, .int (i3 x1)), (2, .int (i3 x2))] [] n h := by
  refine ok_iload_n (pc := 10) hc dX5_acceptsLetter_10 rfl 2 rfl ?_
  refine ok_iconst (pc := 11) hc (v := i3 (-1)) dX5_acceptsLetter_11 (by decide) ?_
  obtain ⟨r1, P⟩ := P
  refine zk_icmp_eq (pc := 12) (tgt := 19) hc dX5_acceptsLetter_12 (by decide) r1 ⟨by decide, by decide⟩ (fun c => ?_) (fun c => ?_)
  · have P := P.1 c
    refine ok_iconst (pc := 19) hc (v := i3 0) dX5_acceptsLetter_19 (by decide) ?_
    exact ok_zret (st := []) (pc := 20) hc (nar_z (by decide)) hr dX5_acceptsLetter_20 P
  · have P := P.2 c
    refine ok_iconst (pc := 15) hc (v := i3 1) dX5_acceptsLetter_15 (by decide) ?_
    refine ok_goto (pc := 16) (tgt := 20) hc dX5_acceptsLetter_16 (by decide) ?_
    exact ok_zret (st := []) (pc := 20) hc (nar_z (by decide)) hr dX5_acceptsLetter_20 P

def spec_X5_acceptsLetter (args : List Value) (n : Nat) (h : HP) (K : KT) : Prop := ∃ (c : Int) (T : Nat → Int) (len : Int) (q : RdQ), args = [.ref 57, .int (i3 c)] ∧ R3 c ∧ RdC h n T len q ∧ ∀ h', RdC h' n T len (q0R q.2.2.2.2.2.1 q.2.2.2.2.2.2 (kl c)) → Fr h h' 57 57 → K (.inl (some (.int (i3 (if kl c = -1 then 0 else 1))))) n h'
theorem sp_X5_acceptsLetter : Sp yX5_acceptsLetter cX5_acceptsLetter 3 (some .boolean) 1 21 0 0 spec_X5_acceptsLetter := by
  refine sp_intro (by decide) (by rintro args n h K ⟨c, T, len, q, rfl, -⟩; exact Nat.le_of_ble_eq_true rfl) ?_
  rintro X args n h K hc hr ⟨c, T, len, q, rfl, hcc, hq, kk⟩
  refine sX5_acceptsLetter_0 hc hr hq.1 rfl ⟨hcc, kl c, T, len, q, rfl, hq, fun h' q1 q2 => ⟨rfl, sX5_acceptsLetter_10 hc hr ⟨R3_s (by have := kl_b c; omega), fun e => ?_, fun e => ?_⟩⟩⟩
  · have kk := kk h' q1 q2
    rw [if_pos e] at kk
    exact kk
  · have kk := kk h' q1 q2
    rw [if_neg e] at kk
    exact kk
/-- a resistor's or an amplifier's digit -/
def digOk (q : RdQ) (c : Int) : Bool := if q.1 = 0 ∧ q.2.1 = 2 then decide (49 ≤ c ∧ c ≤ 52) else decide (48 ≤ c ∧ c ≤ 54)
def stepD (q : RdQ) (c : Int) : Option RdQ := if q.2.1 < 3 ∧ digOk q c = true then some (q.1, q.2.1 + 1, q.2.2.1, q.2.2.2.1, q.2.2.2.2.1, va_up q.2.2.2.2.2.1 q.2.1.toNat (c - 48), q.2.2.2.2.2.2) else none
/-- what a method says of a character -/
def ansR (h : HP) (n : Nat) (T : Nat → Int) (len : Int) (K : KT) (o : Option RdQ) : Prop := match o with
  | some q => ∀ h', RdC h' n T len q → Fr h h' 57 64 → K (.inl (some (.int (i3 1)))) n h'
  | none => ∀ h', RdX h' n T len → Fr h h' 57 64 → K (.inl (some (.int (i3 0)))) n h'
set_option maxHeartbeats 4000000 in
set_option maxRecDepth 100000 in
theorem sX5_acceptsDigit_0 {X : Xt} {n : Nat} {h : HP} {a0 : Nat} {x1 : Int} {fs1 : List Value} {iv2 : Int} {q3 : Nat} {len4 : Nat} {f4 : Nat → Int} {iv7 : Int} (hc : Cx X cX5_acceptsDigit RX5 4 1 20) {K : KT} (hr : CxR X (some .boolean) K) (e1 : At h n a0 (.inl (5, fs1))) (z1 : fs1.length = 9) (v1_5 : fs1[5]? = some (.int (i3 iv2))) (v1_4 : fs1[4]? = some (.ref q3)) (e4 : At h n q3 (ai len4 f4)) (v1_3 : fs1[3]? = some (.int (i3 iv7)))
    (P : (R3 iv2) ∧ (R3 (len4 : Int)) ∧ (iv2 < (len4 : Int) → (R3 iv7) ∧ (¬ iv7 = 0 → (R3 x1) ∧ (R3 (nodeC x1)) ∧ ((nodeC x1) = 0 → ((nodeC x1) = 0 ∨ (nodeC x1) = 1) ∧ K (.inl (some (.int (i3 (nodeC x1))))) n h) ∧ (¬ (nodeC x1) = 0 → (Ix iv2 len4) ∧ ((nodeC x1) = 0 ∨ (nodeC x1) = 1) ∧ K (.inl (some (.int (i3 (nodeC x1))))) n (va_up (va_up h q3 (ai len4 (va_up f4 (iv2 : Int).toNat (x1 - 48)))) a0 (.inl (5, (fs1.set 5 (.int (i3 (iv2 + 1))))))))) ∧ (iv7 = 0 → (R3 iv2) ∧ (¬ iv2 = 2 → (R3 x1) ∧ (R3 (nodeC x1)) ∧ ((nodeC x1) = 0 → ((nodeC x1) = 0 ∨ (nodeC x1) = 1) ∧ K (.inl (some (.int (i3 (nodeC x1))))) n h) ∧ (¬ (nodeC x1) = 0 → (Ix iv2 len4) ∧ ((nodeC x1) = 0 ∨ (nodeC x1) = 1) ∧ K (.inl (some (.int (i3 (nodeC x1))))) n (va_up (va_up h q3 (ai len4 (va_up f4 (iv2 : Int).toNat (x1 - 48)))) a0 (.inl (5, (fs1.set 5 (.int (i3 (iv2 + 1))))))))) ∧ (iv2 = 2 → (R3 x1) ∧ (x1 < 49 → K (.inl (some (.int (i3 0)))) n h) ∧ (¬ x1 < 49 → (R3 x1) ∧ (52 < x1 → K (.inl (some (.int (i3 0)))) n h) ∧ (¬ 52 < x1 → (Ix iv2 len4) ∧ K (.inl (some (.int (i3 1)))) n (va_up (va_up h q3 (ai len4 (va_up f4 (iv2 : Int).toNat (x1 - 48)))) a0 (.inl (5, (fs1.set 5 (.int (i3 (iv2 + 1)))))))))))) ∧ (¬ iv2 < (len4 : Int) → K (.inl (some (.int (i3 0)))) n h)) :
    Ok X 0 0 0 [(0, .ref a0), (1, .int (i3 x1))] [] n h := by
  refine ok_aload_n (pc := 0) hc dX5_acceptsDigit_0 rfl 0 rfl ?_
  refine ok_get (pc := 1) hc fl_X5_53 dX5_acceptsDigit_1 e1.1 e1.2 v1_5 ?_
  refine ok_aload_n (pc := 4) hc dX5_acceptsDigit_4 rfl 0 rfl ?_
  refine ok_get (pc := 5) hc fl_X5_24 dX5_acceptsDigit_5 e1.1 e1.2 v1_4 ?_
  refine ok_alen (pc := 8) hc (v := i3 (len4 : Nat)) dX5_acceptsDigit_8 e4.1 e4.2 (i3_nI _).symm ?_
  obtain ⟨r5, P⟩ := P
  obtain ⟨r6, P⟩ := P
  refine zk_icmp_lt (pc := 9) (tgt := 14) hc dX5_acceptsDigit_9 (by decide) r5 r6 (fun c => ?_) (fun c => ?_)
  · have P := P.1 c
    refine ok_aload_n (pc := 14) hc dX5_acceptsDigit_14 rfl 0 rfl ?_
    refine ok_get (pc := 15) hc fl_X5_50 dX5_acceptsDigit_15 e1.1 e1.2 v1_3 ?_
    obtain ⟨r8, P⟩ := P
    refine zk_if_ne (pc := 18) (tgt := 33) hc dX5_acceptsDigit_18 (by decide) r8 (fun c => ?_) (fun c => ?_)
    · have P := P.1 c
      refine ok_iconst (pc := 33) hc (v := i3 0) dX5_acceptsDigit_33 (by decide) ?_
      refine ok_istore_n (pc := 34) hc (lv' := [(2, .int (i3 0)), (0, .ref a0), (1, .int (i3 x1))]) dX5_acceptsDigit_34 rfl (by decide) rfl ?_
      refine ok_iload_n (pc := 35) hc dX5_acceptsDigit_35 rfl 0 rfl ?_
      refine zk_if_eq (pc := 36) (tgt := 59) hc dX5_acceptsDigit_36 (by decide) ⟨by decide, by decide⟩ (fun _ => ?_) (fun c => absurd c (by decide))
      refine ok_iload_n (pc := 59) hc dX5_acceptsDigit_59 rfl 2 rfl ?_
      obtain ⟨r0, P⟩ := P
      refine ok_callS (pc := 60) (cb := 0) (sb := 0) (st := []) hc [.int (i3 x1)] cs_X5_79 sp_X5_isNode (by decide) dX5_acceptsDigit_60 rfl rfl rfl rfl (Nat.le_of_ble_eq_true rfl) (⟨_, rfl, r0, rfl, ?_⟩)
      show Ok X 0 0 (60 + 3) [(2, .int (i3 0)), (0, .ref a0), (1, .int (i3 x1))] [.int (i3 (nodeC x1))] n h
      refine ok_istore_n (pc := 63) hc (lv' := [(3, .int (i3 (nodeC x1))), (2, .int (i3 0)), (0, .ref a0), (1, .int (i3 x1))]) dX5_acceptsDigit_63 rfl (by decide) rfl ?_
      refine ok_iload_n (pc := 64) hc dX5_acceptsDigit_64 rfl 0 rfl ?_
      obtain ⟨r9, P⟩ := P
      refine zk_if_eq (pc := 65) (tgt := 91) hc dX5_acceptsDigit_65 (by decide) r9 (fun c => ?_) (fun c => ?_)
      · have P := P.1 c
        refine ok_iload_n (pc := 91) hc dX5_acceptsDigit_91 rfl 0 rfl ?_
        obtain ⟨r, P⟩ := P
        exact ok_zret (st := []) (pc := 92) hc (nar_z r) hr dX5_acceptsDigit_92 P
      · have P := P.2 c
        refine ok_aload_n (pc := 68) hc dX5_acceptsDigit_68 rfl 2 rfl ?_
        refine ok_get (pc := 69) hc fl_X5_24 dX5_acceptsDigit_69 e1.1 e1.2 v1_4 ?_
        refine ok_aload_n (pc := 72) hc dX5_acceptsDigit_72 rfl 2 rfl ?_
        refine ok_get (pc := 73) hc fl_X5_53 dX5_acceptsDigit_73 e1.1 e1.2 v1_5 ?_
        refine ok_iload_n (pc := 76) hc dX5_acceptsDigit_76 rfl 3 rfl ?_
        refine ok_bipush (pc := 77) hc (v := i3 48) dX5_acceptsDigit_77 (by decide) ?_
        refine zk_isub (pc := 79) hc dX5_acceptsDigit_79 ?_
        obtain ⟨r, P⟩ := P
        refine zk_iast (pc := 80) hc dX5_acceptsDigit_80 e4.1 e4.2 r ?_
        refine ok_aload_n (pc := 81) hc dX5_acceptsDigit_81 rfl 2 rfl ?_
        refine ok_dup (pc := 82) hc dX5_acceptsDigit_82 rfl ?_
        refine ok_get (pc := 83) hc fl_X5_53 dX5_acceptsDigit_83 e1.1 ((up_ne (ne_oa e1.2 e4.2)).trans e1.2) v1_5 ?_
        refine ok_iconst (pc := 86) hc (v := i3 1) dX5_acceptsDigit_86 (by decide) ?_
        refine zk_iadd (pc := 87) hc dX5_acceptsDigit_87 ?_
        refine ok_put (pc := 88) hc fl_X5_53 dX5_acceptsDigit_88 e1.1 ((up_ne (ne_oa e1.2 e4.2)).trans e1.2) (by simp [List.length_set, z1]) (fun _ => rfl) (fun _ => rfl) ?_
        refine ok_iload_n (pc := 91) hc dX5_acceptsDigit_91 rfl 0 rfl ?_
        obtain ⟨r, P⟩ := P
        exact ok_zret (st := []) (pc := 92) hc (nar_z r) hr dX5_acceptsDigit_92 P
    · have P := P.2 c
      refine ok_aload_n (pc := 21) hc dX5_acceptsDigit_21 rfl 0 rfl ?_
      refine ok_get (pc := 22) hc fl_X5_53 dX5_acceptsDigit_22 e1.1 e1.2 v1_5 ?_
      refine ok_iconst (pc := 25) hc (v := i3 2) dX5_acceptsDigit_25 (by decide) ?_
      obtain ⟨r10, P⟩ := P
      refine zk_icmp_ne (pc := 26) (tgt := 33) hc dX5_acceptsDigit_26 (by decide) r10 ⟨by decide, by decide⟩ (fun c => ?_) (fun c => ?_)
      · have P := P.1 c
        refine ok_iconst (pc := 33) hc (v := i3 0) dX5_acceptsDigit_33 (by decide) ?_
        refine ok_istore_n (pc := 34) hc (lv' := [(2, .int (i3 0)), (0, .ref a0), (1, .int (i3 x1))]) dX5_acceptsDigit_34 rfl (by decide) rfl ?_
        refine ok_iload_n (pc := 35) hc dX5_acceptsDigit_35 rfl 0 rfl ?_
        refine zk_if_eq (pc := 36) (tgt := 59) hc dX5_acceptsDigit_36 (by decide) ⟨by decide, by decide⟩ (fun _ => ?_) (fun c => absurd c (by decide))
        refine ok_iload_n (pc := 59) hc dX5_acceptsDigit_59 rfl 2 rfl ?_
        obtain ⟨r0, P⟩ := P
        refine ok_callS (pc := 60) (cb := 0) (sb := 0) (st := []) hc [.int (i3 x1)] cs_X5_79 sp_X5_isNode (by decide) dX5_acceptsDigit_60 rfl rfl rfl rfl (Nat.le_of_ble_eq_true rfl) (⟨_, rfl, r0, rfl, ?_⟩)
        show Ok X 0 0 (60 + 3) [(2, .int (i3 0)), (0, .ref a0), (1, .int (i3 x1))] [.int (i3 (nodeC x1))] n h
        refine ok_istore_n (pc := 63) hc (lv' := [(3, .int (i3 (nodeC x1))), (2, .int (i3 0)), (0, .ref a0), (1, .int (i3 x1))]) dX5_acceptsDigit_63 rfl (by decide) rfl ?_
        refine ok_iload_n (pc := 64) hc dX5_acceptsDigit_64 rfl 0 rfl ?_
        obtain ⟨r11, P⟩ := P
        refine zk_if_eq (pc := 65) (tgt := 91) hc dX5_acceptsDigit_65 (by decide) r11 (fun c => ?_) (fun c => ?_)
        · have P := P.1 c
          refine ok_iload_n (pc := 91) hc dX5_acceptsDigit_91 rfl 0 rfl ?_
          obtain ⟨r, P⟩ := P
          exact ok_zret (st := []) (pc := 92) hc (nar_z r) hr dX5_acceptsDigit_92 P
        · have P := P.2 c
          refine ok_aload_n (pc := 68) hc dX5_acceptsDigit_68 rfl 2 rfl ?_
          refine ok_get (pc := 69) hc fl_X5_24 dX5_acceptsDigit_69 e1.1 e1.2 v1_4 ?_
          refine ok_aload_n (pc := 72) hc dX5_acceptsDigit_72 rfl 2 rfl ?_
          refine ok_get (pc := 73) hc fl_X5_53 dX5_acceptsDigit_73 e1.1 e1.2 v1_5 ?_
          refine ok_iload_n (pc := 76) hc dX5_acceptsDigit_76 rfl 3 rfl ?_
          refine ok_bipush (pc := 77) hc (v := i3 48) dX5_acceptsDigit_77 (by decide) ?_
          refine zk_isub (pc := 79) hc dX5_acceptsDigit_79 ?_
          obtain ⟨r, P⟩ := P
          refine zk_iast (pc := 80) hc dX5_acceptsDigit_80 e4.1 e4.2 r ?_
          refine ok_aload_n (pc := 81) hc dX5_acceptsDigit_81 rfl 2 rfl ?_
          refine ok_dup (pc := 82) hc dX5_acceptsDigit_82 rfl ?_
          refine ok_get (pc := 83) hc fl_X5_53 dX5_acceptsDigit_83 e1.1 ((up_ne (ne_oa e1.2 e4.2)).trans e1.2) v1_5 ?_
          refine ok_iconst (pc := 86) hc (v := i3 1) dX5_acceptsDigit_86 (by decide) ?_
          refine zk_iadd (pc := 87) hc dX5_acceptsDigit_87 ?_
          refine ok_put (pc := 88) hc fl_X5_53 dX5_acceptsDigit_88 e1.1 ((up_ne (ne_oa e1.2 e4.2)).trans e1.2) (by simp [List.length_set, z1]) (fun _ => rfl) (fun _ => rfl) ?_
          refine ok_iload_n (pc := 91) hc dX5_acceptsDigit_91 rfl 0 rfl ?_
          obtain ⟨r, P⟩ := P
          exact ok_zret (st := []) (pc := 92) hc (nar_z r) hr dX5_acceptsDigit_92 P
      · have P := P.2 c
        refine ok_iconst (pc := 29) hc (v := i3 1) dX5_acceptsDigit_29 (by decide) ?_
        refine ok_goto (pc := 30) (tgt := 34) hc dX5_acceptsDigit_30 (by decide) ?_
        refine ok_istore_n (pc := 34) hc (lv' := [(2, .int (i3 1)), (0, .ref a0), (1, .int (i3 x1))]) dX5_acceptsDigit_34 rfl (by decide) rfl ?_
        refine ok_iload_n (pc := 35) hc dX5_acceptsDigit_35 rfl 0 rfl ?_
        refine zk_if_eq (pc := 36) (tgt := 59) hc dX5_acceptsDigit_36 (by decide) ⟨by decide, by decide⟩ (fun c => absurd c (by decide)) (fun _ => ?_)
        refine ok_iload_n (pc := 39) hc dX5_acceptsDigit_39 rfl 2 rfl ?_
        refine ok_bipush (pc := 40) hc (v := i3 49) dX5_acceptsDigit_40 (by decide) ?_
        obtain ⟨r12, P⟩ := P
        refine zk_icmp_lt (pc := 42) (tgt := 55) hc dX5_acceptsDigit_42 (by decide) r12 ⟨by decide, by decide⟩ (fun c => ?_) (fun c => ?_)
        · have P := P.1 c
          refine ok_iconst (pc := 55) hc (v := i3 0) dX5_acceptsDigit_55 (by decide) ?_
          refine ok_goto (pc := 56) (tgt := 63) hc dX5_acceptsDigit_56 (by decide) ?_
          refine ok_istore_n (pc := 63) hc (lv' := [(3, .int (i3 0)), (2, .int (i3 1)), (0, .ref a0), (1, .int (i3 x1))]) dX5_acceptsDigit_63 rfl (by decide) rfl ?_
          refine ok_iload_n (pc := 64) hc dX5_acceptsDigit_64 rfl 0 rfl ?_
          refine zk_if_eq (pc := 65) (tgt := 91) hc dX5_acceptsDigit_65 (by decide) ⟨by decide, by decide⟩ (fun _ => ?_) (fun c => absurd c (by decide))
          refine ok_iload_n (pc := 91) hc dX5_acceptsDigit_91 rfl 0 rfl ?_
          exact ok_zret (st := []) (pc := 92) hc (nar_z (by decide)) hr dX5_acceptsDigit_92 P
        · have P := P.2 c
          refine ok_iload_n (pc := 45) hc dX5_acceptsDigit_45 rfl 2 rfl ?_
          refine ok_bipush (pc := 46) hc (v := i3 52) dX5_acceptsDigit_46 (by decide) ?_
          obtain ⟨r13, P⟩ := P
          refine zk_icmp_gt (pc := 48) (tgt := 55) hc dX5_acceptsDigit_48 (by decide) r13 ⟨by decide, by decide⟩ (fun c => ?_) (fun c => ?_)
          · have P := P.1 c
            refine ok_iconst (pc := 55) hc (v := i3 0) dX5_acceptsDigit_55 (by decide) ?_
            refine ok_goto (pc := 56) (tgt := 63) hc dX5_acceptsDigit_56 (by decide) ?_
            refine ok_istore_n (pc := 63) hc (lv' := [(3, .int (i3 0)), (2, .int (i3 1)), (0, .ref a0), (1, .int (i3 x1))]) dX5_acceptsDigit_63 rfl (by decide) rfl ?_
            refine ok_iload_n (pc := 64) hc dX5_acceptsDigit_64 rfl 0 rfl ?_
            refine zk_if_eq (pc := 65) (tgt := 91) hc dX5_acceptsDigit_65 (by decide) ⟨by decide, by decide⟩ (fun _ => ?_) (fun c => absurd c (by decide))
            refine ok_iload_n (pc := 91) hc dX5_acceptsDigit_91 rfl 0 rfl ?_
            exact ok_zret (st := []) (pc := 92) hc (nar_z (by decide)) hr dX5_acceptsDigit_92 P
          · have P := P.2 c
            refine ok_iconst (pc := 51) hc (v := i3 1) dX5_acceptsDigit_51 (by decide) ?_
            refine ok_goto (pc := 52) (tgt := 63) hc dX5_acceptsDigit_52 (by decide) ?_
            refine ok_istore_n (pc := 63) hc (lv' := [(3, .int (i3 1)), (2, .int (i3 1)), (0, .ref a0), (1, .int (i3 x1))]) dX5_acceptsDigit_63 rfl (by decide) rfl ?_
            refine ok_iload_n (pc := 64) hc dX5_acceptsDigit_64 rfl 0 rfl ?_
            refine zk_if_eq (pc := 65) (tgt := 91) hc dX5_acceptsDigit_65 (by decide) ⟨by decide, by decide⟩ (fun c => absurd c (by decide)) (fun _ => ?_)
            refine ok_aload_n (pc := 68) hc dX5_acceptsDigit_68 rfl 2 rfl ?_
            refine ok_get (pc := 69) hc fl_X5_24 dX5_acceptsDigit_69 e1.1 e1.2 v1_4 ?_
            refine ok_aload_n (pc := 72) hc dX5_acceptsDigit_72 rfl 2 rfl ?_
            refine ok_get (pc := 73) hc fl_X5_53 dX5_acceptsDigit_73 e1.1 e1.2 v1_5 ?_
            refine ok_iload_n (pc := 76) hc dX5_acceptsDigit_76 rfl 3 rfl ?_
            refine ok_bipush (pc := 77) hc (v := i3 48) dX5_acceptsDigit_77 (by decide) ?_
            refine zk_isub (pc := 79) hc dX5_acceptsDigit_79 ?_
            obtain ⟨r, P⟩ := P
            refine zk_iast (pc := 80) hc dX5_acceptsDigit_80 e4.1 e4.2 r ?_
            refine ok_aload_n (pc := 81) hc dX5_acceptsDigit_81 rfl 2 rfl ?_
            refine ok_dup (pc := 82) hc dX5_acceptsDigit_82 rfl ?_
            refine ok_get (pc := 83) hc fl_X5_53 dX5_acceptsDigit_83 e1.1 ((up_ne (ne_oa e1.2 e4.2)).trans e1.2) v1_5 ?_
            refine ok_iconst (pc := 86) hc (v := i3 1) dX5_acceptsDigit_86 (by decide) ?_
            refine zk_iadd (pc := 87) hc dX5_acceptsDigit_87 ?_
            refine ok_put (pc := 88) hc fl_X5_53 dX5_acceptsDigit_88 e1.1 ((up_ne (ne_oa e1.2 e4.2)).trans e1.2) (by simp [List.length_set, z1]) (fun _ => rfl) (fun _ => rfl) ?_
            refine ok_iload_n (pc := 91) hc dX5_acceptsDigit_91 rfl 0 rfl ?_
            exact ok_zret (st := []) (pc := 92) hc (nar_z (by decide)) hr dX5_acceptsDigit_92 P
  · have P := P.2 c
    refine ok_iconst (pc := 12) hc (v := i3 0) dX5_acceptsDigit_12 (by decide) ?_
    exact ok_zret (st := []) (pc := 13) hc (nar_z (by decide)) hr dX5_acceptsDigit_13 P

def spec_X5_acceptsDigit (args : List Value) (n : Nat) (h : HP) (K : KT) : Prop := ∃ (c : Int) (T : Nat → Int) (len : Int) (q : RdQ), args = [.ref 57, .int (i3 c)] ∧ R3 c ∧ RdC h n T len q ∧ R3 q.1 ∧ (0 ≤ q.2.1 ∧ q.2.1 ≤ 3) ∧ ansR h n T len K (stepD q c)
theorem sp_X5_acceptsDigit : Sp yX5_acceptsDigit cX5_acceptsDigit 4 (some .boolean) 1 20 0 0 spec_X5_acceptsDigit := by
  refine sp_intro (by decide) (by rintro args n h K ⟨c, T, len, q, rfl, -⟩; exact Nat.le_of_ble_eq_true rfl) ?_
  rintro X args n h K hc hr ⟨c, T, len, q, rfl, hcc, hq, hk, ht, kk⟩
  unfold stepD digOk at kk
  have yes : q.2.1 < 3 → (if q.1 = 0 ∧ q.2.1 = 2 then decide (49 ≤ c ∧ c ≤ 52) else decide (48 ≤ c ∧ c ≤ 54)) = true → K (.inl (some (.int (i3 1)))) n (va_up (va_up h 64 (ai 3 (va_up q.2.2.2.2.2.1 q.2.1.toNat (c - 48)))) 57 (.inl (5, [.ref 58, .ref 59, .int (i3 len), .int (i3 q.1), .ref 64, .int (i3 (q.2.1 + 1)), .int (i3 q.2.2.1), .int (i3 q.2.2.2.1), .int (i3 q.2.2.2.2.1)]))) := by
    intro e1 e2
    rw [if_pos ⟨e1, e2⟩] at kk
    refine kk _ ⟨At.it (hq.1.up (by omega)), (hq.2.1.up (by omega)).up (by omega), (At.it hq.2.2.1).up (by omega), ?_⟩ ((Fr.rf.up (by omega)).up (by omega))
    exact (hq.2.2.2.fr (lo := 64) (hi := 64) (Fr.rf.up (by omega)) (by omega)).fr (lo := 57) (hi := 57) (Fr.rf.up (by omega)) (by omega)
  have no : ¬ (q.2.1 < 3 ∧ (if q.1 = 0 ∧ q.2.1 = 2 then decide (49 ≤ c ∧ c ≤ 52) else decide (48 ≤ c ∧ c ≤ 54)) = true) → K (.inl (some (.int (i3 0)))) n h := by
    intro e
    rw [if_neg e] at kk
    exact kk h hq.x Fr.rf
  have r01 : R3 (nodeC c) := R3_s (by rcases node01 c with e | e <;> omega)
  refine sX5_acceptsDigit_0 hc hr hq.1 rfl rfl rfl hq.2.2.1 rfl ⟨R3_s (by omega), ⟨by decide, by decide⟩, fun a => ⟨hk, fun b => ⟨hcc, r01, fun e => ⟨node01 c, ?_⟩, fun e => ⟨⟨by omega, by omega, by omega⟩, node01 c, ?_⟩⟩, fun b => ⟨R3_s (by omega), fun b2 => ⟨hcc, r01, fun e => ⟨node01 c, ?_⟩, fun e => ⟨⟨by omega, by omega, by omega⟩, node01 c, ?_⟩⟩, fun b2 => ⟨hcc, fun e => ?_, fun e => ⟨hcc, fun e2 => ?_, fun e2 => ⟨⟨by omega, by omega, by omega⟩, ?_⟩⟩⟩⟩⟩, fun a => ?_⟩
  · rw [e]
    rw [node0] at e
    exact no (by rw [if_neg (by omega)]; simp only [decide_eq_true_eq]; omega)
  · rw [node0] at e
    rw [show nodeC c = 1 by rcases node01 c with f | f; (rw [node0] at f; exact absurd f e); exact f]
    exact yes a (by rw [if_neg (by omega)]; simp only [decide_eq_true_eq]; omega)
  · rw [e]
    rw [node0] at e
    exact no (by rw [if_neg (by omega)]; simp only [decide_eq_true_eq]; omega)
  · rw [node0] at e
    rw [show nodeC c = 1 by rcases node01 c with f | f; (rw [node0] at f; exact absurd f e); exact f]
    exact yes a (by rw [if_neg (by omega)]; simp only [decide_eq_true_eq]; omega)
  · exact no (by rw [if_pos ⟨b, b2⟩]; simp only [decide_eq_true_eq]; omega)
  · exact no (by rw [if_pos ⟨b, b2⟩]; simp only [decide_eq_true_eq]; omega)
  · exact yes a (by rw [if_pos ⟨b, b2⟩]; simp only [decide_eq_true_eq]; omega)
  · exact no (by omega)
def stepV (q : RdQ) (c : Int) : Option RdQ := if 48 ≤ c ∧ c ≤ 57 ∧ ¬ (0 < q.2.1 ∧ q.2.2.2.2.1 = 0) ∧ 10 * q.2.2.2.2.1 + (c - 48) ≤ 200 then some (q.1, q.2.1 + 1, q.2.2.1, q.2.2.2.1, 10 * q.2.2.2.2.1 + (c - 48), q.2.2.2.2.2.1, q.2.2.2.2.2.2) else none
set_option maxHeartbeats 4000000 in
set_option maxRecDepth 100000 in
theorem sX5_acceptsInValue_0 {X : Xt} {n : Nat} {h : HP} {a0 : Nat} {x1 : Int} {fs1 : List Value} {iv2 : Int} {iv6 : Int} (hc : Cx X cX5_acceptsInValue RX5 3 0 0) {K : KT} (hr : CxR X (some .boolean) K) (e1 : At h n a0 (.inl (5, fs1))) (z1 : fs1.length = 9) (v1_5 : fs1[5]? = some (.int (i3 iv2))) (v1_8 : fs1[8]? = some (.int (i3 iv6)))
    (P : (R3 iv2) ∧ (iv2 ≤ 0 → (R3 x1) ∧ (x1 < 48 → K (.inl (some (.int (i3 0)))) n h) ∧ (¬ x1 < 48 → (R3 x1) ∧ (57 < x1 → K (.inl (some (.int (i3 0)))) n h) ∧ (¬ 57 < x1 → (R3 ((10 * iv6) + (x1 - 48))) ∧ (200 < ((10 * iv6) + (x1 - 48)) → K (.inl (some (.int (i3 0)))) n (va_up (va_up h a0 (.inl (5, (fs1.set 8 (.int (i3 ((10 * iv6) + (x1 - 48)))))))) a0 (.inl (5, ((fs1.set 8 (.int (i3 ((10 * iv6) + (x1 - 48))))).set 5 (.int (i3 (iv2 + 1)))))))) ∧ (¬ 200 < ((10 * iv6) + (x1 - 48)) → K (.inl (some (.int (i3 1)))) n (va_up (va_up h a0 (.inl (5, (fs1.set 8 (.int (i3 ((10 * iv6) + (x1 - 48)))))))) a0 (.inl (5, ((fs1.set 8 (.int (i3 ((10 * iv6) + (x1 - 48))))).set 5 (.int (i3 (iv2 + 1))))))))))) ∧ (¬ iv2 ≤ 0 → (R3 iv6) ∧ (¬ iv6 = 0 → (R3 x1) ∧ (x1 < 48 → K (.inl (some (.int (i3 0)))) n h) ∧ (¬ x1 < 48 → (R3 x1) ∧ (57 < x1 → K (.inl (some (.int (i3 0)))) n h) ∧ (¬ 57 < x1 → (R3 ((10 * iv6) + (x1 - 48))) ∧ (200 < ((10 * iv6) + (x1 - 48)) → K (.inl (some (.int (i3 0)))) n (va_up (va_up h a0 (.inl (5, (fs1.set 8 (.int (i3 ((10 * iv6) + (x1 - 48)))))))) a0 (.inl (5, ((fs1.set 8 (.int (i3 ((10 * iv6) + (x1 - 48))))).set 5 (.int (i3 (iv2 + 1)))))))) ∧ (¬ 200 < ((10 * iv6) + (x1 - 48)) → K (.inl (some (.int (i3 1)))) n (va_up (va_up h a0 (.inl (5, (fs1.set 8 (.int (i3 ((10 * iv6) + (x1 - 48)))))))) a0 (.inl (5, ((fs1.set 8 (.int (i3 ((10 * iv6) + (x1 - 48))))).set 5 (.int (i3 (iv2 + 1))))))))))) ∧ (iv6 = 0 → (R3 x1) ∧ (x1 < 48 → K (.inl (some (.int (i3 0)))) n h) ∧ (¬ x1 < 48 → (R3 x1) ∧ (57 < x1 → K (.inl (some (.int (i3 0)))) n h) ∧ (¬ 57 < x1 → K (.inl (some (.int (i3 0)))) n h))))) :
    Ok X 0 0 0 [(0, .ref a0), (1, .int (i3 x1))] [] n h := by
  refine ok_aload_n (pc := 0) hc dX5_acceptsInValue_0 rfl 0 rfl ?_
  refine ok_get (pc := 1) hc fl_X5_53 dX5_acceptsInValue_1 e1.1 e1.2 v1_5 ?_
  obtain ⟨r3, P⟩ := P
  refine zk_if_le (pc := 4) (tgt := 18) hc dX5_acceptsInValue_4 (by decide) r3 (fun c => ?_) (fun c => ?_)
  · have P := P.1 c
    refine ok_iconst (pc := 18) hc (v := i3 0) dX5_acceptsInValue_18 (by decide) ?_
    refine ok_istore_n (pc := 19) hc (lv' := [(2, .int (i3 0)), (0, .ref a0), (1, .int (i3 x1))]) dX5_acceptsInValue_19 rfl (by decide) rfl ?_
    refine ok_iload_n (pc := 20) hc dX5_acceptsInValue_20 rfl 2 rfl ?_
    refine ok_bipush (pc := 21) hc (v := i3 48) dX5_acceptsInValue_21 (by decide) ?_
    obtain ⟨r4, P⟩ := P
    refine zk_icmp_lt (pc := 23) (tgt := 36) hc dX5_acceptsInValue_23 (by decide) r4 ⟨by decide, by decide⟩ (fun c => ?_) (fun c => ?_)
    · have P := P.1 c
      refine ok_iconst (pc := 36) hc (v := i3 0) dX5_acceptsInValue_36 (by decide) ?_
      exact ok_zret (st := []) (pc := 37) hc (nar_z (by decide)) hr dX5_acceptsInValue_37 P
    · have P := P.2 c
      refine ok_iload_n (pc := 26) hc dX5_acceptsInValue_26 rfl 2 rfl ?_
      refine ok_bipush (pc := 27) hc (v := i3 57) dX5_acceptsInValue_27 (by decide) ?_
      obtain ⟨r5, P⟩ := P
      refine zk_icmp_gt (pc := 29) (tgt := 36) hc dX5_acceptsInValue_29 (by decide) r5 ⟨by decide, by decide⟩ (fun c => ?_) (fun c => ?_)
      · have P := P.1 c
        refine ok_iconst (pc := 36) hc (v := i3 0) dX5_acceptsInValue_36 (by decide) ?_
        exact ok_zret (st := []) (pc := 37) hc (nar_z (by decide)) hr dX5_acceptsInValue_37 P
      · have P := P.2 c
        refine ok_iload_n (pc := 32) hc dX5_acceptsInValue_32 rfl 0 rfl ?_
        refine zk_if_eq (pc := 33) (tgt := 38) hc dX5_acceptsInValue_33 (by decide) ⟨by decide, by decide⟩ (fun _ => ?_) (fun c => absurd c (by decide))
        refine ok_aload_n (pc := 38) hc dX5_acceptsInValue_38 rfl 1 rfl ?_
        refine ok_bipush (pc := 39) hc (v := i3 10) dX5_acceptsInValue_39 (by decide) ?_
        refine ok_aload_n (pc := 41) hc dX5_acceptsInValue_41 rfl 1 rfl ?_
        refine ok_get (pc := 42) hc fl_X5_63 dX5_acceptsInValue_42 e1.1 e1.2 v1_8 ?_
        refine zk_imul (pc := 45) hc dX5_acceptsInValue_45 ?_
        refine ok_iload_n (pc := 46) hc dX5_acceptsInValue_46 rfl 2 rfl ?_
        refine ok_bipush (pc := 47) hc (v := i3 48) dX5_acceptsInValue_47 (by decide) ?_
        refine zk_isub (pc := 49) hc dX5_acceptsInValue_49 ?_
        refine zk_iadd (pc := 50) hc dX5_acceptsInValue_50 ?_
        refine ok_put (pc := 51) hc fl_X5_63 dX5_acceptsInValue_51 e1.1 e1.2 (by simp [List.length_set, z1]) (fun _ => rfl) (fun _ => rfl) ?_
        refine ok_aload_n (pc := 54) hc dX5_acceptsInValue_54 rfl 1 rfl ?_
        refine ok_dup (pc := 55) hc dX5_acceptsInValue_55 rfl ?_
        refine ok_get (pc := 56) hc fl_X5_53 dX5_acceptsInValue_56 e1.1 up_self ((set_ne (by decide)).trans v1_5) ?_
        refine ok_iconst (pc := 59) hc (v := i3 1) dX5_acceptsInValue_59 (by decide) ?_
        refine zk_iadd (pc := 60) hc dX5_acceptsInValue_60 ?_
        refine ok_put (pc := 61) hc fl_X5_53 dX5_acceptsInValue_61 e1.1 up_self (by simp [List.length_set, z1]) (fun _ => rfl) (fun _ => rfl) ?_
        refine ok_aload_n (pc := 64) hc dX5_acceptsInValue_64 rfl 1 rfl ?_
        refine ok_get (pc := 65) hc fl_X5_63 dX5_acceptsInValue_65 e1.1 up_self ((set_ne (by decide)).trans (set_self (by simp [List.length_set, z1]))) ?_
        refine ok_sipush (pc := 68) hc (v := i3 200) dX5_acceptsInValue_68 (by decide) ?_
        obtain ⟨r7, P⟩ := P
        refine zk_icmp_gt (pc := 71) (tgt := 78) hc dX5_acceptsInValue_71 (by decide) r7 ⟨by decide, by decide⟩ (fun c => ?_) (fun c => ?_)
        · have P := P.1 c
          refine ok_iconst (pc := 78) hc (v := i3 0) dX5_acceptsInValue_78 (by decide) ?_
          exact ok_zret (st := []) (pc := 79) hc (nar_z (by decide)) hr dX5_acceptsInValue_79 P
        · have P := P.2 c
          refine ok_iconst (pc := 74) hc (v := i3 1) dX5_acceptsInValue_74 (by decide) ?_
          refine ok_goto (pc := 75) (tgt := 79) hc dX5_acceptsInValue_75 (by decide) ?_
          exact ok_zret (st := []) (pc := 79) hc (nar_z (by decide)) hr dX5_acceptsInValue_79 P
  · have P := P.2 c
    refine ok_aload_n (pc := 7) hc dX5_acceptsInValue_7 rfl 0 rfl ?_
    refine ok_get (pc := 8) hc fl_X5_63 dX5_acceptsInValue_8 e1.1 e1.2 v1_8 ?_
    obtain ⟨r8, P⟩ := P
    refine zk_if_ne (pc := 11) (tgt := 18) hc dX5_acceptsInValue_11 (by decide) r8 (fun c => ?_) (fun c => ?_)
    · have P := P.1 c
      refine ok_iconst (pc := 18) hc (v := i3 0) dX5_acceptsInValue_18 (by decide) ?_
      refine ok_istore_n (pc := 19) hc (lv' := [(2, .int (i3 0)), (0, .ref a0), (1, .int (i3 x1))]) dX5_acceptsInValue_19 rfl (by decide) rfl ?_
      refine ok_iload_n (pc := 20) hc dX5_acceptsInValue_20 rfl 2 rfl ?_
      refine ok_bipush (pc := 21) hc (v := i3 48) dX5_acceptsInValue_21 (by decide) ?_
      obtain ⟨r9, P⟩ := P
      refine zk_icmp_lt (pc := 23) (tgt := 36) hc dX5_acceptsInValue_23 (by decide) r9 ⟨by decide, by decide⟩ (fun c => ?_) (fun c => ?_)
      · have P := P.1 c
        refine ok_iconst (pc := 36) hc (v := i3 0) dX5_acceptsInValue_36 (by decide) ?_
        exact ok_zret (st := []) (pc := 37) hc (nar_z (by decide)) hr dX5_acceptsInValue_37 P
      · have P := P.2 c
        refine ok_iload_n (pc := 26) hc dX5_acceptsInValue_26 rfl 2 rfl ?_
        refine ok_bipush (pc := 27) hc (v := i3 57) dX5_acceptsInValue_27 (by decide) ?_
        obtain ⟨r10, P⟩ := P
        refine zk_icmp_gt (pc := 29) (tgt := 36) hc dX5_acceptsInValue_29 (by decide) r10 ⟨by decide, by decide⟩ (fun c => ?_) (fun c => ?_)
        · have P := P.1 c
          refine ok_iconst (pc := 36) hc (v := i3 0) dX5_acceptsInValue_36 (by decide) ?_
          exact ok_zret (st := []) (pc := 37) hc (nar_z (by decide)) hr dX5_acceptsInValue_37 P
        · have P := P.2 c
          refine ok_iload_n (pc := 32) hc dX5_acceptsInValue_32 rfl 0 rfl ?_
          refine zk_if_eq (pc := 33) (tgt := 38) hc dX5_acceptsInValue_33 (by decide) ⟨by decide, by decide⟩ (fun _ => ?_) (fun c => absurd c (by decide))
          refine ok_aload_n (pc := 38) hc dX5_acceptsInValue_38 rfl 1 rfl ?_
          refine ok_bipush (pc := 39) hc (v := i3 10) dX5_acceptsInValue_39 (by decide) ?_
          refine ok_aload_n (pc := 41) hc dX5_acceptsInValue_41 rfl 1 rfl ?_
          refine ok_get (pc := 42) hc fl_X5_63 dX5_acceptsInValue_42 e1.1 e1.2 v1_8 ?_
          refine zk_imul (pc := 45) hc dX5_acceptsInValue_45 ?_
          refine ok_iload_n (pc := 46) hc dX5_acceptsInValue_46 rfl 2 rfl ?_
          refine ok_bipush (pc := 47) hc (v := i3 48) dX5_acceptsInValue_47 (by decide) ?_
          refine zk_isub (pc := 49) hc dX5_acceptsInValue_49 ?_
          refine zk_iadd (pc := 50) hc dX5_acceptsInValue_50 ?_
          refine ok_put (pc := 51) hc fl_X5_63 dX5_acceptsInValue_51 e1.1 e1.2 (by simp [List.length_set, z1]) (fun _ => rfl) (fun _ => rfl) ?_
          refine ok_aload_n (pc := 54) hc dX5_acceptsInValue_54 rfl 1 rfl ?_
          refine ok_dup (pc := 55) hc dX5_acceptsInValue_55 rfl ?_
          refine ok_get (pc := 56) hc fl_X5_53 dX5_acceptsInValue_56 e1.1 up_self ((set_ne (by decide)).trans v1_5) ?_
          refine ok_iconst (pc := 59) hc (v := i3 1) dX5_acceptsInValue_59 (by decide) ?_
          refine zk_iadd (pc := 60) hc dX5_acceptsInValue_60 ?_
          refine ok_put (pc := 61) hc fl_X5_53 dX5_acceptsInValue_61 e1.1 up_self (by simp [List.length_set, z1]) (fun _ => rfl) (fun _ => rfl) ?_
          refine ok_aload_n (pc := 64) hc dX5_acceptsInValue_64 rfl 1 rfl ?_
          refine ok_get (pc := 65) hc fl_X5_63 dX5_acceptsInValue_65 e1.1 up_self ((set_ne (by decide)).trans (set_self (by simp [List.length_set, z1]))) ?_
          refine ok_sipush (pc := 68) hc (v := i3 200) dX5_acceptsInValue_68 (by decide) ?_
          obtain ⟨r11, P⟩ := P
          refine zk_icmp_gt (pc := 71) (tgt := 78) hc dX5_acceptsInValue_71 (by decide) r11 ⟨by decide, by decide⟩ (fun c => ?_) (fun c => ?_)
          · have P := P.1 c
            refine ok_iconst (pc := 78) hc (v := i3 0) dX5_acceptsInValue_78 (by decide) ?_
            exact ok_zret (st := []) (pc := 79) hc (nar_z (by decide)) hr dX5_acceptsInValue_79 P
          · have P := P.2 c
            refine ok_iconst (pc := 74) hc (v := i3 1) dX5_acceptsInValue_74 (by decide) ?_
            refine ok_goto (pc := 75) (tgt := 79) hc dX5_acceptsInValue_75 (by decide) ?_
            exact ok_zret (st := []) (pc := 79) hc (nar_z (by decide)) hr dX5_acceptsInValue_79 P
    · have P := P.2 c
      refine ok_iconst (pc := 14) hc (v := i3 1) dX5_acceptsInValue_14 (by decide) ?_
      refine ok_goto (pc := 15) (tgt := 19) hc dX5_acceptsInValue_15 (by decide) ?_
      refine ok_istore_n (pc := 19) hc (lv' := [(2, .int (i3 1)), (0, .ref a0), (1, .int (i3 x1))]) dX5_acceptsInValue_19 rfl (by decide) rfl ?_
      refine ok_iload_n (pc := 20) hc dX5_acceptsInValue_20 rfl 2 rfl ?_
      refine ok_bipush (pc := 21) hc (v := i3 48) dX5_acceptsInValue_21 (by decide) ?_
      obtain ⟨r12, P⟩ := P
      refine zk_icmp_lt (pc := 23) (tgt := 36) hc dX5_acceptsInValue_23 (by decide) r12 ⟨by decide, by decide⟩ (fun c => ?_) (fun c => ?_)
      · have P := P.1 c
        refine ok_iconst (pc := 36) hc (v := i3 0) dX5_acceptsInValue_36 (by decide) ?_
        exact ok_zret (st := []) (pc := 37) hc (nar_z (by decide)) hr dX5_acceptsInValue_37 P
      · have P := P.2 c
        refine ok_iload_n (pc := 26) hc dX5_acceptsInValue_26 rfl 2 rfl ?_
        refine ok_bipush (pc := 27) hc (v := i3 57) dX5_acceptsInValue_27 (by decide) ?_
        obtain ⟨r13, P⟩ := P
        refine zk_icmp_gt (pc := 29) (tgt := 36) hc dX5_acceptsInValue_29 (by decide) r13 ⟨by decide, by decide⟩ (fun c => ?_) (fun c => ?_)
        · have P := P.1 c
          refine ok_iconst (pc := 36) hc (v := i3 0) dX5_acceptsInValue_36 (by decide) ?_
          exact ok_zret (st := []) (pc := 37) hc (nar_z (by decide)) hr dX5_acceptsInValue_37 P
        · have P := P.2 c
          refine ok_iload_n (pc := 32) hc dX5_acceptsInValue_32 rfl 0 rfl ?_
          refine zk_if_eq (pc := 33) (tgt := 38) hc dX5_acceptsInValue_33 (by decide) ⟨by decide, by decide⟩ (fun c => absurd c (by decide)) (fun _ => ?_)
          refine ok_iconst (pc := 36) hc (v := i3 0) dX5_acceptsInValue_36 (by decide) ?_
          exact ok_zret (st := []) (pc := 37) hc (nar_z (by decide)) hr dX5_acceptsInValue_37 P

def spec_X5_acceptsInValue (args : List Value) (n : Nat) (h : HP) (K : KT) : Prop := ∃ (c : Int) (T : Nat → Int) (len : Int) (q : RdQ), args = [.ref 57, .int (i3 c)] ∧ R3 c ∧ RdC h n T len q ∧ (0 ≤ q.2.1 ∧ q.2.1 ≤ 1000) ∧ (0 ≤ q.2.2.2.2.1 ∧ q.2.2.2.2.1 ≤ 1000) ∧ ansR h n T len K (stepV q c)
theorem sp_X5_acceptsInValue : Sp yX5_acceptsInValue cX5_acceptsInValue 3 (some .boolean) 0 0 0 0 spec_X5_acceptsInValue := by
  refine sp_intro (by decide) (by rintro args n h K ⟨c, T, len, q, rfl, -⟩; exact Nat.le_of_ble_eq_true rfl) ?_
  rintro X args n h K hc hr ⟨c, T, len, q, rfl, hcc, hq, ht, hv, kk⟩
  unfold stepV at kk
  have hq2 : RdC (va_up h 57 (.inl (5, [.ref 58, .ref 59, .int (i3 len), .int (i3 q.1), .ref 64, .int (i3 (q.2.1 + 1)), .int (i3 q.2.2.1), .int (i3 q.2.2.2.1), .int (i3 (10 * q.2.2.2.2.1 + (c - 48)))]))) n T len (q.1, q.2.1 + 1, q.2.2.1, q.2.2.2.1, 10 * q.2.2.2.2.1 + (c - 48), q.2.2.2.2.2.1, q.2.2.2.2.2.2) := hq.own
  have yes : (48 ≤ c ∧ c ≤ 57 ∧ ¬ (0 < q.2.1 ∧ q.2.2.2.2.1 = 0) ∧ 10 * q.2.2.2.2.1 + (c - 48) ≤ 200) → K (.inl (some (.int (i3 1)))) n (va_up h 57 (.inl (5, [.ref 58, .ref 59, .int (i3 len), .int (i3 q.1), .ref 64, .int (i3 (q.2.1 + 1)), .int (i3 q.2.2.1), .int (i3 q.2.2.2.1), .int (i3 (10 * q.2.2.2.2.1 + (c - 48)))]))) := fun e => by
    rw [if_pos e] at kk
    exact kk _ hq2 (Fr.rf.up (by omega))
  have no : ¬ (48 ≤ c ∧ c ≤ 57 ∧ ¬ (0 < q.2.1 ∧ q.2.2.2.2.1 = 0) ∧ 10 * q.2.2.2.2.1 + (c - 48) ≤ 200) → ∀ h', RdX h' n T len → Fr h h' 57 64 → K (.inl (some (.int (i3 0)))) n h' := fun e => by
    rw [if_neg e] at kk
    exact kk
  have rr : 48 ≤ c → c ≤ 57 → R3 (10 * q.2.2.2.2.1 + (c - 48)) := fun a b => R3_s (by omega)
  have uu : ∀ fs : List Value, va_up (va_up h 57 (.inl (5, fs))) 57 (.inl (5, [.ref 58, .ref 59, .int (i3 len), .int (i3 q.1), .ref 64, .int (i3 (q.2.1 + 1)), .int (i3 q.2.2.1), .int (i3 q.2.2.2.1), .int (i3 (10 * q.2.2.2.2.1 + (c - 48)))])) = va_up h 57 (.inl (5, [.ref 58, .ref 59, .int (i3 len), .int (i3 q.1), .ref 64, .int (i3 (q.2.1 + 1)), .int (i3 q.2.2.1), .int (i3 q.2.2.2.1), .int (i3 (10 * q.2.2.2.2.1 + (c - 48)))])) := fun fs => up_up h 57 _ _
  refine sX5_acceptsInValue_0 hc hr hq.1 rfl rfl rfl ⟨R3_s (by omega), fun a => ⟨hcc, fun b => no (by omega) _ hq.x Fr.rf, fun b => ⟨hcc, fun d => no (by omega) _ hq.x Fr.rf, fun d => ⟨rr (by omega) (by omega), fun e => ?_, fun e => ?_⟩⟩⟩, fun a => ⟨R3_s (by omega), fun z => ⟨hcc, fun b => no (by omega) _ hq.x Fr.rf, fun b => ⟨hcc, fun d => no (by omega) _ hq.x Fr.rf, fun d => ⟨rr (by omega) (by omega), fun e => ?_, fun e => ?_⟩⟩⟩, fun z => ⟨hcc, fun b => no (by omega) _ hq.x Fr.rf, fun b => ⟨hcc, fun d => no (by omega) _ hq.x Fr.rf, fun d => no (by omega) _ hq.x Fr.rf⟩⟩⟩⟩
  · refine no (by omega) _ ?_ ((Fr.rf.up (by omega)).up (by omega))
    rw [up_up]
    exact hq2.x
  · rw [up_up]
    exact yes (by omega)
  · refine no (by omega) _ ?_ ((Fr.rf.up (by omega)).up (by omega))
    rw [up_up]
    exact hq2.x
  · rw [up_up]
    exact yes (by omega)
