/-! part 61: the reference: of, is, isPart -/
/-- the reference at m holds the numbers Z -/
def ZAt (h : HP) (n m : Nat) (Z : Nat → Int) : Prop := ∃ (fs : List Value) (z : Nat), At h n m (.inl (7, fs)) ∧ fs.length = 24 ∧ fs[1]? = some (.ref z) ∧ At h n z (ai 52 Z)
set_option maxHeartbeats 4000000 in
set_option maxRecDepth 100000 in
theorem sX7_of_0 {X : Xt} {n : Nat} {h : HP} {a0 : Nat} {x1 : Int} {x2 : Int} {fs1 : List Value} {q2 : Nat} {len3 : Nat} {f3 : Nat → Int} (hc : Cx X cX7_of RX7 3 0 0) {K : KT} (hr : CxR X (some .int) K) (e1 : At h n a0 (.inl (7, fs1))) (z1 : fs1.length = 24) (v1_1 : fs1[1]? = some (.ref q2)) (e3 : At h n q2 (ai len3 f3))
    (P : (Ix ((4 * x1) + x2) len3) ∧ K (.inl (some (.int (i3 (f3 (((4 * x1) + x2) : Int).toNat))))) n h) :
    Ok X 0 0 0 [(0, .ref a0), (1, .int (i3 x1)), (2, .int (i3 x2))] [] n h := by
  refine ok_aload_n (pc := 0) hc dX7_of_0 rfl 0 rfl ?_
  refine ok_get (pc := 1) hc fl_X7_7 dX7_of_1 e1.1 e1.2 v1_1 ?_
  refine ok_iconst (pc := 4) hc (v := i3 4) dX7_of_4 (by decide) ?_
  refine ok_iload_n (pc := 5) hc dX7_of_5 rfl 1 rfl ?_
  refine zk_imul (pc := 6) hc dX7_of_6 ?_
  refine ok_iload_n (pc := 7) hc dX7_of_7 rfl 2 rfl ?_
  refine zk_iadd (pc := 8) hc dX7_of_8 ?_
  obtain ⟨r, P⟩ := P
  refine zk_iald (pc := 9) hc dX7_of_9 e3.1 e3.2 r ?_
  exact ok_iret (st := []) (pc := 10) hc hr dX7_of_10 P

def spec_X7_of (args : List Value) (n : Nat) (h : HP) (K : KT) : Prop := ∃ (m : Nat) (Z : Nat → Int) (x w : Int), args = [.ref m, .int (i3 x), .int (i3 w)] ∧ ZAt h n m Z ∧ (0 ≤ 4 * x + w ∧ 4 * x + w < 52) ∧ K (.inl (some (.int (i3 (Z (4 * x + w).toNat))))) n h
theorem sp_X7_of : Sp yX7_of cX7_of 3 (some .int) 0 0 0 0 spec_X7_of := by
  refine sp_intro (by decide) (by rintro args n h K ⟨m, Z, x, w, rfl, -⟩; exact Nat.le_of_ble_eq_true rfl) ?_
  rintro X args n h K hc hr ⟨m, Z, x, w, rfl, ⟨fs, z, h1, h2, h3, h4⟩, hi, kk⟩
  exact sX7_of_0 hc hr h1 h2 h3 h4 ⟨⟨hi.1, by omega, by omega⟩, kk⟩
/-- is the part x of the kind k -/
def isZ (Z : Nat → Int) (x k : Int) : Int := if Z (4 * x).toNat = k then 1 else 0
set_option maxHeartbeats 4000000 in
set_option maxRecDepth 100000 in
theorem sX7_is_0 {X : Xt} {n : Nat} {h : HP} {a0 : Nat} {x1 : Int} {x2 : Int} {fs1 : List Value} (hc : Cx X cX7_is RX7 3 1 22) {K : KT} (hr : CxR X (some .boolean) K) (e1 : At h n a0 (.inl (7, fs1))) (z1 : fs1.length = 24)
    (P : spec_X7_of [.ref a0, .int (i3 x1), .int (i3 0)] n h (kc X 0 0 3 [(0, .ref a0), (1, .int (i3 x1)), (2, .int (i3 x2))] [] n)) :
    Ok X 0 0 0 [(0, .ref a0), (1, .int (i3 x1)), (2, .int (i3 x2))] [] n h := by
  refine ok_aload_n (pc := 0) hc dX7_is_0 rfl 0 rfl ?_
  refine ok_iload_n (pc := 1) hc dX7_is_1 rfl 1 rfl ?_
  refine ok_iconst (pc := 2) hc (v := i3 0) dX7_is_2 (by decide) ?_
  exact ok_callV (pc := 3) (a := a0) (cb := 0) (sb := 0) (st := []) hc [.int (i3 x1), .int (i3 0)] cv_X7_49 sp_X7_of (by decide) dX7_is_3 rfl e1.1 e1.2 rfl rfl rfl (Nat.le_of_ble_eq_true rfl) P

set_option maxHeartbeats 4000000 in
set_option maxRecDepth 100000 in
theorem sX7_is_6 {X : Xt} {n : Nat} {h : HP} {a0 : Nat} {x1 : Int} {x2 : Int} {t0 : Int} (hc : Cx X cX7_is RX7 3 1 22) {K : KT} (hr : CxR X (some .boolean) K) 
    (P : (R3 t0) ∧ (R3 x2) ∧ (¬ t0 = x2 → K (.inl (some (.int (i3 0)))) n h) ∧ (t0 = x2 → K (.inl (some (.int (i3 1)))) n h)) :
    Ok X 0 0 6 [(0, .ref a0), (1, .int (i3 x1)), (2, .int (i3 x2))] [.int (i3 t0)] n h := by
  refine ok_iload_n (pc := 6) hc dX7_is_6 rfl 2 rfl ?_
  obtain ⟨r1, P⟩ := P
  obtain ⟨r2, P⟩ := P
  refine zk_icmp_ne (pc := 7) (tgt := 14) hc dX7_is_7 (by decide) r1 r2 (fun c => ?_) (fun c => ?_)
  · have P := P.1 c
    refine ok_iconst (pc := 14) hc (v := i3 0) dX7_is_14 (by decide) ?_
    exact ok_zret (st := []) (pc := 15) hc (nar_z (by decide)) hr dX7_is_15 P
  · have P := P.2 c
    refine ok_iconst (pc := 10) hc (v := i3 1) dX7_is_10 (by decide) ?_
    refine ok_goto (pc := 11) (tgt := 15) hc dX7_is_11 (by decide) ?_
    exact ok_zret (st := []) (pc := 15) hc (nar_z (by decide)) hr dX7_is_15 P

def spec_X7_is (args : List Value) (n : Nat) (h : HP) (K : KT) : Prop := ∃ (m : Nat) (Z : Nat → Int) (x k : Int), args = [.ref m, .int (i3 x), .int (i3 k)] ∧ ZAt h n m Z ∧ (0 ≤ 4 * x ∧ 4 * x < 52) ∧ R3 k ∧ R3 (Z (4 * x).toNat) ∧ K (.inl (some (.int (i3 (isZ Z x k))))) n h
theorem sp_X7_is : Sp yX7_is cX7_is 3 (some .boolean) 1 22 0 0 spec_X7_is := by
  refine sp_intro (by decide) (by rintro args n h K ⟨m, Z, x, k, rfl, -⟩; exact Nat.le_of_ble_eq_true rfl) ?_
  rintro X args n h K hc hr ⟨m, Z, x, k, rfl, hZ, hi, hk, hz, kk⟩
  obtain ⟨fs, z, h1, h2, h3, h4⟩ := id hZ
  have e0 : 4 * x + 0 = 4 * x := Int.add_zero _
  refine sX7_is_0 hc hr h1 h2 ⟨m, Z, x, 0, rfl, hZ, by omega, rfl, ?_⟩
  rw [e0]
  unfold isZ at kk
  refine sX7_is_6 hc hr ⟨hz, hk, fun c => ?_, fun c => ?_⟩
  · rw [if_neg c] at kk
    exact kk
  · rw [if_pos c] at kk
    exact kk
set_option maxHeartbeats 4000000 in
set_option maxRecDepth 100000 in
theorem sX7_isPart_0 {X : Xt} {n : Nat} {h : HP} {a0 : Nat} {x1 : Int} {fs1 : List Value} {q2 : Nat} {len3 : Nat} {f3 : Nat → Int} (hc : Cx X cX7_isPart RX7 2 1 22) {K : KT} (hr : CxR X (some .boolean) K) (e1 : At h n a0 (.inl (7, fs1))) (z1 : fs1.length = 24) (v1_1 : fs1[1]? = some (.ref q2)) (e3 : At h n q2 (ai len3 f3))
    (P : (Ix 48 len3) ∧ (R3 x1 ∧ R3 0 ∧ R3 ((f3 (48 : Int).toNat) - 1)) ∧ ((inZ x1 0 ((f3 (48 : Int).toNat) - 1)) = 0 ∨ (inZ x1 0 ((f3 (48 : Int).toNat) - 1)) = 1) ∧ K (.inl (some (.int (i3 (inZ x1 0 ((f3 (48 : Int).toNat) - 1)))))) n h) :
    Ok X 0 0 0 [(0, .ref a0), (1, .int (i3 x1))] [] n h := by
  refine ok_iload_n (pc := 0) hc dX7_isPart_0 rfl 1 rfl ?_
  refine ok_iconst (pc := 1) hc (v := i3 0) dX7_isPart_1 (by decide) ?_
  refine ok_aload_n (pc := 2) hc dX7_isPart_2 rfl 0 rfl ?_
  refine ok_get (pc := 3) hc fl_X7_7 dX7_isPart_3 e1.1 e1.2 v1_1 ?_
  refine ok_bipush (pc := 6) hc (v := i3 48) dX7_isPart_6 (by decide) ?_
  obtain ⟨r, P⟩ := P
  refine zk_iald (pc := 8) hc dX7_isPart_8 e3.1 e3.2 r ?_
  refine ok_iconst (pc := 9) hc (v := i3 1) dX7_isPart_9 (by decide) ?_
  refine zk_isub (pc := 10) hc dX7_isPart_10 ?_
  obtain ⟨r0, P⟩ := P
  refine ok_callS (pc := 11) (cb := 0) (sb := 0) (st := []) hc [.int (i3 x1), .int (i3 0), .int (i3 ((f3 (48 : Int).toNat) - 1))] cs_X7_45 sp_X7_within (by decide) dX7_isPart_11 rfl rfl rfl rfl (Nat.le_of_ble_eq_true rfl) (⟨_, _, _, rfl, r0, rfl, ?_⟩)
  show Ok X 0 0 (11 + 3) [(0, .ref a0), (1, .int (i3 x1))] [.int (i3 (inZ x1 0 ((f3 (48 : Int).toNat) - 1)))] n h
  obtain ⟨r, P⟩ := P
  exact ok_zret (st := []) (pc := 14) hc (nar_z r) hr dX7_isPart_14 P

def spec_X7_isPart (args : List Value) (n : Nat) (h : HP) (K : KT) : Prop := ∃ (m : Nat) (Z : Nat → Int) (x : Int), args = [.ref m, .int (i3 x)] ∧ ZAt h n m Z ∧ R3 x ∧ (0 ≤ Z 48 ∧ Z 48 ≤ 12) ∧ K (.inl (some (.int (i3 (if 0 ≤ x ∧ x < Z 48 then 1 else 0))))) n h
theorem sp_X7_isPart : Sp yX7_isPart cX7_isPart 2 (some .boolean) 1 22 0 0 spec_X7_isPart := by
  refine sp_intro (by decide) (by rintro args n h K ⟨m, Z, x, rfl, -⟩; exact Nat.le_of_ble_eq_true rfl) ?_
  rintro X args n h K hc hr ⟨m, Z, x, rfl, ⟨fs, z, h1, h2, h3, h4⟩, hx, hz, kk⟩
  have hz' : 0 ≤ Z (48 : Int).toNat ∧ Z (48 : Int).toNat ≤ 12 := hz
  have e : inZ x 0 (Z (48 : Int).toNat - 1) = if 0 ≤ x ∧ x < Z 48 then 1 else 0 := by
    unfold inZ
    show (if 0 ≤ x ∧ x ≤ Z 48 - 1 then (1 : Int) else 0) = _
    by_cases c : 0 ≤ x ∧ x < Z 48
    · rw [if_pos c, if_pos (by omega)]
    · rw [if_neg c, if_neg (by omega)]
  refine sX7_isPart_0 hc hr h1 h2 h3 h4 ⟨⟨by decide, by decide, by decide⟩, ⟨hx, R3_0, R3_s (by omega)⟩, ?_⟩
  rw [e]
  exact ⟨by split <;> simp, kk⟩
