/-! part 20: the static helps of AmplifierDesk: stateIn, contains, isSourceValue, mixed -/
theorem pow3_pos (k : Nat) : (0 : Int) < 3 ^ k := Int.pow_pos (by decide)
theorem pow3_le {x : Int} (h : 0 ≤ x ∧ x < 4) : (3 : Int) ^ x.toNat ≤ 27 := by
  rcases (show x = 0 ∨ x = 1 ∨ x = 2 ∨ x = 3 by omega) with rfl | rfl | rfl | rfl <;> decide
set_option maxHeartbeats 4000000 in
set_option maxRecDepth 100000 in
theorem sX6_stateIn_0 {X : Xt} {n : Nat} {h : HP} {x0 : Int} {x1 : Int} (hc : Cx X cX6_stateIn RX6 2 0 0) {K : KT} (hr : CxR X (some .int) K) 
    (P : (0 ≤ x1 ∧ x1 < 4) ∧ (((0 : Int) ≤ x0 ∧ x0 ≤ 2147483647) ∧ (0 : Int) < ((3 : Int) ^ (x1 : Int).toNat) ∧ (((3 : Int) ^ (x1 : Int).toNat) : Int) ≤ 2147483647) ∧ (((0 : Int) ≤ (x0 / ((3 : Int) ^ (x1 : Int).toNat)) ∧ (x0 / ((3 : Int) ^ (x1 : Int).toNat)) ≤ 2147483647) ∧ (0 : Int) < 3 ∧ (3 : Int) ≤ 2147483647) ∧ K (.inl (some (.int (i3 ((x0 / ((3 : Int) ^ (x1 : Int).toNat)) % 3))))) n h) :
    Ok X 0 0 0 [(0, .int (i3 x0)), (1, .int (i3 x1))] [] n h := by
  refine ok_iload_n (pc := 0) hc dX6_stateIn_0 rfl 0 rfl ?_
  refine ok_gets (pc := 1) hc fs_X6_328 dX6_stateIn_1 ?_
  refine ok_iload_n (pc := 4) hc dX6_stateIn_4 rfl 1 rfl ?_
  obtain ⟨r, P⟩ := P
  refine zk_ti (pc := 5) hc dX6_stateIn_5 r ?_
  obtain ⟨r, P⟩ := P
  refine zk_idiv (pc := 6) hc dX6_stateIn_6 r ?_
  refine ok_iconst (pc := 7) hc (v := i3 3) dX6_stateIn_7 (by decide) ?_
  obtain ⟨r, P⟩ := P
  refine zk_irem (pc := 8) hc dX6_stateIn_8 r ?_
  exact ok_iret (st := []) (pc := 9) hc hr dX6_stateIn_9 P

def spec_X6_stateIn (args : List Value) (n : Nat) (h : HP) (K : KT) : Prop := ∃ x y : Int, args = [.int (i3 x), .int (i3 y)] ∧ ((0 ≤ x ∧ x ≤ 2147483647) ∧ 0 ≤ y ∧ y < 4) ∧ K (.inl (some (.int (i3 (x / 3 ^ y.toNat % 3))))) n h
theorem sp_X6_stateIn : Sp yX6_stateIn cX6_stateIn 2 (some .int) 0 0 0 0 spec_X6_stateIn := by
  refine sp_intro (by decide) (by rintro args n h K ⟨x, y, rfl, -⟩; exact Nat.le_of_ble_eq_true rfl) ?_
  rintro X args n h K hc hr ⟨x, y, rfl, ⟨hx, hy⟩, k⟩
  have h1 := pow3_pos y.toNat
  have h2 := pow3_le hy
  have h3 := Int.ediv_nonneg hx.1 (Int.le_of_lt h1)
  have h4 := Int.ediv_le_self ((3 : Int) ^ y.toNat) hx.1
  exact sX6_stateIn_0 hc hr ⟨hy, ⟨hx, h1, by omega⟩, ⟨⟨h3, by omega⟩, by decide, by decide⟩, k⟩
/-- is the bit y of x set -/
def bcon (x y : Int) : Int := if band (bshr x y) 1 = 0 then 0 else 1
theorem R3_T (x : Int32) : R3 x.toInt := ⟨by have := x.minValue_le_toInt; simpa using this, by have := x.toInt_lt; omega⟩
set_option maxHeartbeats 4000000 in
set_option maxRecDepth 100000 in
theorem sX6_contains_0 {X : Xt} {n : Nat} {h : HP} {x0 : Int} {x1 : Int} (hc : Cx X cX6_contains RX6 2 0 0) {K : KT} (hr : CxR X (some .boolean) K) 
    (P : (R3 (band (bshr x0 x1) 1)) ∧ ((band (bshr x0 x1) 1) = 0 → K (.inl (some (.int (i3 0)))) n h) ∧ (¬ (band (bshr x0 x1) 1) = 0 → K (.inl (some (.int (i3 1)))) n h)) :
    Ok X 0 0 0 [(0, .int (i3 x0)), (1, .int (i3 x1))] [] n h := by
  refine ok_iload_n (pc := 0) hc dX6_contains_0 rfl 0 rfl ?_
  refine ok_iload_n (pc := 1) hc dX6_contains_1 rfl 1 rfl ?_
  refine zk_ishr (pc := 2) hc dX6_contains_2 ?_
  refine ok_iconst (pc := 3) hc (v := i3 1) dX6_contains_3 (by decide) ?_
  refine zk_iand (pc := 4) hc dX6_contains_4 ?_
  obtain ⟨r1, P⟩ := P
  refine zk_if_eq (pc := 5) (tgt := 12) hc dX6_contains_5 (by decide) r1 (fun c => ?_) (fun c => ?_)
  · have P := P.1 c
    refine ok_iconst (pc := 12) hc (v := i3 0) dX6_contains_12 (by decide) ?_
    exact ok_zret (st := []) (pc := 13) hc (nar_z (by decide)) hr dX6_contains_13 P
  · have P := P.2 c
    refine ok_iconst (pc := 8) hc (v := i3 1) dX6_contains_8 (by decide) ?_
    refine ok_goto (pc := 9) (tgt := 13) hc dX6_contains_9 (by decide) ?_
    exact ok_zret (st := []) (pc := 13) hc (nar_z (by decide)) hr dX6_contains_13 P

def spec_X6_contains (args : List Value) (n : Nat) (h : HP) (K : KT) : Prop := ∃ x y : Int, args = [.int (i3 x), .int (i3 y)] ∧ K (.inl (some (.int (i3 (bcon x y))))) n h
theorem sp_X6_contains : Sp yX6_contains cX6_contains 2 (some .boolean) 0 0 0 0 spec_X6_contains := by
  refine sp_intro (by decide) (by rintro args n h K ⟨x, y, rfl, -⟩; exact Nat.le_of_ble_eq_true rfl) ?_
  rintro X args n h K hc hr ⟨x, y, rfl, k⟩
  unfold bcon at k
  refine sX6_contains_0 hc hr ⟨R3_T _, fun c => ?_, fun c => ?_⟩
  · rw [if_pos c] at k
    exact k
  · rw [if_neg c] at k
    exact k
set_option maxHeartbeats 4000000 in
set_option maxRecDepth 100000 in
theorem sX6_isSourceValue_0 {X : Xt} {n : Nat} {h : HP} {x0 : Int} (hc : Cx X cX6_isSourceValue RX6 1 0 0) {K : KT} (hr : CxR X (some .boolean) K) 
    (P : (R3 x0) ∧ (x0 < (-200) → K (.inl (some (.int (i3 0)))) n h) ∧ (¬ x0 < (-200) → (R3 x0) ∧ (200 < x0 → K (.inl (some (.int (i3 0)))) n h) ∧ (¬ 200 < x0 → K (.inl (some (.int (i3 1)))) n h))) :
    Ok X 0 0 0 [(0, .int (i3 x0))] [] n h := by
  refine ok_iload_n (pc := 0) hc dX6_isSourceValue_0 rfl 0 rfl ?_
  refine ok_sipush (pc := 1) hc (v := i3 (-200)) dX6_isSourceValue_1 (by decide) ?_
  obtain ⟨r1, P⟩ := P
  refine zk_icmp_lt (pc := 4) (tgt := 18) hc dX6_isSourceValue_4 (by decide) r1 ⟨by decide, by decide⟩ (fun c => ?_) (fun c => ?_)
  · have P := P.1 c
    refine ok_iconst (pc := 18) hc (v := i3 0) dX6_isSourceValue_18 (by decide) ?_
    exact ok_zret (st := []) (pc := 19) hc (nar_z (by decide)) hr dX6_isSourceValue_19 P
  · have P := P.2 c
    refine ok_iload_n (pc := 7) hc dX6_isSourceValue_7 rfl 0 rfl ?_
    refine ok_sipush (pc := 8) hc (v := i3 200) dX6_isSourceValue_8 (by decide) ?_
    obtain ⟨r2, P⟩ := P
    refine zk_icmp_gt (pc := 11) (tgt := 18) hc dX6_isSourceValue_11 (by decide) r2 ⟨by decide, by decide⟩ (fun c => ?_) (fun c => ?_)
    · have P := P.1 c
      refine ok_iconst (pc := 18) hc (v := i3 0) dX6_isSourceValue_18 (by decide) ?_
      exact ok_zret (st := []) (pc := 19) hc (nar_z (by decide)) hr dX6_isSourceValue_19 P
    · have P := P.2 c
      refine ok_iconst (pc := 14) hc (v := i3 1) dX6_isSourceValue_14 (by decide) ?_
      refine ok_goto (pc := 15) (tgt := 19) hc dX6_isSourceValue_15 (by decide) ?_
      exact ok_zret (st := []) (pc := 19) hc (nar_z (by decide)) hr dX6_isSourceValue_19 P

def isV (x : Int) : Int := if -200 ≤ x ∧ x ≤ 200 then 1 else 0
def spec_X6_isSourceValue (args : List Value) (n : Nat) (h : HP) (K : KT) : Prop := ∃ x : Int, args = [.int (i3 x)] ∧ R3 x ∧ K (.inl (some (.int (i3 (isV x))))) n h
theorem sp_X6_isSourceValue : Sp yX6_isSourceValue cX6_isSourceValue 1 (some .boolean) 0 0 0 0 spec_X6_isSourceValue := by
  refine sp_intro (by decide) (by rintro args n h K ⟨x, rfl, -⟩; exact Nat.le_of_ble_eq_true rfl) ?_
  rintro X args n h K hc hr ⟨x, rfl, hx, k⟩
  unfold isV at k
  refine sX6_isSourceValue_0 hc hr ⟨hx, fun c => ?_, fun c => ⟨hx, fun c2 => ?_, fun c2 => ?_⟩⟩
  · rw [if_neg (by omega)] at k
    exact k
  · rw [if_neg (by omega)] at k
    exact k
  · rw [if_pos (by omega)] at k
    exact k
