/-! part 60: the reference: within, stateIn -/
def inZ (x lo hi : Int) : Int := if lo ≤ x ∧ x ≤ hi then 1 else 0
set_option maxHeartbeats 4000000 in
set_option maxRecDepth 100000 in
theorem sX7_within_0 {X : Xt} {n : Nat} {h : HP} {x0 : Int} {x1 : Int} {x2 : Int} (hc : Cx X cX7_within RX7 3 0 0) {K : KT} (hr : CxR X (some .boolean) K) 
    (P : (R3 x0) ∧ (R3 x1) ∧ (x0 < x1 → K (.inl (some (.int (i3 0)))) n h) ∧ (¬ x0 < x1 → (R3 x0) ∧ (R3 x2) ∧ (x2 < x0 → K (.inl (some (.int (i3 0)))) n h) ∧ (¬ x2 < x0 → K (.inl (some (.int (i3 1)))) n h))) :
    Ok X 0 0 0 [(0, .int (i3 x0)), (1, .int (i3 x1)), (2, .int (i3 x2))] [] n h := by
  refine ok_iload_n (pc := 0) hc dX7_within_0 rfl 0 rfl ?_
  refine ok_iload_n (pc := 1) hc dX7_within_1 rfl 1 rfl ?_
  obtain ⟨r1, P⟩ := P
  obtain ⟨r2, P⟩ := P
  refine zk_icmp_lt (pc := 2) (tgt := 14) hc dX7_within_2 (by decide) r1 r2 (fun c => ?_) (fun c => ?_)
  · have P := P.1 c
    refine ok_iconst (pc := 14) hc (v := i3 0) dX7_within_14 (by decide) ?_
    exact ok_zret (st := []) (pc := 15) hc (nar_z (by decide)) hr dX7_within_15 P
  · have P := P.2 c
    refine ok_iload_n (pc := 5) hc dX7_within_5 rfl 0 rfl ?_
    refine ok_iload_n (pc := 6) hc dX7_within_6 rfl 2 rfl ?_
    obtain ⟨r3, P⟩ := P
    obtain ⟨r4, P⟩ := P
    refine zk_icmp_gt (pc := 7) (tgt := 14) hc dX7_within_7 (by decide) r3 r4 (fun c => ?_) (fun c => ?_)
    · have P := P.1 c
      refine ok_iconst (pc := 14) hc (v := i3 0) dX7_within_14 (by decide) ?_
      exact ok_zret (st := []) (pc := 15) hc (nar_z (by decide)) hr dX7_within_15 P
    · have P := P.2 c
      refine ok_iconst (pc := 10) hc (v := i3 1) dX7_within_10 (by decide) ?_
      refine ok_goto (pc := 11) (tgt := 15) hc dX7_within_11 (by decide) ?_
      exact ok_zret (st := []) (pc := 15) hc (nar_z (by decide)) hr dX7_within_15 P

def spec_X7_within (args : List Value) (n : Nat) (h : HP) (K : KT) : Prop := ∃ x y z : Int, args = [.int (i3 x), .int (i3 y), .int (i3 z)] ∧ (R3 x ∧ R3 y ∧ R3 z) ∧ K (.inl (some (.int (i3 (inZ x y z))))) n h
theorem sp_X7_within : Sp yX7_within cX7_within 3 (some .boolean) 0 0 0 0 spec_X7_within := by
  refine sp_intro (by decide) (by rintro args n h K ⟨x, y, z, rfl, -⟩; exact Nat.le_of_ble_eq_true rfl) ?_
  rintro X args n h K hc hr ⟨x, y, z, rfl, ⟨hx, hy, hz⟩, kk⟩
  unfold inZ at kk
  refine sX7_within_0 hc hr ⟨hx, hy, fun c => ?_, fun c => ⟨hx, hz, fun c2 => ?_, fun c2 => ?_⟩⟩
  · rw [if_neg (by omega)] at kk
    exact kk
  · rw [if_neg (by omega)] at kk
    exact kk
  · rw [if_pos (by omega)] at kk
    exact kk
set_option maxHeartbeats 4000000 in
set_option maxRecDepth 100000 in
theorem sX7_stateIn_0 {X : Xt} {n : Nat} {h : HP} {x0 : Int} {x1 : Int} (hc : Cx X cX7_stateIn RX7 4 0 0) {K : KT} (hr : CxR X (some .int) K) 
    (P : Ok X 0 0 4 [(0, .int (i3 x0)), (1, .int (i3 x1)), (2, .int (i3 x0)), (3, .int (i3 0))] [] n h) :
    Ok X 0 0 0 [(0, .int (i3 x0)), (1, .int (i3 x1))] [] n h := by
  refine ok_iload_n (pc := 0) hc dX7_stateIn_0 rfl 0 rfl ?_
  refine ok_istore_n (pc := 1) hc (lv' := [(2, .int (i3 x0)), (0, .int (i3 x0)), (1, .int (i3 x1))]) dX7_stateIn_1 rfl (by decide) rfl ?_
  refine ok_iconst (pc := 2) hc (v := i3 0) dX7_stateIn_2 (by decide) ?_
  refine ok_istore_n (pc := 3) hc (lv' := [(3, .int (i3 0)), (2, .int (i3 x0)), (0, .int (i3 x0)), (1, .int (i3 x1))]) dX7_stateIn_3 rfl (by decide) rfl ?_
  refine ok_lv [2, 3, 1, 0] rfl ?_
  exact P

set_option maxHeartbeats 4000000 in
set_option maxRecDepth 100000 in
theorem sX7_stateIn_4 {X : Xt} {n : Nat} {h : HP} {x0 : Int} {x1 : Int} {x2 : Int} {x3 : Int} (hc : Cx X cX7_stateIn RX7 4 0 0) {K : KT} (hr : CxR X (some .int) K) 
    (P : (R3 x3) ∧ (R3 x1) ∧ (x1 ≤ x3 → (((0 : Int) ≤ x2 ∧ x2 ≤ 2147483647) ∧ (0 : Int) < 3 ∧ (3 : Int) ≤ 2147483647) ∧ K (.inl (some (.int (i3 (x2 % 3))))) n h) ∧ (¬ x1 ≤ x3 → (((0 : Int) ≤ x2 ∧ x2 ≤ 2147483647) ∧ (0 : Int) < 3 ∧ (3 : Int) ≤ 2147483647) ∧ Ok X 0 0 4 [(0, .int (i3 x0)), (1, .int (i3 x1)), (2, .int (i3 (x2 / 3))), (3, .int (i3 (x3 + 1)))] [] n h)) :
    Ok X 0 0 4 [(0, .int (i3 x0)), (1, .int (i3 x1)), (2, .int (i3 x2)), (3, .int (i3 x3))] [] n h := by
  refine ok_iload_n (pc := 4) hc dX7_stateIn_4 rfl 3 rfl ?_
  refine ok_iload_n (pc := 5) hc dX7_stateIn_5 rfl 1 rfl ?_
  obtain ⟨r1, P⟩ := P
  obtain ⟨r2, P⟩ := P
  refine zk_icmp_ge (pc := 6) (tgt := 19) hc dX7_stateIn_6 (by decide) r1 r2 (fun c => ?_) (fun c => ?_)
  · have P := P.1 c
    refine ok_iload_n (pc := 19) hc dX7_stateIn_19 rfl 2 rfl ?_
    refine ok_iconst (pc := 20) hc (v := i3 3) dX7_stateIn_20 (by decide) ?_
    obtain ⟨r, P⟩ := P
    refine zk_irem (pc := 21) hc dX7_stateIn_21 r ?_
    exact ok_iret (st := []) (pc := 22) hc hr dX7_stateIn_22 P
  · have P := P.2 c
    refine ok_iload_n (pc := 9) hc dX7_stateIn_9 rfl 2 rfl ?_
    refine ok_iconst (pc := 10) hc (v := i3 3) dX7_stateIn_10 (by decide) ?_
    obtain ⟨r, P⟩ := P
    refine zk_idiv (pc := 11) hc dX7_stateIn_11 r ?_
    refine ok_istore_n (pc := 12) hc (lv' := [(2, .int (i3 (x2 / 3))), (0, .int (i3 x0)), (1, .int (i3 x1)), (3, .int (i3 x3))]) dX7_stateIn_12 rfl (by decide) rfl ?_
    refine zk_iinc (pc := 13) hc (q := 3) (x := x3) (lv' := [(3, .int (i3 (x3 + 1))), (2, .int (i3 (x2 / 3))), (0, .int (i3 x0)), (1, .int (i3 x1))]) dX7_stateIn_13 rfl (by decide) rfl ?_
    refine ok_goto (pc := 16) (tgt := 4) hc dX7_stateIn_16 (by decide) ?_
    refine ok_lv [2, 3, 1, 0] rfl ?_
    exact P

def spec_X7_stateIn (args : List Value) (n : Nat) (h : HP) (K : KT) : Prop := ∃ (x : Int) (a : Nat), args = [.int (i3 x), .int (i3 a)] ∧ ((0 ≤ x ∧ x ≤ 2147483647) ∧ a < 1000) ∧ K (.inl (some (.int (i3 (x / 3 ^ a % 3))))) n h
theorem sp_X7_stateIn : Sp yX7_stateIn cX7_stateIn 4 (some .int) 0 0 0 0 spec_X7_stateIn := by
  refine sp_intro (by decide) (by rintro args n h K ⟨x, a, rfl, -⟩; exact Nat.le_of_ble_eq_true rfl) ?_
  rintro X args n h K hc hr ⟨x, a, rfl, ⟨hx, ha⟩, kk⟩
  have L : ∀ (j i : Nat) (y : Int), i + j = a → y = x / 3 ^ i → (0 ≤ y ∧ y ≤ 2147483647) → Ok X 0 0 4 [(0, .int (i3 x)), (1, .int (i3 a)), (2, .int (i3 y)), (3, .int (i3 i))] [] n h := by
    intro j
    induction j with
    | zero =>
      intro i y hi hy hr0
      have : i = a := by omega
      subst this
      rw [← hy] at kk
      exact sX7_stateIn_4 hc hr ⟨R3_s (by omega), R3_s (by omega), fun _ => ⟨⟨hr0, by decide⟩, kk⟩, fun c => absurd (Int.le_refl _) c⟩
    | succ j ih =>
      intro i y hi hy hr0
      refine sX7_stateIn_4 hc hr ⟨R3_s (by omega), R3_s (by omega), fun c => absurd c (by omega), fun _ => ⟨⟨hr0, by decide⟩, ih (i + 1) (y / 3) (by omega) ?_ (by omega)⟩⟩
      rw [hy, Int.ediv_ediv_of_nonneg (Int.le_of_lt (pow3_pos i)), Int.pow_succ]
  exact sX7_stateIn_0 hc hr (L a 0 x (by omega) (by simp) hx)
