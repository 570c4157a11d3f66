/-! part 34: greatest divisors; class Bench: judge -/
set_option maxHeartbeats 4000000 in
set_option maxRecDepth 100000 in
theorem sJ13_compare_74951_0 {X : Xt} {n : Nat} {h : HP} {l0 : Int} {l2 : Int} (hc : Cx X cJ13_compare_74951 RJ13 4 0 0) {K : KT} (hr : CxR X (some .int) K) 
    (P : (R6 l0 ∧ R6 l2) ∧ (l2 ≤ l0 → (R6 l0 ∧ R6 l2) ∧ (¬ l0 = l2 → K (.inl (some (.int (i3 1)))) n h) ∧ (l0 = l2 → K (.inl (some (.int (i3 0)))) n h)) ∧ (¬ l2 ≤ l0 → K (.inl (some (.int (i3 (-1))))) n h)) :
    Ok X 0 0 0 [(0, .long (i6 l0)), (2, .long (i6 l2))] [] n h := by
  refine ok_lload_n (pc := 0) hc dJ13_compare_74951_0 rfl 0 rfl ?_
  refine ok_lload_n (pc := 1) hc dJ13_compare_74951_1 rfl 1 rfl ?_
  obtain ⟨r, P⟩ := P
  refine zk_lcmp (pc := 2) hc dJ13_compare_74951_2 r ?_
  refine zk_if_ge (pc := 3) (tgt := 10) hc dJ13_compare_74951_3 (by decide) R3_cmp (fun c => ?_) (fun c => ?_)
  · have P := P.1 (cmp_ge.mp c)
    refine ok_lload_n (pc := 10) hc dJ13_compare_74951_10 rfl 0 rfl ?_
    refine ok_lload_n (pc := 11) hc dJ13_compare_74951_11 rfl 1 rfl ?_
    obtain ⟨r, P⟩ := P
    refine zk_lcmp (pc := 12) hc dJ13_compare_74951_12 r ?_
    refine zk_if_ne (pc := 13) (tgt := 20) hc dJ13_compare_74951_13 (by decide) R3_cmp (fun c => ?_) (fun c => ?_)
    · have P := P.1 (fun z => c (cmp_eq.mpr z))
      refine ok_iconst (pc := 20) hc (v := i3 1) dJ13_compare_74951_20 (by decide) ?_
      exact ok_iret (st := []) (pc := 21) hc hr dJ13_compare_74951_21 P
    · have P := P.2 (cmp_eq.mp c)
      refine ok_iconst (pc := 16) hc (v := i3 0) dJ13_compare_74951_16 (by decide) ?_
      refine ok_goto (pc := 17) (tgt := 21) hc dJ13_compare_74951_17 (by decide) ?_
      exact ok_iret (st := []) (pc := 21) hc hr dJ13_compare_74951_21 P
  · have P := P.2 (fun z => c (cmp_ge.mpr z))
    refine ok_iconst (pc := 6) hc (v := i3 (-1)) dJ13_compare_74951_6 (by decide) ?_
    refine ok_goto (pc := 7) (tgt := 21) hc dJ13_compare_74951_7 (by decide) ?_
    exact ok_iret (st := []) (pc := 21) hc hr dJ13_compare_74951_21 P

def spec_J13_compare_74951 (args : List Value) (n : Nat) (h : HP) (K : KT) : Prop := ∃ x y : Int, args = [.long (i6 x), .long (i6 y)] ∧ (R6 x ∧ R6 y) ∧ K (.inl (some (.int (i3 (cmpZ x y))))) n h
theorem sp_J13_compare_74951 : Sp yJ13_compare_74951 cJ13_compare_74951 4 (some .int) 0 0 0 0 spec_J13_compare_74951 := by
  refine sp_intro (by decide) (by rintro args n h K ⟨x, y, rfl, -⟩; exact Nat.le_of_ble_eq_true rfl) ?_
  rintro X args n h K hc hr ⟨x, y, rfl, hx, kk⟩
  refine sJ13_compare_74951_0 hc hr ⟨hx, fun c => ⟨hx, fun z => ?_, fun z => ?_⟩, fun c => ?_⟩
  · rw [show cmpZ x y = 1 by unfold cmpZ; rw [if_neg (by omega), if_neg z]] at kk
    exact kk
  · rw [show cmpZ x y = 0 by unfold cmpZ; rw [if_neg (by omega), if_pos z]] at kk
    exact kk
  · rw [show cmpZ x y = -1 by unfold cmpZ; rw [if_pos (by omega)]] at kk
    exact kk
set_option maxHeartbeats 4000000 in
set_option maxRecDepth 100000 in
theorem sX6_greatestDivisor_0 {X : Xt} {n : Nat} {h : HP} {l0 : Int} {l2 : Int} (hc : Cx X cX6_greatestDivisor RX6 11 0 0) {K : KT} (hr : CxR X (some .long) K) 
    (P : Ok X 0 0 9 [(0, .long (i6 l0)), (2, .long (i6 l2)), (4, .long (i6 l0)), (6, .long (i6 l2)), (8, .int (i3 0))] [] n h) :
    Ok X 0 0 0 [(0, .long (i6 l0)), (2, .long (i6 l2))] [] n h := by
  refine ok_lload_n (pc := 0) hc dX6_greatestDivisor_0 rfl 0 rfl ?_
  refine ok_lstore (pc := 1) hc (lv' := [(4, .long (i6 l0)), (0, .long (i6 l0)), (2, .long (i6 l2))]) dX6_greatestDivisor_1 (by decide) rfl ?_
  refine ok_lload_n (pc := 3) hc dX6_greatestDivisor_3 rfl 2 rfl ?_
  refine ok_lstore (pc := 4) hc (lv' := [(6, .long (i6 l2)), (4, .long (i6 l0)), (0, .long (i6 l0)), (2, .long (i6 l2))]) dX6_greatestDivisor_4 (by decide) rfl ?_
  refine ok_iconst (pc := 6) hc (v := i3 0) dX6_greatestDivisor_6 (by decide) ?_
  refine ok_istore (pc := 7) hc (lv' := [(8, .int (i3 0)), (6, .long (i6 l2)), (4, .long (i6 l0)), (0, .long (i6 l0)), (2, .long (i6 l2))]) dX6_greatestDivisor_7 (by decide) rfl ?_
  refine ok_lv [3, 4, 2, 1, 0] rfl ?_
  exact P

set_option maxHeartbeats 4000000 in
set_option maxRecDepth 100000 in
theorem sX6_greatestDivisor_9 {X : Xt} {n : Nat} {h : HP} {l0 : Int} {l2 : Int} {l4 : Int} {l6 : Int} {x8 : Int} (hc : Cx X cX6_greatestDivisor RX6 11 0 0) {K : KT} (hr : CxR X (some .long) K) 
    (P : (R3 x8) ∧ (100 ≤ x8 → K (.inl (some (.long (i6 l4)))) n h) ∧ (¬ 100 ≤ x8 → (R6 l6 ∧ R6 0) ∧ (l6 = 0 → K (.inl (some (.long (i6 l4)))) n h) ∧ (¬ l6 = 0 → (((0 : Int) ≤ l4 ∧ l4 ≤ 9223372036854775807) ∧ (0 : Int) < l6 ∧ (l6 : Int) ≤ 9223372036854775807) ∧ Ok X 0 0 9 [(0, .long (i6 l0)), (2, .long (i6 l2)), (4, .long (i6 l6)), (6, .long (i6 (l4 % l6))), (8, .int (i3 (x8 + 1)))] [] n h))) :
    Ok X 0 0 9 [(0, .long (i6 l0)), (2, .long (i6 l2)), (4, .long (i6 l4)), (6, .long (i6 l6)), (8, .int (i3 x8))] [] n h := by
  refine ok_iload (pc := 9) hc dX6_greatestDivisor_9 4 rfl ?_
  refine ok_bipush (pc := 11) hc (v := i3 100) dX6_greatestDivisor_11 (by decide) ?_
  obtain ⟨r1, P⟩ := P
  refine zk_icmp_ge (pc := 13) (tgt := 44) hc dX6_greatestDivisor_13 (by decide) r1 ⟨by decide, by decide⟩ (fun c => ?_) (fun c => ?_)
  · have P := P.1 c
    refine ok_lload (pc := 44) hc dX6_greatestDivisor_44 2 rfl ?_
    exact ok_lret (st := []) (pc := 46) hc hr dX6_greatestDivisor_46 P
  · have P := P.2 c
    refine ok_lload (pc := 16) hc dX6_greatestDivisor_16 3 rfl ?_
    refine ok_lconst (pc := 18) hc (v := i6 0) dX6_greatestDivisor_18 (by decide) ?_
    obtain ⟨r, P⟩ := P
    refine zk_lcmp (pc := 19) hc dX6_greatestDivisor_19 r ?_
    refine zk_if_eq (pc := 20) (tgt := 44) hc dX6_greatestDivisor_20 (by decide) R3_cmp (fun c => ?_) (fun c => ?_)
    · have P := P.1 (cmp_eq.mp c)
      refine ok_lload (pc := 44) hc dX6_greatestDivisor_44 2 rfl ?_
      exact ok_lret (st := []) (pc := 46) hc hr dX6_greatestDivisor_46 P
    · have P := P.2 (fun z => c (cmp_eq.mpr z))
      refine ok_lload (pc := 23) hc dX6_greatestDivisor_23 2 rfl ?_
      refine ok_lload (pc := 25) hc dX6_greatestDivisor_25 3 rfl ?_
      obtain ⟨r, P⟩ := P
      refine zk_lrem (pc := 27) hc dX6_greatestDivisor_27 r ?_
      refine ok_lstore (pc := 28) hc (lv' := [(9, .long (i6 (l4 % l6))), (0, .long (i6 l0)), (2, .long (i6 l2)), (4, .long (i6 l4)), (6, .long (i6 l6)), (8, .int (i3 x8))]) dX6_greatestDivisor_28 (by decide) rfl ?_
      refine ok_lload (pc := 30) hc dX6_greatestDivisor_30 4 rfl ?_
      refine ok_lstore (pc := 32) hc (lv' := [(4, .long (i6 l6)), (9, .long (i6 (l4 % l6))), (0, .long (i6 l0)), (2, .long (i6 l2)), (6, .long (i6 l6)), (8, .int (i3 x8))]) dX6_greatestDivisor_32 (by decide) rfl ?_
      refine ok_lload (pc := 34) hc dX6_greatestDivisor_34 1 rfl ?_
      refine ok_lstore (pc := 36) hc (lv' := [(6, .long (i6 (l4 % l6))), (4, .long (i6 l6)), (9, .long (i6 (l4 % l6))), (0, .long (i6 l0)), (2, .long (i6 l2)), (8, .int (i3 x8))]) dX6_greatestDivisor_36 (by decide) rfl ?_
      refine zk_iinc (pc := 38) hc (q := 5) (x := x8) (lv' := [(8, .int (i3 (x8 + 1))), (6, .long (i6 (l4 % l6))), (4, .long (i6 l6)), (9, .long (i6 (l4 % l6))), (0, .long (i6 l0)), (2, .long (i6 l2))]) dX6_greatestDivisor_38 rfl (by decide) rfl ?_
      refine ok_goto (pc := 41) (tgt := 9) hc dX6_greatestDivisor_41 (by decide) ?_
      refine ok_lv [4, 5, 2, 1, 0] rfl ?_
      exact P

def spec_X6_greatestDivisor (args : List Value) (n : Nat) (h : HP) (K : KT) : Prop := ∃ x y : Nat, args = [.long (i6 x), .long (i6 y)] ∧ x < 2 ^ 62 ∧ y < 2 ^ 48 ∧ K (.inl (some (.long (i6 (Nat.gcd x y))))) n h
theorem sp_X6_greatestDivisor : Sp yX6_greatestDivisor cX6_greatestDivisor 11 (some .long) 0 0 0 0 spec_X6_greatestDivisor := by
  refine sp_intro (by decide) (by rintro args n h K ⟨x, y, rfl, -⟩; exact Nat.le_of_ble_eq_true rfl) ?_
  rintro X args n h K hc hr ⟨x, y, rfl, hx, hy, kk⟩
  have L : ∀ (j a b t : Nat), t + 2 * j = 98 → b < 2 ^ j → a < 2 ^ 62 → Nat.gcd a b = Nat.gcd x y → Ok X 0 0 9 [(0, .long (i6 x)), (2, .long (i6 y)), (4, .long (i6 a)), (6, .long (i6 b)), (8, .int (i3 t))] [] n h := by
    intro j
    induction j with
    | zero =>
      intro a b t ht hb ha e
      have : b = 0 := by omega
      subst this
      rw [Nat.gcd_zero_right] at e
      refine sX6_greatestDivisor_9 hc hr ⟨R3_s (by omega), fun c => absurd c (by omega), fun _ => ⟨⟨R6_0, R6_0⟩, fun _ => by rw [e]; exact kk, fun c => absurd rfl c⟩⟩
    | succ j ih =>
      intro a b t ht hb ha e
      have h62 : (2 : Nat) ^ (j + 1) ≤ 2 ^ 62 := Nat.pow_le_pow_right (by decide) (by omega)
      have r6b : R6 (b : Int) := ⟨by omega, by omega⟩
      refine sX6_greatestDivisor_9 hc hr ⟨R3_s (by omega), fun c => absurd c (by omega), fun _ => ⟨⟨r6b, R6_0⟩, fun z => ?_, fun z => ⟨⟨⟨by omega, by omega⟩, by omega, by omega⟩, ?_⟩⟩⟩
      · have : b = 0 := by omega
        subst this
        rw [Nat.gcd_zero_right] at e
        rw [e]
        exact kk
      · have hb0 : 0 < b := by omega
        have h1 := Nat.mod_lt a hb0
        rw [show ((a : Int) % (b : Int)) = ((a % b : Nat) : Int) by omega]
        have e1 : Nat.gcd b (a % b) = Nat.gcd x y := by rw [← e, Nat.gcd_comm a b, Nat.gcd_rec b a, Nat.gcd_comm]
        have r6c : R6 ((a % b : Nat) : Int) := ⟨by omega, by omega⟩
        refine sX6_greatestDivisor_9 hc hr ⟨R3_s (by omega), fun c => absurd c (by omega), fun _ => ⟨⟨r6c, R6_0⟩, fun y' => ?_, fun y' => ⟨⟨⟨by omega, by omega⟩, by omega, by omega⟩, ?_⟩⟩⟩
        · have : a % b = 0 := by omega
          rw [this, Nat.gcd_zero_right] at e1
          rw [e1]
          exact kk
        · have hc0 : 0 < a % b := by omega
          have h2 := Nat.mod_lt b hc0
          rw [show ((b : Int) % ((a % b : Nat) : Int)) = ((b % (a % b) : Nat) : Int) by omega]
          have e2 : Nat.gcd (a % b) (b % (a % b)) = Nat.gcd x y := by rw [← e1, Nat.gcd_comm b (a % b), Nat.gcd_rec (a % b) b, Nat.gcd_comm]
          have hh : b % (a % b) < 2 ^ j := by
            have d := Nat.div_add_mod b (a % b)
            have q1 : 1 ≤ b / (a % b) := (Nat.le_div_iff_mul_le hc0).mpr (by omega)
            have q2 : a % b ≤ (a % b) * (b / (a % b)) := Nat.le_mul_of_pos_right _ q1
            rw [Nat.pow_succ] at hb
            omega
          exact ih (a % b) (b % (a % b)) (t + 1 + 1) (by omega) hh (by omega) e2
  exact sX6_greatestDivisor_0 hc hr (L 49 x y 0 (by omega) (Nat.lt_trans hy (by decide)) hx rfl)
/-- a side of a fraction in lowest terms; of 0/0: 0 -/
def lowT (x d w : Int) : Int := if Nat.gcd x.natAbs d.natAbs = 0 then 0 else if w = 0 then x.tdiv (Nat.gcd x.natAbs d.natAbs) else d.tdiv (Nat.gcd x.natAbs d.natAbs)
set_option maxHeartbeats 4000000 in
set_option maxRecDepth 100000 in
theorem sX6_lowestTerms_0 {X : Xt} {n : Nat} {h : HP} {l0 : Int} {l2 : Int} {x4 : Int} (hc : Cx X cX6_lowestTerms RX6 7 1 30) {K : KT} (hr : CxR X (some .long) K) 
    (P : (R6 l0) ∧ spec_X6_greatestDivisor [.long (i6 (absZ l0)), .long (i6 l2)] n h (kc X 0 0 5 [(0, .long (i6 l0)), (2, .long (i6 l2)), (4, .int (i3 x4))] [] n)) :
    Ok X 0 0 0 [(0, .long (i6 l0)), (2, .long (i6 l2)), (4, .int (i3 x4))] [] n h := by
  refine ok_lload_n (pc := 0) hc dX6_lowestTerms_0 rfl 0 rfl ?_
  obtain ⟨r0, P⟩ := P
  refine ok_callS (pc := 1) (cb := 0) (sb := 0) (st := []) hc [.long (i6 l0)] cs_X6_333 sp_J9_abs_067f4 (by decide) dX6_lowestTerms_1 rfl rfl rfl rfl (Nat.le_of_ble_eq_true rfl) (⟨_, rfl, r0, rfl, ?_⟩)
  show Ok X 0 0 (1 + 3) [(0, .long (i6 l0)), (2, .long (i6 l2)), (4, .int (i3 x4))] [.long (i6 (absZ l0))] n h
  refine ok_lload_n (pc := 4) hc dX6_lowestTerms_4 rfl 1 rfl ?_
  exact ok_callS (pc := 5) (cb := 0) (sb := 0) (st := []) hc [.long (i6 (absZ l0)), .long (i6 l2)] cs_X6_335 sp_X6_greatestDivisor (by decide) dX6_lowestTerms_5 rfl rfl rfl rfl (Nat.le_of_ble_eq_true rfl) P

set_option maxHeartbeats 4000000 in
set_option maxRecDepth 100000 in
theorem sX6_lowestTerms_8 {X : Xt} {n : Nat} {h : HP} {l0 : Int} {l2 : Int} {x4 : Int} {tl0 : Int} (hc : Cx X cX6_lowestTerms RX6 7 1 30) {K : KT} (hr : CxR X (some .long) K) 
    (P : (R6 tl0 ∧ R6 0) ∧ (¬ tl0 = 0 → (R3 x4) ∧ (¬ x4 = 0 → (R6 l2 ∧ R6 tl0 ∧ R6 ((l2 : Int).tdiv tl0) ∧ tl0 ≠ 0) ∧ K (.inl (some (.long (i6 ((l2 : Int).tdiv tl0))))) n h) ∧ (x4 = 0 → (R6 l0 ∧ R6 tl0 ∧ R6 ((l0 : Int).tdiv tl0) ∧ tl0 ≠ 0) ∧ K (.inl (some (.long (i6 ((l0 : Int).tdiv tl0))))) n h)) ∧ (tl0 = 0 → K (.inl (some (.long (i6 0)))) n h)) :
    Ok X 0 0 8 [(0, .long (i6 l0)), (2, .long (i6 l2)), (4, .int (i3 x4))] [.long (i6 tl0)] n h := by
  refine ok_lstore (pc := 8) hc (lv' := [(5, .long (i6 tl0)), (0, .long (i6 l0)), (2, .long (i6 l2)), (4, .int (i3 x4))]) dX6_lowestTerms_8 (by decide) rfl ?_
  refine ok_lload (pc := 10) hc dX6_lowestTerms_10 0 rfl ?_
  refine ok_lconst (pc := 12) hc (v := i6 0) dX6_lowestTerms_12 (by decide) ?_
  obtain ⟨r, P⟩ := P
  refine zk_lcmp (pc := 13) hc dX6_lowestTerms_13 r ?_
  refine zk_if_ne (pc := 14) (tgt := 19) hc dX6_lowestTerms_14 (by decide) R3_cmp (fun c => ?_) (fun c => ?_)
  · have P := P.1 (fun z => c (cmp_eq.mpr z))
    refine ok_iload (pc := 19) hc dX6_lowestTerms_19 3 rfl ?_
    obtain ⟨r1, P⟩ := P
    refine zk_if_ne (pc := 21) (tgt := 31) hc dX6_lowestTerms_21 (by decide) r1 (fun c => ?_) (fun c => ?_)
    · have P := P.1 c
      refine ok_lload_n (pc := 31) hc dX6_lowestTerms_31 rfl 2 rfl ?_
      refine ok_lload (pc := 32) hc dX6_lowestTerms_32 0 rfl ?_
      obtain ⟨r, P⟩ := P
      refine zk_ldiv (pc := 34) hc dX6_lowestTerms_34 r ?_
      exact ok_lret (st := []) (pc := 35) hc hr dX6_lowestTerms_35 P
    · have P := P.2 c
      refine ok_lload_n (pc := 24) hc dX6_lowestTerms_24 rfl 1 rfl ?_
      refine ok_lload (pc := 25) hc dX6_lowestTerms_25 0 rfl ?_
      obtain ⟨r, P⟩ := P
      refine zk_ldiv (pc := 27) hc dX6_lowestTerms_27 r ?_
      refine ok_goto (pc := 28) (tgt := 35) hc dX6_lowestTerms_28 (by decide) ?_
      exact ok_lret (st := []) (pc := 35) hc hr dX6_lowestTerms_35 P
  · have P := P.2 (cmp_eq.mp c)
    refine ok_lconst (pc := 17) hc (v := i6 0) dX6_lowestTerms_17 (by decide) ?_
    exact ok_lret (st := []) (pc := 18) hc hr dX6_lowestTerms_18 P

def spec_X6_lowestTerms (args : List Value) (n : Nat) (h : HP) (K : KT) : Prop := ∃ x d w : Int, args = [.long (i6 x), .long (i6 d), .int (i3 w)] ∧ (-4611686018427387904 < x ∧ x < 4611686018427387904) ∧ (0 ≤ d ∧ d < 281474976710656) ∧ R3 w ∧ K (.inl (some (.long (i6 (lowT x d w))))) n h
theorem sp_X6_lowestTerms : Sp yX6_lowestTerms cX6_lowestTerms 7 (some .long) 1 30 0 0 spec_X6_lowestTerms := by
  refine sp_intro (by decide) (by rintro args n h K ⟨x, d, w, rfl, -⟩; exact Nat.le_of_ble_eq_true rfl) ?_
  rintro X args n h K hc hr ⟨x, d, w, rfl, hx, hd, hw, kk⟩
  have e1 : absZ x = (x.natAbs : Int) := by unfold absZ; split <;> omega
  have e2 : d = (d.natAbs : Int) := by omega
  have hg : Nat.gcd x.natAbs d.natAbs ≤ 4611686018427387904 := by
    by_cases z : d.natAbs = 0
    · rw [z, Nat.gcd_zero_right]
      omega
    · have := Nat.gcd_le_right x.natAbs (Nat.pos_of_ne_zero z)
      omega
  have r6g : R6 (Nat.gcd x.natAbs d.natAbs : Nat) := ⟨by omega, by omega⟩
  have t1 := tdiv_bd (a := x) (p := (Nat.gcd x.natAbs d.natAbs : Nat))
  have t2 := tdiv_bd (a := d) (p := (Nat.gcd x.natAbs d.natAbs : Nat))
  refine sX6_lowestTerms_0 hc hr ⟨⟨by omega, by omega⟩, x.natAbs, d.natAbs, by rw [e1, ← e2], by omega, by omega, rfl, sX6_lowestTerms_8 hc hr ⟨⟨r6g, R6_0⟩, fun z => ?_, fun z => ?_⟩⟩
  · unfold lowT at kk
    rw [if_neg (by omega)] at kk
    refine ⟨hw, fun y => ?_, fun y => ?_⟩
    · rw [if_neg y] at kk
      exact ⟨⟨⟨by omega, by omega⟩, r6g, ⟨by omega, by omega⟩, z⟩, kk⟩
    · rw [if_pos y] at kk
      exact ⟨⟨⟨by omega, by omega⟩, r6g, ⟨by omega, by omega⟩, z⟩, kk⟩
  · unfold lowT at kk
    rw [if_pos (by omega)] at kk
    exact kk
def BdG (G : Nat → Int) : Prop := ∀ j, j < 7 → -1000 ≤ G j ∧ G j ≤ 1000
theorem numer_bd {ps : List Part} {m k : Nat} {G : Nat → Int} (hF : Fit ps) (hm : m < 2 ^ nA ps) (hk : k < 7) (hG : BdG G) : -3758096384000 ≤ numer ps m G k ∧ numer ps m G k ≤ 3758096384000 := by
  have L : ∀ i : Nat, i ≤ 7 → -(536870912000 * (i : Int)) ≤ sumN (fun i => solN ps m (7 * k + i) * G i) i ∧ sumN (fun i => solN ps m (7 * k + i) * G i) i ≤ 536870912000 * i := by
    intro i
    induction i with
    | zero =>
      intro _
      show -(536870912000 * ((0 : Nat) : Int)) ≤ 0 ∧ (0 : Int) ≤ 536870912000 * ((0 : Nat) : Int)
      omega
    | succ i ih =>
      intro hi
      have h1 := ih (by omega)
      have h2 := mul_bd (B := 536870912) (C := 1000) (hF.sN hm (show 7 * k + i < 49 by omega)) (hG i (by omega))
      have e : sumN (fun i => solN ps m (7 * k + i) * G i) (i + 1) = sumN (fun i => solN ps m (7 * k + i) * G i) i + solN ps m (7 * k + i) * G i := rfl
      omega
  have := L 7 (by omega)
  unfold numer
  omega
theorem numer_g {ps : List Part} {m : Nat} {G G' : Nat → Int} (h : ∀ j, j < 7 → G j = G' j) : numer ps m G = numer ps m G' := by
  funext k
  exact sumN_eq (fun j hj => by rw [h j hj])
theorem gSrc_bd {ps : List Part} (hw : ∀ p ∈ ps, PW p) : BdG (gSrc ps) := by
  have L : ∀ (l : List Part) (G : Nat → Int), (∀ p ∈ l, PW p) → BdG G → BdG (l.foldl (fun G p => if p.1 = 1 then va_up G p.2.1.toNat p.2.2.2 else G) G) := by
    intro l
    induction l with
    | nil => intro G _ h; exact h
    | cons p l ih =>
      intro G hw hG
      rw [List.foldl_cons]
      refine ih _ (fun q hq => hw q (List.mem_cons_of_mem _ hq)) (fun j hj => ?_)
      have hb := (hw p List.mem_cons_self).b
      by_cases z : p.1 = 1
      · rw [if_pos z]
        by_cases y : j = p.2.1.toNat
        · rw [y, up_self]
          omega
        · rw [up_ne y]
          exact hG j hj
      · rw [if_neg z]
        exact hG j hj
  exact L ps _ hw (fun j _ => ⟨by decide, by decide⟩)
theorem gAmp_bd {ps : List Part} {rail c : Int} (hw : ∀ p ∈ ps, PW p) (hr : 0 ≤ rail ∧ rail ≤ 1000) : ∀ a, BdG (gAmp ps rail c a)
  | 0 => gSrc_bd hw
  | a + 1 => by
    have ih := gAmp_bd (c := c) hw hr a
    show BdG (match (amps ps)[a]? with | none => gAmp ps rail c a | some p => gStep rail (c / 3 ^ a % 3) (gAmp ps rail c a) p)
    cases (amps ps)[a]? with
    | none => exact ih
    | some p =>
      show BdG (gStep rail (c / 3 ^ a % 3) (gAmp ps rail c a) p)
      intro j hj
      have hi := ih j hj
      unfold gStep
      by_cases z : c / 3 ^ a % 3 = 1
      · rw [if_pos z]
        by_cases y : j = p.2.2.2.toNat
        · rw [y, up_self]
          omega
        · rw [up_ne y]
          exact hi
      · rw [if_neg z]
        by_cases z2 : c / 3 ^ a % 3 = 2
        · rw [if_pos z2]
          by_cases y : j = p.2.2.2.toNat
          · rw [y, up_self]
            omega
          · rw [up_ne y]
            exact hi
        · rw [if_neg z2]
          exact hi
theorem StA.givC {h : HP} {n a : Nat} {S : Stt} (p : StA h n a S) (c : Int) : BdG (_root_.Jvm.Pilot.@@N@@.givC S c) := by
  obtain ⟨k, f, s, t, E, E1, E2, E3, E4, hv, hw, hl, hcap⟩ := p.2.1
  exact gAmp_bd hw p.2.2.1 _
set_option maxHeartbeats 4000000 in
set_option maxRecDepth 100000 in
theorem sX0_signOfInput_0 {X : Xt} {n : Nat} {h : HP} {a0 : Nat} {x1 : Int} {fs1 : List Value} {q2 : Nat} {fs3 : List Value} {q4 : Nat} {fs5 : List Value} {q6 : Nat} {len7 : Nat} {f7 : Nat → Int} (hc : Cx X cX0_signOfInput RX0 2 1 25) {K : KT} (hr : CxR X (some .int) K) (e1 : At h n a0 (.inl (0, fs1))) (z1 : fs1.length = 8) (v1_0 : fs1[0]? = some (.ref q2)) (e3 : At h n q2 (.inl (4, fs3))) (z3 : fs3.length = 4) (v3_0 : fs3[0]? = some (.ref q4)) (e5 : At h n q4 (.inl (2, fs5))) (z5 : fs5.length = 5) (v5_1 : fs5[1]? = some (.ref q6)) (e7 : At h n q6 (ai len7 f7))
    (P : (Ix x1 len7) ∧ spec_X0_numerator [.ref a0, .int (i3 (f7 (x1 : Int).toNat))] n h (kc X 0 0 13 [(0, .ref a0), (1, .int (i3 x1))] [] n)) :
    Ok X 0 0 0 [(0, .ref a0), (1, .int (i3 x1))] [] n h := by
  refine ok_aload_n (pc := 0) hc dX0_signOfInput_0 rfl 0 rfl ?_
  refine ok_aload_n (pc := 1) hc dX0_signOfInput_1 rfl 0 rfl ?_
  refine ok_get (pc := 2) hc fl_X0_12 dX0_signOfInput_2 e1.1 e1.2 v1_0 ?_
  refine ok_get (pc := 5) hc fl_X0_44 dX0_signOfInput_5 e3.1 e3.2 v3_0 ?_
  refine ok_get (pc := 8) hc fl_X0_100 dX0_signOfInput_8 e5.1 e5.2 v5_1 ?_
  refine ok_iload_n (pc := 11) hc dX0_signOfInput_11 rfl 1 rfl ?_
  obtain ⟨r, P⟩ := P
  refine zk_iald (pc := 12) hc dX0_signOfInput_12 e7.1 e7.2 r ?_
  exact ok_callV (pc := 13) (a := a0) (cb := 0) (sb := 0) (st := []) hc [.int (i3 (f7 (x1 : Int).toNat))] cv_X0_127 sp_X0_numerator (by decide) dX0_signOfInput_13 rfl e1.1 e1.2 rfl rfl rfl (Nat.le_of_ble_eq_true rfl) P

set_option maxHeartbeats 4000000 in
set_option maxRecDepth 100000 in
theorem sX0_signOfInput_16 {X : Xt} {n : Nat} {h : HP} {a0 : Nat} {x1 : Int} {tl0 : Int} {fs1 : List Value} {q2 : Nat} {fs3 : List Value} {q4 : Nat} {fs5 : List Value} {q6 : Nat} {len7 : Nat} {f7 : Nat → Int} (hc : Cx X cX0_signOfInput RX0 2 1 25) {K : KT} (hr : CxR X (some .int) K) (e1 : At h n a0 (.inl (0, fs1))) (z1 : fs1.length = 8) (v1_0 : fs1[0]? = some (.ref q2)) (e3 : At h n q2 (.inl (4, fs3))) (z3 : fs3.length = 4) (v3_0 : fs3[0]? = some (.ref q4)) (e5 : At h n q4 (.inl (2, fs5))) (z5 : fs5.length = 5) (v5_2 : fs5[2]? = some (.ref q6)) (e7 : At h n q6 (ai len7 f7))
    (P : (Ix x1 len7) ∧ spec_X0_numerator [.ref a0, .int (i3 (f7 (x1 : Int).toNat))] n h (kc X 0 0 29 [(0, .ref a0), (1, .int (i3 x1))] [.long (i6 tl0)] n)) :
    Ok X 0 0 16 [(0, .ref a0), (1, .int (i3 x1))] [.long (i6 tl0)] n h := by
  refine ok_aload_n (pc := 16) hc dX0_signOfInput_16 rfl 0 rfl ?_
  refine ok_aload_n (pc := 17) hc dX0_signOfInput_17 rfl 0 rfl ?_
  refine ok_get (pc := 18) hc fl_X0_12 dX0_signOfInput_18 e1.1 e1.2 v1_0 ?_
  refine ok_get (pc := 21) hc fl_X0_44 dX0_signOfInput_21 e3.1 e3.2 v3_0 ?_
  refine ok_get (pc := 24) hc fl_X0_140 dX0_signOfInput_24 e5.1 e5.2 v5_2 ?_
  refine ok_iload_n (pc := 27) hc dX0_signOfInput_27 rfl 1 rfl ?_
  obtain ⟨r, P⟩ := P
  refine zk_iald (pc := 28) hc dX0_signOfInput_28 e7.1 e7.2 r ?_
  exact ok_callV (pc := 29) (a := a0) (cb := 0) (sb := 0) (st := [.long (i6 tl0)]) hc [.int (i3 (f7 (x1 : Int).toNat))] cv_X0_127 sp_X0_numerator (by decide) dX0_signOfInput_29 rfl e1.1 e1.2 rfl rfl rfl (Nat.le_of_ble_eq_true rfl) P

set_option maxHeartbeats 4000000 in
set_option maxRecDepth 100000 in
theorem sX0_signOfInput_32 {X : Xt} {n : Nat} {h : HP} {a0 : Nat} {x1 : Int} {tl0 : Int} {tl1 : Int} (hc : Cx X cX0_signOfInput RX0 2 1 25) {K : KT} (hr : CxR X (some .int) K) 
    (P : (R6 tl1 ∧ R6 tl0) ∧ K (.inl (some (.int (i3 (cmpZ tl1 tl0))))) n h) :
    Ok X 0 0 32 [(0, .ref a0), (1, .int (i3 x1))] [.long (i6 tl0), .long (i6 tl1)] n h := by
  obtain ⟨r0, P⟩ := P
  refine ok_callS (pc := 32) (cb := 0) (sb := 0) (st := []) hc [.long (i6 tl1), .long (i6 tl0)] cs_X0_143 sp_J13_compare_74951 (by decide) dX0_signOfInput_32 rfl rfl rfl rfl (Nat.le_of_ble_eq_true rfl) (⟨_, _, rfl, r0, rfl, ?_⟩)
  show Ok X 0 0 (32 + 3) [(0, .ref a0), (1, .int (i3 x1))] [.int (i3 (cmpZ tl1 tl0))] n h
  exact ok_iret (st := []) (pc := 35) hc hr dX0_signOfInput_35 P

/-- the voltages of nodes, times the denominator -/
def signP (ps : List Part) (m : Nat) (G : Nat → Int) (p : Part) : Int := cmpZ (numer ps m G p.2.1.toNat) (numer ps m G p.2.2.1.toNat)
def spec_X0_signOfInput (args : List Value) (n : Nat) (h : HP) (K : KT) : Prop := ∃ (b m i : Nat) (S : Stt) (rsn cul : Int) (G : Nat → Int) (p : Part), args = [.ref b, .int (i3 i)] ∧ BnK h n b S (m : Nat) rsn cul G ∧ m < 2 ^ nA S.1 ∧ BdG G ∧ S.1[i]? = some p ∧ p.1 = 2 ∧ K (.inl (some (.int (i3 (signP S.1 m G p))))) n h
theorem sp_X0_signOfInput : Sp yX0_signOfInput cX0_signOfInput 2 (some .int) 1 25 0 0 spec_X0_signOfInput := by
  refine sp_intro (by decide) (by rintro args n h K ⟨b, m, i, S, _, _, _, _, rfl, -⟩; exact Nat.le_of_ble_eq_true rfl) ?_
  rintro X args n h K hc hr ⟨b, m, i, S, rsn, cul, G, p, rfl, hK, hm, hG, hp, h2, kk⟩
  obtain ⟨F, D, N, hB, h3, hFit, hF, hDN⟩ := id hK
  obtain ⟨k, f, s, t, E, E1, E2, E3, E4, hv, hw, hl, hcap⟩ := id hB.2.1.2.1
  have hi := (List.getElem?_eq_some_iff.mp hp).1
  have hpe := Option.some.inj ((hv i hi).symm.trans hp)
  have hPW := hw p (List.mem_of_getElem? hp)
  unfold PW at hPW
  have ef : f i = p.2.1 := by rw [← hpe]
  have es : s i = p.2.2.1 := by rw [← hpe]
  have b1 := numer_bd hFit hm (show p.2.1.toNat < 7 by omega) hG
  have b2 := numer_bd hFit hm (show p.2.2.1.toNat < 7 by omega) hG
  refine sX0_signOfInput_0 hc hr hB.1 rfl rfl hB.2.1.1 rfl rfl E rfl rfl E2 ⟨⟨by omega, by omega, by omega⟩, b, m, p.2.1.toNat, S, rsn, cul, G, by rw [Int.toNat_natCast, ef, Int.toNat_of_nonneg (by omega)], hK, hm, by omega, rfl, ?_⟩
  refine sX0_signOfInput_16 hc hr hB.1 rfl rfl hB.2.1.1 rfl rfl E rfl rfl E3 ⟨⟨by omega, by omega, by omega⟩, b, m, p.2.2.1.toNat, S, rsn, cul, G, by rw [Int.toNat_natCast, es, Int.toNat_of_nonneg (by omega)], hK, hm, by omega, rfl, ?_⟩
  exact sX0_signOfInput_32 hc hr ⟨⟨⟨by omega, by omega⟩, ⟨by omega, by omega⟩⟩, kk⟩
set_option maxHeartbeats 4000000 in
set_option maxRecDepth 100000 in
theorem sX0_hasNegativeFeedback_0 {X : Xt} {n : Nat} {h : HP} {a0 : Nat} {x1 : Int} {fs1 : List Value} {iv2 : Int} {q3 : Nat} {fs4 : List Value} {q5 : Nat} {q6 : Nat} {len7 : Nat} {f7 : Nat → Int} {fs8 : List Value} {q9 : Nat} {len10 : Nat} {f10 : Nat → Int} {q11 : Nat} {fs12 : List Value} {q13 : Nat} {len14 : Nat} {f14 : Nat → Option Nat} {q15 : Nat} {q17 : Nat} {len18 : Nat} {f18 : Nat → Int} {len19 : Nat} {f19 : Nat → Int} {q20 : Nat} {len21 : Nat} {f21 : Nat → Int} {q22 : Nat} {len23 : Nat} {f23 : Nat → Int} (hc : Cx X cX0_hasNegativeFeedback RX0 10 0 0) {K : KT} (hr : CxR X (some .boolean) K) (e1 : At h n a0 (.inl (0, fs1))) (z1 : fs1.length = 8) (v1_5 : fs1[5]? = some (.int (i3 iv2))) (v1_0 : fs1[0]? = some (.ref q3)) (e4 : At h n q3 (.inl (4, fs4))) (z4 : fs4.length = 4) (v4_0 : fs4[0]? = some (.ref q5)) (v1_1 : fs1[1]? = some (.ref q6)) (e7 : At h n q6 (ai len7 f7)) (e8 : At h n q5 (.inl (2, fs8))) (z8 : fs8.length = 5) (v8_3 : fs8[3]? = some (.ref q9)) (e10 : At h n q9 (ai len10 f10)) (v1_3 : fs1[3]? = some (.ref q11)) (e12 : At h n q11 (.inl (3, fs12))) (z12 : fs12.length = 3) (v12_1 : fs12[1]? = some (.ref q13)) (e14 : At h n q13 (.inr (4, len14, .inr (.inr f14)))) (g16 : (f14 ((bor iv2 (bshl 1 x1)) : Int).toNat) = some q15) (v8_1 : fs8[1]? = some (.ref q17)) (e18 : At h n q17 (ai len18 f18)) (e19 : At h n q15 (al len19 f19)) (v8_2 : fs8[2]? = some (.ref q20)) (e21 : At h n q20 (ai len21 f21)) (v12_0 : fs12[0]? = some (.ref q22)) (e23 : At h n q22 (al len23 f23))
    (P : (Ix x1 len7) ∧ (Ix (f7 (x1 : Int).toNat) len10) ∧ (Ix (bor iv2 (bshl 1 x1)) len14) ∧ (Ix (f7 (x1 : Int).toNat) len18) ∧ (Ix ((7 * (f18 ((f7 (x1 : Int).toNat) : Int).toNat)) + (f10 ((f7 (x1 : Int).toNat) : Int).toNat)) len19) ∧ (Ix (bor iv2 (bshl 1 x1)) len14) ∧ (Ix (f7 (x1 : Int).toNat) len21) ∧ (Ix ((7 * (f21 ((f7 (x1 : Int).toNat) : Int).toNat)) + (f10 ((f7 (x1 : Int).toNat) : Int).toNat)) len19) ∧ (Ix (bor iv2 (bshl 1 x1)) len23) ∧ (R6 (f23 ((bor iv2 (bshl 1 x1)) : Int).toNat) ∧ R6 0) ∧ ((f23 ((bor iv2 (bshl 1 x1)) : Int).toNat) = 0 → K (.inl (some (.int (i3 0)))) n h) ∧ (¬ (f23 ((bor iv2 (bshl 1 x1)) : Int).toNat) = 0 → (R6 (f19 (((7 * (f18 ((f7 (x1 : Int).toNat) : Int).toNat)) + (f10 ((f7 (x1 : Int).toNat) : Int).toNat)) : Int).toNat) ∧ R6 (f19 (((7 * (f21 ((f7 (x1 : Int).toNat) : Int).toNat)) + (f10 ((f7 (x1 : Int).toNat) : Int).toNat)) : Int).toNat)) ∧ ((f19 (((7 * (f21 ((f7 (x1 : Int).toNat) : Int).toNat)) + (f10 ((f7 (x1 : Int).toNat) : Int).toNat)) : Int).toNat) ≤ (f19 (((7 * (f18 ((f7 (x1 : Int).toNat) : Int).toNat)) + (f10 ((f7 (x1 : Int).toNat) : Int).toNat)) : Int).toNat) → K (.inl (some (.int (i3 0)))) n h) ∧ (¬ (f19 (((7 * (f21 ((f7 (x1 : Int).toNat) : Int).toNat)) + (f10 ((f7 (x1 : Int).toNat) : Int).toNat)) : Int).toNat) ≤ (f19 (((7 * (f18 ((f7 (x1 : Int).toNat) : Int).toNat)) + (f10 ((f7 (x1 : Int).toNat) : Int).toNat)) : Int).toNat) → K (.inl (some (.int (i3 1)))) n h))) :
    Ok X 0 0 0 [(0, .ref a0), (1, .int (i3 x1))] [] n h := by
  refine ok_aload_n (pc := 0) hc dX0_hasNegativeFeedback_0 rfl 0 rfl ?_
  refine ok_get (pc := 1) hc fl_X0_91 dX0_hasNegativeFeedback_1 e1.1 e1.2 v1_5 ?_
  refine ok_iconst (pc := 4) hc (v := i3 1) dX0_hasNegativeFeedback_4 (by decide) ?_
  refine ok_iload_n (pc := 5) hc dX0_hasNegativeFeedback_5 rfl 1 rfl ?_
  refine zk_ishl (pc := 6) hc dX0_hasNegativeFeedback_6 ?_
  refine zk_ior (pc := 7) hc dX0_hasNegativeFeedback_7 ?_
  refine ok_istore_n (pc := 8) hc (lv' := [(2, .int (i3 (bor iv2 (bshl 1 x1)))), (0, .ref a0), (1, .int (i3 x1))]) dX0_hasNegativeFeedback_8 rfl (by decide) rfl ?_
  refine ok_aload_n (pc := 9) hc dX0_hasNegativeFeedback_9 rfl 1 rfl ?_
  refine ok_get (pc := 10) hc fl_X0_12 dX0_hasNegativeFeedback_10 e1.1 e1.2 v1_0 ?_
  refine ok_get (pc := 13) hc fl_X0_44 dX0_hasNegativeFeedback_13 e4.1 e4.2 v4_0 ?_
  refine ok_astore_n (pc := 16) hc (lv' := [(3, .ref q5), (2, .int (i3 (bor iv2 (bshl 1 x1)))), (0, .ref a0), (1, .int (i3 x1))]) dX0_hasNegativeFeedback_16 rfl (by decide) rfl ?_
  refine ok_aload_n (pc := 17) hc dX0_hasNegativeFeedback_17 rfl 2 rfl ?_
  refine ok_get (pc := 18) hc fl_X0_18 dX0_hasNegativeFeedback_18 e1.1 e1.2 v1_1 ?_
  refine ok_iload_n (pc := 21) hc dX0_hasNegativeFeedback_21 rfl 3 rfl ?_
  obtain ⟨r, P⟩ := P
  refine zk_iald (pc := 22) hc dX0_hasNegativeFeedback_22 e7.1 e7.2 r ?_
  refine ok_istore (pc := 23) hc (lv' := [(4, .int (i3 (f7 (x1 : Int).toNat))), (3, .ref q5), (2, .int (i3 (bor iv2 (bshl 1 x1)))), (0, .ref a0), (1, .int (i3 x1))]) dX0_hasNegativeFeedback_23 (by decide) rfl ?_
  refine ok_aload_n (pc := 25) hc dX0_hasNegativeFeedback_25 rfl 1 rfl ?_
  refine ok_get (pc := 26) hc fl_X0_103 dX0_hasNegativeFeedback_26 e8.1 e8.2 v8_3 ?_
  refine ok_iload (pc := 29) hc dX0_hasNegativeFeedback_29 0 rfl ?_
  obtain ⟨r, P⟩ := P
  refine zk_iald (pc := 31) hc dX0_hasNegativeFeedback_31 e10.1 e10.2 r ?_
  refine ok_istore (pc := 32) hc (lv' := [(5, .int (i3 (f10 ((f7 (x1 : Int).toNat) : Int).toNat))), (4, .int (i3 (f7 (x1 : Int).toNat))), (3, .ref q5), (2, .int (i3 (bor iv2 (bshl 1 x1)))), (0, .ref a0), (1, .int (i3 x1))]) dX0_hasNegativeFeedback_32 (by decide) rfl ?_
  refine ok_aload_n (pc := 34) hc dX0_hasNegativeFeedback_34 rfl 4 rfl ?_
  refine ok_get (pc := 35) hc fl_X0_25 dX0_hasNegativeFeedback_35 e1.1 e1.2 v1_3 ?_
  refine ok_get (pc := 38) hc fl_X0_109 dX0_hasNegativeFeedback_38 e12.1 e12.2 v12_1 ?_
  refine ok_iload_n (pc := 41) hc dX0_hasNegativeFeedback_41 rfl 3 rfl ?_
  obtain ⟨r, P⟩ := P
  refine zk_aald (pc := 42) hc dX0_hasNegativeFeedback_42 e14.1 e14.2 rfl r g16 ?_
  refine ok_bipush (pc := 43) hc (v := i3 7) dX0_hasNegativeFeedback_43 (by decide) ?_
  refine ok_aload_n (pc := 45) hc dX0_hasNegativeFeedback_45 rfl 2 rfl ?_
  refine ok_get (pc := 46) hc fl_X0_100 dX0_hasNegativeFeedback_46 e8.1 e8.2 v8_1 ?_
  refine ok_iload (pc := 49) hc dX0_hasNegativeFeedback_49 1 rfl ?_
  obtain ⟨r, P⟩ := P
  refine zk_iald (pc := 51) hc dX0_hasNegativeFeedback_51 e18.1 e18.2 r ?_
  refine zk_imul (pc := 52) hc dX0_hasNegativeFeedback_52 ?_
  refine ok_iload (pc := 53) hc dX0_hasNegativeFeedback_53 0 rfl ?_
  refine zk_iadd (pc := 55) hc dX0_hasNegativeFeedback_55 ?_
  obtain ⟨r, P⟩ := P
  refine zk_lald (pc := 56) hc dX0_hasNegativeFeedback_56 e19.1 e19.2 r ?_
  refine ok_lstore (pc := 57) hc (lv' := [(6, .long (i6 (f19 (((7 * (f18 ((f7 (x1 : Int).toNat) : Int).toNat)) + (f10 ((f7 (x1 : Int).toNat) : Int).toNat)) : Int).toNat))), (5, .int (i3 (f10 ((f7 (x1 : Int).toNat) : Int).toNat))), (4, .int (i3 (f7 (x1 : Int).toNat))), (3, .ref q5), (2, .int (i3 (bor iv2 (bshl 1 x1)))), (0, .ref a0), (1, .int (i3 x1))]) dX0_hasNegativeFeedback_57 (by decide) rfl ?_
  refine ok_aload_n (pc := 59) hc dX0_hasNegativeFeedback_59 rfl 5 rfl ?_
  refine ok_get (pc := 60) hc fl_X0_25 dX0_hasNegativeFeedback_60 e1.1 e1.2 v1_3 ?_
  refine ok_get (pc := 63) hc fl_X0_109 dX0_hasNegativeFeedback_63 e12.1 e12.2 v12_1 ?_
  refine ok_iload_n (pc := 66) hc dX0_hasNegativeFeedback_66 rfl 4 rfl ?_
  obtain ⟨r, P⟩ := P
  refine zk_aald (pc := 67) hc dX0_hasNegativeFeedback_67 e14.1 e14.2 rfl r g16 ?_
  refine ok_bipush (pc := 68) hc (v := i3 7) dX0_hasNegativeFeedback_68 (by decide) ?_
  refine ok_aload_n (pc := 70) hc dX0_hasNegativeFeedback_70 rfl 3 rfl ?_
  refine ok_get (pc := 71) hc fl_X0_140 dX0_hasNegativeFeedback_71 e8.1 e8.2 v8_2 ?_
  refine ok_iload (pc := 74) hc dX0_hasNegativeFeedback_74 2 rfl ?_
  obtain ⟨r, P⟩ := P
  refine zk_iald (pc := 76) hc dX0_hasNegativeFeedback_76 e21.1 e21.2 r ?_
  refine zk_imul (pc := 77) hc dX0_hasNegativeFeedback_77 ?_
  refine ok_iload (pc := 78) hc dX0_hasNegativeFeedback_78 1 rfl ?_
  refine zk_iadd (pc := 80) hc dX0_hasNegativeFeedback_80 ?_
  obtain ⟨r, P⟩ := P
  refine zk_lald (pc := 81) hc dX0_hasNegativeFeedback_81 e19.1 e19.2 r ?_
  refine ok_lstore (pc := 82) hc (lv' := [(8, .long (i6 (f19 (((7 * (f21 ((f7 (x1 : Int).toNat) : Int).toNat)) + (f10 ((f7 (x1 : Int).toNat) : Int).toNat)) : Int).toNat))), (6, .long (i6 (f19 (((7 * (f18 ((f7 (x1 : Int).toNat) : Int).toNat)) + (f10 ((f7 (x1 : Int).toNat) : Int).toNat)) : Int).toNat))), (5, .int (i3 (f10 ((f7 (x1 : Int).toNat) : Int).toNat))), (4, .int (i3 (f7 (x1 : Int).toNat))), (3, .ref q5), (2, .int (i3 (bor iv2 (bshl 1 x1)))), (0, .ref a0), (1, .int (i3 x1))]) dX0_hasNegativeFeedback_82 (by decide) rfl ?_
  refine ok_aload_n (pc := 84) hc dX0_hasNegativeFeedback_84 rfl 6 rfl ?_
  refine ok_get (pc := 85) hc fl_X0_25 dX0_hasNegativeFeedback_85 e1.1 e1.2 v1_3 ?_
  refine ok_get (pc := 88) hc fl_X0_85 dX0_hasNegativeFeedback_88 e12.1 e12.2 v12_0 ?_
  refine ok_iload_n (pc := 91) hc dX0_hasNegativeFeedback_91 rfl 5 rfl ?_
  obtain ⟨r, P⟩ := P
  refine zk_lald (pc := 92) hc dX0_hasNegativeFeedback_92 e23.1 e23.2 r ?_
  refine ok_lconst (pc := 93) hc (v := i6 0) dX0_hasNegativeFeedback_93 (by decide) ?_
  obtain ⟨r, P⟩ := P
  refine zk_lcmp (pc := 94) hc dX0_hasNegativeFeedback_94 r ?_
  refine zk_if_eq (pc := 95) (tgt := 110) hc dX0_hasNegativeFeedback_95 (by decide) R3_cmp (fun c => ?_) (fun c => ?_)
  · have P := P.1 (cmp_eq.mp c)
    refine ok_iconst (pc := 110) hc (v := i3 0) dX0_hasNegativeFeedback_110 (by decide) ?_
    exact ok_zret (st := []) (pc := 111) hc (nar_z (by decide)) hr dX0_hasNegativeFeedback_111 P
  · have P := P.2 (fun z => c (cmp_eq.mpr z))
    refine ok_lload (pc := 98) hc dX0_hasNegativeFeedback_98 1 rfl ?_
    refine ok_lload (pc := 100) hc dX0_hasNegativeFeedback_100 0 rfl ?_
    obtain ⟨r, P⟩ := P
    refine zk_lcmp (pc := 102) hc dX0_hasNegativeFeedback_102 r ?_
    refine zk_if_ge (pc := 103) (tgt := 110) hc dX0_hasNegativeFeedback_103 (by decide) R3_cmp (fun c => ?_) (fun c => ?_)
    · have P := P.1 (cmp_ge.mp c)
      refine ok_iconst (pc := 110) hc (v := i3 0) dX0_hasNegativeFeedback_110 (by decide) ?_
      exact ok_zret (st := []) (pc := 111) hc (nar_z (by decide)) hr dX0_hasNegativeFeedback_111 P
    · have P := P.2 (fun z => c (cmp_ge.mpr z))
      refine ok_iconst (pc := 106) hc (v := i3 1) dX0_hasNegativeFeedback_106 (by decide) ?_
      refine ok_goto (pc := 107) (tgt := 111) hc dX0_hasNegativeFeedback_107 (by decide) ?_
      exact ok_zret (st := []) (pc := 111) hc (nar_z (by decide)) hr dX0_hasNegativeFeedback_111 P

def orN (m a : Nat) : Nat := (bor (m : Nat) (bshl 1 (a : Nat))).toNat
theorem orN_lt : ∀ k < 4, ∀ a < k, ∀ m < 2 ^ k, 0 ≤ bor (m : Nat) (bshl 1 (a : Nat)) ∧ orN m a < 2 ^ k := by decide +kernel
def fbk (ps : List Part) (m a : Nat) (p : Part) : Bool := decide (solD ps (orN m a) ≠ 0) && decide (solN ps (orN m a) (7 * p.2.1.toNat + p.2.2.2.toNat) < solN ps (orN m a) (7 * p.2.2.1.toNat + p.2.2.2.toNat))
def spec_X0_hasNegativeFeedback (args : List Value) (n : Nat) (h : HP) (K : KT) : Prop := ∃ (b m a i : Nat) (S : Stt) (rsn cul : Int) (G : Nat → Int) (p : Part), args = [.ref b, .int (i3 a)] ∧ BnK h n b S (m : Nat) rsn cul G ∧ m < 2 ^ nA S.1 ∧ AmpAt S.1 a i p ∧ K (.inl (some (.int (i3 (bz (fbk S.1 m a p)))))) n h
theorem sp_X0_hasNegativeFeedback : Sp yX0_hasNegativeFeedback cX0_hasNegativeFeedback 10 (some .boolean) 0 0 0 0 spec_X0_hasNegativeFeedback := by
  refine sp_intro (by decide) (by rintro args n h K ⟨b, m, a, i, S, _, _, _, _, rfl, -⟩; exact Nat.le_of_ble_eq_true rfl) ?_
  rintro X args n h K hc hr ⟨b, m, a, i, S, rsn, cul, G, p, rfl, hK, hm, hA, kk⟩
  obtain ⟨F, D, N, hB, h3, hFit, hF, hDN⟩ := id hK
  obtain ⟨k, f, s, t, E, E1, E2, E3, E4, hv, hw, hl, hcap⟩ := id hB.2.1.2.1
  obtain ⟨M, d, g, v, r1, r2, r3, r4⟩ := hB.2.2.2.1
  have hi := hA.lt
  have hpe := Option.some.inj ((hv i hi.1).symm.trans hA.1)
  have hPW := hw p (List.mem_of_getElem? hA.1)
  have h2 := hA.2.1
  unfold PW at hPW
  have ef : f i = p.2.1 := by rw [← hpe]
  have es : s i = p.2.2.1 := by rw [← hpe]
  have et : t i = p.2.2.2 := by rw [← hpe]
  have hFa := hF a i p hA
  have ho := orN_lt (nA S.1) (by omega) a hi.2 m hm
  have o8 := pow8 h3 ho.2
  have oe : bor (m : Nat) (bshl 1 (a : Nat)) = (orN m a : Nat) := by unfold orN; omega
  have ed : d (orN m a) = solD S.1 (orN m a) := (r4 _ o8).2.2.1.trans (hDN _ ho.2).1
  have ev : ∀ x, x < 49 → v (orN m a) x = solN S.1 (orN m a) x := fun x hx => ((r4 _ o8).2.2.2 x hx).trans (congrFun (hDN _ ho.2).2 x)
  have hsd := hFit.sD ho.2
  have gm : g (bor (m : Nat) (bshl 1 (a : Nat)) : Int).toNat = some (b + 8 + 3 + orN m a) := by
    rw [oe, Int.toNat_natCast]
    exact (r4 _ o8).1
  have p1 : (7 * f (F (a : Int).toNat).toNat + t (F (a : Int).toNat).toNat).toNat = 7 * p.2.1.toNat + p.2.2.2.toNat := by rw [Int.toNat_natCast, hFa, Int.toNat_natCast, ef, et]; omega
  have p2 : (7 * s (F (a : Int).toNat).toNat + t (F (a : Int).toNat).toNat).toNat = 7 * p.2.2.1.toNat + p.2.2.2.toNat := by rw [Int.toNat_natCast, hFa, Int.toNat_natCast, es, et]; omega
  have q1 := hFit.sN ho.2 (show 7 * p.2.1.toNat + p.2.2.2.toNat < 49 by omega)
  have q2 := hFit.sN ho.2 (show 7 * p.2.2.1.toNat + p.2.2.2.toNat < 49 by omega)
  have iF : Ix (F (a : Int).toNat) 12 := by rw [Int.toNat_natCast, hFa]; exact ⟨by omega, by omega, by omega⟩
  have io : Ix (bor (m : Nat) (bshl 1 (a : Nat))) 8 := by rw [oe]; exact ⟨by omega, by omega, by omega⟩
  have i1 : Ix (7 * f (F (a : Int).toNat).toNat + t (F (a : Int).toNat).toNat) 49 := by rw [Int.toNat_natCast, hFa, Int.toNat_natCast, ef, et]; exact ⟨by omega, by omega, by omega⟩
  have i2 : Ix (7 * s (F (a : Int).toNat).toNat + t (F (a : Int).toNat).toNat) 49 := by rw [Int.toNat_natCast, hFa, Int.toNat_natCast, es, et]; exact ⟨by omega, by omega, by omega⟩
  refine sX0_hasNegativeFeedback_0 hc hr hB.1 rfl rfl rfl hB.2.1.1 rfl rfl rfl hB.2.2.1 E rfl rfl E4 rfl hB.2.2.2.1.obj rfl rfl r3 gm rfl E2 (r4 _ o8).2.1 rfl E3 rfl r2 ⟨⟨by omega, by omega, by omega⟩, iF, io, iF, i1, io, iF, i2, io, ⟨?_, R6_0⟩, fun z => ?_, fun z => ⟨⟨?_, ?_⟩, fun y => ?_, fun y => ?_⟩⟩
  · rw [oe, Int.toNat_natCast, ed]
    exact ⟨by omega, by omega⟩
  · rw [oe, Int.toNat_natCast, ed] at z
    unfold fbk at kk
    rw [decide_eq_false (by simp [z]), Bool.false_and] at kk
    exact kk
  · rw [p1, ev _ (by omega)]
    exact ⟨by omega, by omega⟩
  · rw [p2, ev _ (by omega)]
    exact ⟨by omega, by omega⟩
  · rw [p1, p2, ev _ (by omega), ev _ (by omega)] at y
    unfold fbk at kk
    rw [decide_eq_false (by omega : ¬ solN S.1 (orN m a) (7 * p.2.1.toNat + p.2.2.2.toNat) < solN S.1 (orN m a) (7 * p.2.2.1.toNat + p.2.2.2.toNat)), Bool.and_false] at kk
    exact kk
  · rw [oe, Int.toNat_natCast, ed] at z
    rw [p1, p2, ev _ (by omega), ev _ (by omega)] at y
    unfold fbk at kk
    rw [decide_eq_true z, decide_eq_true (by omega : solN S.1 (orN m a) (7 * p.2.1.toNat + p.2.2.2.toNat) < solN S.1 (orN m a) (7 * p.2.2.1.toNat + p.2.2.2.toNat))] at kk
    exact kk
