/-! part 81: the reference: unlike, settle -/
set_option maxHeartbeats 4000000 in
set_option maxRecDepth 100000 in
theorem sX7_unlike_0 {X : Xt} {n : Nat} {h : HP} {a0 : Nat} {x1 : Int} {x2 : Int} (hc : Cx X cX7_unlike RX7 5 1 23) {K : KT} (hr : CxR X (some .int) K) 
    (P : Ok X 0 0 5 [(0, .ref a0), (1, .int (i3 x1)), (2, .int (i3 x2)), (3, .int (i3 0)), (4, .int (i3 0))] [] n h) :
    Ok X 0 0 0 [(0, .ref a0), (1, .int (i3 x1)), (2, .int (i3 x2))] [] n h := by
  refine ok_iconst (pc := 0) hc (v := i3 0) dX7_unlike_0 (by decide) ?_
  refine ok_istore_n (pc := 1) hc (lv' := [(3, .int (i3 0)), (0, .ref a0), (1, .int (i3 x1)), (2, .int (i3 x2))]) dX7_unlike_1 rfl (by decide) rfl ?_
  refine ok_iconst (pc := 2) hc (v := i3 0) dX7_unlike_2 (by decide) ?_
  refine ok_istore (pc := 3) hc (lv' := [(4, .int (i3 0)), (3, .int (i3 0)), (0, .ref a0), (1, .int (i3 x1)), (2, .int (i3 x2))]) dX7_unlike_3 (by decide) rfl ?_
  refine ok_lv [2, 3, 4, 1, 0] rfl ?_
  exact P

set_option maxHeartbeats 4000000 in
set_option maxRecDepth 100000 in
theorem sX7_unlike_5 {X : Xt} {n : Nat} {h : HP} {a0 : Nat} {x1 : Int} {x2 : Int} {x3 : Int} {x4 : Int} (hc : Cx X cX7_unlike RX7 5 1 23) {K : KT} (hr : CxR X (some .int) K) 
    (P : (R3 x4) ∧ (3 ≤ x4 → Ok X 0 0 40 [(0, .ref a0), (1, .int (i3 x1)), (2, .int (i3 x2)), (3, .int (i3 x3)), (4, .int (i3 x4))] [] n h) ∧ (¬ 3 ≤ x4 → Ok X 0 0 11 [(0, .ref a0), (1, .int (i3 x1)), (2, .int (i3 x2)), (3, .int (i3 x3)), (4, .int (i3 x4))] [] n h)) :
    Ok X 0 0 5 [(0, .ref a0), (1, .int (i3 x1)), (2, .int (i3 x2)), (3, .int (i3 x3)), (4, .int (i3 x4))] [] n h := by
  refine ok_iload (pc := 5) hc dX7_unlike_5 4 rfl ?_
  refine ok_iconst (pc := 7) hc (v := i3 3) dX7_unlike_7 (by decide) ?_
  obtain ⟨r1, P⟩ := P
  refine zk_icmp_ge (pc := 8) (tgt := 40) hc dX7_unlike_8 (by decide) r1 ⟨by decide, by decide⟩ (fun c => ?_) (fun c => ?_)
  · have P := P.1 c
    exact P
  · have P := P.2 c
    exact P

set_option maxHeartbeats 4000000 in
set_option maxRecDepth 100000 in
theorem sX7_unlike_11 {X : Xt} {n : Nat} {h : HP} {a0 : Nat} {x1 : Int} {x2 : Int} {x3 : Int} {x4 : Int} (hc : Cx X cX7_unlike RX7 5 1 23) {K : KT} (hr : CxR X (some .int) K) 
    (P : ((0 ≤ x1 ∧ x1 ≤ 2147483647) ∧ 0 ≤ x4 ∧ x4 < 1000) ∧ ((0 ≤ x2 ∧ x2 ≤ 2147483647) ∧ 0 ≤ x4 ∧ x4 < 1000) ∧ (R3 (x1 / 3 ^ (x4 : Int).toNat % 3)) ∧ (R3 (x2 / 3 ^ (x4 : Int).toNat % 3)) ∧ (¬ (x1 / 3 ^ (x4 : Int).toNat % 3) = (x2 / 3 ^ (x4 : Int).toNat % 3) → Ok X 0 0 5 [(0, .ref a0), (1, .int (i3 x1)), (2, .int (i3 x2)), (3, .int (i3 (x3 + 1))), (4, .int (i3 (x4 + 1)))] [] n h) ∧ ((x1 / 3 ^ (x4 : Int).toNat % 3) = (x2 / 3 ^ (x4 : Int).toNat % 3) → Ok X 0 0 5 [(0, .ref a0), (1, .int (i3 x1)), (2, .int (i3 x2)), (3, .int (i3 (x3 + 0))), (4, .int (i3 (x4 + 1)))] [] n h)) :
    Ok X 0 0 11 [(0, .ref a0), (1, .int (i3 x1)), (2, .int (i3 x2)), (3, .int (i3 x3)), (4, .int (i3 x4))] [] n h := by
  refine ok_iload_n (pc := 11) hc dX7_unlike_11 rfl 3 rfl ?_
  refine ok_iload_n (pc := 12) hc dX7_unlike_12 rfl 1 rfl ?_
  refine ok_iload (pc := 13) hc dX7_unlike_13 4 rfl ?_
  obtain ⟨r0, P⟩ := P
  refine ok_callS (pc := 15) (cb := 0) (sb := 0) (st := [.int (i3 x3)]) hc [.int (i3 x1), .int (i3 x4)] cs_X7_95 sp_X7_stateIn (by decide) dX7_unlike_15 rfl rfl rfl rfl (Nat.le_of_ble_eq_true rfl) (⟨x1, (x4 : Int).toNat, (by rw [Int.toNat_of_nonneg r0.2.1]), ⟨r0.1, by omega⟩, rfl, ?_⟩)
  show Ok X 0 0 (15 + 3) [(0, .ref a0), (1, .int (i3 x1)), (2, .int (i3 x2)), (3, .int (i3 x3)), (4, .int (i3 x4))] [.int (i3 (x1 / 3 ^ (x4 : Int).toNat % 3)), .int (i3 x3)] n h
  refine ok_iload_n (pc := 18) hc dX7_unlike_18 rfl 2 rfl ?_
  refine ok_iload (pc := 19) hc dX7_unlike_19 4 rfl ?_
  obtain ⟨r0, P⟩ := P
  refine ok_callS (pc := 21) (cb := 0) (sb := 0) (st := [.int (i3 (x1 / 3 ^ (x4 : Int).toNat % 3)), .int (i3 x3)]) hc [.int (i3 x2), .int (i3 x4)] cs_X7_95 sp_X7_stateIn (by decide) dX7_unlike_21 rfl rfl rfl rfl (Nat.le_of_ble_eq_true rfl) (⟨x2, (x4 : Int).toNat, (by rw [Int.toNat_of_nonneg r0.2.1]), ⟨r0.1, by omega⟩, rfl, ?_⟩)
  show Ok X 0 0 (21 + 3) [(0, .ref a0), (1, .int (i3 x1)), (2, .int (i3 x2)), (3, .int (i3 x3)), (4, .int (i3 x4))] [.int (i3 (x2 / 3 ^ (x4 : Int).toNat % 3)), .int (i3 (x1 / 3 ^ (x4 : Int).toNat % 3)), .int (i3 x3)] n h
  obtain ⟨r1, P⟩ := P
  obtain ⟨r2, P⟩ := P
  refine zk_icmp_ne (pc := 24) (tgt := 31) hc dX7_unlike_24 (by decide) r1 r2 (fun c => ?_) (fun c => ?_)
  · have P := P.1 c
    refine ok_iconst (pc := 31) hc (v := i3 1) dX7_unlike_31 (by decide) ?_
    refine zk_iadd (pc := 32) hc dX7_unlike_32 ?_
    refine ok_istore_n (pc := 33) hc (lv' := [(3, .int (i3 (x3 + 1))), (0, .ref a0), (1, .int (i3 x1)), (2, .int (i3 x2)), (4, .int (i3 x4))]) dX7_unlike_33 rfl (by decide) rfl ?_
    refine zk_iinc (pc := 34) hc (q := 4) (x := x4) (lv' := [(4, .int (i3 (x4 + 1))), (3, .int (i3 (x3 + 1))), (0, .ref a0), (1, .int (i3 x1)), (2, .int (i3 x2))]) dX7_unlike_34 rfl (by decide) rfl ?_
    refine ok_goto (pc := 37) (tgt := 5) hc dX7_unlike_37 (by decide) ?_
    refine ok_lv [2, 3, 4, 1, 0] rfl ?_
    exact P
  · have P := P.2 c
    refine ok_iconst (pc := 27) hc (v := i3 0) dX7_unlike_27 (by decide) ?_
    refine ok_goto (pc := 28) (tgt := 32) hc dX7_unlike_28 (by decide) ?_
    refine zk_iadd (pc := 32) hc dX7_unlike_32 ?_
    refine ok_istore_n (pc := 33) hc (lv' := [(3, .int (i3 (x3 + 0))), (0, .ref a0), (1, .int (i3 x1)), (2, .int (i3 x2)), (4, .int (i3 x4))]) dX7_unlike_33 rfl (by decide) rfl ?_
    refine zk_iinc (pc := 34) hc (q := 4) (x := x4) (lv' := [(4, .int (i3 (x4 + 1))), (3, .int (i3 (x3 + 0))), (0, .ref a0), (1, .int (i3 x1)), (2, .int (i3 x2))]) dX7_unlike_34 rfl (by decide) rfl ?_
    refine ok_goto (pc := 37) (tgt := 5) hc dX7_unlike_37 (by decide) ?_
    refine ok_lv [2, 3, 4, 1, 0] rfl ?_
    exact P

set_option maxHeartbeats 4000000 in
set_option maxRecDepth 100000 in
theorem sX7_unlike_40 {X : Xt} {n : Nat} {h : HP} {a0 : Nat} {x1 : Int} {x2 : Int} {x3 : Int} {x4 : Int} (hc : Cx X cX7_unlike RX7 5 1 23) {K : KT} (hr : CxR X (some .int) K) 
    (P : K (.inl (some (.int (i3 x3)))) n h) :
    Ok X 0 0 40 [(0, .ref a0), (1, .int (i3 x1)), (2, .int (i3 x2)), (3, .int (i3 x3)), (4, .int (i3 x4))] [] n h := by
  refine ok_iload_n (pc := 40) hc dX7_unlike_40 rfl 3 rfl ?_
  exact ok_iret (st := []) (pc := 41) hc hr dX7_unlike_41 P

def spec_X7_unlike (args : List Value) (n : Nat) (h : HP) (K : KT) : Prop := ∃ (m : Nat) (c d : Int), args = [.ref m, .int (i3 c), .int (i3 d)] ∧ ((0 ≤ c ∧ c ≤ 26) ∧ 0 ≤ d ∧ d ≤ 26) ∧ K (.inl (some (.int (i3 (chgN c d 3))))) n h
theorem sp_X7_unlike : Sp yX7_unlike cX7_unlike 5 (some .int) 1 23 0 0 spec_X7_unlike := by
  refine sp_intro (by decide) (by rintro args n h K ⟨m, c, d, rfl, -⟩; exact Nat.le_of_ble_eq_true rfl) ?_
  rintro X args n h K hc hr ⟨m, c, d, rfl, ⟨h1, h2⟩, kk⟩
  have L : ∀ (j a : Nat), a + j = 3 → Ok X 0 0 5 [(0, .ref m), (1, .int (i3 c)), (2, .int (i3 d)), (3, .int (i3 (chgN c d a))), (4, .int (i3 a))] [] n h := by
    intro j
    induction j with
    | zero =>
      intro a ha
      have : a = 3 := by omega
      subst this
      exact sX7_unlike_5 hc hr ⟨R3_s (by omega), fun _ => sX7_unlike_40 hc hr kk, fun z => absurd (by omega) z⟩
    | succ j ih =>
      intro a ha
      have e : (a : Int).toNat = a := by omega
      have s1 := st3 c a
      have s2 := st3 d a
      have i1 := ih (a + 1) (by omega)
      refine sX7_unlike_5 hc hr ⟨R3_s (by omega), fun z => absurd z (by omega), fun _ => ?_⟩
      refine sX7_unlike_11 hc hr ⟨⟨by omega, by omega, by omega⟩, ⟨by omega, by omega, by omega⟩, ?_⟩
      rw [e]
      refine ⟨R3_s (by omega), R3_s (by omega), fun z => ?_, fun z => ?_⟩
      · unfold chgN at i1
        rw [if_neg z] at i1
        exact i1
      · unfold chgN at i1
        rw [if_pos z] at i1
        exact i1
  exact sX7_unlike_0 hc hr (L 3 0 (by omega))
theorem chg_3 {c d : Int} {k : Nat} (hk : k ≤ 3) (hc : 0 ≤ c ∧ c < 3 ^ k) (hd : 0 ≤ d ∧ d < 3 ^ k) : chgN c d 3 = chgN c d k := by
  rcases (show k = 0 ∨ k = 1 ∨ k = 2 ∨ k = 3 by omega) with r | r | r | r <;> subst r <;> simp only [chgN] <;> simp only [Int.pow_zero, Int.pow_one] at * <;> grind
theorem chg_0 (c : Int) : ∀ k, chgN c c k = 0
  | 0 => rfl
  | k + 1 => by
    unfold chgN
    rw [chg_0 c k, if_pos rfl]
    rfl
theorem chg_p {c d : Int} {k : Nat} (hk : k ≤ 3) (hc : 0 ≤ c ∧ c < 3 ^ k) (hd : 0 ≤ d ∧ d < 3 ^ k) (h : c ≠ d) : 0 < chgN c d k := by
  rcases (show k = 0 ∨ k = 1 ∨ k = 2 ∨ k = 3 by omega) with r | r | r | r <;> subst r <;> simp only [chgN] <;> simp only [Int.pow_zero, Int.pow_one] at * <;> grind
/-- the reference's search -/
def refL (S : Stt) : Nat → Int → Int → Int
  | 0, _, found => found
  | f + 1, c, found => if (found = -1 ∨ chgN c S.2.2.1 (nA S.1) < chgN found S.2.2.1 (nA S.1)) ∧ (jud S c).1 = 0 then refL S f (c + 1) c else refL S f (c + 1) found
theorem refL_best (S : Stt) (h3 : nA S.1 ≤ 3) : ∀ (f : Nat) (c best few : Int), few = (if best = -1 then 4 else chgN best S.2.2.1 (nA S.1)) → 0 ≤ c → refL S f c best = bestL S f c best few
  | 0, _, _, _, _, _ => rfl
  | f + 1, c, best, few, he, h0 => by
    unfold refL bestL
    have hx := chgN_r c S.2.2.1 (nA S.1)
    by_cases hb : best = -1
    · rw [if_pos hb] at he
      rw [if_neg (show ¬ few ≤ chgN c S.2.2.1 (nA S.1) by omega)]
      by_cases hj : (jud S c).1 = 0
      · rw [if_pos ⟨Or.inl hb, hj⟩, if_pos hj]
        exact refL_best S h3 f (c + 1) c _ (by rw [if_neg (by omega)]) (by omega)
      · rw [if_neg (fun z => hj z.2), if_neg hj]
        exact refL_best S h3 f (c + 1) best few (by rw [if_pos hb]; exact he) (by omega)
    · rw [if_neg hb] at he
      by_cases hl : few ≤ chgN c S.2.2.1 (nA S.1)
      · rw [if_pos hl, if_neg (fun z => by rcases z.1 with w | w; exact hb w; omega)]
        exact refL_best S h3 f (c + 1) best few (by rw [if_neg hb]; exact he) (by omega)
      · rw [if_neg hl]
        by_cases hj : (jud S c).1 = 0
        · rw [if_pos ⟨Or.inr (by omega), hj⟩, if_pos hj]
          exact refL_best S h3 f (c + 1) c _ (by rw [if_neg (by omega)]) (by omega)
        · rw [if_neg (fun z => hj z.2), if_neg hj]
          exact refL_best S h3 f (c + 1) best few (by rw [if_neg hb]; exact he) (by omega)
theorem bestL_pres {S : Stt} (h3 : nA S.1 ≤ 3) (hp : 0 ≤ S.2.2.1 ∧ S.2.2.1 < 3 ^ nA S.1) (hj : (jud S S.2.2.1).1 = 0) : ∀ (f : Nat) (c best few : Int), 0 ≤ c → c + f = 3 ^ nA S.1 → (if S.2.2.1 < c then best = S.2.2.1 ∧ few = 0 else 0 < few) → bestL S f c best few = S.2.2.1
  | 0, c, best, few, h0, hc, h => by
    rw [if_pos (by omega)] at h
    exact h.1
  | f + 1, c, best, few, h0, hc, h => by
    unfold bestL
    have hx := chgN_r c S.2.2.1 (nA S.1)
    by_cases hlt : S.2.2.1 < c
    · rw [if_pos hlt] at h
      rw [if_pos (by omega)]
      exact bestL_pres h3 hp hj f (c + 1) best few (by omega) (by omega) (by rw [if_pos (by omega)]; exact h)
    · rw [if_neg hlt] at h
      by_cases he : c = S.2.2.1
      · subst he
        rw [chg_0, if_neg (by omega), if_pos hj]
        exact bestL_pres h3 hp hj f _ _ _ (by omega) (by omega) (by rw [if_pos (by omega)]; exact ⟨rfl, rfl⟩)
      · have hpos := chg_p h3 (c := c) (d := S.2.2.1) ⟨h0, by omega⟩ hp he
        split
        · exact bestL_pres h3 hp hj f _ _ _ (by omega) (by omega) (by rw [if_neg (by omega)]; exact h)
        · split
          · exact bestL_pres h3 hp hj f _ _ _ (by omega) (by omega) (by rw [if_neg (by omega)]; exact hpos)
          · exact bestL_pres h3 hp hj f _ _ _ (by omega) (by omega) (by rw [if_neg (by omega)]; exact h)
theorem pow_c (k : Nat) : ((3 ^ k : Nat) : Int) = (3 : Int) ^ k := by
  rw [Int.natCast_pow]
  rfl
/-- settling: the state behind it -/
theorem set_ref {S : Stt} (hG : GdS S) : setS S = (S.1, S.2.1, (if refL S (3 ^ nA S.1) 0 (-1) = -1 then S.2.2.1 else refL S (3 ^ nA S.1) 0 (-1)), if refL S (3 ^ nA S.1) 0 (-1) = -1 then 0 else 1) := by
  have h3 := hG.1.2.1
  have hp := hG.2.2.1
  have e := refL_best S h3 (3 ^ nA S.1) 0 (-1) 4 (by rw [if_pos rfl]) (by omega)
  unfold setS bestOf
  rw [← e]
  by_cases hj : (jud S S.2.2.1).1 = 0
  · rw [if_pos hj]
    have := bestL_pres h3 hp hj (3 ^ nA S.1) 0 (-1) 4 (by omega) (by rw [pow_c]; omega) (by rw [if_neg (by omega)]; decide)
    rw [← e] at this
    rw [this, if_neg (by omega), if_neg (by omega)]
  · rw [if_neg hj]
    split <;> rfl
theorem ZPs.up {Z : Nat → Int} {ps : List Part} (h : ZPs Z ps) {k : Nat} (hk : 48 < k) (v : Int) : ZPs (va_up Z k v) ps := by
  have hl := h.2.1
  refine ⟨(up_ne (by omega)).trans h.1, hl, fun i hi => ?_, h.2.2.2⟩
  rw [up_ne (by omega), up_ne (by omega), up_ne (by omega), up_ne (by omega)]
  exact h.2.2.1 i hi
theorem ref_27 {S : Stt} (hG : GdS S) : (3 : Int) ^ nA S.1 ≤ 27 ∧ 0 < (3 : Int) ^ nA S.1 := by
  have h := pow27 hG.1.2.1
  rw [← pow_c]
  have := Nat.pow_pos (n := nA S.1) (show 0 < 3 by decide)
  omega
set_option maxHeartbeats 4000000 in
set_option maxRecDepth 100000 in
theorem sX7_settle_0 {X : Xt} {n : Nat} {h : HP} {a0 : Nat} {fs1 : List Value} {q2 : Nat} {f3 : Nat → Int} {ps4 : List Part} (hc : Cx X cX7_settle RX7 5 10 232) {K : KT} (hr : CxR X none K) (e1 : At h n a0 (.inl (7, fs1))) (z1 : fs1.length = 24) (v1_1 : fs1[1]? = some (.ref q2)) (e3 : At h n q2 (ai 52 f3)) (hP4 : ZPs f3 ps4)
    (P : Ok X 0 0 9 [(0, .ref a0), (1, .int (i3 (-1))), (2, .int (i3 ((3 : Int) ^ nA ps4))), (3, .int (i3 0))] [] n h) :
    Ok X 0 0 0 [(0, .ref a0)] [] n h := by
  refine ok_iconst (pc := 0) hc (v := i3 (-1)) dX7_settle_0 (by decide) ?_
  refine ok_istore_n (pc := 1) hc (lv' := [(1, .int (i3 (-1))), (0, .ref a0)]) dX7_settle_1 rfl (by decide) rfl ?_
  refine ok_aload_n (pc := 2) hc dX7_settle_2 rfl 1 rfl ?_
  refine ok_callV (pc := 3) (a := a0) (cb := 0) (sb := 0) (st := []) hc [] cv_X7_138 sp_X7_cases (by decide) dX7_settle_3 rfl e1.1 e1.2 rfl rfl rfl (Nat.le_of_ble_eq_true rfl) (⟨_, _, _, rfl, ⟨_, _, ⟨e1.1, e1.2⟩, z1, v1_1, ⟨e3.1, e3.2⟩⟩, hP4, rfl, ?_⟩)
  show Ok X 0 0 (3 + 3) [(1, .int (i3 (-1))), (0, .ref a0)] [.int (i3 ((3 : Int) ^ nA ps4))] n h
  refine ok_istore_n (pc := 6) hc (lv' := [(2, .int (i3 ((3 : Int) ^ nA ps4))), (1, .int (i3 (-1))), (0, .ref a0)]) dX7_settle_6 rfl (by decide) rfl ?_
  refine ok_iconst (pc := 7) hc (v := i3 0) dX7_settle_7 (by decide) ?_
  refine ok_istore_n (pc := 8) hc (lv' := [(3, .int (i3 0)), (2, .int (i3 ((3 : Int) ^ nA ps4))), (1, .int (i3 (-1))), (0, .ref a0)]) dX7_settle_8 rfl (by decide) rfl ?_
  refine ok_lv [3, 2, 1, 0] rfl ?_
  exact P

set_option maxHeartbeats 4000000 in
set_option maxRecDepth 100000 in
theorem sX7_settle_9 {X : Xt} {n : Nat} {h : HP} {a0 : Nat} {x1 : Int} {x2 : Int} {x3 : Int} (hc : Cx X cX7_settle RX7 5 10 232) {K : KT} (hr : CxR X none K) 
    (P : (R3 x3) ∧ (R3 x2) ∧ (x2 ≤ x3 → Ok X 0 0 78 [(0, .ref a0), (1, .int (i3 x1)), (2, .int (i3 x2)), (3, .int (i3 x3))] [] n h) ∧ (¬ x2 ≤ x3 → Ok X 0 0 14 [(0, .ref a0), (1, .int (i3 x1)), (2, .int (i3 x2)), (3, .int (i3 x3))] [] n h)) :
    Ok X 0 0 9 [(0, .ref a0), (1, .int (i3 x1)), (2, .int (i3 x2)), (3, .int (i3 x3))] [] n h := by
  refine ok_iload_n (pc := 9) hc dX7_settle_9 rfl 3 rfl ?_
  refine ok_iload_n (pc := 10) hc dX7_settle_10 rfl 2 rfl ?_
  obtain ⟨r1, P⟩ := P
  obtain ⟨r2, P⟩ := P
  refine zk_icmp_ge (pc := 11) (tgt := 78) hc dX7_settle_11 (by decide) r1 r2 (fun c => ?_) (fun c => ?_)
  · have P := P.1 c
    exact P
  · have P := P.2 c
    exact P

set_option maxHeartbeats 4000000 in
set_option maxRecDepth 100000 in
theorem sX7_settle_14 {X : Xt} {n : Nat} {h : HP} {a0 : Nat} {x1 : Int} {x2 : Int} {x3 : Int} {fs2 : List Value} {q3 : Nat} {len4 : Nat} {f4 : Nat → Int} (hc : Cx X cX7_settle RX7 5 10 232) {K : KT} (hr : CxR X none K) (e2 : At h n a0 (.inl (7, fs2))) (z2 : fs2.length = 24) (v2_1 : fs2[1]? = some (.ref q3)) (e4 : At h n q3 (ai len4 f4))
    (P : (R3 x1) ∧ (x1 = (-1) → Ok X 0 0 58 [(0, .ref a0), (1, .int (i3 x1)), (2, .int (i3 x2)), (3, .int (i3 x3)), (4, .int (i3 1))] [] n h) ∧ (¬ x1 = (-1) → (Ix 50 len4) ∧ ((0 ≤ x3 ∧ x3 ≤ 26) ∧ 0 ≤ (f4 (50 : Int).toNat) ∧ (f4 (50 : Int).toNat) ≤ 26) ∧ (Ix 50 len4) ∧ ((0 ≤ x1 ∧ x1 ≤ 26) ∧ 0 ≤ (f4 (50 : Int).toNat) ∧ (f4 (50 : Int).toNat) ≤ 26) ∧ (R3 (chgN x3 (f4 (50 : Int).toNat) 3)) ∧ (R3 (chgN x1 (f4 (50 : Int).toNat) 3)) ∧ ((chgN x1 (f4 (50 : Int).toNat) 3) ≤ (chgN x3 (f4 (50 : Int).toNat) 3) → Ok X 0 0 9 [(0, .ref a0), (1, .int (i3 x1)), (2, .int (i3 x2)), (3, .int (i3 (x3 + 1)))] [] n h) ∧ (¬ (chgN x1 (f4 (50 : Int).toNat) 3) ≤ (chgN x3 (f4 (50 : Int).toNat) 3) → Ok X 0 0 58 [(0, .ref a0), (1, .int (i3 x1)), (2, .int (i3 x2)), (3, .int (i3 x3)), (4, .int (i3 1))] [] n h))) :
    Ok X 0 0 14 [(0, .ref a0), (1, .int (i3 x1)), (2, .int (i3 x2)), (3, .int (i3 x3))] [] n h := by
  refine ok_iload_n (pc := 14) hc dX7_settle_14 rfl 1 rfl ?_
  refine ok_iconst (pc := 15) hc (v := i3 (-1)) dX7_settle_15 (by decide) ?_
  obtain ⟨r1, P⟩ := P
  refine zk_icmp_eq (pc := 16) (tgt := 46) hc dX7_settle_16 (by decide) r1 ⟨by decide, by decide⟩ (fun c => ?_) (fun c => ?_)
  · have P := P.1 c
    refine ok_iconst (pc := 46) hc (v := i3 1) dX7_settle_46 (by decide) ?_
    refine ok_goto (pc := 47) (tgt := 51) hc dX7_settle_47 (by decide) ?_
    refine ok_istore (pc := 51) hc (lv' := [(4, .int (i3 1)), (0, .ref a0), (1, .int (i3 x1)), (2, .int (i3 x2)), (3, .int (i3 x3))]) dX7_settle_51 (by decide) rfl ?_
    refine ok_iload (pc := 53) hc dX7_settle_53 0 rfl ?_
    refine zk_if_eq (pc := 55) (tgt := 70) hc dX7_settle_55 (by decide) ⟨by decide, by decide⟩ (fun c => absurd c (by decide)) (fun _ => ?_)
    refine ok_lv [1, 2, 3, 4, 0] rfl ?_
    exact P
  · have P := P.2 c
    refine ok_aload_n (pc := 19) hc dX7_settle_19 rfl 0 rfl ?_
    refine ok_iload_n (pc := 20) hc dX7_settle_20 rfl 3 rfl ?_
    refine ok_aload_n (pc := 21) hc dX7_settle_21 rfl 0 rfl ?_
    refine ok_get (pc := 22) hc fl_X7_7 dX7_settle_22 e2.1 e2.2 v2_1 ?_
    refine ok_bipush (pc := 25) hc (v := i3 50) dX7_settle_25 (by decide) ?_
    obtain ⟨r, P⟩ := P
    refine zk_iald (pc := 27) hc dX7_settle_27 e4.1 e4.2 r ?_
    obtain ⟨r0, P⟩ := P
    refine ok_callV (pc := 28) (a := a0) (cb := 0) (sb := 0) (st := []) hc [.int (i3 x3), .int (i3 (f4 (50 : Int).toNat))] cv_X7_141 sp_X7_unlike (by decide) dX7_settle_28 rfl e2.1 e2.2 rfl rfl rfl (Nat.le_of_ble_eq_true rfl) (⟨_, _, _, rfl, r0, rfl, ?_⟩)
    show Ok X 0 0 (28 + 3) [(0, .ref a0), (1, .int (i3 x1)), (2, .int (i3 x2)), (3, .int (i3 x3))] [.int (i3 (chgN x3 (f4 (50 : Int).toNat) 3))] n h
    refine ok_aload_n (pc := 31) hc dX7_settle_31 rfl 0 rfl ?_
    refine ok_iload_n (pc := 32) hc dX7_settle_32 rfl 1 rfl ?_
    refine ok_aload_n (pc := 33) hc dX7_settle_33 rfl 0 rfl ?_
    refine ok_get (pc := 34) hc fl_X7_7 dX7_settle_34 e2.1 e2.2 v2_1 ?_
    refine ok_bipush (pc := 37) hc (v := i3 50) dX7_settle_37 (by decide) ?_
    obtain ⟨r, P⟩ := P
    refine zk_iald (pc := 39) hc dX7_settle_39 e4.1 e4.2 r ?_
    obtain ⟨r0, P⟩ := P
    refine ok_callV (pc := 40) (a := a0) (cb := 0) (sb := 0) (st := [.int (i3 (chgN x3 (f4 (50 : Int).toNat) 3))]) hc [.int (i3 x1), .int (i3 (f4 (50 : Int).toNat))] cv_X7_141 sp_X7_unlike (by decide) dX7_settle_40 rfl e2.1 e2.2 rfl rfl rfl (Nat.le_of_ble_eq_true rfl) (⟨_, _, _, rfl, r0, rfl, ?_⟩)
    show Ok X 0 0 (40 + 3) [(0, .ref a0), (1, .int (i3 x1)), (2, .int (i3 x2)), (3, .int (i3 x3))] [.int (i3 (chgN x1 (f4 (50 : Int).toNat) 3)), .int (i3 (chgN x3 (f4 (50 : Int).toNat) 3))] n h
    obtain ⟨r5, P⟩ := P
    obtain ⟨r6, P⟩ := P
    refine zk_icmp_ge (pc := 43) (tgt := 50) hc dX7_settle_43 (by decide) r5 r6 (fun c => ?_) (fun c => ?_)
    · have P := P.1 c
      refine ok_iconst (pc := 50) hc (v := i3 0) dX7_settle_50 (by decide) ?_
      refine ok_istore (pc := 51) hc (lv' := [(4, .int (i3 0)), (0, .ref a0), (1, .int (i3 x1)), (2, .int (i3 x2)), (3, .int (i3 x3))]) dX7_settle_51 (by decide) rfl ?_
      refine ok_iload (pc := 53) hc dX7_settle_53 0 rfl ?_
      refine zk_if_eq (pc := 55) (tgt := 70) hc dX7_settle_55 (by decide) ⟨by decide, by decide⟩ (fun _ => ?_) (fun c => absurd c (by decide))
      refine ok_iload_n (pc := 70) hc dX7_settle_70 rfl 2 rfl ?_
      refine ok_istore_n (pc := 71) hc (lv' := [(1, .int (i3 x1)), (4, .int (i3 0)), (0, .ref a0), (2, .int (i3 x2)), (3, .int (i3 x3))]) dX7_settle_71 rfl (by decide) rfl ?_
      refine zk_iinc (pc := 72) hc (q := 4) (x := x3) (lv' := [(3, .int (i3 (x3 + 1))), (1, .int (i3 x1)), (4, .int (i3 0)), (0, .ref a0), (2, .int (i3 x2))]) dX7_settle_72 rfl (by decide) rfl ?_
      refine ok_goto (pc := 75) (tgt := 9) hc dX7_settle_75 (by decide) ?_
      refine ok_lv [3, 1, 4, 0] rfl ?_
      exact P
    · have P := P.2 c
      refine ok_iconst (pc := 46) hc (v := i3 1) dX7_settle_46 (by decide) ?_
      refine ok_goto (pc := 47) (tgt := 51) hc dX7_settle_47 (by decide) ?_
      refine ok_istore (pc := 51) hc (lv' := [(4, .int (i3 1)), (0, .ref a0), (1, .int (i3 x1)), (2, .int (i3 x2)), (3, .int (i3 x3))]) dX7_settle_51 (by decide) rfl ?_
      refine ok_iload (pc := 53) hc dX7_settle_53 0 rfl ?_
      refine zk_if_eq (pc := 55) (tgt := 70) hc dX7_settle_55 (by decide) ⟨by decide, by decide⟩ (fun c => absurd c (by decide)) (fun _ => ?_)
      refine ok_lv [1, 2, 3, 4, 0] rfl ?_
      exact P

set_option maxHeartbeats 4000000 in
set_option maxRecDepth 100000 in
theorem sX7_settle_58 {X : Xt} {n : Nat} {h : HP} {a0 : Nat} {x1 : Int} {x2 : Int} {x3 : Int} {x4 : Int} {fs1 : List Value} (hc : Cx X cX7_settle RX7 5 10 232) {K : KT} (hr : CxR X none K) (e1 : At h n a0 (.inl (7, fs1))) (z1 : fs1.length = 24)
    (P : spec_X7_reason [.ref a0, .int (i3 x3)] n h (kc X 0 0 60 [(0, .ref a0), (1, .int (i3 x1)), (2, .int (i3 x2)), (3, .int (i3 x3)), (4, .int (i3 x4))] [] n)) :
    Ok X 0 0 58 [(0, .ref a0), (1, .int (i3 x1)), (2, .int (i3 x2)), (3, .int (i3 x3)), (4, .int (i3 x4))] [] n h := by
  refine ok_aload_n (pc := 58) hc dX7_settle_58 rfl 0 rfl ?_
  refine ok_iload_n (pc := 59) hc dX7_settle_59 rfl 3 rfl ?_
  exact ok_callV (pc := 60) (a := a0) (cb := 0) (sb := 0) (st := []) hc [.int (i3 x3)] cv_X7_144 sp_X7_reason (by decide) dX7_settle_60 rfl e1.1 e1.2 rfl rfl rfl (Nat.le_of_ble_eq_true rfl) P

set_option maxHeartbeats 4000000 in
set_option maxRecDepth 100000 in
theorem sX7_settle_63 {X : Xt} {n : Nat} {h : HP} {a0 : Nat} {x1 : Int} {x2 : Int} {x3 : Int} {x4 : Int} {t0 : Int} (hc : Cx X cX7_settle RX7 5 10 232) {K : KT} (hr : CxR X none K) 
    (P : (R3 t0) ∧ (¬ t0 = 0 → Ok X 0 0 9 [(0, .ref a0), (1, .int (i3 x1)), (2, .int (i3 x2)), (3, .int (i3 (x3 + 1)))] [] n h) ∧ (t0 = 0 → Ok X 0 0 9 [(0, .ref a0), (1, .int (i3 x3)), (2, .int (i3 x2)), (3, .int (i3 (x3 + 1)))] [] n h)) :
    Ok X 0 0 63 [(0, .ref a0), (1, .int (i3 x1)), (2, .int (i3 x2)), (3, .int (i3 x3)), (4, .int (i3 x4))] [.int (i3 t0)] n h := by
  obtain ⟨r1, P⟩ := P
  refine zk_if_ne (pc := 63) (tgt := 70) hc dX7_settle_63 (by decide) r1 (fun c => ?_) (fun c => ?_)
  · have P := P.1 c
    refine ok_iload_n (pc := 70) hc dX7_settle_70 rfl 1 rfl ?_
    refine ok_istore_n (pc := 71) hc (lv' := [(1, .int (i3 x1)), (0, .ref a0), (2, .int (i3 x2)), (3, .int (i3 x3)), (4, .int (i3 x4))]) dX7_settle_71 rfl (by decide) rfl ?_
    refine zk_iinc (pc := 72) hc (q := 3) (x := x3) (lv' := [(3, .int (i3 (x3 + 1))), (1, .int (i3 x1)), (0, .ref a0), (2, .int (i3 x2)), (4, .int (i3 x4))]) dX7_settle_72 rfl (by decide) rfl ?_
    refine ok_goto (pc := 75) (tgt := 9) hc dX7_settle_75 (by decide) ?_
    refine ok_lv [2, 1, 3, 0] rfl ?_
    exact P
  · have P := P.2 c
    refine ok_iload_n (pc := 66) hc dX7_settle_66 rfl 3 rfl ?_
    refine ok_goto (pc := 67) (tgt := 71) hc dX7_settle_67 (by decide) ?_
    refine ok_istore_n (pc := 71) hc (lv' := [(1, .int (i3 x3)), (0, .ref a0), (2, .int (i3 x2)), (3, .int (i3 x3)), (4, .int (i3 x4))]) dX7_settle_71 rfl (by decide) rfl ?_
    refine zk_iinc (pc := 72) hc (q := 3) (x := x3) (lv' := [(3, .int (i3 (x3 + 1))), (1, .int (i3 x3)), (0, .ref a0), (2, .int (i3 x2)), (4, .int (i3 x4))]) dX7_settle_72 rfl (by decide) rfl ?_
    refine ok_goto (pc := 75) (tgt := 9) hc dX7_settle_75 (by decide) ?_
    refine ok_lv [2, 1, 3, 0] rfl ?_
    exact P

set_option maxHeartbeats 4000000 in
set_option maxRecDepth 100000 in
theorem sX7_settle_78 {X : Xt} {n : Nat} {h : HP} {a0 : Nat} {x1 : Int} {x2 : Int} {x3 : Int} {fs1 : List Value} {q2 : Nat} {len4 : Nat} {f4 : Nat → Int} (hc : Cx X cX7_settle RX7 5 10 232) {K : KT} (hr : CxR X none K) (e1 : At h n a0 (.inl (7, fs1))) (z1 : fs1.length = 24) (v1_1 : fs1[1]? = some (.ref q2)) (e4 : At h n q2 (ai len4 f4))
    (P : (R3 x1) ∧ (¬ x1 = (-1) → (Ix 51 len4) ∧ (R3 x1) ∧ (¬ x1 = (-1) → (Ix 50 len4) ∧ K (.inl none) n (va_up (va_up h q2 (ai len4 (va_up f4 (51 : Int).toNat 1))) q2 (ai len4 (va_up (va_up f4 (51 : Int).toNat 1) (50 : Int).toNat x1)))) ∧ (x1 = (-1) → (Ix 50 len4) ∧ (Ix 50 len4) ∧ K (.inl none) n (va_up (va_up h q2 (ai len4 (va_up f4 (51 : Int).toNat 1))) q2 (ai len4 (va_up (va_up f4 (51 : Int).toNat 1) (50 : Int).toNat ((va_up f4 (51 : Int).toNat 1) (50 : Int).toNat)))))) ∧ (x1 = (-1) → (Ix 51 len4) ∧ (R3 x1) ∧ (¬ x1 = (-1) → (Ix 50 len4) ∧ K (.inl none) n (va_up (va_up h q2 (ai len4 (va_up f4 (51 : Int).toNat 0))) q2 (ai len4 (va_up (va_up f4 (51 : Int).toNat 0) (50 : Int).toNat x1)))) ∧ (x1 = (-1) → (Ix 50 len4) ∧ (Ix 50 len4) ∧ K (.inl none) n (va_up (va_up h q2 (ai len4 (va_up f4 (51 : Int).toNat 0))) q2 (ai len4 (va_up (va_up f4 (51 : Int).toNat 0) (50 : Int).toNat ((va_up f4 (51 : Int).toNat 0) (50 : Int).toNat))))))) :
    Ok X 0 0 78 [(0, .ref a0), (1, .int (i3 x1)), (2, .int (i3 x2)), (3, .int (i3 x3))] [] n h := by
  refine ok_aload_n (pc := 78) hc dX7_settle_78 rfl 0 rfl ?_
  refine ok_get (pc := 79) hc fl_X7_7 dX7_settle_79 e1.1 e1.2 v1_1 ?_
  refine ok_bipush (pc := 82) hc (v := i3 51) dX7_settle_82 (by decide) ?_
  refine ok_iload_n (pc := 84) hc dX7_settle_84 rfl 1 rfl ?_
  refine ok_iconst (pc := 85) hc (v := i3 (-1)) dX7_settle_85 (by decide) ?_
  obtain ⟨r3, P⟩ := P
  refine zk_icmp_ne (pc := 86) (tgt := 93) hc dX7_settle_86 (by decide) r3 ⟨by decide, by decide⟩ (fun c => ?_) (fun c => ?_)
  · have P := P.1 c
    refine ok_iconst (pc := 93) hc (v := i3 1) dX7_settle_93 (by decide) ?_
    obtain ⟨r, P⟩ := P
    refine zk_iast (pc := 94) hc dX7_settle_94 e4.1 e4.2 r ?_
    refine ok_aload_n (pc := 95) hc dX7_settle_95 rfl 0 rfl ?_
    refine ok_get (pc := 96) hc fl_X7_7 dX7_settle_96 e1.1 ((up_ne (ne_oa e1.2 e4.2)).trans e1.2) v1_1 ?_
    refine ok_bipush (pc := 99) hc (v := i3 50) dX7_settle_99 (by decide) ?_
    refine ok_iload_n (pc := 101) hc dX7_settle_101 rfl 1 rfl ?_
    refine ok_iconst (pc := 102) hc (v := i3 (-1)) dX7_settle_102 (by decide) ?_
    obtain ⟨r5, P⟩ := P
    refine zk_icmp_ne (pc := 103) (tgt := 116) hc dX7_settle_103 (by decide) r5 ⟨by decide, by decide⟩ (fun c => ?_) (fun c => ?_)
    · have P := P.1 c
      refine ok_iload_n (pc := 116) hc dX7_settle_116 rfl 1 rfl ?_
      obtain ⟨r, P⟩ := P
      refine zk_iast (pc := 117) hc dX7_settle_117 e4.1 up_self r ?_
      exact ok_vret (st := []) (pc := 118) hc hr dX7_settle_118 P
    · have P := P.2 c
      refine ok_aload_n (pc := 106) hc dX7_settle_106 rfl 0 rfl ?_
      refine ok_get (pc := 107) hc fl_X7_7 dX7_settle_107 e1.1 ((up_ne (ne_oa e1.2 e4.2)).trans e1.2) v1_1 ?_
      refine ok_bipush (pc := 110) hc (v := i3 50) dX7_settle_110 (by decide) ?_
      obtain ⟨r, P⟩ := P
      refine zk_iald (pc := 112) hc dX7_settle_112 e4.1 up_self r ?_
      refine ok_goto (pc := 113) (tgt := 117) hc dX7_settle_113 (by decide) ?_
      obtain ⟨r, P⟩ := P
      refine zk_iast (pc := 117) hc dX7_settle_117 e4.1 up_self r ?_
      exact ok_vret (st := []) (pc := 118) hc hr dX7_settle_118 P
  · have P := P.2 c
    refine ok_iconst (pc := 89) hc (v := i3 0) dX7_settle_89 (by decide) ?_
    refine ok_goto (pc := 90) (tgt := 94) hc dX7_settle_90 (by decide) ?_
    obtain ⟨r, P⟩ := P
    refine zk_iast (pc := 94) hc dX7_settle_94 e4.1 e4.2 r ?_
    refine ok_aload_n (pc := 95) hc dX7_settle_95 rfl 0 rfl ?_
    refine ok_get (pc := 96) hc fl_X7_7 dX7_settle_96 e1.1 ((up_ne (ne_oa e1.2 e4.2)).trans e1.2) v1_1 ?_
    refine ok_bipush (pc := 99) hc (v := i3 50) dX7_settle_99 (by decide) ?_
    refine ok_iload_n (pc := 101) hc dX7_settle_101 rfl 1 rfl ?_
    refine ok_iconst (pc := 102) hc (v := i3 (-1)) dX7_settle_102 (by decide) ?_
    obtain ⟨r6, P⟩ := P
    refine zk_icmp_ne (pc := 103) (tgt := 116) hc dX7_settle_103 (by decide) r6 ⟨by decide, by decide⟩ (fun c => ?_) (fun c => ?_)
    · have P := P.1 c
      refine ok_iload_n (pc := 116) hc dX7_settle_116 rfl 1 rfl ?_
      obtain ⟨r, P⟩ := P
      refine zk_iast (pc := 117) hc dX7_settle_117 e4.1 up_self r ?_
      exact ok_vret (st := []) (pc := 118) hc hr dX7_settle_118 P
    · have P := P.2 c
      refine ok_aload_n (pc := 106) hc dX7_settle_106 rfl 0 rfl ?_
      refine ok_get (pc := 107) hc fl_X7_7 dX7_settle_107 e1.1 ((up_ne (ne_oa e1.2 e4.2)).trans e1.2) v1_1 ?_
      refine ok_bipush (pc := 110) hc (v := i3 50) dX7_settle_110 (by decide) ?_
      obtain ⟨r, P⟩ := P
      refine zk_iald (pc := 112) hc dX7_settle_112 e4.1 up_self r ?_
      refine ok_goto (pc := 113) (tgt := 117) hc dX7_settle_113 (by decide) ?_
      obtain ⟨r, P⟩ := P
      refine zk_iast (pc := 117) hc dX7_settle_117 e4.1 up_self r ?_
      exact ok_vret (st := []) (pc := 118) hc hr dX7_settle_118 P

def KpZ (F F' : Nat → Nat → Int) : Prop := ∀ j, (2 ≤ j ∧ j ≤ 5) ∨ j = 10 → F' j = F j
def spec_X7_settle (args : List Value) (n : Nat) (h : HP) (K : KT) : Prop := ∃ (I : Nat → Int) (F : Nat → Nat → Int) (S : Stt), args = [.ref 128] ∧ MAt h n I F ∧ ZSt (F 1) S ∧ GdS S ∧ ∀ (h' : HP) (I' : Nat → Int) (F' : Nat → Nat → Int), MAt h' n I' F' → ZSt (F' 1) (setS S) → KpR I I' → KpZ F F' → Fr h h' 128 138 → K (.inl none) n h'
theorem sp_X7_settle : Sp yX7_settle cX7_settle 5 none 10 232 0 0 spec_X7_settle := by
  refine sp_intro (by decide) (by rintro args n h K ⟨I, F, S, rfl, -⟩; exact Nat.le_of_ble_eq_true rfl) ?_
  rintro X args n h K hc hr ⟨I, F, S, rfl, hM0, hZ, hG, kk⟩
  have hP := hZ.1
  have h3 := hG.1.2.1
  have h27 := ref_27 hG
  have hp := hG.2.2.1
  have hz50 := hZ.2.2.1
  have L : ∀ (f c : Nat) (found : Int) (hh : HP) (I1 : Nat → Int) (F1 : Nat → Nat → Int), (c : Int) + f = 3 ^ nA S.1 → refL S (3 ^ nA S.1) 0 (-1) = refL S f c found → (found = -1 ∨ (0 ≤ found ∧ found < 3 ^ nA S.1)) → MAt hh n I1 F1 → KpR I I1 → KpF F F1 → Fr h hh 128 138 → Ok X 0 0 9 [(0, .ref 128), (1, .int (i3 found)), (2, .int (i3 ((3 : Int) ^ nA S.1))), (3, .int (i3 c))] [] n hh := by
    intro f
    induction f with
    | zero =>
      intro c found hh I1 F1 hcf hre hfd hM hI hF hf
      have h11 : F1 1 = F 1 := hF 1 (by omega)
      have hre' : refL S (3 ^ nA S.1) 0 (-1) = found := hre
      have fin : ∀ s v : Int, s = (if found = -1 then 0 else 1) → v = (if found = -1 then S.2.2.1 else found) → K (.inl none) n (va_up (va_up hh 129 (ai 52 (va_up (F1 1) 51 s))) 129 (ai 52 (va_up (va_up (F1 1) 51 s) 50 v))) := by
        intro s v hs hv
        have hM2 : MAt (va_up (va_up hh 129 (ai 52 (va_up (F1 1) 51 s))) 129 (ai 52 (va_up (va_up (F1 1) 51 s) 50 v))) n I1 (va_up F1 1 (va_up (va_up (F1 1) 51 s) 50 v)) := (hM.ua (j := 1) (by omega) (va_up (F1 1) 51 s)).uu (j := 1) (by omega) _
        refine kk _ I1 _ hM2 ?_ hI (fun j hj => by rw [up_ne (by omega), hF j (by omega)]) ((hf.up (by omega)).up (by omega))
        rw [up_self, set_ref hG, hre', ← hs, ← hv, h11]
        exact ⟨(hP.up (by decide) _).up (by decide) _, ((up_ne (by decide)).trans (up_ne (by decide))).trans hZ.2.1, up_self, (up_ne (by decide)).trans up_self⟩
      refine sX7_settle_9 hc hr ⟨R3_s (by omega), R3_s (by omega), fun _ => sX7_settle_78 hc hr hM.o rfl rfl hM.z ⟨R3_s (by omega), fun z => ⟨⟨by decide, by decide, by decide⟩, R3_s (by omega), fun _ => ⟨⟨by decide, by decide, by decide⟩, fin 1 found (by rw [if_neg z]) (by rw [if_neg z])⟩, fun w => absurd w z⟩, fun z => ⟨⟨by decide, by decide, by decide⟩, R3_s (by omega), fun w => absurd z w, fun _ => ⟨⟨by decide, by decide, by decide⟩, ⟨by decide, by decide, by decide⟩, fin 0 _ (by rw [if_pos z]) ?_⟩⟩⟩, fun z => absurd (by omega) z⟩
      rw [if_pos z, ← hz50, ← h11]
      rfl
    | succ f ih =>
      intro c found hh I1 F1 hcf hre hfd hM hI hF hf
      have h11 : F1 1 = F 1 := hF 1 (by omega)
      have e50 : F1 1 (50 : Int).toNat = S.2.2.1 := by rw [h11]; exact hz50
      have hx := chg_3 h3 (c := (c : Int)) (d := S.2.2.1) ⟨by omega, by omega⟩ hp
      have hre2 : refL S (3 ^ nA S.1) 0 (-1) = if (found = -1 ∨ chgN c S.2.2.1 (nA S.1) < chgN found S.2.2.1 (nA S.1)) ∧ (jud S c).1 = 0 then refL S f ((c + 1 : Nat) : Int) c else refL S f ((c + 1 : Nat) : Int) found := hre
      have no : ¬ ((found = -1 ∨ chgN c S.2.2.1 (nA S.1) < chgN found S.2.2.1 (nA S.1)) ∧ (jud S c).1 = 0) → ∀ (h2 : HP) (I2 : Nat → Int) (F2 : Nat → Nat → Int), MAt h2 n I2 F2 → KpR I I2 → KpF F F2 → Fr h h2 128 138 → Ok X 0 0 9 [(0, .ref 128), (1, .int (i3 found)), (2, .int (i3 ((3 : Int) ^ nA S.1))), (3, .int (i3 ((c : Int) + 1)))] [] n h2 := by
        intro z h2 I2 F2 q1 q2 q3 q4
        rw [if_neg z] at hre2
        exact ih (c + 1) found h2 I2 F2 (by omega) hre2 hfd q1 q2 q3 q4
      have h58 : (found = -1 ∨ chgN c S.2.2.1 (nA S.1) < chgN found S.2.2.1 (nA S.1)) → Ok X 0 0 58 [(0, .ref 128), (1, .int (i3 found)), (2, .int (i3 ((3 : Int) ^ nA S.1))), (3, .int (i3 c)), (4, .int (i3 1))] [] n hh := by
        intro hb
        refine sX7_settle_58 hc hr hM.o rfl ⟨I1, F1, S, c, rfl, hM, by rw [h11]; exact hZ, hG, by omega, fun h2 I2 F2 hM2 hI2 _ hF2 f2 => ⟨rfl, ?_⟩⟩
        have kI : KpR I I2 := fun k a b c d => (hI2 k a b c d).trans (hI k a b c d)
        have kF : KpF F F2 := KpF.tr hF hF2
        have hjr : R3 (jud S c).1 := R3_s (by have := jud_r (S := S) (c := c); omega)
        refine sX7_settle_63 hc hr ⟨hjr, fun z => no (fun w => z w.2) h2 I2 F2 hM2 kI kF (hf.tr f2), fun z => ?_⟩
        rw [if_pos ⟨hb, z⟩] at hre2
        exact ih (c + 1) c h2 I2 F2 (by omega) hre2 (Or.inr ⟨by omega, by omega⟩) hM2 kI kF (hf.tr f2)
      refine sX7_settle_9 hc hr ⟨R3_s (by omega), R3_s (by omega), fun z => absurd z (by omega), fun _ => ?_⟩
      refine sX7_settle_14 hc hr hM.o rfl rfl hM.z ⟨R3_s (by omega), fun z => h58 (Or.inl z), fun z => ?_⟩
      rw [e50]
      have hf2 : 0 ≤ found ∧ found < 3 ^ nA S.1 := hfd.resolve_left z
      have hy := chg_3 h3 hf2 hp
      have r1 := chgN_r c S.2.2.1 3
      have r2 := chgN_r found S.2.2.1 3
      refine ⟨⟨by decide, by decide, by decide⟩, ⟨by omega, by omega⟩, ⟨by decide, by decide, by decide⟩, ⟨by omega, by omega⟩, R3_s (by omega), R3_s (by omega), fun w => ?_, fun w => h58 (Or.inr (by omega))⟩
      exact no (fun v => by rcases v.1 with u | u; exact z u; omega) hh I1 F1 hM hI hF hf
  refine sX7_settle_0 hc hr hM0.o rfl rfl hM0.z hP (L (3 ^ nA S.1) 0 (-1) h I F ?_ rfl (Or.inl rfl) hM0 (fun _ _ _ _ _ => rfl) KpF.rf Fr.rf)
  rw [pow_c]
  exact Int.zero_add _
