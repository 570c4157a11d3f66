/-! part 66: the reference: sourceAt, isFree, partOf -/
def pAt (ps : List Part) (x : Int) : Part := ps.getD x.toNat (0, 0, 0, 0)
theorem pAt_some {ps : List Part} {x : Int} (h : 0 ≤ x ∧ x < ps.length) : ps[x.toNat]? = some (pAt ps x) := by
  have : x.toNat < ps.length := by omega
  unfold pAt
  rw [List.getD_eq_getElem?_getD, List.getElem?_eq_getElem this]
  rfl
theorem pAt_of {ps : List Part} {i : Nat} {p : Part} (h : ps[i]? = some p) : pAt ps i = p := by
  unfold pAt
  rw [List.getD_eq_getElem?_getD, show (i : Int).toNat = i by omega, h]
  rfl
theorem isZ_0 {Z : Nat → Int} {x k : Int} : isZ Z x k = 0 ↔ ¬ Z (4 * x).toNat = k := by
  unfold isZ
  split <;> simp_all
theorem isZ_1 {Z : Nat → Int} {x k : Int} : ¬ isZ Z x k = 0 ↔ Z (4 * x).toNat = k := by
  unfold isZ
  split <;> simp_all
theorem R3_isZ {Z : Nat → Int} {x k : Int} : R3 (isZ Z x k) := by
  unfold isZ
  split <;> exact ⟨by decide, by decide⟩
theorem bz_0 {b : Bool} : bz b = 0 ↔ b = false := bz0
theorem bz_1 {b : Bool} : ¬ bz b = 0 ↔ b = true := by cases b <;> decide
theorem R3_bz {b : Bool} : R3 (bz b) := bz01 b
theorem ZPs.of {Z : Nat → Int} {ps : List Part} (h : ZPs Z ps) {i : Nat} {p : Part} (hp : ps[i]? = some p) : Z (4 * i) = p.1 ∧ Z (4 * i + 1) = p.2.1 ∧ Z (4 * i + 2) = p.2.2.1 ∧ Z (4 * i + 3) = p.2.2.2 := by
  have hi := (List.getElem?_eq_some_iff.mp hp).1
  have hpe := Option.some.inj ((h.2.2.1 i hi).symm.trans hp)
  rw [← hpe]
  exact ⟨rfl, rfl, rfl, rfl⟩
def srcN (ps : List Part) (k : Int) : Nat → Int
  | 0 => -1
  | i + 1 => match ps[i]? with
    | some p => if p.1 = 1 ∧ p.2.1 = k then (i : Int) else srcN ps k i
    | none => srcN ps k i
def srcI (ps : List Part) (k : Int) : Int := srcN ps k ps.length
theorem srcN_r (ps : List Part) (k : Int) : ∀ i : Nat, (srcN ps k i = -1 ∧ ∀ j p, j < i → ps[j]? = some p → ¬ (p.1 = 1 ∧ p.2.1 = k)) ∨ ∃ j p, j < i ∧ srcN ps k i = (j : Nat) ∧ ps[j]? = some p ∧ p.1 = 1 ∧ p.2.1 = k
  | 0 => Or.inl ⟨rfl, fun j p h => absurd h (Nat.not_lt_zero j)⟩
  | i + 1 => by
    have ih := srcN_r ps k i
    unfold srcN
    cases e : ps[i]? with
    | none =>
      rcases ih with ⟨h1, h2⟩ | ⟨j, p, h1, h2, h3⟩
      · refine Or.inl ⟨h1, fun j p hj hp => ?_⟩
        by_cases c : j = i
        · subst c
          rw [e] at hp
          cases hp
        · exact h2 j p (by omega) hp
      · exact Or.inr ⟨j, p, by omega, h2, h3⟩
    | some q =>
      by_cases c : q.1 = 1 ∧ q.2.1 = k
      · right
        exact ⟨i, q, by omega, if_pos c, e, c.1, c.2⟩
      · simp only [if_neg c]
        rcases ih with ⟨h1, h2⟩ | ⟨j, p, h1, h2, h3⟩
        · refine Or.inl ⟨h1, fun j p hj hp => ?_⟩
          by_cases d : j = i
          · subst d
            rw [e] at hp
            cases hp
            exact c
          · exact h2 j p (by omega) hp
        · exact Or.inr ⟨j, p, by omega, h2, h3⟩
theorem srcI_r (ps : List Part) (k : Int) : (srcI ps k = -1 ∧ ∀ p ∈ ps, ¬ (p.1 = 1 ∧ p.2.1 = k)) ∨ ∃ (j : Nat) (p : Part), srcI ps k = (j : Nat) ∧ ps[j]? = some p ∧ p.1 = 1 ∧ p.2.1 = k := by
  rcases srcN_r ps k ps.length with ⟨h1, h2⟩ | ⟨j, p, h1, h2⟩
  · refine Or.inl ⟨h1, fun p hp => ?_⟩
    obtain ⟨j, hj, e⟩ := List.mem_iff_getElem.mp hp
    exact h2 j p hj (by rw [List.getElem?_eq_getElem hj, e])
  · exact Or.inr ⟨j, p, h2⟩
theorem srcI_b (ps : List Part) (k : Int) : -1 ≤ srcI ps k ∧ srcI ps k < ps.length ∨ srcI ps k = -1 := by
  rcases srcI_r ps k with ⟨h1, _⟩ | ⟨j, p, h1, h2, _⟩
  · exact Or.inr h1
  · have := (List.getElem?_eq_some_iff.mp h2).1
    left
    omega
set_option maxHeartbeats 4000000 in
set_option maxRecDepth 100000 in
theorem sX7_sourceAt_0 {X : Xt} {n : Nat} {h : HP} {a0 : Nat} {x1 : Int} (hc : Cx X cX7_sourceAt RX7 4 2 44) {K : KT} (hr : CxR X (some .int) K) 
    (P : Ok X 0 0 4 [(0, .ref a0), (1, .int (i3 x1)), (2, .int (i3 (-1))), (3, .int (i3 0))] [] n h) :
    Ok X 0 0 0 [(0, .ref a0), (1, .int (i3 x1))] [] n h := by
  refine ok_iconst (pc := 0) hc (v := i3 (-1)) dX7_sourceAt_0 (by decide) ?_
  refine ok_istore_n (pc := 1) hc (lv' := [(2, .int (i3 (-1))), (0, .ref a0), (1, .int (i3 x1))]) dX7_sourceAt_1 rfl (by decide) rfl ?_
  refine ok_iconst (pc := 2) hc (v := i3 0) dX7_sourceAt_2 (by decide) ?_
  refine ok_istore_n (pc := 3) hc (lv' := [(3, .int (i3 0)), (2, .int (i3 (-1))), (0, .ref a0), (1, .int (i3 x1))]) dX7_sourceAt_3 rfl (by decide) rfl ?_
  refine ok_lv [2, 3, 1, 0] rfl ?_
  exact P

set_option maxHeartbeats 4000000 in
set_option maxRecDepth 100000 in
theorem sX7_sourceAt_4 {X : Xt} {n : Nat} {h : HP} {a0 : Nat} {x1 : Int} {x2 : Int} {x3 : Int} {fs1 : List Value} {q2 : Nat} {len3 : Nat} {f3 : Nat → Int} (hc : Cx X cX7_sourceAt RX7 4 2 44) {K : KT} (hr : CxR X (some .int) K) (e1 : At h n a0 (.inl (7, fs1))) (z1 : fs1.length = 24) (v1_1 : fs1[1]? = some (.ref q2)) (e3 : At h n q2 (ai len3 f3))
    (P : (Ix 48 len3) ∧ (R3 x3) ∧ (R3 (f3 (48 : Int).toNat)) ∧ ((f3 (48 : Int).toNat) ≤ x3 → Ok X 0 0 46 [(0, .ref a0), (1, .int (i3 x1)), (2, .int (i3 x2)), (3, .int (i3 x3))] [] n h) ∧ (¬ (f3 (48 : Int).toNat) ≤ x3 → Ok X 0 0 15 [(0, .ref a0), (1, .int (i3 x1)), (2, .int (i3 x2)), (3, .int (i3 x3))] [] n h)) :
    Ok X 0 0 4 [(0, .ref a0), (1, .int (i3 x1)), (2, .int (i3 x2)), (3, .int (i3 x3))] [] n h := by
  refine ok_iload_n (pc := 4) hc dX7_sourceAt_4 rfl 3 rfl ?_
  refine ok_aload_n (pc := 5) hc dX7_sourceAt_5 rfl 0 rfl ?_
  refine ok_get (pc := 6) hc fl_X7_7 dX7_sourceAt_6 e1.1 e1.2 v1_1 ?_
  refine ok_bipush (pc := 9) hc (v := i3 48) dX7_sourceAt_9 (by decide) ?_
  obtain ⟨r, P⟩ := P
  refine zk_iald (pc := 11) hc dX7_sourceAt_11 e3.1 e3.2 r ?_
  obtain ⟨r4, P⟩ := P
  obtain ⟨r5, P⟩ := P
  refine zk_icmp_ge (pc := 12) (tgt := 46) hc dX7_sourceAt_12 (by decide) r4 r5 (fun c => ?_) (fun c => ?_)
  · have P := P.1 c
    exact P
  · have P := P.2 c
    exact P

set_option maxHeartbeats 4000000 in
set_option maxRecDepth 100000 in
theorem sX7_sourceAt_15 {X : Xt} {n : Nat} {h : HP} {a0 : Nat} {x1 : Int} {x2 : Int} {x3 : Int} {fs1 : List Value} {q2 : Nat} {f3 : Nat → Int} (hc : Cx X cX7_sourceAt RX7 4 2 44) {K : KT} (hr : CxR X (some .int) K) (e1 : At h n a0 (.inl (7, fs1))) (z1 : fs1.length = 24) (v1_1 : fs1[1]? = some (.ref q2)) (e3 : At h n q2 (ai 52 f3))
    (P : ((0 ≤ (4 : Int) * x3 ∧ (4 : Int) * x3 < 52) ∧ R3 1 ∧ R3 (f3 (4 * x3 : Int).toNat)) ∧ (¬ f3 (4 * x3 : Int).toNat = 1 → Ok X 0 0 4 [(0, .ref a0), (1, .int (i3 x1)), (2, .int (i3 x2)), (3, .int (i3 (x3 + 1)))] [] n h) ∧ (f3 (4 * x3 : Int).toNat = 1 → (0 ≤ (4 : Int) * x3 + 1 ∧ (4 : Int) * x3 + 1 < 52) ∧ (R3 (f3 (4 * x3 + 1 : Int).toNat)) ∧ (R3 x1) ∧ (¬ (f3 (4 * x3 + 1 : Int).toNat) = x1 → Ok X 0 0 4 [(0, .ref a0), (1, .int (i3 x1)), (2, .int (i3 x2)), (3, .int (i3 (x3 + 1)))] [] n h) ∧ ((f3 (4 * x3 + 1 : Int).toNat) = x1 → Ok X 0 0 4 [(0, .ref a0), (1, .int (i3 x1)), (2, .int (i3 x3)), (3, .int (i3 (x3 + 1)))] [] n h))) :
    Ok X 0 0 15 [(0, .ref a0), (1, .int (i3 x1)), (2, .int (i3 x2)), (3, .int (i3 x3))] [] n h := by
  refine ok_aload_n (pc := 15) hc dX7_sourceAt_15 rfl 0 rfl ?_
  refine ok_iload_n (pc := 16) hc dX7_sourceAt_16 rfl 3 rfl ?_
  refine ok_iconst (pc := 17) hc (v := i3 1) dX7_sourceAt_17 (by decide) ?_
  obtain ⟨r0, P⟩ := P
  refine ok_callV (pc := 18) (a := a0) (cb := 0) (sb := 0) (st := []) hc [.int (i3 x3), .int (i3 1)] cv_X7_60 sp_X7_is (by decide) dX7_sourceAt_18 rfl e1.1 e1.2 rfl rfl rfl (Nat.le_of_ble_eq_true rfl) (⟨_, _, _, _, rfl, ⟨_, _, ⟨e1.1, e1.2⟩, z1, v1_1, ⟨e3.1, e3.2⟩⟩, r0.1, r0.2.1, r0.2.2, rfl, ?_⟩)
  show Ok X 0 0 (18 + 3) [(0, .ref a0), (1, .int (i3 x1)), (2, .int (i3 x2)), (3, .int (i3 x3))] [.int (i3 (isZ f3 x3 1))] n h
  refine zk_if_eq (pc := 21) (tgt := 38) hc dX7_sourceAt_21 (by decide) R3_isZ (fun c => ?_) (fun c => ?_)
  · have P := P.1 (isZ_0.mp c)
    refine ok_iload_n (pc := 38) hc dX7_sourceAt_38 rfl 2 rfl ?_
    refine ok_istore_n (pc := 39) hc (lv' := [(2, .int (i3 x2)), (0, .ref a0), (1, .int (i3 x1)), (3, .int (i3 x3))]) dX7_sourceAt_39 rfl (by decide) rfl ?_
    refine zk_iinc (pc := 40) hc (q := 3) (x := x3) (lv' := [(3, .int (i3 (x3 + 1))), (2, .int (i3 x2)), (0, .ref a0), (1, .int (i3 x1))]) dX7_sourceAt_40 rfl (by decide) rfl ?_
    refine ok_goto (pc := 43) (tgt := 4) hc dX7_sourceAt_43 (by decide) ?_
    refine ok_lv [2, 3, 1, 0] rfl ?_
    exact P
  · have P := P.2 (isZ_1.mp c)
    refine ok_aload_n (pc := 24) hc dX7_sourceAt_24 rfl 0 rfl ?_
    refine ok_iload_n (pc := 25) hc dX7_sourceAt_25 rfl 3 rfl ?_
    refine ok_iconst (pc := 26) hc (v := i3 1) dX7_sourceAt_26 (by decide) ?_
    obtain ⟨r0, P⟩ := P
    refine ok_callV (pc := 27) (a := a0) (cb := 0) (sb := 0) (st := []) hc [.int (i3 x3), .int (i3 1)] cv_X7_49 sp_X7_of (by decide) dX7_sourceAt_27 rfl e1.1 e1.2 rfl rfl rfl (Nat.le_of_ble_eq_true rfl) (⟨_, _, _, _, rfl, ⟨_, _, ⟨e1.1, e1.2⟩, z1, v1_1, ⟨e3.1, e3.2⟩⟩, r0, rfl, ?_⟩)
    show Ok X 0 0 (27 + 3) [(0, .ref a0), (1, .int (i3 x1)), (2, .int (i3 x2)), (3, .int (i3 x3))] [.int (i3 (f3 (4 * x3 + 1 : Int).toNat))] n h
    refine ok_iload_n (pc := 30) hc dX7_sourceAt_30 rfl 1 rfl ?_
    obtain ⟨r4, P⟩ := P
    obtain ⟨r5, P⟩ := P
    refine zk_icmp_ne (pc := 31) (tgt := 38) hc dX7_sourceAt_31 (by decide) r4 r5 (fun c => ?_) (fun c => ?_)
    · have P := P.1 c
      refine ok_iload_n (pc := 38) hc dX7_sourceAt_38 rfl 2 rfl ?_
      refine ok_istore_n (pc := 39) hc (lv' := [(2, .int (i3 x2)), (0, .ref a0), (1, .int (i3 x1)), (3, .int (i3 x3))]) dX7_sourceAt_39 rfl (by decide) rfl ?_
      refine zk_iinc (pc := 40) hc (q := 3) (x := x3) (lv' := [(3, .int (i3 (x3 + 1))), (2, .int (i3 x2)), (0, .ref a0), (1, .int (i3 x1))]) dX7_sourceAt_40 rfl (by decide) rfl ?_
      refine ok_goto (pc := 43) (tgt := 4) hc dX7_sourceAt_43 (by decide) ?_
      refine ok_lv [2, 3, 1, 0] rfl ?_
      exact P
    · have P := P.2 c
      refine ok_iload_n (pc := 34) hc dX7_sourceAt_34 rfl 3 rfl ?_
      refine ok_goto (pc := 35) (tgt := 39) hc dX7_sourceAt_35 (by decide) ?_
      refine ok_istore_n (pc := 39) hc (lv' := [(2, .int (i3 x3)), (0, .ref a0), (1, .int (i3 x1)), (3, .int (i3 x3))]) dX7_sourceAt_39 rfl (by decide) rfl ?_
      refine zk_iinc (pc := 40) hc (q := 3) (x := x3) (lv' := [(3, .int (i3 (x3 + 1))), (2, .int (i3 x3)), (0, .ref a0), (1, .int (i3 x1))]) dX7_sourceAt_40 rfl (by decide) rfl ?_
      refine ok_goto (pc := 43) (tgt := 4) hc dX7_sourceAt_43 (by decide) ?_
      refine ok_lv [2, 3, 1, 0] rfl ?_
      exact P

set_option maxHeartbeats 4000000 in
set_option maxRecDepth 100000 in
theorem sX7_sourceAt_46 {X : Xt} {n : Nat} {h : HP} {a0 : Nat} {x1 : Int} {x2 : Int} {x3 : Int} (hc : Cx X cX7_sourceAt RX7 4 2 44) {K : KT} (hr : CxR X (some .int) K) 
    (P : K (.inl (some (.int (i3 x2)))) n h) :
    Ok X 0 0 46 [(0, .ref a0), (1, .int (i3 x1)), (2, .int (i3 x2)), (3, .int (i3 x3))] [] n h := by
  refine ok_iload_n (pc := 46) hc dX7_sourceAt_46 rfl 2 rfl ?_
  exact ok_iret (st := []) (pc := 47) hc hr dX7_sourceAt_47 P

def spec_X7_sourceAt (args : List Value) (n : Nat) (h : HP) (K : KT) : Prop := ∃ (m : Nat) (Z : Nat → Int) (ps : List Part) (k : Int), args = [.ref m, .int (i3 k)] ∧ ZAt h n m Z ∧ ZPs Z ps ∧ R3 k ∧ K (.inl (some (.int (i3 (srcI ps k))))) n h
theorem sp_X7_sourceAt : Sp yX7_sourceAt cX7_sourceAt 4 (some .int) 2 44 0 0 spec_X7_sourceAt := by
  refine sp_intro (by decide) (by rintro args n h K ⟨m, Z, ps, k, rfl, -⟩; exact Nat.le_of_ble_eq_true rfl) ?_
  rintro X args n h K hc hr ⟨m, Z, ps, k, rfl, hZ, hP, hk, kk⟩
  obtain ⟨fs, z, h1, h2, h3, h4⟩ := id hZ
  have e48 : Z (48 : Int).toNat = ps.length := hP.1
  have hl := hP.2.1
  have L : ∀ (j i : Nat), i + j = ps.length → Ok X 0 0 4 [(0, .ref m), (1, .int (i3 k)), (2, .int (i3 (srcN ps k i))), (3, .int (i3 i))] [] n h := by
    intro j
    induction j with
    | zero =>
      intro i hi
      have : i = ps.length := by omega
      subst this
      exact sX7_sourceAt_4 hc hr h1 h2 h3 h4 ⟨⟨by decide, by decide, by decide⟩, R3_s (by omega), R3_s (by omega), fun _ => sX7_sourceAt_46 hc hr kk, fun c => absurd (by omega) c⟩
    | succ j ih =>
      intro i hi
      have hp := hP.2.2.1 i (by omega)
      have hb := (hP.2.2.2 _ (List.mem_of_getElem? hp)).b
      simp only at hb
      have i1 := ih (i + 1) (by omega)
      have e0 : (4 * (i : Int)).toNat = 4 * i := by omega
      have e1 : (4 * (i : Int) + 1).toNat = 4 * i + 1 := by omega
      unfold srcN at i1
      rw [hp] at i1
      simp only at i1
      refine sX7_sourceAt_4 hc hr h1 h2 h3 h4 ⟨⟨by decide, by decide, by decide⟩, R3_s (by omega), R3_s (by omega), fun c => absurd c (by omega), fun _ => ?_⟩
      refine sX7_sourceAt_15 hc hr h1 h2 h3 h4 ⟨⟨by omega, ⟨by decide, by decide⟩, by rw [e0]; exact R3_s (by omega)⟩, fun c => ?_, fun c => ⟨by omega, ?_⟩⟩
      · rw [if_neg (fun q => c (by rw [e0]; exact q.1))] at i1
        exact i1
      · rw [e1]
        refine ⟨R3_s (by omega), hk, fun d => ?_, fun d => ?_⟩
        · rw [if_neg (fun q => d q.2)] at i1
          exact i1
        · rw [if_pos ⟨by rw [← e0]; exact c, d⟩] at i1
          exact i1
  exact sX7_sourceAt_0 hc hr (L ps.length 0 (by omega))
def freeB (ps : List Part) (k : Int) : Bool := decide (0 < k) && ps.any (fun p => atB p k) && decide (srcI ps k = -1)
set_option maxHeartbeats 4000000 in
set_option maxRecDepth 100000 in
theorem sX7_isFree_0 {X : Xt} {n : Nat} {h : HP} {a0 : Nat} {x1 : Int} {fs2 : List Value} {q3 : Nat} {f4 : Nat → Int} {ps5 : List Part} (hc : Cx X cX7_isFree RX7 2 4 89) {K : KT} (hr : CxR X (some .boolean) K) (e2 : At h n a0 (.inl (7, fs2))) (z2 : fs2.length = 24) (v2_1 : fs2[1]? = some (.ref q3)) (e4 : At h n q3 (ai 52 f4)) (hP5 : ZPs f4 ps5)
    (P : (R3 x1) ∧ (x1 ≤ 0 → K (.inl (some (.int (i3 0)))) n h) ∧ (¬ x1 ≤ 0 → (R3 x1) ∧ ((ps5.any (fun p => atB p x1)) = false → K (.inl (some (.int (i3 0)))) n h) ∧ ((ps5.any (fun p => atB p x1)) = true → (R3 x1) ∧ (R3 (srcI ps5 x1)) ∧ (¬ (srcI ps5 x1) = (-1) → K (.inl (some (.int (i3 0)))) n h) ∧ ((srcI ps5 x1) = (-1) → K (.inl (some (.int (i3 1)))) n h)))) :
    Ok X 0 0 0 [(0, .ref a0), (1, .int (i3 x1))] [] n h := by
  refine ok_iload_n (pc := 0) hc dX7_isFree_0 rfl 1 rfl ?_
  obtain ⟨r1, P⟩ := P
  refine zk_if_le (pc := 1) (tgt := 25) hc dX7_isFree_1 (by decide) r1 (fun c => ?_) (fun c => ?_)
  · have P := P.1 c
    refine ok_iconst (pc := 25) hc (v := i3 0) dX7_isFree_25 (by decide) ?_
    exact ok_zret (st := []) (pc := 26) hc (nar_z (by decide)) hr dX7_isFree_26 P
  · have P := P.2 c
    refine ok_aload_n (pc := 4) hc dX7_isFree_4 rfl 0 rfl ?_
    refine ok_iload_n (pc := 5) hc dX7_isFree_5 rfl 1 rfl ?_
    obtain ⟨r0, P⟩ := P
    refine ok_callV (pc := 6) (a := a0) (cb := 0) (sb := 0) (st := []) hc [.int (i3 x1)] cv_X7_71 sp_X7_isUsed (by decide) dX7_isFree_6 rfl e2.1 e2.2 rfl rfl rfl (Nat.le_of_ble_eq_true rfl) (⟨_, _, _, _, rfl, ⟨_, _, ⟨e2.1, e2.2⟩, z2, v2_1, ⟨e4.1, e4.2⟩⟩, hP5, r0, rfl, ?_⟩)
    show Ok X 0 0 (6 + 3) [(0, .ref a0), (1, .int (i3 x1))] [.int (i3 (bz (ps5.any (fun p => atB p x1))))] n h
    refine zk_if_eq (pc := 9) (tgt := 25) hc dX7_isFree_9 (by decide) R3_bz (fun c => ?_) (fun c => ?_)
    · have P := P.1 (bz_0.mp c)
      refine ok_iconst (pc := 25) hc (v := i3 0) dX7_isFree_25 (by decide) ?_
      exact ok_zret (st := []) (pc := 26) hc (nar_z (by decide)) hr dX7_isFree_26 P
    · have P := P.2 (bz_1.mp c)
      refine ok_aload_n (pc := 12) hc dX7_isFree_12 rfl 0 rfl ?_
      refine ok_iload_n (pc := 13) hc dX7_isFree_13 rfl 1 rfl ?_
      obtain ⟨r0, P⟩ := P
      refine ok_callV (pc := 14) (a := a0) (cb := 0) (sb := 0) (st := []) hc [.int (i3 x1)] cv_X7_75 sp_X7_sourceAt (by decide) dX7_isFree_14 rfl e2.1 e2.2 rfl rfl rfl (Nat.le_of_ble_eq_true rfl) (⟨_, _, _, _, rfl, ⟨_, _, ⟨e2.1, e2.2⟩, z2, v2_1, ⟨e4.1, e4.2⟩⟩, hP5, r0, rfl, ?_⟩)
      show Ok X 0 0 (14 + 3) [(0, .ref a0), (1, .int (i3 x1))] [.int (i3 (srcI ps5 x1))] n h
      refine ok_iconst (pc := 17) hc (v := i3 (-1)) dX7_isFree_17 (by decide) ?_
      obtain ⟨r6, P⟩ := P
      refine zk_icmp_ne (pc := 18) (tgt := 25) hc dX7_isFree_18 (by decide) r6 ⟨by decide, by decide⟩ (fun c => ?_) (fun c => ?_)
      · have P := P.1 c
        refine ok_iconst (pc := 25) hc (v := i3 0) dX7_isFree_25 (by decide) ?_
        exact ok_zret (st := []) (pc := 26) hc (nar_z (by decide)) hr dX7_isFree_26 P
      · have P := P.2 c
        refine ok_iconst (pc := 21) hc (v := i3 1) dX7_isFree_21 (by decide) ?_
        refine ok_goto (pc := 22) (tgt := 26) hc dX7_isFree_22 (by decide) ?_
        exact ok_zret (st := []) (pc := 26) hc (nar_z (by decide)) hr dX7_isFree_26 P

def spec_X7_isFree (args : List Value) (n : Nat) (h : HP) (K : KT) : Prop := ∃ (m : Nat) (Z : Nat → Int) (ps : List Part) (k : Int), args = [.ref m, .int (i3 k)] ∧ ZAt h n m Z ∧ ZPs Z ps ∧ R3 k ∧ K (.inl (some (.int (i3 (bz (freeB ps k)))))) n h
theorem sp_X7_isFree : Sp yX7_isFree cX7_isFree 2 (some .boolean) 4 89 0 0 spec_X7_isFree := by
  refine sp_intro (by decide) (by rintro args n h K ⟨m, Z, ps, k, rfl, -⟩; exact Nat.le_of_ble_eq_true rfl) ?_
  rintro X args n h K hc hr ⟨m, Z, ps, k, rfl, hZ, hP, hk, kk⟩
  obtain ⟨fs, z, h1, h2, h3, h4⟩ := id hZ
  have hl := hP.2.1
  have hs := srcI_b ps k
  unfold freeB at kk
  refine sX7_isFree_0 hc hr h1 h2 h3 h4 hP ⟨hk, fun c => ?_, fun c => ⟨hk, fun d => ?_, fun d => ⟨hk, R3_s (by omega), fun e => ?_, fun e => ?_⟩⟩⟩
  · rw [decide_eq_false (by omega)] at kk
    exact kk
  · rw [d, Bool.and_false] at kk
    exact kk
  · rw [decide_eq_false e, Bool.and_false] at kk
    exact kk
  · rw [d, decide_eq_true e, decide_eq_true (by omega)] at kk
    exact kk
/-- the part of an amplifier -/
def pOfL : List Part → Nat → Nat → Nat
  | [], _, i => i
  | p :: ps, a, i => if p.1 = 2 then (if a = 0 then i else pOfL ps (a - 1) (i + 1)) else pOfL ps a (i + 1)
def pOf (ps : List Part) (a : Int) : Int := (pOfL ps a.toNat 0 : Nat)
theorem pOfL_at : ∀ {ps : List Part} {a i s : Nat} {p : Part}, AmpAt ps a i p → pOfL ps a s = s + i
  | [], a, i, s, p, h => by simp [AmpAt] at h
  | q :: ps, a, i, s, p, h => by
    obtain ⟨h1, h2, h3⟩ := h
    unfold pOfL
    cases i with
    | zero =>
      have e := Option.some.inj h1
      subst e
      have : a = 0 := h3.symm
      rw [if_pos h2, if_pos this]
      rfl
    | succ i =>
      rw [List.take_succ_cons, show q :: ps.take i = [q] ++ ps.take i from rfl, nA_app, nA_one] at h3
      by_cases c : q.1 = 2
      · rw [if_pos c] at h3
        rw [if_pos c, if_neg (by omega), pOfL_at (ps := ps) (a := a - 1) (i := i) ⟨h1, h2, by omega⟩]
        omega
      · rw [if_neg c] at h3
        rw [if_neg c, pOfL_at (ps := ps) (a := a) (i := i) ⟨h1, h2, by omega⟩]
        omega
theorem pOf_at {ps : List Part} {a i : Nat} {p : Part} (h : AmpAt ps a i p) : pOf ps a = i := by
  unfold pOf
  rw [show (a : Int).toNat = a by omega, pOfL_at h, Nat.zero_add]
theorem nA_mono {ps : List Part} {i j : Nat} (h : i ≤ j) : nA (ps.take i) ≤ nA (ps.take j) := by
  have := nA_take_le (ps.take j) i
  rw [List.take_take, show min i j = i by omega] at this
  exact this
set_option maxHeartbeats 4000000 in
set_option maxRecDepth 100000 in
theorem sX7_partOf_0 {X : Xt} {n : Nat} {h : HP} {a0 : Nat} {x1 : Int} (hc : Cx X cX7_partOf RX7 4 2 44) {K : KT} (hr : CxR X (some .int) K) 
    (P : Ok X 0 0 4 [(0, .ref a0), (1, .int (i3 x1)), (2, .int (i3 x1)), (3, .int (i3 0))] [] n h) :
    Ok X 0 0 0 [(0, .ref a0), (1, .int (i3 x1))] [] n h := by
  refine ok_iload_n (pc := 0) hc dX7_partOf_0 rfl 1 rfl ?_
  refine ok_istore_n (pc := 1) hc (lv' := [(2, .int (i3 x1)), (0, .ref a0), (1, .int (i3 x1))]) dX7_partOf_1 rfl (by decide) rfl ?_
  refine ok_iconst (pc := 2) hc (v := i3 0) dX7_partOf_2 (by decide) ?_
  refine ok_istore_n (pc := 3) hc (lv' := [(3, .int (i3 0)), (2, .int (i3 x1)), (0, .ref a0), (1, .int (i3 x1))]) dX7_partOf_3 rfl (by decide) rfl ?_
  refine ok_lv [2, 3, 1, 0] rfl ?_
  exact P

set_option maxHeartbeats 4000000 in
set_option maxRecDepth 100000 in
theorem sX7_partOf_4 {X : Xt} {n : Nat} {h : HP} {a0 : Nat} {x1 : Int} {x2 : Int} {x3 : Int} {fs1 : List Value} {q2 : Nat} {f3 : Nat → Int} (hc : Cx X cX7_partOf RX7 4 2 44) {K : KT} (hr : CxR X (some .int) K) (e1 : At h n a0 (.inl (7, fs1))) (z1 : fs1.length = 24) (v1_1 : fs1[1]? = some (.ref q2)) (e3 : At h n q2 (ai 52 f3))
    (P : ((0 ≤ (4 : Int) * x3 ∧ (4 : Int) * x3 < 52) ∧ R3 2 ∧ R3 (f3 (4 * x3 : Int).toNat)) ∧ (¬ f3 (4 * x3 : Int).toNat = 2 → Ok X 0 0 17 [(0, .ref a0), (1, .int (i3 x1)), (2, .int (i3 x2)), (3, .int (i3 x3))] [] n h) ∧ (f3 (4 * x3 : Int).toNat = 2 → (R3 x2) ∧ (x2 ≤ 0 → Ok X 0 0 40 [(0, .ref a0), (1, .int (i3 x1)), (2, .int (i3 x2)), (3, .int (i3 x3))] [] n h) ∧ (¬ x2 ≤ 0 → Ok X 0 0 17 [(0, .ref a0), (1, .int (i3 x1)), (2, .int (i3 x2)), (3, .int (i3 x3))] [] n h))) :
    Ok X 0 0 4 [(0, .ref a0), (1, .int (i3 x1)), (2, .int (i3 x2)), (3, .int (i3 x3))] [] n h := by
  refine ok_aload_n (pc := 4) hc dX7_partOf_4 rfl 0 rfl ?_
  refine ok_iload_n (pc := 5) hc dX7_partOf_5 rfl 3 rfl ?_
  refine ok_iconst (pc := 6) hc (v := i3 2) dX7_partOf_6 (by decide) ?_
  obtain ⟨r0, P⟩ := P
  refine ok_callV (pc := 7) (a := a0) (cb := 0) (sb := 0) (st := []) hc [.int (i3 x3), .int (i3 2)] cv_X7_60 sp_X7_is (by decide) dX7_partOf_7 rfl e1.1 e1.2 rfl rfl rfl (Nat.le_of_ble_eq_true rfl) (⟨_, _, _, _, rfl, ⟨_, _, ⟨e1.1, e1.2⟩, z1, v1_1, ⟨e3.1, e3.2⟩⟩, r0.1, r0.2.1, r0.2.2, rfl, ?_⟩)
  show Ok X 0 0 (7 + 3) [(0, .ref a0), (1, .int (i3 x1)), (2, .int (i3 x2)), (3, .int (i3 x3))] [.int (i3 (isZ f3 x3 2))] n h
  refine zk_if_eq (pc := 10) (tgt := 17) hc dX7_partOf_10 (by decide) R3_isZ (fun c => ?_) (fun c => ?_)
  · have P := P.1 (isZ_0.mp c)
    exact P
  · have P := P.2 (isZ_1.mp c)
    refine ok_iload_n (pc := 13) hc dX7_partOf_13 rfl 2 rfl ?_
    obtain ⟨r4, P⟩ := P
    refine zk_if_le (pc := 14) (tgt := 40) hc dX7_partOf_14 (by decide) r4 (fun c => ?_) (fun c => ?_)
    · have P := P.1 c
      exact P
    · have P := P.2 c
      exact P

set_option maxHeartbeats 4000000 in
set_option maxRecDepth 100000 in
theorem sX7_partOf_17 {X : Xt} {n : Nat} {h : HP} {a0 : Nat} {x1 : Int} {x2 : Int} {x3 : Int} {fs1 : List Value} {q2 : Nat} {f3 : Nat → Int} (hc : Cx X cX7_partOf RX7 4 2 44) {K : KT} (hr : CxR X (some .int) K) (e1 : At h n a0 (.inl (7, fs1))) (z1 : fs1.length = 24) (v1_1 : fs1[1]? = some (.ref q2)) (e3 : At h n q2 (ai 52 f3))
    (P : ((0 ≤ (4 : Int) * x3 ∧ (4 : Int) * x3 < 52) ∧ R3 2 ∧ R3 (f3 (4 * x3 : Int).toNat)) ∧ (¬ f3 (4 * x3 : Int).toNat = 2 → Ok X 0 0 4 [(0, .ref a0), (1, .int (i3 x1)), (2, .int (i3 (x2 - 0))), (3, .int (i3 (x3 + 1)))] [] n h) ∧ (f3 (4 * x3 : Int).toNat = 2 → Ok X 0 0 4 [(0, .ref a0), (1, .int (i3 x1)), (2, .int (i3 (x2 - 1))), (3, .int (i3 (x3 + 1)))] [] n h)) :
    Ok X 0 0 17 [(0, .ref a0), (1, .int (i3 x1)), (2, .int (i3 x2)), (3, .int (i3 x3))] [] n h := by
  refine ok_iload_n (pc := 17) hc dX7_partOf_17 rfl 2 rfl ?_
  refine ok_aload_n (pc := 18) hc dX7_partOf_18 rfl 0 rfl ?_
  refine ok_iload_n (pc := 19) hc dX7_partOf_19 rfl 3 rfl ?_
  refine ok_iconst (pc := 20) hc (v := i3 2) dX7_partOf_20 (by decide) ?_
  obtain ⟨r0, P⟩ := P
  refine ok_callV (pc := 21) (a := a0) (cb := 0) (sb := 0) (st := [.int (i3 x2)]) hc [.int (i3 x3), .int (i3 2)] cv_X7_60 sp_X7_is (by decide) dX7_partOf_21 rfl e1.1 e1.2 rfl rfl rfl (Nat.le_of_ble_eq_true rfl) (⟨_, _, _, _, rfl, ⟨_, _, ⟨e1.1, e1.2⟩, z1, v1_1, ⟨e3.1, e3.2⟩⟩, r0.1, r0.2.1, r0.2.2, rfl, ?_⟩)
  show Ok X 0 0 (21 + 3) [(0, .ref a0), (1, .int (i3 x1)), (2, .int (i3 x2)), (3, .int (i3 x3))] [.int (i3 (isZ f3 x3 2)), .int (i3 x2)] n h
  refine zk_if_eq (pc := 24) (tgt := 31) hc dX7_partOf_24 (by decide) R3_isZ (fun c => ?_) (fun c => ?_)
  · have P := P.1 (isZ_0.mp c)
    refine ok_iconst (pc := 31) hc (v := i3 0) dX7_partOf_31 (by decide) ?_
    refine zk_isub (pc := 32) hc dX7_partOf_32 ?_
    refine ok_istore_n (pc := 33) hc (lv' := [(2, .int (i3 (x2 - 0))), (0, .ref a0), (1, .int (i3 x1)), (3, .int (i3 x3))]) dX7_partOf_33 rfl (by decide) rfl ?_
    refine zk_iinc (pc := 34) hc (q := 3) (x := x3) (lv' := [(3, .int (i3 (x3 + 1))), (2, .int (i3 (x2 - 0))), (0, .ref a0), (1, .int (i3 x1))]) dX7_partOf_34 rfl (by decide) rfl ?_
    refine ok_goto (pc := 37) (tgt := 4) hc dX7_partOf_37 (by decide) ?_
    refine ok_lv [2, 3, 1, 0] rfl ?_
    exact P
  · have P := P.2 (isZ_1.mp c)
    refine ok_iconst (pc := 27) hc (v := i3 1) dX7_partOf_27 (by decide) ?_
    refine ok_goto (pc := 28) (tgt := 32) hc dX7_partOf_28 (by decide) ?_
    refine zk_isub (pc := 32) hc dX7_partOf_32 ?_
    refine ok_istore_n (pc := 33) hc (lv' := [(2, .int (i3 (x2 - 1))), (0, .ref a0), (1, .int (i3 x1)), (3, .int (i3 x3))]) dX7_partOf_33 rfl (by decide) rfl ?_
    refine zk_iinc (pc := 34) hc (q := 3) (x := x3) (lv' := [(3, .int (i3 (x3 + 1))), (2, .int (i3 (x2 - 1))), (0, .ref a0), (1, .int (i3 x1))]) dX7_partOf_34 rfl (by decide) rfl ?_
    refine ok_goto (pc := 37) (tgt := 4) hc dX7_partOf_37 (by decide) ?_
    refine ok_lv [2, 3, 1, 0] rfl ?_
    exact P

set_option maxHeartbeats 4000000 in
set_option maxRecDepth 100000 in
theorem sX7_partOf_40 {X : Xt} {n : Nat} {h : HP} {a0 : Nat} {x1 : Int} {x2 : Int} {x3 : Int} (hc : Cx X cX7_partOf RX7 4 2 44) {K : KT} (hr : CxR X (some .int) K) 
    (P : K (.inl (some (.int (i3 x3)))) n h) :
    Ok X 0 0 40 [(0, .ref a0), (1, .int (i3 x1)), (2, .int (i3 x2)), (3, .int (i3 x3))] [] n h := by
  refine ok_iload_n (pc := 40) hc dX7_partOf_40 rfl 3 rfl ?_
  exact ok_iret (st := []) (pc := 41) hc hr dX7_partOf_41 P

def spec_X7_partOf (args : List Value) (n : Nat) (h : HP) (K : KT) : Prop := ∃ (m : Nat) (Z : Nat → Int) (ps : List Part) (a : Int), args = [.ref m, .int (i3 a)] ∧ ZAt h n m Z ∧ ZPs Z ps ∧ (0 ≤ a ∧ a < nA ps) ∧ K (.inl (some (.int (i3 (pOf ps a))))) n h
theorem sp_X7_partOf : Sp yX7_partOf cX7_partOf 4 (some .int) 2 44 0 0 spec_X7_partOf := by
  refine sp_intro (by decide) (by rintro args n h K ⟨m, Z, ps, a, rfl, -⟩; exact Nat.le_of_ble_eq_true rfl) ?_
  rintro X args n h K hc hr ⟨m, Z, ps, a, rfl, hZ, hP, ha, kk⟩
  obtain ⟨b, rfl⟩ : ∃ b : Nat, a = b := ⟨a.toNat, by omega⟩
  obtain ⟨fs, z, h1, h2, h3, h4⟩ := id hZ
  have hl := hP.2.1
  have h3A := nA_le ps
  obtain ⟨t, p, hA⟩ := AmpAt.ex (ps := ps) (a := b) (by omega)
  have ht := hA.lt.1
  rw [pOf_at hA] at kk
  have L : ∀ (j i : Nat), i + j = t → Ok X 0 0 4 [(0, .ref m), (1, .int (i3 (b : Int))), (2, .int (i3 ((b : Int) - nA (ps.take i)))), (3, .int (i3 i))] [] n h := by
    intro j
    induction j with
    | zero =>
      intro i hi
      have : i = t := by omega
      subst this
      have q := hP.is hA.1 2
      have e0 : (4 * (i : Int)).toNat = 4 * i := by omega
      have hk := (hP.of hA.1).1
      refine sX7_partOf_4 hc hr h1 h2 h3 h4 ⟨⟨by omega, ⟨by decide, by decide⟩, q.2⟩, fun c => ?_, fun _ => ⟨R3_s (by have := hA.2.2; omega), fun _ => sX7_partOf_40 hc hr kk, fun c => ?_⟩⟩
      · rw [e0, hk] at c
        exact absurd hA.2.1 c
      · have := hA.2.2
        exact absurd (by omega) c
    | succ j ih =>
      intro i hi
      have hp := hP.2.2.1 i (by omega)
      have q := hP.is hp 2
      have e0 : (4 * (i : Int)).toNat = 4 * i := by omega
      have i1 := ih (i + 1) (by omega)
      have hm := nA_mono (ps := ps) (i := i + 1) (j := t) (by omega)
      rw [take_s hp, nA_app, nA_one] at i1 hm
      have h17 : Ok X 0 0 17 [(0, .ref m), (1, .int (i3 (b : Int))), (2, .int (i3 ((b : Int) - nA (ps.take i)))), (3, .int (i3 i))] [] n h := by
        refine sX7_partOf_17 hc hr h1 h2 h3 h4 ⟨⟨by omega, ⟨by decide, by decide⟩, q.2⟩, fun c => ?_, fun c => ?_⟩
        · rw [e0] at c
          rw [if_neg c] at i1
          rw [Int.sub_zero]
          exact i1
        · rw [e0] at c
          rw [if_pos c] at i1
          rw [show (b : Int) - nA (ps.take i) - 1 = (b : Int) - ((nA (ps.take i) + 1 : Nat) : Int) by omega]
          exact i1
      refine sX7_partOf_4 hc hr h1 h2 h3 h4 ⟨⟨by omega, ⟨by decide, by decide⟩, q.2⟩, fun _ => h17, fun c => ⟨R3_s (by have := nA_take_le ps i; omega), fun d => ?_, fun _ => h17⟩⟩
      rw [e0] at c
      rw [if_pos c] at hm
      have := hA.2.2
      exact absurd d (by omega)
  have l0 := L t 0 (by omega)
  rw [show ((b : Int) - nA (ps.take 0)) = b by rw [List.take_zero]; show (b : Int) - ((0 : Nat) : Int) = b; omega] at l0
  exact sX7_partOf_0 hc hr l0
