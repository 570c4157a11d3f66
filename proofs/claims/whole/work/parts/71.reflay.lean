/-! part 71: the reference: as many rules as unknowns; layRules -/
theorem cn_or1 {f : Nat → Bool} {o : Nat} (hf : f o = false) : ∀ {n : Nat}, cn (fun k => decide (k = o) || f k) n = cn f n + if o < n then 1 else 0
  | 0 => rfl
  | n + 1 => by
    rw [cn_s, cn_s, cn_or1 hf]
    by_cases c : n = o
    · subst c
      rw [if_neg (Nat.lt_irrefl n), if_pos (Nat.lt_succ_self n), hf, decide_eq_true rfl]
      rfl
    · rw [decide_eq_false c, Bool.false_or]
      by_cases d : o < n
      · rw [if_pos d, if_pos (show o < n + 1 by omega)]
        omega
      · rw [if_neg d, if_neg (show ¬ o < n + 1 by omega)]
        omega
def outF (ps : List Part) : Nat → Bool := fun k => ps.any (fun p => outB p k)
theorem told_amp {p : Part} (h : PW p ∧ toldB p = true) (h2 : p.1 = 2) : (1 ≤ p.2.2.2 ∧ p.2.2.2 ≤ 6) ∧ (0 ≤ p.2.1 ∧ p.2.1 ≤ 6) ∧ (0 ≤ p.2.2.1 ∧ p.2.2.1 ≤ 6) ∧ p.2.1 ≠ p.2.2.1 ∧ p.2.2.2 ≠ p.2.1 ∧ p.2.2.2 ≠ p.2.2.1 := by
  obtain ⟨h1, h3⟩ := h
  unfold toldB at h3
  rw [if_neg (by omega)] at h3
  simp only [Bool.and_eq_true, Bool.or_eq_true, decide_eq_true_eq] at h3
  unfold PW at h1
  omega
theorem told_src {p : Part} (h : PW p ∧ toldB p = true) (h2 : p.1 = 1) : (1 ≤ p.2.1 ∧ p.2.1 ≤ 6) ∧ -200 ≤ p.2.2.2 ∧ p.2.2.2 ≤ 200 := by
  obtain ⟨h1, h3⟩ := h
  unfold toldB at h3
  rw [if_pos h2] at h3
  simp only [decide_eq_true_eq] at h3
  unfold PW at h1
  omega
theorem told_res {p : Part} (h : PW p ∧ toldB p = true) (h2 : p.1 = 0) : (0 ≤ p.2.1 ∧ p.2.1 ≤ 6) ∧ (0 ≤ p.2.2.1 ∧ p.2.2.1 ≤ 6) ∧ p.2.1 ≠ p.2.2.1 ∧ 1 ≤ p.2.2.2 ∧ p.2.2.2 ≤ 4 := by
  obtain ⟨h1, h3⟩ := h
  unfold toldB at h3
  rw [if_neg (by omega)] at h3
  simp only [Bool.and_eq_true, Bool.or_eq_true, decide_eq_true_eq] at h3
  unfold PW at h1
  omega
theorem drv_amp {p : Part} (h : p.1 = 2) : drv p = p.2.2.2 := by
  unfold drv
  rw [if_neg (by omega), if_pos h]
theorem drv_src {p : Part} (h : p.1 = 1) : drv p = p.2.1 := if_pos h
theorem outF_nA : ∀ {ps : List Part}, (∀ p ∈ ps, PW p ∧ toldB p = true) → PwD ps → cn (outF ps) 7 = nA ps
  | [], _, _ => rfl
  | p :: ps, hp, hw => by
    have ih := outF_nA (ps := ps) (fun q hq => hp q (List.mem_cons_of_mem _ hq)) (List.pairwise_cons.mp hw).2
    rw [show p :: ps = [p] ++ ps from rfl, nA_app, nA_one]
    by_cases c : p.1 = 2
    · have ht := told_amp (hp p List.mem_cons_self) c
      rw [if_pos c, ← ih]
      have hno : outF ps p.2.2.2.toNat = false := by
        cases e : outF ps p.2.2.2.toNat with
        | false => rfl
        | true =>
          obtain ⟨q, hq, hqe⟩ := List.any_eq_true.mp e
          unfold outB at hqe
          rw [Bool.and_eq_true, decide_eq_true_eq, decide_eq_true_eq] at hqe
          have h1 := (List.pairwise_cons.mp hw).1 q hq
          rw [drv_amp c, drv_amp hqe.1] at h1
          omega
      have := cn_or1 hno (n := 7)
      rw [if_pos (by omega)] at this
      rw [Nat.add_comm 1, ← this]
      refine cn_eq fun k _ => ?_
      show (p :: ps).any _ = _
      rw [List.any_cons]
      refine congr (congrArg or ?_) rfl
      unfold outB
      rw [decide_eq_true c, Bool.true_and]
      exact decide_eq_decide.mpr ⟨fun z => by omega, fun z => by omega⟩
    · rw [if_neg c, Nat.zero_add, ← ih]
      refine cn_eq fun k _ => ?_
      show (p :: ps).any _ = _
      rw [List.any_cons]
      unfold outB
      rw [decide_eq_false c, Bool.false_and, Bool.false_or]
      rfl
theorem PwD.ne {ps : List Part} (h : PwD ps) {i j : Nat} {p q : Part} (hp : ps[i]? = some p) (hq : ps[j]? = some q) (hij : i ≠ j) (h1 : p.1 ≠ 0) (h2 : q.1 ≠ 0) : drv p ≠ drv q := by
  have hi := (List.getElem?_eq_some_iff.mp hp)
  have hj := (List.getElem?_eq_some_iff.mp hq)
  obtain ⟨hi, ei⟩ := hi
  obtain ⟨hj, ej⟩ := hj
  have hw := List.pairwise_iff_getElem.mp h
  rcases Nat.lt_or_gt_of_ne hij with c | c
  · have := hw i j hi hj c
    rw [ei, ej] at this
    omega
  · have := hw j i hj hi c
    rw [ei, ej] at this
    omega
theorem out_free {ps : List Part} (h : GdP ps) {i : Nat} {p : Part} (hp : ps[i]? = some p) (h2 : p.1 = 2) : frF ps p.2.2.2.toNat = true := by
  have hm := List.mem_of_getElem? hp
  have ht := told_amp (h.2.2.1 p hm) h2
  have hat : atB p (p.2.2.2.toNat : Nat) = true := by
    unfold atB
    rw [decide_eq_true (show p.2.2.2 = ((p.2.2.2.toNat : Nat) : Int) by omega), decide_eq_true h2]
    simp
  rcases oth_src (k := 0) hp hat with c | c | c
  · omega
  · exact c
  · rcases srcI_r ps (p.2.2.2.toNat : Nat) with ⟨d, _⟩ | ⟨j, q, d1, d2, d3, d4⟩
    · exact absurd d c
    · have hne : i ≠ j := fun z => by
        rw [z, d2] at hp
        have := Option.some.inj hp
        rw [← this] at h2
        omega
      have := h.2.2.2.ne hp d2 hne (by omega) (by omega)
      rw [drv_amp h2, drv_src d3] at this
      omega
def kcB (ps : List Part) : Nat → Bool := fun k => frF ps k && !outF ps k
theorem kc_count {ps : List Part} (h : GdP ps) : cn (kcB ps) 7 + nA ps = cn (frF ps) 7 := by
  rw [cn_and (frF ps) (outF ps) 7, ← outF_nA h.2.2.1 h.2.2.2]
  refine congrArg _ (cn_eq fun k _ => ?_)
  cases e : outF ps k with
  | false => rw [Bool.and_false]
  | true =>
    obtain ⟨q, hq, hqe⟩ := List.any_eq_true.mp e
    unfold outB at hqe
    rw [Bool.and_eq_true, decide_eq_true_eq, decide_eq_true_eq] at hqe
    obtain ⟨j, hj, ej⟩ := List.mem_iff_getElem.mp hq
    have := out_free h (show ps[j]? = some q by rw [List.getElem?_eq_getElem hj, ej]) hqe.1
    rw [hqe.2, show ((k : Int)).toNat = k by omega] at this
    rw [this]
    rfl
/-- all the rules -/
def RwL (ps : List Part) (c t : Int) : List (Nat → Int) := (ln (kcB ps) 7).map (kclR ps) ++ (List.range (nA ps)).map (ampR ps c t)
theorem RwL_len {ps : List Part} (h : GdP ps) (c t : Int) : (RwL ps c t).length = cn (frF ps) 7 := by
  unfold RwL
  rw [List.length_append, List.length_map, List.length_map, ln_len, List.length_range, kc_count h]
def RowsAre (ps : List Part) (val : Nat → Int) (R : Nat → Int) (L : List (Nat → Int)) : Prop := (∀ i ρ, L[i]? = some ρ → RowIs ps val R i ρ) ∧ ∀ x, 7 * L.length ≤ x → x < 42 → R x = 0
theorem RowsAre.z {ps : List Part} {val R : Nat → Int} {L : List (Nat → Int)} (h : RowsAre ps val R L) (hl : L.length < 6) : RowIs ps val R L.length (fun _ => 0) := by
  intro q hq
  rw [h.2 _ (by omega) (by omega)]
  unfold Tr
  split
  · rw [la_s0 (fun j _ => Int.mul_zero _)]
    rfl
  · split <;> rfl
theorem RowsAre.app {ps : List Part} {val R R' : Nat → Int} {L : List (Nat → Int)} {ρ : Nat → Int} (h : RowsAre ps val R L) (hr : RowIs ps val R' L.length ρ) (hx : ∀ x, x < 7 * L.length ∨ 7 * L.length + 7 ≤ x → R' x = R x) : RowsAre ps val R' (L ++ [ρ]) := by
  refine ⟨fun i ρ' hi => ?_, fun x h1 h2 => ?_⟩
  · rw [List.getElem?_append] at hi
    by_cases c : i < L.length
    · rw [if_pos c] at hi
      intro q hq
      rw [hx _ (by omega)]
      exact h.1 i ρ' hi q hq
    · rw [if_neg c] at hi
      have e : i = L.length := by
        have := (List.getElem?_eq_some_iff.mp hi).1
        rw [List.length_singleton] at this
        omega
      subst e
      rw [Nat.sub_self] at hi
      have := Option.some.inj hi
      rw [← this]
      exact hr
  · rw [List.length_append, List.length_singleton] at h1
    rw [hx x (by omega)]
    exact h.2 x (by omega) h2
set_option maxHeartbeats 4000000 in
set_option maxRecDepth 100000 in
theorem sX7_layRules_0 {X : Xt} {n : Nat} {h : HP} {a0 : Nat} {x1 : Int} {x2 : Int} {fs1 : List Value} (hc : Cx X cX7_layRules RX7 4 6 131) {K : KT} (hr : CxR X none K) (e1 : At h n a0 (.inl (7, fs1))) (z1 : fs1.length = 24)
    (P : spec_X7_layUnknowns [.ref a0] n h (kc X 0 0 1 [(0, .ref a0), (1, .int (i3 x1)), (2, .int (i3 x2))] [] n)) :
    Ok X 0 0 0 [(0, .ref a0), (1, .int (i3 x1)), (2, .int (i3 x2))] [] n h := by
  refine ok_aload_n (pc := 0) hc dX7_layRules_0 rfl 0 rfl ?_
  exact ok_callV (pc := 1) (a := a0) (cb := 0) (sb := 0) (st := []) hc [] cv_X7_100 sp_X7_layUnknowns (by decide) dX7_layRules_1 rfl e1.1 e1.2 rfl rfl rfl (Nat.le_of_ble_eq_true rfl) P

set_option maxHeartbeats 4000000 in
set_option maxRecDepth 100000 in
theorem sX7_layRules_4 {X : Xt} {n : Nat} {h : HP} {a0 : Nat} {x1 : Int} {x2 : Int} (hc : Cx X cX7_layRules RX7 4 6 131) {K : KT} (hr : CxR X none K) 
    (P : Ok X 0 0 6 [(0, .ref a0), (1, .int (i3 x1)), (2, .int (i3 x2)), (3, .int (i3 0))] [] n h) :
    Ok X 0 0 4 [(0, .ref a0), (1, .int (i3 x1)), (2, .int (i3 x2))] [] n h := by
  refine ok_iconst (pc := 4) hc (v := i3 0) dX7_layRules_4 (by decide) ?_
  refine ok_istore_n (pc := 5) hc (lv' := [(3, .int (i3 0)), (0, .ref a0), (1, .int (i3 x1)), (2, .int (i3 x2))]) dX7_layRules_5 rfl (by decide) rfl ?_
  refine ok_lv [1, 2, 3, 0] rfl ?_
  exact P

set_option maxHeartbeats 4000000 in
set_option maxRecDepth 100000 in
theorem sX7_layRules_6 {X : Xt} {n : Nat} {h : HP} {a0 : Nat} {x1 : Int} {x2 : Int} {x3 : Int} {fs2 : List Value} {q3 : Nat} {len4 : Nat} {f4 : Nat → Int} (hc : Cx X cX7_layRules RX7 4 6 131) {K : KT} (hr : CxR X none K) (e2 : At h n a0 (.inl (7, fs2))) (z2 : fs2.length = 24) (v2_11 : fs2[11]? = some (.ref q3)) (e4 : At h n q3 (al len4 f4))
    (P : (R3 x3) ∧ (42 ≤ x3 → Ok X 0 0 25 [(0, .ref a0), (1, .int (i3 x1)), (2, .int (i3 x2)), (3, .int (i3 x3))] [] n h) ∧ (¬ 42 ≤ x3 → (Ix x3 len4) ∧ Ok X 0 0 6 [(0, .ref a0), (1, .int (i3 x1)), (2, .int (i3 x2)), (3, .int (i3 (x3 + 1)))] [] n (va_up h q3 (al len4 (va_up f4 (x3 : Int).toNat 0))))) :
    Ok X 0 0 6 [(0, .ref a0), (1, .int (i3 x1)), (2, .int (i3 x2)), (3, .int (i3 x3))] [] n h := by
  refine ok_iload_n (pc := 6) hc dX7_layRules_6 rfl 3 rfl ?_
  refine ok_bipush (pc := 7) hc (v := i3 42) dX7_layRules_7 (by decide) ?_
  obtain ⟨r1, P⟩ := P
  refine zk_icmp_ge (pc := 9) (tgt := 25) hc dX7_layRules_9 (by decide) r1 ⟨by decide, by decide⟩ (fun c => ?_) (fun c => ?_)
  · have P := P.1 c
    exact P
  · have P := P.2 c
    refine ok_aload_n (pc := 12) hc dX7_layRules_12 rfl 0 rfl ?_
    refine ok_get (pc := 13) hc fl_X7_28 dX7_layRules_13 e2.1 e2.2 v2_11 ?_
    refine ok_iload_n (pc := 16) hc dX7_layRules_16 rfl 3 rfl ?_
    refine ok_lconst (pc := 17) hc (v := i6 0) dX7_layRules_17 (by decide) ?_
    obtain ⟨r, P⟩ := P
    refine zk_last (pc := 18) hc dX7_layRules_18 e4.1 e4.2 r ?_
    refine zk_iinc (pc := 19) hc (q := 3) (x := x3) (lv' := [(3, .int (i3 (x3 + 1))), (0, .ref a0), (1, .int (i3 x1)), (2, .int (i3 x2))]) dX7_layRules_19 rfl (by decide) rfl ?_
    refine ok_goto (pc := 22) (tgt := 6) hc dX7_layRules_22 (by decide) ?_
    refine ok_lv [1, 2, 3, 0] rfl ?_
    exact P

set_option maxHeartbeats 4000000 in
set_option maxRecDepth 100000 in
theorem sX7_layRules_25 {X : Xt} {n : Nat} {h : HP} {a0 : Nat} {x1 : Int} {x2 : Int} {x3 : Int} {fs1 : List Value} (hc : Cx X cX7_layRules RX7 4 6 131) {K : KT} (hr : CxR X none K) (e1 : At h n a0 (.inl (7, fs1))) (z1 : fs1.length = 24)
    (P : Ok X 0 0 32 [(0, .ref a0), (1, .int (i3 x1)), (2, .int (i3 x2)), (3, .int (i3 1))] [] n (va_up h a0 (.inl (7, (fs1.set 12 (.int (i3 0))))))) :
    Ok X 0 0 25 [(0, .ref a0), (1, .int (i3 x1)), (2, .int (i3 x2)), (3, .int (i3 x3))] [] n h := by
  refine ok_aload_n (pc := 25) hc dX7_layRules_25 rfl 0 rfl ?_
  refine ok_iconst (pc := 26) hc (v := i3 0) dX7_layRules_26 (by decide) ?_
  refine ok_put (pc := 27) hc fl_X7_85 dX7_layRules_27 e1.1 e1.2 (by simp [List.length_set, z1]) (fun _ => rfl) (fun _ => rfl) ?_
  refine ok_iconst (pc := 30) hc (v := i3 1) dX7_layRules_30 (by decide) ?_
  refine ok_istore_n (pc := 31) hc (lv' := [(3, .int (i3 1)), (0, .ref a0), (1, .int (i3 x1)), (2, .int (i3 x2))]) dX7_layRules_31 rfl (by decide) rfl ?_
  refine ok_lv [1, 2, 3, 0] rfl ?_
  exact P

set_option maxHeartbeats 4000000 in
set_option maxRecDepth 100000 in
theorem sX7_layRules_32 {X : Xt} {n : Nat} {h : HP} {a0 : Nat} {x1 : Int} {x2 : Int} {x3 : Int} (hc : Cx X cX7_layRules RX7 4 6 131) {K : KT} (hr : CxR X none K) 
    (P : (R3 x3) ∧ (7 ≤ x3 → Ok X 0 0 75 [(0, .ref a0), (1, .int (i3 x1)), (2, .int (i3 x2)), (3, .int (i3 x3))] [] n h) ∧ (¬ 7 ≤ x3 → Ok X 0 0 38 [(0, .ref a0), (1, .int (i3 x1)), (2, .int (i3 x2)), (3, .int (i3 x3))] [] n h)) :
    Ok X 0 0 32 [(0, .ref a0), (1, .int (i3 x1)), (2, .int (i3 x2)), (3, .int (i3 x3))] [] n h := by
  refine ok_iload_n (pc := 32) hc dX7_layRules_32 rfl 3 rfl ?_
  refine ok_bipush (pc := 33) hc (v := i3 7) dX7_layRules_33 (by decide) ?_
  obtain ⟨r1, P⟩ := P
  refine zk_icmp_ge (pc := 35) (tgt := 75) hc dX7_layRules_35 (by decide) r1 ⟨by decide, by decide⟩ (fun c => ?_) (fun c => ?_)
  · have P := P.1 c
    exact P
  · have P := P.2 c
    exact P

set_option maxHeartbeats 4000000 in
set_option maxRecDepth 100000 in
theorem sX7_layRules_38 {X : Xt} {n : Nat} {h : HP} {a0 : Nat} {x1 : Int} {x2 : Int} {x3 : Int} {fs1 : List Value} {q2 : Nat} {f3 : Nat → Int} {ps4 : List Part} (hc : Cx X cX7_layRules RX7 4 6 131) {K : KT} (hr : CxR X none K) (e1 : At h n a0 (.inl (7, fs1))) (z1 : fs1.length = 24) (v1_1 : fs1[1]? = some (.ref q2)) (e3 : At h n q2 (ai 52 f3)) (hP4 : ZPs f3 ps4)
    (P : (R3 x3) ∧ ((freeB ps4 x3) = false → Ok X 0 0 69 [(0, .ref a0), (1, .int (i3 x1)), (2, .int (i3 x2)), (3, .int (i3 x3))] [] n h) ∧ ((freeB ps4 x3) = true → (R3 x3) ∧ ((ps4.any (fun p => outB p x3)) = true → Ok X 0 0 69 [(0, .ref a0), (1, .int (i3 x1)), (2, .int (i3 x2)), (3, .int (i3 x3))] [] n h) ∧ ((ps4.any (fun p => outB p x3)) = false → Ok X 0 0 54 [(0, .ref a0), (1, .int (i3 x1)), (2, .int (i3 x2)), (3, .int (i3 x3))] [] n h))) :
    Ok X 0 0 38 [(0, .ref a0), (1, .int (i3 x1)), (2, .int (i3 x2)), (3, .int (i3 x3))] [] n h := by
  refine ok_aload_n (pc := 38) hc dX7_layRules_38 rfl 0 rfl ?_
  refine ok_iload_n (pc := 39) hc dX7_layRules_39 rfl 3 rfl ?_
  obtain ⟨r0, P⟩ := P
  refine ok_callV (pc := 40) (a := a0) (cb := 0) (sb := 0) (st := []) hc [.int (i3 x3)] cv_X7_82 sp_X7_isFree (by decide) dX7_layRules_40 rfl e1.1 e1.2 rfl rfl rfl (Nat.le_of_ble_eq_true rfl) (⟨_, _, _, _, rfl, ⟨_, _, ⟨e1.1, e1.2⟩, z1, v1_1, ⟨e3.1, e3.2⟩⟩, hP4, r0, rfl, ?_⟩)
  show Ok X 0 0 (40 + 3) [(0, .ref a0), (1, .int (i3 x1)), (2, .int (i3 x2)), (3, .int (i3 x3))] [.int (i3 (bz (freeB ps4 x3)))] n h
  refine zk_if_eq (pc := 43) (tgt := 69) hc dX7_layRules_43 (by decide) R3_bz (fun c => ?_) (fun c => ?_)
  · have P := P.1 (bz_0.mp c)
    exact P
  · have P := P.2 (bz_1.mp c)
    refine ok_aload_n (pc := 46) hc dX7_layRules_46 rfl 0 rfl ?_
    refine ok_iload_n (pc := 47) hc dX7_layRules_47 rfl 3 rfl ?_
    obtain ⟨r0, P⟩ := P
    refine ok_callV (pc := 48) (a := a0) (cb := 0) (sb := 0) (st := []) hc [.int (i3 x3)] cv_X7_103 sp_X7_isOutput (by decide) dX7_layRules_48 rfl e1.1 e1.2 rfl rfl rfl (Nat.le_of_ble_eq_true rfl) (⟨_, _, _, _, rfl, ⟨_, _, ⟨e1.1, e1.2⟩, z1, v1_1, ⟨e3.1, e3.2⟩⟩, hP4, r0, rfl, ?_⟩)
    show Ok X 0 0 (48 + 3) [(0, .ref a0), (1, .int (i3 x1)), (2, .int (i3 x2)), (3, .int (i3 x3))] [.int (i3 (bz (ps4.any (fun p => outB p x3))))] n h
    refine zk_if_ne (pc := 51) (tgt := 69) hc dX7_layRules_51 (by decide) R3_bz (fun c => ?_) (fun c => ?_)
    · have P := P.1 (bz_1.mp c)
      exact P
    · have P := P.2 (bz_0.mp c)
      exact P

set_option maxHeartbeats 4000000 in
set_option maxRecDepth 100000 in
theorem sX7_layRules_54 {X : Xt} {n : Nat} {h : HP} {a0 : Nat} {x1 : Int} {x2 : Int} {x3 : Int} {fs2 : List Value} (hc : Cx X cX7_layRules RX7 4 6 131) {K : KT} (hr : CxR X none K) (e2 : At h n a0 (.inl (7, fs2))) (z2 : fs2.length = 24)
    (P : (R3 x2) ∧ (x2 = (-1) → spec_X7_currents [.ref a0, .int (i3 x3), .int (i3 0)] n h (kc X 0 0 66 [(0, .ref a0), (1, .int (i3 x1)), (2, .int (i3 x2)), (3, .int (i3 x3))] [] n)) ∧ (¬ x2 = (-1) → spec_X7_currents [.ref a0, .int (i3 x3), .int (i3 1)] n h (kc X 0 0 66 [(0, .ref a0), (1, .int (i3 x1)), (2, .int (i3 x2)), (3, .int (i3 x3))] [] n))) :
    Ok X 0 0 54 [(0, .ref a0), (1, .int (i3 x1)), (2, .int (i3 x2)), (3, .int (i3 x3))] [] n h := by
  refine ok_aload_n (pc := 54) hc dX7_layRules_54 rfl 0 rfl ?_
  refine ok_iload_n (pc := 55) hc dX7_layRules_55 rfl 3 rfl ?_
  refine ok_iload_n (pc := 56) hc dX7_layRules_56 rfl 2 rfl ?_
  refine ok_iconst (pc := 57) hc (v := i3 (-1)) dX7_layRules_57 (by decide) ?_
  obtain ⟨r1, P⟩ := P
  refine zk_icmp_eq (pc := 58) (tgt := 65) hc dX7_layRules_58 (by decide) r1 ⟨by decide, by decide⟩ (fun c => ?_) (fun c => ?_)
  · have P := P.1 c
    refine ok_iconst (pc := 65) hc (v := i3 0) dX7_layRules_65 (by decide) ?_
    exact ok_callV (pc := 66) (a := a0) (cb := 0) (sb := 0) (st := []) hc [.int (i3 x3), .int (i3 0)] cv_X7_106 sp_X7_currents (by decide) dX7_layRules_66 rfl e2.1 e2.2 rfl rfl rfl (Nat.le_of_ble_eq_true rfl) P
  · have P := P.2 c
    refine ok_iconst (pc := 61) hc (v := i3 1) dX7_layRules_61 (by decide) ?_
    refine ok_goto (pc := 62) (tgt := 66) hc dX7_layRules_62 (by decide) ?_
    exact ok_callV (pc := 66) (a := a0) (cb := 0) (sb := 0) (st := []) hc [.int (i3 x3), .int (i3 1)] cv_X7_106 sp_X7_currents (by decide) dX7_layRules_66 rfl e2.1 e2.2 rfl rfl rfl (Nat.le_of_ble_eq_true rfl) P

set_option maxHeartbeats 4000000 in
set_option maxRecDepth 100000 in
theorem sX7_layRules_69 {X : Xt} {n : Nat} {h : HP} {a0 : Nat} {x1 : Int} {x2 : Int} {x3 : Int} (hc : Cx X cX7_layRules RX7 4 6 131) {K : KT} (hr : CxR X none K) 
    (P : Ok X 0 0 32 [(0, .ref a0), (1, .int (i3 x1)), (2, .int (i3 x2)), (3, .int (i3 (x3 + 1)))] [] n h) :
    Ok X 0 0 69 [(0, .ref a0), (1, .int (i3 x1)), (2, .int (i3 x2)), (3, .int (i3 x3))] [] n h := by
  refine zk_iinc (pc := 69) hc (q := 3) (x := x3) (lv' := [(3, .int (i3 (x3 + 1))), (0, .ref a0), (1, .int (i3 x1)), (2, .int (i3 x2))]) dX7_layRules_69 rfl (by decide) rfl ?_
  refine ok_goto (pc := 72) (tgt := 32) hc dX7_layRules_72 (by decide) ?_
  refine ok_lv [1, 2, 3, 0] rfl ?_
  exact P

set_option maxHeartbeats 4000000 in
set_option maxRecDepth 100000 in
theorem sX7_layRules_75 {X : Xt} {n : Nat} {h : HP} {a0 : Nat} {x1 : Int} {x2 : Int} {x3 : Int} (hc : Cx X cX7_layRules RX7 4 6 131) {K : KT} (hr : CxR X none K) 
    (P : Ok X 0 0 77 [(0, .ref a0), (1, .int (i3 x1)), (2, .int (i3 x2)), (3, .int (i3 0))] [] n h) :
    Ok X 0 0 75 [(0, .ref a0), (1, .int (i3 x1)), (2, .int (i3 x2)), (3, .int (i3 x3))] [] n h := by
  refine ok_iconst (pc := 75) hc (v := i3 0) dX7_layRules_75 (by decide) ?_
  refine ok_istore_n (pc := 76) hc (lv' := [(3, .int (i3 0)), (0, .ref a0), (1, .int (i3 x1)), (2, .int (i3 x2))]) dX7_layRules_76 rfl (by decide) rfl ?_
  refine ok_lv [1, 2, 3, 0] rfl ?_
  exact P

set_option maxHeartbeats 4000000 in
set_option maxRecDepth 100000 in
theorem sX7_layRules_77 {X : Xt} {n : Nat} {h : HP} {a0 : Nat} {x1 : Int} {x2 : Int} {x3 : Int} {fs1 : List Value} {q2 : Nat} {f3 : Nat → Int} {ps4 : List Part} (hc : Cx X cX7_layRules RX7 4 6 131) {K : KT} (hr : CxR X none K) (e1 : At h n a0 (.inl (7, fs1))) (z1 : fs1.length = 24) (v1_1 : fs1[1]? = some (.ref q2)) (e3 : At h n q2 (ai 52 f3)) (hP4 : ZPs f3 ps4)
    (P : (R3 x3) ∧ (R3 (nA ps4 : Int)) ∧ ((nA ps4 : Int) ≤ x3 → K (.inl none) n h) ∧ (¬ (nA ps4 : Int) ≤ x3 → spec_X7_amplifierRule [.ref a0, .int (i3 x3), .int (i3 x1), .int (i3 x2)] n h (kc X 0 0 89 [(0, .ref a0), (1, .int (i3 x1)), (2, .int (i3 x2)), (3, .int (i3 x3))] [] n))) :
    Ok X 0 0 77 [(0, .ref a0), (1, .int (i3 x1)), (2, .int (i3 x2)), (3, .int (i3 x3))] [] n h := by
  refine ok_iload_n (pc := 77) hc dX7_layRules_77 rfl 3 rfl ?_
  refine ok_aload_n (pc := 78) hc dX7_layRules_78 rfl 0 rfl ?_
  refine ok_callV (pc := 79) (a := a0) (cb := 0) (sb := 0) (st := [.int (i3 x3)]) hc [] cv_X7_64 sp_X7_amplifiers (by decide) dX7_layRules_79 rfl e1.1 e1.2 rfl rfl rfl (Nat.le_of_ble_eq_true rfl) (⟨_, _, _, rfl, ⟨_, _, ⟨e1.1, e1.2⟩, z1, v1_1, ⟨e3.1, e3.2⟩⟩, hP4, rfl, ?_⟩)
  show Ok X 0 0 (79 + 3) [(0, .ref a0), (1, .int (i3 x1)), (2, .int (i3 x2)), (3, .int (i3 x3))] [.int (i3 (nA ps4 : Int)), .int (i3 x3)] n h
  obtain ⟨r5, P⟩ := P
  obtain ⟨r6, P⟩ := P
  refine zk_icmp_ge (pc := 82) (tgt := 98) hc dX7_layRules_82 (by decide) r5 r6 (fun c => ?_) (fun c => ?_)
  · have P := P.1 c
    exact ok_vret (st := []) (pc := 98) hc hr dX7_layRules_98 P
  · have P := P.2 c
    refine ok_aload_n (pc := 85) hc dX7_layRules_85 rfl 0 rfl ?_
    refine ok_iload_n (pc := 86) hc dX7_layRules_86 rfl 3 rfl ?_
    refine ok_iload_n (pc := 87) hc dX7_layRules_87 rfl 1 rfl ?_
    refine ok_iload_n (pc := 88) hc dX7_layRules_88 rfl 2 rfl ?_
    exact ok_callV (pc := 89) (a := a0) (cb := 0) (sb := 0) (st := []) hc [.int (i3 x3), .int (i3 x1), .int (i3 x2)] cv_X7_110 sp_X7_amplifierRule (by decide) dX7_layRules_89 rfl e1.1 e1.2 rfl rfl rfl (Nat.le_of_ble_eq_true rfl) P

set_option maxHeartbeats 4000000 in
set_option maxRecDepth 100000 in
theorem sX7_layRules_92 {X : Xt} {n : Nat} {h : HP} {a0 : Nat} {x1 : Int} {x2 : Int} {x3 : Int} (hc : Cx X cX7_layRules RX7 4 6 131) {K : KT} (hr : CxR X none K) 
    (P : Ok X 0 0 77 [(0, .ref a0), (1, .int (i3 x1)), (2, .int (i3 x2)), (3, .int (i3 (x3 + 1)))] [] n h) :
    Ok X 0 0 92 [(0, .ref a0), (1, .int (i3 x1)), (2, .int (i3 x2)), (3, .int (i3 x3))] [] n h := by
  refine zk_iinc (pc := 92) hc (q := 3) (x := x3) (lv' := [(3, .int (i3 (x3 + 1))), (0, .ref a0), (1, .int (i3 x1)), (2, .int (i3 x2))]) dX7_layRules_92 rfl (by decide) rfl ?_
  refine ok_goto (pc := 95) (tgt := 77) hc dX7_layRules_95 (by decide) ?_
  refine ok_lv [1, 2, 3, 0] rfl ?_
  exact P

def spec_X7_layRules (args : List Value) (n : Nat) (h : HP) (K : KT) : Prop := ∃ (I : Nat → Int) (F : Nat → Nat → Int) (ps : List Part) (c t : Int), args = [.ref 128, .int (i3 c), .int (i3 t)] ∧ MAt h n I F ∧ ZPs (F 1) ps ∧ GdP ps ∧ ((0 ≤ c ∧ c ≤ 26) ∧ -1 ≤ t ∧ t ≤ 2 ∧ 0 ≤ F 1 49 ∧ F 1 49 ≤ 1000) ∧ ∀ (h' : HP) (C R : Nat → Int), MAt h' n (va_up (va_up I 9 (cn (frF ps) 7)) 12 (cn (frF ps) 7)) (va_up (va_up F 6 C) 7 R) → (∀ k, k < 7 → C k = colF ps k) → RowsAre ps (valF ps (offT t) (F 1 49)) R (RwL ps c t) → Fr h h' 128 138 → K (.inl none) n h'
theorem sp_X7_layRules : Sp yX7_layRules cX7_layRules 4 none 6 131 0 0 spec_X7_layRules := by
  refine sp_intro (by decide) (by rintro args n h K ⟨I, F, ps, c, t, rfl, -⟩; exact Nat.le_of_ble_eq_true rfl) ?_
  rintro X args n h K hc hr ⟨I, F, ps, c, t, rfl, hM0, hP, hG, ⟨hcr, ht1, ht2, hra⟩, kk⟩
  have hu := fr6 ps
  have hkc := kc_count hG
  refine sX7_layRules_0 hc hr hM0.o rfl ⟨I, F, ps, rfl, hM0, hP, fun h1 C hM1 hC f1 => ⟨rfl, ?_⟩⟩
  refine sX7_layRules_4 hc hr ?_
  have hM1 := hM1.u1 (j := 7) (by omega)
  generalize hI1 : va_up I 9 (cn (frF ps) 7 : Int) = I1 at hM1 kk
  generalize hF1 : va_up F 6 C = F1 at hM1 kk
  have hF11 : F1 1 = F 1 := by rw [← hF1]; rfl
  have hF16 : ∀ k, k < 7 → F1 6 k = colF ps k := by rw [← hF1]; exact hC
  have hP1 : ZPs (F1 1) ps := by rw [hF11]; exact hP
  have hoff : offT t = 0 ∨ offT t = 1 := by
    unfold offT
    split
    · exact Or.inl rfl
    · exact Or.inr rfl
  -- the amplifiers
  have LA : ∀ (j a : Nat) (hh : HP) (R : Nat → Int), a + j = nA ps → MAt hh n (va_up I1 12 ((cn (kcB ps) 7 + a : Nat) : Int)) (va_up F1 7 R) → RowsAre ps (valF ps (offT t) (F 1 49)) R ((ln (kcB ps) 7).map (kclR ps) ++ (List.range a).map (ampR ps c t)) → Fr h hh 128 138 → Ok X 0 0 77 [(0, .ref 128), (1, .int (i3 c)), (2, .int (i3 t)), (3, .int (i3 a))] [] n hh := by
    intro j
    induction j with
    | zero =>
      intro a hh R ha hM hR hf
      have : a = nA ps := by omega
      subst this
      have h3 := nA_le ps
      have hl := hP.2.1
      refine sX7_layRules_77 hc hr hM.o rfl rfl hM.z hP1 ⟨R3_s (by omega), R3_s (by omega), fun _ => ?_, fun z => absurd (Int.le_refl _) z⟩
      rw [hkc] at hM
      exact kk hh C R (by rw [hF1]; exact hM) hC hR hf
    | succ j ih =>
      intro a hh R ha hM hR hf
      have h3 := nA_le ps
      have hl := hP.2.1
      have elen : ((ln (kcB ps) 7).map (kclR ps) ++ (List.range a).map (ampR ps c t)).length = cn (kcB ps) 7 + a := by rw [List.length_append, List.length_map, List.length_map, ln_len, List.length_range]
      refine sX7_layRules_77 hc hr hM.o rfl rfl hM.z hP1 ⟨R3_s (by omega), R3_s (by omega), fun z => absurd z (by omega), fun _ => ?_⟩
      have hz := hR.z (by rw [elen]; omega)
      rw [elen] at hz
      refine ⟨_, va_up F1 7 R, ps, a, cn (kcB ps) 7 + a, c, t, rfl, hM, hP1, hF16, ⟨by omega, up_self, by omega⟩, ⟨hcr, ht1, ht2, by show 0 ≤ F1 1 49 ∧ F1 1 49 ≤ 1000; rw [hF11]; exact hra⟩, ?_, fun h2 R' hM2 hR2 hx f2 => ⟨rfl, ?_⟩⟩
      · show RowIs ps (valF ps (offT t) (F1 1 49)) R _ _
        rw [hF11]
        exact hz
      · rw [up_up, up_up] at hM2
        have hR2' : RowIs ps (valF ps (offT t) (F 1 49)) R' (cn (kcB ps) 7 + a) (ampR ps c t a) := by
          have : RowIs ps (valF ps (offT t) (F1 1 49)) R' (cn (kcB ps) 7 + a) (ampR ps c t a) := hR2
          rw [hF11] at this
          exact this
        refine sX7_layRules_92 hc hr (ih (a + 1) h2 R' (by omega) hM2 ?_ (hf.tr f2))
        have := hR.app (R' := R') (ρ := ampR ps c t a) (by rw [elen]; exact hR2') (by rw [elen]; exact hx)
        rw [List.range_succ, List.map_append, ← List.append_assoc]
        exact this
  -- the nodes
  have LK : ∀ (j k : Nat) (hh : HP) (R : Nat → Int), k + j = 7 → MAt hh n (va_up I1 12 ((cn (kcB ps) k : Nat) : Int)) (va_up F1 7 R) → RowsAre ps (valF ps (offT t) (F 1 49)) R ((ln (kcB ps) k).map (kclR ps)) → Fr h hh 128 138 → Ok X 0 0 32 [(0, .ref 128), (1, .int (i3 c)), (2, .int (i3 t)), (3, .int (i3 k))] [] n hh := by
    intro j
    induction j with
    | zero =>
      intro k hh R hk hM hR hf
      have : k = 7 := by omega
      subst this
      refine sX7_layRules_32 hc hr ⟨R3_s (by omega), fun _ => sX7_layRules_75 hc hr (LA (nA ps) 0 hh R (by omega) hM ?_ hf), fun z => absurd (by omega) z⟩
      rw [List.range_zero, List.map_nil, List.append_nil]
      exact hR
    | succ j ih =>
      intro k hh R hk hM hR hf
      have skip : kcB ps k = false → Ok X 0 0 69 [(0, .ref 128), (1, .int (i3 c)), (2, .int (i3 t)), (3, .int (i3 k))] [] n hh := by
        intro z
        have e1 : cn (kcB ps) (k + 1) = cn (kcB ps) k := by rw [cn_s, z]; rfl
        have e2 : ln (kcB ps) (k + 1) = ln (kcB ps) k := by
          show ln _ k ++ _ = _
          rw [z]
          exact List.append_nil _
        exact sX7_layRules_69 hc hr (ih (k + 1) hh R (by omega) (by rw [e1]; exact hM) (by rw [e2]; exact hR) hf)
      refine sX7_layRules_32 hc hr ⟨R3_s (by omega), fun z => absurd z (by omega), fun _ => ?_⟩
      refine sX7_layRules_38 hc hr hM.o rfl rfl hM.z hP1 ⟨R3_s (by omega), fun z => skip ?_, fun z => ⟨R3_s (by omega), fun z2 => skip ?_, fun z2 => ?_⟩⟩
      · show (freeB ps k && _) = false
        rw [z]
        rfl
      · show (_ && !(ps.any _)) = false
        rw [z2]
        exact Bool.and_false _
      · have hkb : kcB ps k = true := by
          show (freeB ps k && !(ps.any _)) = true
          rw [z, z2]
          rfl
        have hlt := cn_lt (f := kcB ps) (i := k) (j := 7) (by omega) hkb
        have elen : ((ln (kcB ps) k).map (kclR ps)).length = cn (kcB ps) k := by rw [List.length_map, ln_len]
        have hz := hR.z (by rw [elen]; omega)
        rw [elen] at hz
        have h54 : spec_X7_currents [.ref 128, .int (i3 k), .int (i3 (offT t))] n hh (kc X 0 0 66 [(0, .ref 128), (1, .int (i3 c)), (2, .int (i3 t)), (3, .int (i3 k))] [] n) := by
          refine ⟨_, va_up F1 7 R, ps, k, cn (kcB ps) k, offT t, F 1 49, rfl, hM, hP1, hF16, ⟨by omega, z, up_self, by omega⟩, hoff, hz, fun h2 R' hM2 hR2 hx f2 => ⟨rfl, ?_⟩⟩
          rw [up_up, up_up] at hM2
          have e1 : cn (kcB ps) (k + 1) = cn (kcB ps) k + 1 := by rw [cn_s, if_pos hkb]
          have e2 : ln (kcB ps) (k + 1) = ln (kcB ps) k ++ [k] := by
            show ln _ k ++ _ = _
            rw [if_pos hkb]
          refine sX7_layRules_69 hc hr (ih (k + 1) h2 R' (by omega) (by rw [e1]; exact hM2) ?_ (hf.tr f2))
          have := hR.app (R' := R') (ρ := kclR ps k) (by rw [elen]; exact hR2) (by rw [elen]; exact hx)
          rw [e2, List.map_append]
          exact this
        refine sX7_layRules_54 hc hr hM.o rfl ⟨R3_s (by omega), fun q => ?_, fun q => ?_⟩
        · rw [show offT t = 0 by unfold offT; rw [if_pos q]] at h54
          exact h54
        · rw [show offT t = 1 by unfold offT; rw [if_neg q]] at h54
          exact h54
  -- the rows are cleared first
  have LZ : ∀ (j i : Nat) (hh : HP) (R : Nat → Int), i + j = 42 → MAt hh n I1 (va_up F1 7 R) → (∀ x, x < i → R x = 0) → Fr h hh 128 138 → Ok X 0 0 6 [(0, .ref 128), (1, .int (i3 c)), (2, .int (i3 t)), (3, .int (i3 i))] [] n hh := by
    intro j
    induction j with
    | zero =>
      intro i hh R hi hM hR hf
      have : i = 42 := by omega
      subst this
      refine sX7_layRules_6 hc hr hM.o rfl rfl hM.r ⟨R3_s (by omega), fun _ => ?_, fun z => absurd (by omega) z⟩
      refine sX7_layRules_25 hc hr hM.o rfl (LK 6 1 _ R (by omega) ?_ ?_ (hf.up (by omega)))
      · exact hM.uo (va_up I1 12 0)
      · exact ⟨fun i ρ h => by simp [ln, kcB, fr0] at h, fun x _ h => hR x h⟩
    | succ j ih =>
      intro i hh R hi hM hR hf
      refine sX7_layRules_6 hc hr hM.o rfl rfl hM.r ⟨R3_s (by omega), fun z => absurd z (by omega), fun _ => ⟨⟨by omega, by omega, by omega⟩, ?_⟩⟩
      refine ih (i + 1) _ (va_up R i 0) (by omega) (hM.uu (j := 7) (by omega) _) (fun x hx => ?_) (hf.up (by omega))
      by_cases e : x = i
      · subst e
        exact up_self
      · rw [up_ne e]
        exact hR x (by omega)
  exact LZ 42 0 h1 (F1 7) (by omega) hM1 (fun x h => absurd h (Nat.not_lt_zero x)) f1
