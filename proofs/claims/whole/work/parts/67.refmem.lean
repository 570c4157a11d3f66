/-! part 67: the reference's memory; its unknowns -/
def mf (I : Nat → Int) : List Value := [.int (i3 (I 0)), .ref 129, .ref 130, .int (i3 (I 3)), .ref 131, .int (i3 (I 5)), .ref 132, .int (i3 (I 7)), .ref 133, .int (i3 (I 9)), .ref 134, .ref 135, .int (i3 (I 12)), .ref 136, .ref 137, .long (i6 (I 15)), .int (i3 (I 16)), .int (i3 (I 17)), .ref 138, .int (i3 (I 19)), .int (i3 (I 20)), .int (i3 (I 21)), .int (i3 (I 22)), .long (i6 (I 23))]
/-- arrays by number: 1 z, 2 aside, 3 history, 4 images, 5 buffer, 6 columnOf, 7 rules, 8 m, 9 voltages, 10 read -/
def mcell (j : Nat) (f : Nat → Int) : AE := match j with
  | 1 => ai 52 f
  | 2 => ai 52 f
  | 3 => ai 416 f
  | 4 => ai 104 f
  | 5 => ai 60 f
  | 6 => ai 7 f
  | 7 => al 42 f
  | 8 => al 36 f
  | 9 => al 7 f
  | _ => ai 80 f
def MAt (h : HP) (n : Nat) (I : Nat → Int) (F : Nat → Nat → Int) : Prop := At h n 128 (.inl (7, mf I)) ∧ ∀ j, 1 ≤ j ∧ j ≤ 10 → At h n (128 + j) (mcell j (F j))
section MAT
variable {h h' : HP} {n lo hi : Nat} {I : Nat → Int} {F : Nat → Nat → Int}
theorem MAt.fr (p : MAt h n I F) (f : Fr h h' lo hi) (d : 138 < lo ∨ hi < 128) : MAt h' n I F := ⟨p.1.fr f (by omega), fun j hj => (p.2 j hj).fr f (by omega)⟩
theorem MAt.o (p : MAt h n I F) : At h n 128 (.inl (7, mf I)) := p.1
theorem MAt.z (p : MAt h n I F) : At h n 129 (ai 52 (F 1)) := p.2 1 ⟨by decide, by decide⟩
theorem MAt.a (p : MAt h n I F) : At h n 130 (ai 52 (F 2)) := p.2 2 ⟨by decide, by decide⟩
theorem MAt.hs (p : MAt h n I F) : At h n 131 (ai 416 (F 3)) := p.2 3 ⟨by decide, by decide⟩
theorem MAt.im (p : MAt h n I F) : At h n 132 (ai 104 (F 4)) := p.2 4 ⟨by decide, by decide⟩
theorem MAt.b (p : MAt h n I F) : At h n 133 (ai 60 (F 5)) := p.2 5 ⟨by decide, by decide⟩
theorem MAt.c (p : MAt h n I F) : At h n 134 (ai 7 (F 6)) := p.2 6 ⟨by decide, by decide⟩
theorem MAt.r (p : MAt h n I F) : At h n 135 (al 42 (F 7)) := p.2 7 ⟨by decide, by decide⟩
theorem MAt.m (p : MAt h n I F) : At h n 136 (al 36 (F 8)) := p.2 8 ⟨by decide, by decide⟩
theorem MAt.v (p : MAt h n I F) : At h n 137 (al 7 (F 9)) := p.2 9 ⟨by decide, by decide⟩
theorem MAt.d (p : MAt h n I F) : At h n 138 (ai 80 (F 10)) := p.2 10 ⟨by decide, by decide⟩
theorem MAt.Z (p : MAt h n I F) : ZAt h n 128 (F 1) := ⟨mf I, 129, p.o, rfl, rfl, p.z⟩
theorem MAt.uo (p : MAt h n I F) (J : Nat → Int) : MAt (va_up h 128 (.inl (7, mf J))) n J F := ⟨p.1.it, fun j hj => (p.2 j hj).up (by omega)⟩
theorem MAt.ua (p : MAt h n I F) {j : Nat} (hj : 1 ≤ j ∧ j ≤ 10) (f : Nat → Int) : MAt (va_up h (128 + j) (mcell j f)) n I (va_up F j f) := ⟨p.1.up (by omega), fun i hi => by
  by_cases e : i = j
  · subst e
    rw [up_self]
    exact (p.2 i hi).it
  · rw [up_ne e]
    exact (p.2 i hi).up (by omega)⟩
theorem MAt.us (p : MAt h n I F) {fs : List Value} (J : Nat → Int) (e : fs = mf J) : MAt (va_up h 128 (.inl (7, fs))) n J F := by
  rw [e]
  exact p.uo J
theorem MAt.uu {j : Nat} {f : Nat → Int} (p : MAt h n I (va_up F j f)) (hj : 1 ≤ j ∧ j ≤ 10) (g : Nat → Int) : MAt (va_up h (128 + j) (mcell j g)) n I (va_up F j g) := by
  have := p.ua hj g
  rw [up_up F j f g] at this
  exact this
theorem MAt.u1 (p : MAt h n I F) {j : Nat} (hj : 1 ≤ j ∧ j ≤ 10) : MAt h n I (va_up F j (F j)) := ⟨p.1, fun i hi => by
  by_cases e : i = j
  · subst e
    rw [up_self]
    exact p.2 i hi
  · rw [up_ne e]
    exact p.2 i hi⟩
end MAT
theorem mf_s {I : Nat → Int} {k : Nat} {v : Int} {fs : List Value} (e : fs = mf (va_up I k v)) : fs = mf (va_up I k v) := e
/-- how many numbers below k have a property -/
def cn (f : Nat → Bool) : Nat → Nat
  | 0 => 0
  | k + 1 => cn f k + if f k = true then 1 else 0
theorem cn_s (f : Nat → Bool) (k : Nat) : cn f (k + 1) = cn f k + if f k = true then 1 else 0 := rfl
def ln (f : Nat → Bool) : Nat → List Nat
  | 0 => []
  | k + 1 => ln f k ++ if f k = true then [k] else []
theorem ln_len (f : Nat → Bool) : ∀ k, (ln f k).length = cn f k
  | 0 => rfl
  | k + 1 => by
    unfold ln cn
    rw [List.length_append, ln_len f k]
    split <;> rfl
theorem cn_mono (f : Nat → Bool) : ∀ {i j : Nat}, i ≤ j → cn f i ≤ cn f j
  | i, 0, h => by
    rw [show i = 0 by omega]
    exact Nat.le_refl _
  | i, j + 1, h => by
    by_cases e : i = j + 1
    · rw [e]
      exact Nat.le_refl _
    · have := cn_mono f (i := i) (j := j) (by omega)
      rw [cn_s]
      omega
theorem cn_lt {f : Nat → Bool} {i j : Nat} (h : i < j) (hf : f i = true) : cn f i < cn f j := by
  have := cn_mono f (i := i + 1) (j := j) (by omega)
  rw [cn_s, if_pos hf] at this
  omega
theorem cn_le (f : Nat → Bool) : ∀ k, cn f k ≤ k
  | 0 => Nat.le_refl _
  | k + 1 => by
    have := cn_le f k
    unfold cn
    split <;> omega
theorem cn_inj {f : Nat → Bool} {i j : Nat} (hi : f i = true) (hj : f j = true) (e : cn f i = cn f j) : i = j := by
  rcases Nat.lt_trichotomy i j with c | c | c
  · have := cn_lt c hi
    omega
  · exact c
  · have := cn_lt c hj
    omega
theorem cn_ex {f : Nat → Bool} {q : Nat} : ∀ {k : Nat}, q < cn f k → ∃ i, i < k ∧ f i = true ∧ cn f i = q
  | 0, h => absurd h (Nat.not_lt_zero _)
  | k + 1, h => by
    by_cases c : q < cn f k
    · obtain ⟨i, h1, h2⟩ := cn_ex c
      exact ⟨i, by omega, h2⟩
    · unfold cn at h
      by_cases d : f k = true
      · rw [if_pos d] at h
        exact ⟨k, by omega, d, by omega⟩
      · rw [if_neg d] at h
        omega
theorem cn_eq {f g : Nat → Bool} : ∀ {k : Nat}, (∀ i, i < k → f i = g i) → cn f k = cn g k
  | 0, _ => rfl
  | k + 1, h => by
    unfold cn
    rw [cn_eq (fun i hi => h i (by omega)), h k (by omega)]
theorem cn_and (f g : Nat → Bool) : ∀ k, cn f k = cn (fun i => f i && !g i) k + cn (fun i => f i && g i) k
  | 0 => rfl
  | k + 1 => by
    unfold cn
    rw [cn_and f g k]
    cases f k <;> cases g k <;> simp <;> omega
/-- the free nodes, their columns -/
def frF (ps : List Part) : Nat → Bool := fun k => freeB ps k
def colF (ps : List Part) (k : Nat) : Int := if frF ps k = true then cn (frF ps) k else -1
theorem fr0 (ps : List Part) : frF ps 0 = false := rfl
theorem fr6 (ps : List Part) : cn (frF ps) 7 ≤ 6 := by
  have h : ∀ k, cn (frF ps) (k + 1) ≤ k := by
    intro k
    induction k with
    | zero => exact Nat.le_refl _
    | succ k ih =>
      unfold cn
      split <;> omega
  exact h 6
set_option maxHeartbeats 4000000 in
set_option maxRecDepth 100000 in
theorem sX7_layUnknowns_0 {X : Xt} {n : Nat} {h : HP} {a0 : Nat} {fs1 : List Value} (hc : Cx X cX7_layUnknowns RX7 2 5 110) {K : KT} (hr : CxR X none K) (e1 : At h n a0 (.inl (7, fs1))) (z1 : fs1.length = 24)
    (P : Ok X 0 0 7 [(0, .ref a0), (1, .int (i3 0))] [] n (va_up h a0 (.inl (7, (fs1.set 9 (.int (i3 0))))))) :
    Ok X 0 0 0 [(0, .ref a0)] [] n h := by
  refine ok_aload_n (pc := 0) hc dX7_layUnknowns_0 rfl 0 rfl ?_
  refine ok_iconst (pc := 1) hc (v := i3 0) dX7_layUnknowns_1 (by decide) ?_
  refine ok_put (pc := 2) hc fl_X7_79 dX7_layUnknowns_2 e1.1 e1.2 (by simp [List.length_set, z1]) (fun _ => rfl) (fun _ => rfl) ?_
  refine ok_iconst (pc := 5) hc (v := i3 0) dX7_layUnknowns_5 (by decide) ?_
  refine ok_istore_n (pc := 6) hc (lv' := [(1, .int (i3 0)), (0, .ref a0)]) dX7_layUnknowns_6 rfl (by decide) rfl ?_
  refine ok_lv [1, 0] rfl ?_
  exact P

set_option maxHeartbeats 4000000 in
set_option maxRecDepth 100000 in
theorem sX7_layUnknowns_7 {X : Xt} {n : Nat} {h : HP} {a0 : Nat} {x1 : Int} (hc : Cx X cX7_layUnknowns RX7 2 5 110) {K : KT} (hr : CxR X none K) 
    (P : (R3 x1) ∧ (7 ≤ x1 → Ok X 0 0 63 [(0, .ref a0), (1, .int (i3 x1))] [] n h) ∧ (¬ 7 ≤ x1 → Ok X 0 0 13 [(0, .ref a0), (1, .int (i3 x1))] [] n h)) :
    Ok X 0 0 7 [(0, .ref a0), (1, .int (i3 x1))] [] n h := by
  refine ok_iload_n (pc := 7) hc dX7_layUnknowns_7 rfl 1 rfl ?_
  refine ok_bipush (pc := 8) hc (v := i3 7) dX7_layUnknowns_8 (by decide) ?_
  obtain ⟨r1, P⟩ := P
  refine zk_icmp_ge (pc := 10) (tgt := 63) hc dX7_layUnknowns_10 (by decide) r1 ⟨by decide, by decide⟩ (fun c => ?_) (fun c => ?_)
  · have P := P.1 c
    exact P
  · have P := P.2 c
    exact P

set_option maxHeartbeats 4000000 in
set_option maxRecDepth 100000 in
theorem sX7_layUnknowns_13 {X : Xt} {n : Nat} {h : HP} {a0 : Nat} {x1 : Int} {fs1 : List Value} {q2 : Nat} {q3 : Nat} {f4 : Nat → Int} {ps5 : List Part} {len6 : Nat} {f6 : Nat → Int} {iv7 : Int} (hc : Cx X cX7_layUnknowns RX7 2 5 110) {K : KT} (hr : CxR X none K) (e1 : At h n a0 (.inl (7, fs1))) (z1 : fs1.length = 24) (v1_10 : fs1[10]? = some (.ref q2)) (v1_1 : fs1[1]? = some (.ref q3)) (e4 : At h n q3 (ai 52 f4)) (hP5 : ZPs f4 ps5) (e6 : At h n q2 (ai len6 f6)) (v1_9 : fs1[9]? = some (.int (i3 iv7))) (ne8 : q3 ≠ q2)
    (P : (R3 x1) ∧ ((freeB ps5 x1) = false → (Ix x1 len6) ∧ (R3 x1) ∧ ((freeB ps5 x1) = false → Ok X 0 0 7 [(0, .ref a0), (1, .int (i3 (x1 + 1)))] [] n (va_up (va_up h q2 (ai len6 (va_up f6 (x1 : Int).toNat (-1)))) a0 (.inl (7, (fs1.set 9 (.int (i3 (iv7 + 0)))))))) ∧ ((freeB ps5 x1) = true → Ok X 0 0 7 [(0, .ref a0), (1, .int (i3 (x1 + 1)))] [] n (va_up (va_up h q2 (ai len6 (va_up f6 (x1 : Int).toNat (-1)))) a0 (.inl (7, (fs1.set 9 (.int (i3 (iv7 + 1))))))))) ∧ ((freeB ps5 x1) = true → (Ix x1 len6) ∧ (R3 x1) ∧ ((freeB ps5 x1) = false → Ok X 0 0 7 [(0, .ref a0), (1, .int (i3 (x1 + 1)))] [] n (va_up (va_up h q2 (ai len6 (va_up f6 (x1 : Int).toNat iv7))) a0 (.inl (7, (fs1.set 9 (.int (i3 (iv7 + 0)))))))) ∧ ((freeB ps5 x1) = true → Ok X 0 0 7 [(0, .ref a0), (1, .int (i3 (x1 + 1)))] [] n (va_up (va_up h q2 (ai len6 (va_up f6 (x1 : Int).toNat iv7))) a0 (.inl (7, (fs1.set 9 (.int (i3 (iv7 + 1)))))))))) :
    Ok X 0 0 13 [(0, .ref a0), (1, .int (i3 x1))] [] n h := by
  refine ok_aload_n (pc := 13) hc dX7_layUnknowns_13 rfl 0 rfl ?_
  refine ok_get (pc := 14) hc fl_X7_25 dX7_layUnknowns_14 e1.1 e1.2 v1_10 ?_
  refine ok_iload_n (pc := 17) hc dX7_layUnknowns_17 rfl 1 rfl ?_
  refine ok_aload_n (pc := 18) hc dX7_layUnknowns_18 rfl 0 rfl ?_
  refine ok_iload_n (pc := 19) hc dX7_layUnknowns_19 rfl 1 rfl ?_
  obtain ⟨r0, P⟩ := P
  refine ok_callV (pc := 20) (a := a0) (cb := 0) (sb := 0) (st := [.int (i3 x1), .ref q2]) hc [.int (i3 x1)] cv_X7_82 sp_X7_isFree (by decide) dX7_layUnknowns_20 rfl e1.1 e1.2 rfl rfl rfl (Nat.le_of_ble_eq_true rfl) (⟨_, _, _, _, rfl, ⟨_, _, ⟨e1.1, e1.2⟩, z1, v1_1, ⟨e4.1, e4.2⟩⟩, hP5, r0, rfl, ?_⟩)
  show Ok X 0 0 (20 + 3) [(0, .ref a0), (1, .int (i3 x1))] [.int (i3 (bz (freeB ps5 x1))), .int (i3 x1), .ref q2] n h
  refine zk_if_eq (pc := 23) (tgt := 33) hc dX7_layUnknowns_23 (by decide) R3_bz (fun c => ?_) (fun c => ?_)
  · have P := P.1 (bz_0.mp c)
    refine ok_iconst (pc := 33) hc (v := i3 (-1)) dX7_layUnknowns_33 (by decide) ?_
    obtain ⟨r, P⟩ := P
    refine zk_iast (pc := 34) hc dX7_layUnknowns_34 e6.1 e6.2 r ?_
    refine ok_aload_n (pc := 35) hc dX7_layUnknowns_35 rfl 0 rfl ?_
    refine ok_dup (pc := 36) hc dX7_layUnknowns_36 rfl ?_
    refine ok_get (pc := 37) hc fl_X7_79 dX7_layUnknowns_37 e1.1 ((up_ne (ne_oa e1.2 e6.2)).trans e1.2) v1_9 ?_
    refine ok_aload_n (pc := 40) hc dX7_layUnknowns_40 rfl 0 rfl ?_
    refine ok_iload_n (pc := 41) hc dX7_layUnknowns_41 rfl 1 rfl ?_
    obtain ⟨r0, P⟩ := P
    refine ok_callV (pc := 42) (a := a0) (cb := 0) (sb := 0) (st := [.int (i3 iv7), .ref a0]) hc [.int (i3 x1)] cv_X7_82 sp_X7_isFree (by decide) dX7_layUnknowns_42 rfl e1.1 ((up_ne (ne_oa e1.2 e6.2)).trans e1.2) rfl rfl rfl (Nat.le_of_ble_eq_true rfl) (⟨_, _, _, _, rfl, ⟨_, _, ⟨e1.1, ((up_ne (ne_oa e1.2 e6.2)).trans e1.2)⟩, z1, v1_1, ⟨e4.1, ((up_ne ne8).trans e4.2)⟩⟩, hP5, r0, rfl, ?_⟩)
    show Ok X 0 0 (42 + 3) [(0, .ref a0), (1, .int (i3 x1))] [.int (i3 (bz (freeB ps5 x1))), .int (i3 iv7), .ref a0] n (va_up h q2 (ai len6 (va_up f6 (x1 : Int).toNat (-1))))
    refine zk_if_eq (pc := 45) (tgt := 52) hc dX7_layUnknowns_45 (by decide) R3_bz (fun c => ?_) (fun c => ?_)
    · have P := P.1 (bz_0.mp c)
      refine ok_iconst (pc := 52) hc (v := i3 0) dX7_layUnknowns_52 (by decide) ?_
      refine zk_iadd (pc := 53) hc dX7_layUnknowns_53 ?_
      refine ok_put (pc := 54) hc fl_X7_79 dX7_layUnknowns_54 e1.1 ((up_ne (ne_oa e1.2 e6.2)).trans e1.2) (by simp [List.length_set, z1]) (fun _ => rfl) (fun _ => rfl) ?_
      refine zk_iinc (pc := 57) hc (q := 1) (x := x1) (lv' := [(1, .int (i3 (x1 + 1))), (0, .ref a0)]) dX7_layUnknowns_57 rfl (by decide) rfl ?_
      refine ok_goto (pc := 60) (tgt := 7) hc dX7_layUnknowns_60 (by decide) ?_
      refine ok_lv [1, 0] rfl ?_
      exact P
    · have P := P.2 (bz_1.mp c)
      refine ok_iconst (pc := 48) hc (v := i3 1) dX7_layUnknowns_48 (by decide) ?_
      refine ok_goto (pc := 49) (tgt := 53) hc dX7_layUnknowns_49 (by decide) ?_
      refine zk_iadd (pc := 53) hc dX7_layUnknowns_53 ?_
      refine ok_put (pc := 54) hc fl_X7_79 dX7_layUnknowns_54 e1.1 ((up_ne (ne_oa e1.2 e6.2)).trans e1.2) (by simp [List.length_set, z1]) (fun _ => rfl) (fun _ => rfl) ?_
      refine zk_iinc (pc := 57) hc (q := 1) (x := x1) (lv' := [(1, .int (i3 (x1 + 1))), (0, .ref a0)]) dX7_layUnknowns_57 rfl (by decide) rfl ?_
      refine ok_goto (pc := 60) (tgt := 7) hc dX7_layUnknowns_60 (by decide) ?_
      refine ok_lv [1, 0] rfl ?_
      exact P
  · have P := P.2 (bz_1.mp c)
    refine ok_aload_n (pc := 26) hc dX7_layUnknowns_26 rfl 0 rfl ?_
    refine ok_get (pc := 27) hc fl_X7_79 dX7_layUnknowns_27 e1.1 e1.2 v1_9 ?_
    refine ok_goto (pc := 30) (tgt := 34) hc dX7_layUnknowns_30 (by decide) ?_
    obtain ⟨r, P⟩ := P
    refine zk_iast (pc := 34) hc dX7_layUnknowns_34 e6.1 e6.2 r ?_
    refine ok_aload_n (pc := 35) hc dX7_layUnknowns_35 rfl 0 rfl ?_
    refine ok_dup (pc := 36) hc dX7_layUnknowns_36 rfl ?_
    refine ok_get (pc := 37) hc fl_X7_79 dX7_layUnknowns_37 e1.1 ((up_ne (ne_oa e1.2 e6.2)).trans e1.2) v1_9 ?_
    refine ok_aload_n (pc := 40) hc dX7_layUnknowns_40 rfl 0 rfl ?_
    refine ok_iload_n (pc := 41) hc dX7_layUnknowns_41 rfl 1 rfl ?_
    obtain ⟨r0, P⟩ := P
    refine ok_callV (pc := 42) (a := a0) (cb := 0) (sb := 0) (st := [.int (i3 iv7), .ref a0]) hc [.int (i3 x1)] cv_X7_82 sp_X7_isFree (by decide) dX7_layUnknowns_42 rfl e1.1 ((up_ne (ne_oa e1.2 e6.2)).trans e1.2) rfl rfl rfl (Nat.le_of_ble_eq_true rfl) (⟨_, _, _, _, rfl, ⟨_, _, ⟨e1.1, ((up_ne (ne_oa e1.2 e6.2)).trans e1.2)⟩, z1, v1_1, ⟨e4.1, ((up_ne ne8).trans e4.2)⟩⟩, hP5, r0, rfl, ?_⟩)
    show Ok X 0 0 (42 + 3) [(0, .ref a0), (1, .int (i3 x1))] [.int (i3 (bz (freeB ps5 x1))), .int (i3 iv7), .ref a0] n (va_up h q2 (ai len6 (va_up f6 (x1 : Int).toNat iv7)))
    refine zk_if_eq (pc := 45) (tgt := 52) hc dX7_layUnknowns_45 (by decide) R3_bz (fun c => ?_) (fun c => ?_)
    · have P := P.1 (bz_0.mp c)
      refine ok_iconst (pc := 52) hc (v := i3 0) dX7_layUnknowns_52 (by decide) ?_
      refine zk_iadd (pc := 53) hc dX7_layUnknowns_53 ?_
      refine ok_put (pc := 54) hc fl_X7_79 dX7_layUnknowns_54 e1.1 ((up_ne (ne_oa e1.2 e6.2)).trans e1.2) (by simp [List.length_set, z1]) (fun _ => rfl) (fun _ => rfl) ?_
      refine zk_iinc (pc := 57) hc (q := 1) (x := x1) (lv' := [(1, .int (i3 (x1 + 1))), (0, .ref a0)]) dX7_layUnknowns_57 rfl (by decide) rfl ?_
      refine ok_goto (pc := 60) (tgt := 7) hc dX7_layUnknowns_60 (by decide) ?_
      refine ok_lv [1, 0] rfl ?_
      exact P
    · have P := P.2 (bz_1.mp c)
      refine ok_iconst (pc := 48) hc (v := i3 1) dX7_layUnknowns_48 (by decide) ?_
      refine ok_goto (pc := 49) (tgt := 53) hc dX7_layUnknowns_49 (by decide) ?_
      refine zk_iadd (pc := 53) hc dX7_layUnknowns_53 ?_
      refine ok_put (pc := 54) hc fl_X7_79 dX7_layUnknowns_54 e1.1 ((up_ne (ne_oa e1.2 e6.2)).trans e1.2) (by simp [List.length_set, z1]) (fun _ => rfl) (fun _ => rfl) ?_
      refine zk_iinc (pc := 57) hc (q := 1) (x := x1) (lv' := [(1, .int (i3 (x1 + 1))), (0, .ref a0)]) dX7_layUnknowns_57 rfl (by decide) rfl ?_
      refine ok_goto (pc := 60) (tgt := 7) hc dX7_layUnknowns_60 (by decide) ?_
      refine ok_lv [1, 0] rfl ?_
      exact P

set_option maxHeartbeats 4000000 in
set_option maxRecDepth 100000 in
theorem sX7_layUnknowns_63 {X : Xt} {n : Nat} {h : HP} {a0 : Nat} {x1 : Int} (hc : Cx X cX7_layUnknowns RX7 2 5 110) {K : KT} (hr : CxR X none K) 
    (P : K (.inl none) n h) :
    Ok X 0 0 63 [(0, .ref a0), (1, .int (i3 x1))] [] n h := by
  exact ok_vret (st := []) (pc := 63) hc hr dX7_layUnknowns_63 P

def spec_X7_layUnknowns (args : List Value) (n : Nat) (h : HP) (K : KT) : Prop := ∃ (I : Nat → Int) (F : Nat → Nat → Int) (ps : List Part), args = [.ref 128] ∧ MAt h n I F ∧ ZPs (F 1) ps ∧ ∀ (h' : HP) (C : Nat → Int), MAt h' n (va_up I 9 (cn (frF ps) 7)) (va_up F 6 C) → (∀ k, k < 7 → C k = colF ps k) → Fr h h' 128 138 → K (.inl none) n h'
theorem sp_X7_layUnknowns : Sp yX7_layUnknowns cX7_layUnknowns 2 none 5 110 0 0 spec_X7_layUnknowns := by
  refine sp_intro (by decide) (by rintro args n h K ⟨I, F, ps, rfl, -⟩; exact Nat.le_of_ble_eq_true rfl) ?_
  rintro X args n h K hc hr ⟨I, F, ps, rfl, hM, hP, kk⟩
  have L : ∀ (j i : Nat) (hh : HP) (C : Nat → Int), i + j = 7 → MAt hh n (va_up I 9 (cn (frF ps) i)) (va_up F 6 C) → (∀ k, k < i → C k = colF ps k) → Fr h hh 128 138 → Ok X 0 0 7 [(0, .ref 128), (1, .int (i3 i))] [] n hh := by
    intro j
    induction j with
    | zero =>
      intro i hh C hi hM hC hf
      have : i = 7 := by omega
      subst this
      exact sX7_layUnknowns_7 hc hr ⟨R3_s (by omega), fun _ => sX7_layUnknowns_63 hc hr (kk hh C hM hC hf), fun c => absurd (by omega) c⟩
    | succ j ih =>
      intro i hh C hi hM hC hf
      have step : ∀ v : Int, v = colF ps i → MAt (va_up (va_up hh 134 (ai 7 (va_up C i v))) 128 (.inl (7, mf (va_up I 9 (cn (frF ps) (i + 1)))))) n (va_up I 9 (cn (frF ps) (i + 1))) (va_up F 6 (va_up C i v)) ∧ (∀ k, k < i + 1 → va_up C i v k = colF ps k) ∧ Fr h (va_up (va_up hh 134 (ai 7 (va_up C i v))) 128 (.inl (7, mf (va_up I 9 (cn (frF ps) (i + 1)))))) 128 138 := by
        intro v hv
        have m1 := (hM.ua (j := 6) (by omega) (va_up C i v)).uo (va_up I 9 (cn (frF ps) (i + 1)))
        rw [up_up] at m1
        refine ⟨m1, fun k hk => ?_, (hf.up (by omega)).up (by omega)⟩
        by_cases e : k = i
        · subst e
          rw [up_self, hv]
        · rw [up_ne e]
          exact hC k (by omega)
      refine sX7_layUnknowns_7 hc hr ⟨R3_s (by omega), fun c => absurd c (by omega), fun _ => ?_⟩
      refine sX7_layUnknowns_13 hc hr hM.o rfl rfl rfl hM.z hP hM.c rfl (by decide) ⟨R3_s (by omega), fun c => ⟨⟨by omega, by omega, by omega⟩, R3_s (by omega), fun _ => ?_, fun c2 => absurd (c.symm.trans c2) (by decide)⟩, fun c => ⟨⟨by omega, by omega, by omega⟩, R3_s (by omega), fun c2 => absurd (c.symm.trans c2) (by decide), fun _ => ?_⟩⟩
      · have hn : ¬ frF ps i = true := fun q => absurd (c.symm.trans q) (by decide)
        obtain ⟨m1, m2, m3⟩ := step (-1) (if_neg hn).symm
        have e : cn (frF ps) (i + 1) = cn (frF ps) i := by
          show cn _ i + _ = _
          rw [if_neg hn]
          rfl
        rw [e] at m1 m3
        have := ih (i + 1) _ _ (by omega) (by rw [e]; exact m1) m2 m3
        rw [show ((cn (frF ps) i : Nat) : Int) = (cn (frF ps) i : Int) + 0 by omega] at this
        exact this
      · have hn : frF ps i = true := c
        obtain ⟨m1, m2, m3⟩ := step (cn (frF ps) i : Nat) (if_pos hn).symm
        have e : cn (frF ps) (i + 1) = cn (frF ps) i + 1 := by
          show cn _ i + _ = _
          rw [if_pos hn]
        rw [e] at m1 m3
        have := ih (i + 1) _ _ (by omega) (by rw [e]; exact m1) m2 m3
        rw [show ((cn (frF ps) i + 1 : Nat) : Int) = (cn (frF ps) i : Int) + 1 by omega] at this
        exact this
  exact sX7_layUnknowns_0 hc hr hM.o rfl (L 7 0 _ (F 6) (by omega) (by
    have m1 := hM.uo (va_up I 9 0)
    refine ⟨m1.1, fun j hj => ?_⟩
    by_cases e : j = 6
    · subst e
      rw [up_self]
      exact m1.2 6 hj
    · rw [up_ne e]
      exact m1.2 j hj) (fun k hk => absurd hk (Nat.not_lt_zero k)) (Fr.rf.up (by omega)))
