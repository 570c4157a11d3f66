/-! part 32: class Bench: solve, takeOver, choose, numerator -/
def Fit (ps : List Part) : Prop := ∀ m : Nat, m < 2 ^ nA ps → EOk 7 0 1 (rowsM (m : Nat) ps)
def AmpAt (ps : List Part) (a i : Nat) (p : Part) : Prop := ps[i]? = some p ∧ p.1 = 2 ∧ nA (ps.take i) = a
def amps (ps : List Part) : List Part := ps.filter (fun p => decide (p.1 = 2))
theorem amps_len (ps : List Part) : (amps ps).length = nA ps := List.countP_eq_length_filter.symm
theorem AmpAt.lt {ps : List Part} {a i : Nat} {p : Part} (h : AmpAt ps a i p) : i < ps.length ∧ a < nA ps := by
  obtain ⟨h1, h2, h3⟩ := h
  have hi := (List.getElem?_eq_some_iff.mp h1).1
  refine ⟨hi, ?_⟩
  have e : nA ps = nA (ps.take i) + nA (ps.drop i) := by rw [← nA_app, List.take_append_drop]
  rw [drop_s h1, show p :: ps.drop (i + 1) = [p] ++ ps.drop (i + 1) from rfl, nA_app, nA_one, if_pos h2] at e
  omega
theorem AmpAt.ex : ∀ {ps : List Part} {a : Nat}, a < nA ps → ∃ i p, AmpAt ps a i p
  | [], a, h => absurd h (Nat.not_lt_zero a)
  | q :: ps, a, h => by
    have e : nA (q :: ps) = nA [q] + nA ps := nA_app [q] ps
    rw [nA_one] at e
    by_cases c : q.1 = 2
    · rw [if_pos c] at e
      cases a with
      | zero => exact ⟨0, q, rfl, c, rfl⟩
      | succ a =>
        obtain ⟨i, p, h1, h2, h3⟩ := AmpAt.ex (ps := ps) (a := a) (by omega)
        refine ⟨i + 1, p, h1, h2, ?_⟩
        rw [List.take_succ_cons, show q :: ps.take i = [q] ++ ps.take i from rfl, nA_app, nA_one, if_pos c, h3]
        omega
    · rw [if_neg c] at e
      obtain ⟨i, p, h1, h2, h3⟩ := AmpAt.ex (ps := ps) (a := a) (by omega)
      refine ⟨i + 1, p, h1, h2, ?_⟩
      rw [List.take_succ_cons, show q :: ps.take i = [q] ++ ps.take i from rfl, nA_app, nA_one, if_neg c, h3]
      omega
theorem AmpAt.amps : ∀ {ps : List Part} {a i : Nat} {p : Part}, AmpAt ps a i p → (_root_.Jvm.Pilot.@@N@@.amps ps)[a]? = some p
  | [], a, i, p, h => by simp [AmpAt] at h
  | q :: ps, a, i, p, h => by
    obtain ⟨h1, h2, h3⟩ := h
    unfold _root_.Jvm.Pilot.@@N@@.amps
    rw [List.filter_cons]
    cases i with
    | zero =>
      have e := Option.some.inj h1
      subst e
      have : a = 0 := h3.symm
      subst this
      rw [if_pos (decide_eq_true h2)]
      rfl
    | succ i =>
      rw [List.take_succ_cons, show q :: ps.take i = [q] ++ ps.take i from rfl, nA_app, nA_one] at h3
      by_cases c : q.1 = 2
      · rw [if_pos c] at h3
        rw [if_pos (decide_eq_true c)]
        cases a with
        | zero => omega
        | succ a => exact AmpAt.amps (ps := ps) (a := a) (i := i) ⟨h1, h2, by omega⟩
      · rw [if_neg c] at h3
        rw [if_neg (by simp [c])]
        exact AmpAt.amps (ps := ps) (a := a) (i := i) ⟨h1, h2, by omega⟩
def BnC (h : HP) (n b : Nat) (S : Stt) (A : Int) (F : Nat → Int) (D : Nat → Int) (N : Nat → Nat → Int) (sat rsn cul : Int) (G : Nat → Int) : Prop := At h n b (.inl (0, [.ref (b + 1), .ref (b + 7), .int (i3 A), .ref (b + 8), .ref (b + 27), .int (i3 sat), .int (i3 rsn), .int (i3 cul)])) ∧ StA h n (b + 1) S ∧ At h n (b + 7) (ai 3 F) ∧ RpA h n (b + 8) D N ∧ At h n (b + 27) (al 7 G)
theorem nA_take_le (ps : List Part) (i : Nat) : nA (ps.take i) ≤ nA ps := by
  have e : nA ps = nA (ps.take i) + nA (ps.drop i) := by rw [← nA_app, List.take_append_drop]
  omega
section BNC
variable {h h' : HP} {n b lo hi : Nat} {S : Stt} {A sat rsn cul : Int} {F D G : Nat → Int} {N : Nat → Nat → Int}
theorem BnC.fr (p : BnC h n b S A F D N sat rsn cul G) (f : Fr h h' lo hi) (d : b + 27 < lo ∨ hi < b) : BnC h' n b S A F D N sat rsn cul G := ⟨p.1.fr f (by omega), p.2.1.fr f (by omega), p.2.2.1.fr f (by omega), p.2.2.2.1.fr f (by omega), p.2.2.2.2.fr f (by omega)⟩
theorem BnC.ub (p : BnC h n b S A F D N sat rsn cul G) (A' sat' rsn' cul' : Int) : BnC (va_up h b (.inl (0, [.ref (b + 1), .ref (b + 7), .int (i3 A'), .ref (b + 8), .ref (b + 27), .int (i3 sat'), .int (i3 rsn'), .int (i3 cul')]))) n b S A' F D N sat' rsn' cul' G := by
  have f : Fr h (va_up h b (.inl (0, [.ref (b + 1), .ref (b + 7), .int (i3 A'), .ref (b + 8), .ref (b + 27), .int (i3 sat'), .int (i3 rsn'), .int (i3 cul')]))) b b := Fr.rf.up (by omega)
  exact ⟨p.1.it, p.2.1.fr f (by omega), p.2.2.1.fr f (by omega), p.2.2.2.1.fr f (by omega), p.2.2.2.2.fr f (by omega)⟩
theorem BnC.uf (p : BnC h n b S A F D N sat rsn cul G) (F' : Nat → Int) : BnC (va_up h (b + 7) (ai 3 F')) n b S A F' D N sat rsn cul G := by
  have f : Fr h (va_up h (b + 7) (ai 3 F')) (b + 7) (b + 7) := Fr.rf.up (by omega)
  exact ⟨p.1.fr f (by omega), p.2.1.fr f (by omega), p.2.2.1.it, p.2.2.2.1.fr f (by omega), p.2.2.2.2.fr f (by omega)⟩
theorem BnC.ug (p : BnC h n b S A F D N sat rsn cul G) (G' : Nat → Int) : BnC (va_up h (b + 27) (al 7 G')) n b S A F D N sat rsn cul G' := by
  have f : Fr h (va_up h (b + 27) (al 7 G')) (b + 27) (b + 27) := Fr.rf.up (by omega)
  exact ⟨p.1.fr f (by omega), p.2.1.fr f (by omega), p.2.2.1.fr f (by omega), p.2.2.2.1.fr f (by omega), p.2.2.2.2.it⟩
end BNC
theorem RpA.obj {h : HP} {n r : Nat} {D : Nat → Int} {N : Nat → Nat → Int} (p : RpA h n r D N) : At h n r (.inl (3, [.ref (r + 1), .ref (r + 2), .ref (r + 11)])) := by
  obtain ⟨M, d, g, v, h1, -⟩ := p
  obtain ⟨_, _, _, hS, -⟩ := h1.s
  exact hS.1
/-- a Bench, whatever it holds -/
def BnW (h : HP) (n b : Nat) (S : Stt) : Prop := ∃ A F D N sat rsn cul G, BnC h n b S A F D N sat rsn cul G
/-- a Bench whose replies are its state's -/
def BnK (h : HP) (n b : Nat) (S : Stt) (sat rsn cul : Int) (G : Nat → Int) : Prop := ∃ F D N, BnC h n b S (nA S.1) F D N sat rsn cul G ∧ nA S.1 ≤ 3 ∧ Fit S.1 ∧ (∀ a i p, AmpAt S.1 a i p → F a = i) ∧ ∀ m, m < 2 ^ nA S.1 → D m = solD S.1 m ∧ N m = solN S.1 m
def BnA (h : HP) (n b : Nat) (S : Stt) : Prop := ∃ sat rsn cul G, BnK h n b S sat rsn cul G
theorem BnK.a {h : HP} {n b : Nat} {S : Stt} {sat rsn cul : Int} {G : Nat → Int} (p : BnK h n b S sat rsn cul G) : BnA h n b S := ⟨_, _, _, _, p⟩
theorem BnA.w {h : HP} {n b : Nat} {S : Stt} (p : BnA h n b S) : BnW h n b S := by
  obtain ⟨_, _, _, _, _, _, _, q, -⟩ := p
  exact ⟨_, _, _, _, _, _, _, _, q⟩
theorem BnK.fr {h h' : HP} {n b lo hi : Nat} {S : Stt} {sat rsn cul : Int} {G : Nat → Int} (p : BnK h n b S sat rsn cul G) (f : Fr h h' lo hi) (d : b + 27 < lo ∨ hi < b) : BnK h' n b S sat rsn cul G := by
  obtain ⟨F, D, N, q, r⟩ := p
  exact ⟨F, D, N, q.fr f d, r⟩
theorem BnA.fr {h h' : HP} {n b lo hi : Nat} {S : Stt} (p : BnA h n b S) (f : Fr h h' lo hi) (d : b + 27 < lo ∨ hi < b) : BnA h' n b S := by
  obtain ⟨_, _, _, _, q⟩ := p
  exact (q.fr f d).a
theorem BnK.ub {h : HP} {n b : Nat} {S : Stt} {sat rsn cul : Int} {G : Nat → Int} (p : BnK h n b S sat rsn cul G) (sat' rsn' cul' : Int) : BnK (va_up h b (.inl (0, [.ref (b + 1), .ref (b + 7), .int (i3 (nA S.1)), .ref (b + 8), .ref (b + 27), .int (i3 sat'), .int (i3 rsn'), .int (i3 cul')]))) n b S sat' rsn' cul' G := by
  obtain ⟨F, D, N, q, r⟩ := p
  exact ⟨F, D, N, q.ub _ _ _ _, r⟩
theorem BnK.ug {h : HP} {n b : Nat} {S : Stt} {sat rsn cul : Int} {G : Nat → Int} (p : BnK h n b S sat rsn cul G) (G' : Nat → Int) : BnK (va_up h (b + 27) (al 7 G')) n b S sat rsn cul G' := by
  obtain ⟨F, D, N, q, r⟩ := p
  exact ⟨F, D, N, q.ug _, r⟩
set_option maxHeartbeats 4000000 in
set_option maxRecDepth 100000 in
theorem sX0_solve_0 {X : Xt} {n : Nat} {h : HP} {a0 : Nat} {fs1 : List Value} (hc : Cx X cX0_solve RX0 2 4 97) {K : KT} (hr : CxR X none K) (e1 : At h n a0 (.inl (0, fs1))) (z1 : fs1.length = 8)
    (P : Ok X 0 0 7 [(0, .ref a0), (1, .int (i3 0))] [] n (va_up h a0 (.inl (0, (fs1.set 2 (.int (i3 0))))))) :
    Ok X 0 0 0 [(0, .ref a0)] [] n h := by
  refine ok_aload_n (pc := 0) hc dX0_solve_0 rfl 0 rfl ?_
  refine ok_iconst (pc := 1) hc (v := i3 0) dX0_solve_1 (by decide) ?_
  refine ok_put (pc := 2) hc fl_X0_40 dX0_solve_2 e1.1 e1.2 (by simp [List.length_set, z1]) (fun _ => rfl) (fun _ => rfl) ?_
  refine ok_iconst (pc := 5) hc (v := i3 0) dX0_solve_5 (by decide) ?_
  refine ok_istore_n (pc := 6) hc (lv' := [(1, .int (i3 0)), (0, .ref a0)]) dX0_solve_6 rfl (by decide) rfl ?_
  refine ok_lv [1, 0] rfl ?_
  exact P

set_option maxHeartbeats 4000000 in
set_option maxRecDepth 100000 in
theorem sX0_solve_7 {X : Xt} {n : Nat} {h : HP} {a0 : Nat} {x1 : Int} {fs1 : List Value} {q2 : Nat} {fs3 : List Value} {q4 : Nat} {fs5 : List Value} {iv6 : Int} (hc : Cx X cX0_solve RX0 2 4 97) {K : KT} (hr : CxR X none K) (e1 : At h n a0 (.inl (0, fs1))) (z1 : fs1.length = 8) (v1_0 : fs1[0]? = some (.ref q2)) (e3 : At h n q2 (.inl (4, fs3))) (z3 : fs3.length = 4) (v3_0 : fs3[0]? = some (.ref q4)) (e5 : At h n q4 (.inl (2, fs5))) (z5 : fs5.length = 5) (v5_4 : fs5[4]? = some (.int (i3 iv6)))
    (P : (R3 x1) ∧ (R3 iv6) ∧ (iv6 ≤ x1 → Ok X 0 0 71 [(0, .ref a0), (1, .int (i3 x1))] [] n h) ∧ (¬ iv6 ≤ x1 → Ok X 0 0 21 [(0, .ref a0), (1, .int (i3 x1))] [] n h)) :
    Ok X 0 0 7 [(0, .ref a0), (1, .int (i3 x1))] [] n h := by
  refine ok_iload_n (pc := 7) hc dX0_solve_7 rfl 1 rfl ?_
  refine ok_aload_n (pc := 8) hc dX0_solve_8 rfl 0 rfl ?_
  refine ok_get (pc := 9) hc fl_X0_12 dX0_solve_9 e1.1 e1.2 v1_0 ?_
  refine ok_get (pc := 12) hc fl_X0_44 dX0_solve_12 e3.1 e3.2 v3_0 ?_
  refine ok_get (pc := 15) hc fl_X0_48 dX0_solve_15 e5.1 e5.2 v5_4 ?_
  obtain ⟨r7, P⟩ := P
  obtain ⟨r8, P⟩ := P
  refine zk_icmp_ge (pc := 18) (tgt := 71) hc dX0_solve_18 (by decide) r7 r8 (fun c => ?_) (fun c => ?_)
  · have P := P.1 c
    exact P
  · have P := P.2 c
    exact P

set_option maxHeartbeats 4000000 in
set_option maxRecDepth 100000 in
theorem sX0_solve_21 {X : Xt} {n : Nat} {h : HP} {a0 : Nat} {x1 : Int} {fs1 : List Value} {q2 : Nat} {fs3 : List Value} {q4 : Nat} {fs5 : List Value} {q6 : Nat} {len7 : Nat} {f7 : Nat → Int} {iv9 : Int} {q11 : Nat} {len12 : Nat} {f12 : Nat → Int} (hc : Cx X cX0_solve RX0 2 4 97) {K : KT} (hr : CxR X none K) (e1 : At h n a0 (.inl (0, fs1))) (z1 : fs1.length = 8) (v1_0 : fs1[0]? = some (.ref q2)) (e3 : At h n q2 (.inl (4, fs3))) (z3 : fs3.length = 4) (v3_0 : fs3[0]? = some (.ref q4)) (e5 : At h n q4 (.inl (2, fs5))) (z5 : fs5.length = 5) (v5_0 : fs5[0]? = some (.ref q6)) (e7 : At h n q6 (ai len7 f7)) (v1_2 : fs1[2]? = some (.int (i3 iv9))) (v1_1 : fs1[1]? = some (.ref q11)) (e12 : At h n q11 (ai len12 f12))
    (P : (Ix x1 len7) ∧ (R3 (f7 (x1 : Int).toNat)) ∧ (¬ (f7 (x1 : Int).toNat) = 2 → Ok X 0 0 65 [(0, .ref a0), (1, .int (i3 x1))] [] n h) ∧ ((f7 (x1 : Int).toNat) = 2 → (R3 iv9) ∧ (3 ≤ iv9 → Ok X 0 0 65 [(0, .ref a0), (1, .int (i3 x1))] [] n h) ∧ (¬ 3 ≤ iv9 → (Ix iv9 len12) ∧ Ok X 0 0 65 [(0, .ref a0), (1, .int (i3 x1))] [] n (va_up (va_up h q11 (ai len12 (va_up f12 (iv9 : Int).toNat x1))) a0 (.inl (0, (fs1.set 2 (.int (i3 (iv9 + 1)))))))))) :
    Ok X 0 0 21 [(0, .ref a0), (1, .int (i3 x1))] [] n h := by
  refine ok_aload_n (pc := 21) hc dX0_solve_21 rfl 0 rfl ?_
  refine ok_get (pc := 22) hc fl_X0_12 dX0_solve_22 e1.1 e1.2 v1_0 ?_
  refine ok_get (pc := 25) hc fl_X0_44 dX0_solve_25 e3.1 e3.2 v3_0 ?_
  refine ok_get (pc := 28) hc fl_X0_53 dX0_solve_28 e5.1 e5.2 v5_0 ?_
  refine ok_iload_n (pc := 31) hc dX0_solve_31 rfl 1 rfl ?_
  obtain ⟨r, P⟩ := P
  refine zk_iald (pc := 32) hc dX0_solve_32 e7.1 e7.2 r ?_
  refine ok_iconst (pc := 33) hc (v := i3 2) dX0_solve_33 (by decide) ?_
  obtain ⟨r8, P⟩ := P
  refine zk_icmp_ne (pc := 34) (tgt := 65) hc dX0_solve_34 (by decide) r8 ⟨by decide, by decide⟩ (fun c => ?_) (fun c => ?_)
  · have P := P.1 c
    exact P
  · have P := P.2 c
    refine ok_aload_n (pc := 37) hc dX0_solve_37 rfl 0 rfl ?_
    refine ok_get (pc := 38) hc fl_X0_40 dX0_solve_38 e1.1 e1.2 v1_2 ?_
    refine ok_iconst (pc := 41) hc (v := i3 3) dX0_solve_41 (by decide) ?_
    obtain ⟨r10, P⟩ := P
    refine zk_icmp_ge (pc := 42) (tgt := 65) hc dX0_solve_42 (by decide) r10 ⟨by decide, by decide⟩ (fun c => ?_) (fun c => ?_)
    · have P := P.1 c
      exact P
    · have P := P.2 c
      refine ok_aload_n (pc := 45) hc dX0_solve_45 rfl 0 rfl ?_
      refine ok_get (pc := 46) hc fl_X0_18 dX0_solve_46 e1.1 e1.2 v1_1 ?_
      refine ok_aload_n (pc := 49) hc dX0_solve_49 rfl 0 rfl ?_
      refine ok_get (pc := 50) hc fl_X0_40 dX0_solve_50 e1.1 e1.2 v1_2 ?_
      refine ok_iload_n (pc := 53) hc dX0_solve_53 rfl 1 rfl ?_
      obtain ⟨r, P⟩ := P
      refine zk_iast (pc := 54) hc dX0_solve_54 e12.1 e12.2 r ?_
      refine ok_aload_n (pc := 55) hc dX0_solve_55 rfl 0 rfl ?_
      refine ok_dup (pc := 56) hc dX0_solve_56 rfl ?_
      refine ok_get (pc := 57) hc fl_X0_40 dX0_solve_57 e1.1 ((up_ne (ne_oa e1.2 e12.2)).trans e1.2) v1_2 ?_
      refine ok_iconst (pc := 60) hc (v := i3 1) dX0_solve_60 (by decide) ?_
      refine zk_iadd (pc := 61) hc dX0_solve_61 ?_
      refine ok_put (pc := 62) hc fl_X0_40 dX0_solve_62 e1.1 ((up_ne (ne_oa e1.2 e12.2)).trans e1.2) (by simp [List.length_set, z1]) (fun _ => rfl) (fun _ => rfl) ?_
      exact P

set_option maxHeartbeats 4000000 in
set_option maxRecDepth 100000 in
theorem sX0_solve_65 {X : Xt} {n : Nat} {h : HP} {a0 : Nat} {x1 : Int} (hc : Cx X cX0_solve RX0 2 4 97) {K : KT} (hr : CxR X none K) 
    (P : Ok X 0 0 7 [(0, .ref a0), (1, .int (i3 (x1 + 1)))] [] n h) :
    Ok X 0 0 65 [(0, .ref a0), (1, .int (i3 x1))] [] n h := by
  refine zk_iinc (pc := 65) hc (q := 1) (x := x1) (lv' := [(1, .int (i3 (x1 + 1))), (0, .ref a0)]) dX0_solve_65 rfl (by decide) rfl ?_
  refine ok_goto (pc := 68) (tgt := 7) hc dX0_solve_68 (by decide) ?_
  refine ok_lv [1, 0] rfl ?_
  exact P

set_option maxHeartbeats 4000000 in
set_option maxRecDepth 100000 in
theorem sX0_solve_71 {X : Xt} {n : Nat} {h : HP} {a0 : Nat} {x1 : Int} {fs1 : List Value} {q2 : Nat} {q3 : Nat} {fs4 : List Value} {q5 : Nat} {iv6 : Int} {fs7 : List Value} (hc : Cx X cX0_solve RX0 2 4 97) {K : KT} (hr : CxR X none K) (e1 : At h n a0 (.inl (0, fs1))) (z1 : fs1.length = 8) (v1_3 : fs1[3]? = some (.ref q2)) (v1_0 : fs1[0]? = some (.ref q3)) (e4 : At h n q3 (.inl (4, fs4))) (z4 : fs4.length = 4) (v4_0 : fs4[0]? = some (.ref q5)) (v1_2 : fs1[2]? = some (.int (i3 iv6))) (e7 : At h n q2 (.inl (3, fs7))) (z7 : fs7.length = 3)
    (P : spec_X3_solve [.ref q2, .ref q5, .int (i3 iv6)] n h (kc X 0 0 86 [(0, .ref a0), (1, .int (i3 x1))] [] n)) :
    Ok X 0 0 71 [(0, .ref a0), (1, .int (i3 x1))] [] n h := by
  refine ok_aload_n (pc := 71) hc dX0_solve_71 rfl 0 rfl ?_
  refine ok_get (pc := 72) hc fl_X0_25 dX0_solve_72 e1.1 e1.2 v1_3 ?_
  refine ok_aload_n (pc := 75) hc dX0_solve_75 rfl 0 rfl ?_
  refine ok_get (pc := 76) hc fl_X0_12 dX0_solve_76 e1.1 e1.2 v1_0 ?_
  refine ok_get (pc := 79) hc fl_X0_44 dX0_solve_79 e4.1 e4.2 v4_0 ?_
  refine ok_aload_n (pc := 82) hc dX0_solve_82 rfl 0 rfl ?_
  refine ok_get (pc := 83) hc fl_X0_40 dX0_solve_83 e1.1 e1.2 v1_2 ?_
  exact ok_callV (pc := 86) (a := q2) (cb := 0) (sb := 0) (st := []) hc [.ref q5, .int (i3 iv6)] cv_X0_56 sp_X3_solve (by decide) dX0_solve_86 rfl e7.1 e7.2 rfl rfl rfl (Nat.le_of_ble_eq_true rfl) P

set_option maxHeartbeats 4000000 in
set_option maxRecDepth 100000 in
theorem sX0_solve_89 {X : Xt} {n : Nat} {h : HP} {a0 : Nat} {x1 : Int} (hc : Cx X cX0_solve RX0 2 4 97) {K : KT} (hr : CxR X none K) 
    (P : K (.inl none) n h) :
    Ok X 0 0 89 [(0, .ref a0), (1, .int (i3 x1))] [] n h := by
  exact ok_vret (st := []) (pc := 89) hc hr dX0_solve_89 P

def spec_X0_solve (args : List Value) (n : Nat) (h : HP) (K : KT) : Prop := ∃ (b : Nat) (S : Stt), args = [.ref b] ∧ BnW h n b S ∧ nA S.1 ≤ 3 ∧ Fit S.1 ∧ ∀ h', BnA h' n b S → Fr h h' b (b + 27) → K (.inl none) n h'
theorem sp_X0_solve : Sp yX0_solve cX0_solve 2 none 4 97 0 0 spec_X0_solve := by
  refine sp_intro (by decide) (by rintro args n h K ⟨b, S, rfl, -⟩; exact Nat.le_of_ble_eq_true rfl) ?_
  rintro X args n h K hc hr ⟨b, S, rfl, ⟨A, F, D, N, sat, rsn, cul, G, hB⟩, h3, hFit, kk⟩
  have L : ∀ (j i : Nat) (F : Nat → Int) (hh : HP), i + j = S.1.length → BnC hh n b S (nA (S.1.take i)) F D N sat rsn cul G → (∀ a k p, AmpAt S.1 a k p → k < i → F a = k) → Fr h hh b (b + 27) → Ok X 0 0 7 [(0, .ref b), (1, .int (i3 i))] [] n hh := by
    intro j
    induction j with
    | zero =>
      intro i F hh hi hB hF hf
      have : i = S.1.length := by omega
      subst this
      rw [List.take_length] at hB
      obtain ⟨k, f, s, t, E, E1, E2, E3, E4, hv, hw, hl, hcap⟩ := id hB.2.1.2.1
      refine sX0_solve_7 hc hr hB.1 rfl rfl hB.2.1.1 rfl rfl E rfl rfl ⟨R3_s (by omega), R3_s (by omega), fun _ => ?_, fun c => absurd (Int.le_refl _) c⟩
      refine sX0_solve_71 hc hr hB.1 rfl rfl rfl hB.2.1.1 rfl rfl rfl hB.2.2.2.1.obj rfl ⟨b + 8, b + 2, 12, nA S.1, D, N, S.1, rfl, h3, hB.2.2.2.1, hB.2.1.2.1, by omega, hFit, fun h' D' N' hR hDN hf' => ⟨rfl, sX0_solve_89 hc hr ?_⟩⟩
      exact kk h' ⟨sat, rsn, cul, G, F, D', N', ⟨hB.1.fr hf' (by omega), hB.2.1.fr hf' (by omega), hB.2.2.1.fr hf' (by omega), hR, hB.2.2.2.2.fr hf' (by omega)⟩, h3, hFit, fun a i p hA => hF a i p hA hA.lt.1, hDN⟩ (hf.tr (hf'.sub (by omega) (by omega)))
    | succ j ih =>
      intro i F hh hi hB hF hf
      obtain ⟨k, f, s, t, E, E1, E2, E3, E4, hv, hw, hl, hcap⟩ := id hB.2.1.2.1
      have hp := hv i (by omega)
      have hPW := (hw _ (List.mem_of_getElem? hp)).b
      simp only at hPW
      refine sX0_solve_7 hc hr hB.1 rfl rfl hB.2.1.1 rfl rfl E rfl rfl ⟨R3_s (by omega), R3_s (by omega), fun c => absurd c (by omega), fun _ => ?_⟩
      have tk : nA (S.1.take (i + 1)) = nA (S.1.take i) + (if k i = 2 then 1 else 0) := by rw [take_s hp, nA_app, nA_one]
      have lt3 : nA (S.1.take i) ≤ nA S.1 := nA_take_le S.1 i
      refine sX0_solve_21 hc hr hB.1 rfl rfl hB.2.1.1 rfl rfl E rfl rfl E1 rfl rfl hB.2.2.1 ⟨⟨by omega, by omega, by omega⟩, R3_s (by simp only [Int.toNat_natCast]; omega), fun c => ?_, fun c => ⟨R3_s (by omega), fun c2 => ?_, fun c2 => ?_⟩⟩
      all_goals simp only [Int.toNat_natCast] at c
      · refine sX0_solve_65 hc hr (ih (i + 1) F hh (by omega) ?_ (fun a k' p hA hk => ?_) hf)
        · rw [tk, if_neg c]
          exact hB
        · rcases (by omega : k' < i ∨ k' = i) with z | z
          · exact hF a k' p hA z
          · subst z
            have := Option.some.inj (hp.symm.trans hA.1)
            subst this
            exact absurd hA.2.1 c
      · have hA : AmpAt S.1 (nA (S.1.take i)) i (k i, f i, s i, t i) := ⟨hp, c, rfl⟩
        have := hA.lt.2
        omega
      · have hA : AmpAt S.1 (nA (S.1.take i)) i (k i, f i, s i, t i) := ⟨hp, c, rfl⟩
        have := hA.lt.2
        refine ⟨⟨by omega, by omega, by omega⟩, sX0_solve_65 hc hr (ih (i + 1) (va_up F (nA (S.1.take i)) i) _ (by omega) ?_ (fun a k' p hA' hk => ?_) ((hf.up (by omega)).up (by omega)))⟩
        · rw [tk, if_pos c, Int.toNat_natCast]
          exact (hB.uf _).ub _ _ _ _
        · rcases (by omega : k' < i ∨ k' = i) with z | z
          · rw [up_ne]
            · exact hF a k' p hA' z
            · have e1 := hA'.2.2
              have e2 : nA (S.1.take i) = nA (S.1.take k') + nA ((S.1.take i).drop k') := by
                rw [← nA_app]
                congr 1
                rw [show S.1.take k' = (S.1.take i).take k' by rw [List.take_take, Nat.min_eq_left (by omega)], List.take_append_drop]
              have e3 : (S.1.take i)[k']? = some p := by rw [List.getElem?_take, if_pos z]; exact hA'.1
              rw [drop_s e3, show p :: (S.1.take i).drop (k' + 1) = [p] ++ (S.1.take i).drop (k' + 1) from rfl, nA_app, nA_one, if_pos hA'.2.1] at e2
              omega
          · subst z
            rw [hA'.2.2, up_self]
  refine sX0_solve_0 hc hr hB.1 rfl (L S.1.length 0 F _ (by omega) ?_ (fun a k p _ hk => absurd hk (Nat.not_lt_zero k)) (Fr.rf.up (by omega)))
  exact hB.ub 0 _ _ _
set_option maxHeartbeats 4000000 in
set_option maxRecDepth 100000 in
theorem sX0_takeOver_0 {X : Xt} {n : Nat} {h : HP} {a0 : Nat} {a1 : Nat} {fs1 : List Value} {q2 : Nat} {fs3 : List Value} (hc : Cx X cX0_takeOver RX0 2 5 118) {K : KT} (hr : CxR X none K) (e1 : At h n a0 (.inl (0, fs1))) (z1 : fs1.length = 8) (v1_0 : fs1[0]? = some (.ref q2)) (e3 : At h n q2 (.inl (4, fs3))) (z3 : fs3.length = 4)
    (P : spec_X4_copyFrom [.ref q2, .ref a1] n h (kc X 0 0 5 [(0, .ref a0), (1, .ref a1)] [] n)) :
    Ok X 0 0 0 [(0, .ref a0), (1, .ref a1)] [] n h := by
  refine ok_aload_n (pc := 0) hc dX0_takeOver_0 rfl 0 rfl ?_
  refine ok_get (pc := 1) hc fl_X0_12 dX0_takeOver_1 e1.1 e1.2 v1_0 ?_
  refine ok_aload_n (pc := 4) hc dX0_takeOver_4 rfl 1 rfl ?_
  exact ok_callV (pc := 5) (a := q2) (cb := 0) (sb := 0) (st := []) hc [.ref a1] cv_X0_33 sp_X4_copyFrom (by decide) dX0_takeOver_5 rfl e3.1 e3.2 rfl rfl rfl (Nat.le_of_ble_eq_true rfl) P

set_option maxHeartbeats 4000000 in
set_option maxRecDepth 100000 in
theorem sX0_takeOver_8 {X : Xt} {n : Nat} {h : HP} {a0 : Nat} {a1 : Nat} {fs1 : List Value} (hc : Cx X cX0_takeOver RX0 2 5 118) {K : KT} (hr : CxR X none K) (e1 : At h n a0 (.inl (0, fs1))) (z1 : fs1.length = 8)
    (P : spec_X0_solve [.ref a0] n h (kc X 0 0 9 [(0, .ref a0), (1, .ref a1)] [] n)) :
    Ok X 0 0 8 [(0, .ref a0), (1, .ref a1)] [] n h := by
  refine ok_aload_n (pc := 8) hc dX0_takeOver_8 rfl 0 rfl ?_
  exact ok_callV (pc := 9) (a := a0) (cb := 0) (sb := 0) (st := []) hc [] cv_X0_37 sp_X0_solve (by decide) dX0_takeOver_9 rfl e1.1 e1.2 rfl rfl rfl (Nat.le_of_ble_eq_true rfl) P

set_option maxHeartbeats 4000000 in
set_option maxRecDepth 100000 in
theorem sX0_takeOver_12 {X : Xt} {n : Nat} {h : HP} {a0 : Nat} {a1 : Nat} (hc : Cx X cX0_takeOver RX0 2 5 118) {K : KT} (hr : CxR X none K) 
    (P : K (.inl none) n h) :
    Ok X 0 0 12 [(0, .ref a0), (1, .ref a1)] [] n h := by
  exact ok_vret (st := []) (pc := 12) hc hr dX0_takeOver_12 P

def spec_X0_takeOver (args : List Value) (n : Nat) (h : HP) (K : KT) : Prop := ∃ (b a : Nat) (S0 S : Stt), args = [.ref b, .ref a] ∧ BnW h n b S0 ∧ StA h n a S ∧ (a + 5 < b ∨ b + 27 < a) ∧ nA S.1 ≤ 3 ∧ Fit S.1 ∧ ∀ h', BnA h' n b S → Fr h h' b (b + 27) → K (.inl none) n h'
theorem sp_X0_takeOver : Sp yX0_takeOver cX0_takeOver 2 none 5 118 0 0 spec_X0_takeOver := by
  refine sp_intro (by decide) (by rintro args n h K ⟨b, a, S0, S, rfl, -⟩; exact Nat.le_of_ble_eq_true rfl) ?_
  rintro X args n h K hc hr ⟨b, a, S0, S, rfl, ⟨A, F, D, N, sat, rsn, cul, G, hB⟩, hS, hd, h3, hFit, kk⟩
  refine sX0_takeOver_0 hc hr hB.1 rfl rfl hB.2.1.1 rfl ⟨b + 1, a, S0, S, rfl, hB.2.1, hS, by omega, fun h' hS' hf => ⟨rfl, ?_⟩⟩
  have hB' : BnC h' n b S A F D N sat rsn cul G := ⟨hB.1.fr hf (by omega), hS', hB.2.2.1.fr hf (by omega), hB.2.2.2.1.fr hf (by omega), hB.2.2.2.2.fr hf (by omega)⟩
  exact sX0_takeOver_8 hc hr hB'.1 rfl ⟨b, S, rfl, ⟨_, _, _, _, _, _, _, _, hB'⟩, h3, hFit, fun h2 hA hf2 => ⟨rfl, sX0_takeOver_12 hc hr (kk h2 hA ((hf.sub (by omega) (by omega)).tr hf2))⟩⟩
set_option maxHeartbeats 4000000 in
set_option maxRecDepth 100000 in
theorem sX0_cases_0 {X : Xt} {n : Nat} {h : HP} {a0 : Nat} {fs1 : List Value} {iv2 : Int} (hc : Cx X cX0_cases RX0 1 0 0) {K : KT} (hr : CxR X (some .int) K) (e1 : At h n a0 (.inl (0, fs1))) (z1 : fs1.length = 8) (v1_2 : fs1[2]? = some (.int (i3 iv2)))
    (P : (0 ≤ iv2 ∧ iv2 < 4) ∧ K (.inl (some (.int (i3 ((3 : Int) ^ (iv2 : Int).toNat))))) n h) :
    Ok X 0 0 0 [(0, .ref a0)] [] n h := by
  refine ok_getsN (pc := 0) hc (by decide) dX0_cases_0 ?_
  refine ok_aload_n (pc := 3) hc dX0_cases_3 rfl 0 rfl ?_
  refine ok_get (pc := 4) hc fl_X0_40 dX0_cases_4 e1.1 e1.2 v1_2 ?_
  obtain ⟨r, P⟩ := P
  refine zk_ti (pc := 7) hc dX0_cases_7 r ?_
  exact ok_iret (st := []) (pc := 8) hc hr dX0_cases_8 P

def spec_X0_cases (args : List Value) (n : Nat) (h : HP) (K : KT) : Prop := ∃ (b : Nat) (S : Stt) (sat rsn cul : Int) (G : Nat → Int), args = [.ref b] ∧ BnK h n b S sat rsn cul G ∧ K (.inl (some (.int (i3 ((3 : Int) ^ nA S.1))))) n h
theorem sp_X0_cases : Sp yX0_cases cX0_cases 1 (some .int) 0 0 0 0 spec_X0_cases := by
  refine sp_intro (by decide) (by rintro args n h K ⟨b, S, _, _, _, _, rfl, -⟩; exact Nat.le_of_ble_eq_true rfl) ?_
  rintro X args n h K hc hr ⟨b, S, sat, rsn, cul, G, rfl, ⟨F, D, N, hB, h3, -⟩, kk⟩
  refine sX0_cases_0 hc hr hB.1 rfl rfl ⟨⟨by omega, by omega⟩, ?_⟩
  rw [Int.toNat_natCast]
  exact kk
/-- the saturated amplifiers of the case c, of the first a -/
def satN (c : Int) : Nat → Nat
  | 0 => 0
  | a + 1 => satN c a + (if c / 3 ^ a % 3 = 0 then 0 else 2 ^ a)
theorem satN_lt (c : Int) : ∀ a, satN c a < 2 ^ a
  | 0 => Nat.one_pos
  | a + 1 => by
    have := satN_lt c a
    unfold satN
    rw [Nat.pow_succ]
    split <;> omega
theorem msb : ∀ a < 3, ∀ m < 2 ^ a, bor (m : Nat) (bshl 1 (a : Nat)) = ((m + 2 ^ a : Nat) : Int) := by decide +kernel
set_option maxHeartbeats 4000000 in
set_option maxRecDepth 100000 in
theorem sX0_saturatedIn_0 {X : Xt} {n : Nat} {h : HP} {a0 : Nat} {x1 : Int} (hc : Cx X cX0_saturatedIn RX0 4 1 21) {K : KT} (hr : CxR X (some .int) K) 
    (P : Ok X 0 0 4 [(0, .ref a0), (1, .int (i3 x1)), (2, .int (i3 0)), (3, .int (i3 0))] [] n h) :
    Ok X 0 0 0 [(0, .ref a0), (1, .int (i3 x1))] [] n h := by
  refine ok_iconst (pc := 0) hc (v := i3 0) dX0_saturatedIn_0 (by decide) ?_
  refine ok_istore_n (pc := 1) hc (lv' := [(2, .int (i3 0)), (0, .ref a0), (1, .int (i3 x1))]) dX0_saturatedIn_1 rfl (by decide) rfl ?_
  refine ok_iconst (pc := 2) hc (v := i3 0) dX0_saturatedIn_2 (by decide) ?_
  refine ok_istore_n (pc := 3) hc (lv' := [(3, .int (i3 0)), (2, .int (i3 0)), (0, .ref a0), (1, .int (i3 x1))]) dX0_saturatedIn_3 rfl (by decide) rfl ?_
  refine ok_lv [2, 3, 1, 0] rfl ?_
  exact P

set_option maxHeartbeats 4000000 in
set_option maxRecDepth 100000 in
theorem sX0_saturatedIn_4 {X : Xt} {n : Nat} {h : HP} {a0 : Nat} {x1 : Int} {x2 : Int} {x3 : Int} {fs1 : List Value} {iv2 : Int} (hc : Cx X cX0_saturatedIn RX0 4 1 21) {K : KT} (hr : CxR X (some .int) K) (e1 : At h n a0 (.inl (0, fs1))) (z1 : fs1.length = 8) (v1_2 : fs1[2]? = some (.int (i3 iv2)))
    (P : (R3 x3) ∧ (R3 iv2) ∧ (iv2 ≤ x3 → K (.inl (some (.int (i3 x2)))) n h) ∧ (¬ iv2 ≤ x3 → ((0 ≤ x1 ∧ x1 ≤ 2147483647) ∧ 0 ≤ x3 ∧ x3 < 4) ∧ (R3 (x1 / 3 ^ (x3).toNat % 3)) ∧ ((x1 / 3 ^ (x3).toNat % 3) = 0 → Ok X 0 0 4 [(0, .ref a0), (1, .int (i3 x1)), (2, .int (i3 x2)), (3, .int (i3 (x3 + 1)))] [] n h) ∧ (¬ (x1 / 3 ^ (x3).toNat % 3) = 0 → Ok X 0 0 4 [(0, .ref a0), (1, .int (i3 x1)), (2, .int (i3 (bor x2 (bshl 1 x3)))), (3, .int (i3 (x3 + 1)))] [] n h))) :
    Ok X 0 0 4 [(0, .ref a0), (1, .int (i3 x1)), (2, .int (i3 x2)), (3, .int (i3 x3))] [] n h := by
  refine ok_iload_n (pc := 4) hc dX0_saturatedIn_4 rfl 3 rfl ?_
  refine ok_aload_n (pc := 5) hc dX0_saturatedIn_5 rfl 0 rfl ?_
  refine ok_get (pc := 6) hc fl_X0_40 dX0_saturatedIn_6 e1.1 e1.2 v1_2 ?_
  obtain ⟨r3, P⟩ := P
  obtain ⟨r4, P⟩ := P
  refine zk_icmp_ge (pc := 9) (tgt := 32) hc dX0_saturatedIn_9 (by decide) r3 r4 (fun c => ?_) (fun c => ?_)
  · have P := P.1 c
    refine ok_iload_n (pc := 32) hc dX0_saturatedIn_32 rfl 2 rfl ?_
    exact ok_iret (st := []) (pc := 33) hc hr dX0_saturatedIn_33 P
  · have P := P.2 c
    refine ok_iload_n (pc := 12) hc dX0_saturatedIn_12 rfl 1 rfl ?_
    refine ok_iload_n (pc := 13) hc dX0_saturatedIn_13 rfl 3 rfl ?_
    obtain ⟨r0, P⟩ := P
    refine ok_callN (pc := 14) (cb := 0) (sb := 0) (st := []) hc [.int (i3 x1), .int (i3 x3)] cn_X0_81 sp_X6_stateIn (by decide) dX0_saturatedIn_14 rfl rfl rfl rfl (Nat.le_of_ble_eq_true rfl) (⟨_, _, rfl, r0, rfl, ?_⟩)
    show Ok X 0 0 (14 + 3) [(0, .ref a0), (1, .int (i3 x1)), (2, .int (i3 x2)), (3, .int (i3 x3))] [.int (i3 (x1 / 3 ^ (x3).toNat % 3))] n h
    obtain ⟨r5, P⟩ := P
    refine zk_if_eq (pc := 17) (tgt := 26) hc dX0_saturatedIn_17 (by decide) r5 (fun c => ?_) (fun c => ?_)
    · have P := P.1 c
      refine zk_iinc (pc := 26) hc (q := 3) (x := x3) (lv' := [(3, .int (i3 (x3 + 1))), (0, .ref a0), (1, .int (i3 x1)), (2, .int (i3 x2))]) dX0_saturatedIn_26 rfl (by decide) rfl ?_
      refine ok_goto (pc := 29) (tgt := 4) hc dX0_saturatedIn_29 (by decide) ?_
      refine ok_lv [1, 2, 3, 0] rfl ?_
      exact P
    · have P := P.2 c
      refine ok_iload_n (pc := 20) hc dX0_saturatedIn_20 rfl 2 rfl ?_
      refine ok_iconst (pc := 21) hc (v := i3 1) dX0_saturatedIn_21 (by decide) ?_
      refine ok_iload_n (pc := 22) hc dX0_saturatedIn_22 rfl 3 rfl ?_
      refine zk_ishl (pc := 23) hc dX0_saturatedIn_23 ?_
      refine zk_ior (pc := 24) hc dX0_saturatedIn_24 ?_
      refine ok_istore_n (pc := 25) hc (lv' := [(2, .int (i3 (bor x2 (bshl 1 x3)))), (0, .ref a0), (1, .int (i3 x1)), (3, .int (i3 x3))]) dX0_saturatedIn_25 rfl (by decide) rfl ?_
      refine zk_iinc (pc := 26) hc (q := 3) (x := x3) (lv' := [(3, .int (i3 (x3 + 1))), (2, .int (i3 (bor x2 (bshl 1 x3)))), (0, .ref a0), (1, .int (i3 x1))]) dX0_saturatedIn_26 rfl (by decide) rfl ?_
      refine ok_goto (pc := 29) (tgt := 4) hc dX0_saturatedIn_29 (by decide) ?_
      refine ok_lv [2, 3, 1, 0] rfl ?_
      exact P

def spec_X0_saturatedIn (args : List Value) (n : Nat) (h : HP) (K : KT) : Prop := ∃ (b : Nat) (S : Stt) (c sat rsn cul : Int) (G : Nat → Int), args = [.ref b, .int (i3 c)] ∧ BnK h n b S sat rsn cul G ∧ (0 ≤ c ∧ c ≤ 26) ∧ K (.inl (some (.int (i3 (satN c (nA S.1)))))) n h
theorem st_r {c : Int} {a : Nat} : 0 ≤ c / 3 ^ a % 3 ∧ c / 3 ^ a % 3 ≤ 2 := by omega
theorem sp_X0_saturatedIn : Sp yX0_saturatedIn cX0_saturatedIn 4 (some .int) 1 21 0 0 spec_X0_saturatedIn := by
  refine sp_intro (by decide) (by rintro args n h K ⟨b, S, _, _, _, _, _, rfl, -⟩; exact Nat.le_of_ble_eq_true rfl) ?_
  rintro X args n h K hc hr ⟨b, S, c, sat, rsn, cul, G, rfl, ⟨F, D, N, hB, h3, -⟩, hcc, kk⟩
  have L : ∀ (j a : Nat), a + j = nA S.1 → Ok X 0 0 4 [(0, .ref b), (1, .int (i3 c)), (2, .int (i3 (satN c a))), (3, .int (i3 a))] [] n h := by
    intro j
    induction j with
    | zero =>
      intro a ha
      have : a = nA S.1 := by omega
      subst this
      exact sX0_saturatedIn_4 hc hr hB.1 rfl rfl ⟨R3_s (by omega), R3_s (by omega), fun _ => kk, fun c => absurd (Int.le_refl _) c⟩
    | succ j ih =>
      intro a ha
      have hs := st_r (c := c) (a := a)
      refine sX0_saturatedIn_4 hc hr hB.1 rfl rfl ⟨R3_s (by omega), R3_s (by omega), fun c => absurd c (by omega), fun _ => ⟨⟨⟨by omega, by omega⟩, by omega, by omega⟩, R3_s (by simp only [Int.toNat_natCast]; omega), fun z => ?_, fun z => ?_⟩⟩
      all_goals simp only [Int.toNat_natCast] at z
      · have := ih (a + 1) (by omega)
        unfold satN at this
        rw [if_pos z] at this
        exact this
      · have := ih (a + 1) (by omega)
        unfold satN at this
        rw [if_neg z, ← msb a (by omega) _ (satN_lt c a)] at this
        exact this
  exact sX0_saturatedIn_0 hc hr (L (nA S.1) 0 (by omega))
