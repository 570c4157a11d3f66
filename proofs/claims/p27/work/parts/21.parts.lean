/-! part 21: class Parts: a row of parts -/
abbrev Part : Type := Int × Int × Int × Int
/-- what a part may be -/
def PW (p : Part) : Prop := (p.1 = 0 ∧ 0 ≤ p.2.1 ∧ p.2.1 ≤ 6 ∧ 0 ≤ p.2.2.1 ∧ p.2.2.1 ≤ 6 ∧ 1 ≤ p.2.2.2 ∧ p.2.2.2 ≤ 4) ∨ (p.1 = 1 ∧ 0 ≤ p.2.1 ∧ p.2.1 ≤ 6 ∧ p.2.2.1 = -1 ∧ -200 ≤ p.2.2.2 ∧ p.2.2.2 ≤ 200) ∨ (p.1 = 2 ∧ 0 ≤ p.2.1 ∧ p.2.1 ≤ 6 ∧ 0 ≤ p.2.2.1 ∧ p.2.2.1 ≤ 6 ∧ 0 ≤ p.2.2.2 ∧ p.2.2.2 ≤ 6)
def Fr (h h' : HP) (lo hi : Nat) : Prop := ∀ x, x < lo ∨ hi < x → h' x = h x
theorem Fr.rf {h : HP} {lo hi : Nat} : Fr h h lo hi := fun _ _ => rfl
theorem Fr.tr {h h1 h2 : HP} {lo hi : Nat} (a : Fr h h1 lo hi) (b : Fr h1 h2 lo hi) : Fr h h2 lo hi := fun x hx => (b x hx).trans (a x hx)
theorem Fr.up {h h1 : HP} {lo hi c : Nat} {e : AE} (a : Fr h h1 lo hi) (hc : lo ≤ c ∧ c ≤ hi) : Fr h (va_up h1 c e) lo hi := fun x hx => (up_ne (by omega)).trans (a x hx)
theorem Fr.sub {h h1 : HP} {lo hi lo' hi' : Nat} (a : Fr h h1 lo hi) (q1 : lo' ≤ lo) (q2 : hi ≤ hi') : Fr h h1 lo' hi' := fun x hx => a x (by omega)
theorem At.fr {h h' : HP} {n a lo hi : Nat} {e : AE} (p : At h n a e) (f : Fr h h' lo hi) (d : a < lo ∨ hi < a) : At h' n a e := ⟨p.1, (f a d).trans p.2⟩
theorem At.up {h : HP} {n a c : Nat} {e e2 : AE} (p : At h n a e) (d : a ≠ c) : At (va_up h c e2) n a e := ⟨p.1, (up_ne d).trans p.2⟩
theorem At.it {h : HP} {n a : Nat} {e e2 : AE} (p : At h n a e) : At (va_up h a e2) n a e2 := ⟨p.1, up_self⟩
def PtA (h : HP) (n a cap : Nat) (ps : List Part) : Prop := ∃ (k f s t : Nat → Int), At h n a (.inl (2, [.ref (a + 1), .ref (a + 2), .ref (a + 3), .ref (a + 4), .int (i3 ps.length)])) ∧ At h n (a + 1) (ai cap k) ∧ At h n (a + 2) (ai cap f) ∧ At h n (a + 3) (ai cap s) ∧ At h n (a + 4) (ai cap t) ∧ (∀ i, i < ps.length → ps[i]? = some (k i, f i, s i, t i)) ∧ (∀ p ∈ ps, PW p) ∧ ps.length ≤ cap ∧ cap ≤ 15
theorem PtA.fr {h h' : HP} {n a cap lo hi : Nat} {ps : List Part} (p : PtA h n a cap ps) (g : Fr h h' lo hi) (d : a + 4 < lo ∨ hi < a) : PtA h' n a cap ps := by
  obtain ⟨k, f, s, t, E, E1, E2, E3, E4, r⟩ := p
  exact ⟨k, f, s, t, E.fr g (by omega), E1.fr g (by omega), E2.fr g (by omega), E3.fr g (by omega), E4.fr g (by omega), r⟩
theorem PtA.lt {h : HP} {n a cap : Nat} {ps : List Part} (p : PtA h n a cap ps) : a + 4 < n := by
  obtain ⟨k, f, s, t, E, E1, E2, E3, E4, r⟩ := p
  exact E4.1
theorem take_s {α : Type} {ps : List α} {i : Nat} {p : α} (h : ps[i]? = some p) : ps.take (i + 1) = ps.take i ++ [p] := by rw [List.take_succ, h]; rfl
theorem PW.b {p : Part} (h : PW p) : 0 ≤ p.1 ∧ p.1 ≤ 2 ∧ 0 ≤ p.2.1 ∧ p.2.1 ≤ 6 ∧ -1 ≤ p.2.2.1 ∧ p.2.2.1 ≤ 6 ∧ -200 ≤ p.2.2.2 ∧ p.2.2.2 ≤ 200 := by unfold PW at h; omega
theorem R3_s {x : Int} (h : -1000000 ≤ x ∧ x ≤ 1000000) : R3 x := ⟨by omega, by omega⟩
/-- how many amplifiers -/
def nA (ps : List Part) : Nat := ps.countP (fun p => decide (p.1 = 2))
theorem nA_app (a b : List Part) : nA (a ++ b) = nA a + nA b := List.countP_append
theorem nA_one (p : Part) : nA [p] = if p.1 = 2 then 1 else 0 := by
  unfold nA
  by_cases h : p.1 = 2 <;> simp [h]
theorem nA_le (ps : List Part) : nA ps ≤ ps.length := List.countP_le_length
set_option maxHeartbeats 4000000 in
set_option maxRecDepth 100000 in
theorem sX2_amplifiersBefore_0 {X : Xt} {n : Nat} {h : HP} {a0 : Nat} {x1 : Int} (hc : Cx X cX2_amplifiersBefore RX2 4 0 0) {K : KT} (hr : CxR X (some .int) K) 
    (P : Ok X 0 0 4 [(0, .ref a0), (1, .int (i3 x1)), (2, .int (i3 0)), (3, .int (i3 0))] [] n h) :
    Ok X 0 0 0 [(0, .ref a0), (1, .int (i3 x1))] [] n h := by
  refine ok_iconst (pc := 0) hc (v := i3 0) dX2_amplifiersBefore_0 (by decide) ?_
  refine ok_istore_n (pc := 1) hc (lv' := [(2, .int (i3 0)), (0, .ref a0), (1, .int (i3 x1))]) dX2_amplifiersBefore_1 rfl (by decide) rfl ?_
  refine ok_iconst (pc := 2) hc (v := i3 0) dX2_amplifiersBefore_2 (by decide) ?_
  refine ok_istore_n (pc := 3) hc (lv' := [(3, .int (i3 0)), (2, .int (i3 0)), (0, .ref a0), (1, .int (i3 x1))]) dX2_amplifiersBefore_3 rfl (by decide) rfl ?_
  refine ok_lv [2, 3, 1, 0] rfl ?_
  exact P

set_option maxHeartbeats 4000000 in
set_option maxRecDepth 100000 in
theorem sX2_amplifiersBefore_4 {X : Xt} {n : Nat} {h : HP} {a0 : Nat} {x1 : Int} {x2 : Int} {x3 : Int} {fs3 : List Value} {q4 : Nat} {len5 : Nat} {f5 : Nat → Int} (hc : Cx X cX2_amplifiersBefore RX2 4 0 0) {K : KT} (hr : CxR X (some .int) K) (e3 : At h n a0 (.inl (2, fs3))) (z3 : fs3.length = 5) (v3_0 : fs3[0]? = some (.ref q4)) (e5 : At h n q4 (ai len5 f5))
    (P : (R3 x3) ∧ (R3 x1) ∧ (x1 ≤ x3 → K (.inl (some (.int (i3 x2)))) n h) ∧ (¬ x1 ≤ x3 → (Ix x3 len5) ∧ (R3 (f5 (x3 : Int).toNat)) ∧ (¬ (f5 (x3 : Int).toNat) = 2 → Ok X 0 0 4 [(0, .ref a0), (1, .int (i3 x1)), (2, .int (i3 x2)), (3, .int (i3 (x3 + 1)))] [] n h) ∧ ((f5 (x3 : Int).toNat) = 2 → Ok X 0 0 4 [(0, .ref a0), (1, .int (i3 x1)), (2, .int (i3 (x2 + 1))), (3, .int (i3 (x3 + 1)))] [] n h))) :
    Ok X 0 0 4 [(0, .ref a0), (1, .int (i3 x1)), (2, .int (i3 x2)), (3, .int (i3 x3))] [] n h := by
  refine ok_iload_n (pc := 4) hc dX2_amplifiersBefore_4 rfl 3 rfl ?_
  refine ok_iload_n (pc := 5) hc dX2_amplifiersBefore_5 rfl 1 rfl ?_
  obtain ⟨r1, P⟩ := P
  obtain ⟨r2, P⟩ := P
  refine zk_icmp_ge (pc := 6) (tgt := 28) hc dX2_amplifiersBefore_6 (by decide) r1 r2 (fun c => ?_) (fun c => ?_)
  · have P := P.1 c
    refine ok_iload_n (pc := 28) hc dX2_amplifiersBefore_28 rfl 2 rfl ?_
    exact ok_iret (st := []) (pc := 29) hc hr dX2_amplifiersBefore_29 P
  · have P := P.2 c
    refine ok_aload_n (pc := 9) hc dX2_amplifiersBefore_9 rfl 0 rfl ?_
    refine ok_get (pc := 10) hc fl_X2_9 dX2_amplifiersBefore_10 e3.1 e3.2 v3_0 ?_
    refine ok_iload_n (pc := 13) hc dX2_amplifiersBefore_13 rfl 3 rfl ?_
    obtain ⟨r, P⟩ := P
    refine zk_iald (pc := 14) hc dX2_amplifiersBefore_14 e5.1 e5.2 r ?_
    refine ok_iconst (pc := 15) hc (v := i3 2) dX2_amplifiersBefore_15 (by decide) ?_
    obtain ⟨r6, P⟩ := P
    refine zk_icmp_ne (pc := 16) (tgt := 22) hc dX2_amplifiersBefore_16 (by decide) r6 ⟨by decide, by decide⟩ (fun c => ?_) (fun c => ?_)
    · have P := P.1 c
      refine zk_iinc (pc := 22) hc (q := 3) (x := x3) (lv' := [(3, .int (i3 (x3 + 1))), (0, .ref a0), (1, .int (i3 x1)), (2, .int (i3 x2))]) dX2_amplifiersBefore_22 rfl (by decide) rfl ?_
      refine ok_goto (pc := 25) (tgt := 4) hc dX2_amplifiersBefore_25 (by decide) ?_
      refine ok_lv [1, 2, 3, 0] rfl ?_
      exact P
    · have P := P.2 c
      refine zk_iinc (pc := 19) hc (q := 2) (x := x2) (lv' := [(2, .int (i3 (x2 + 1))), (0, .ref a0), (1, .int (i3 x1)), (3, .int (i3 x3))]) dX2_amplifiersBefore_19 rfl (by decide) rfl ?_
      refine zk_iinc (pc := 22) hc (q := 3) (x := x3) (lv' := [(3, .int (i3 (x3 + 1))), (2, .int (i3 (x2 + 1))), (0, .ref a0), (1, .int (i3 x1))]) dX2_amplifiersBefore_22 rfl (by decide) rfl ?_
      refine ok_goto (pc := 25) (tgt := 4) hc dX2_amplifiersBefore_25 (by decide) ?_
      refine ok_lv [2, 3, 1, 0] rfl ?_
      exact P

def spec_X2_amplifiersBefore (args : List Value) (n : Nat) (h : HP) (K : KT) : Prop := ∃ (a cap m : Nat) (ps : List Part), args = [.ref a, .int (i3 m)] ∧ PtA h n a cap ps ∧ m ≤ ps.length ∧ K (.inl (some (.int (i3 (nA (ps.take m)))))) n h
theorem sp_X2_amplifiersBefore : Sp yX2_amplifiersBefore cX2_amplifiersBefore 4 (some .int) 0 0 0 0 spec_X2_amplifiersBefore := by
  refine sp_intro (by decide) (by rintro args n h K ⟨a, cap, m, ps, rfl, -⟩; exact Nat.le_of_ble_eq_true rfl) ?_
  rintro X args n h K hc hr ⟨a, cap, m, ps, rfl, ⟨k, f, s, t, E, E1, E2, E3, E4, hv, hw, hl, hcap⟩, hm, kk⟩
  have L : ∀ j i : Nat, i + j = m → Ok X 0 0 4 [(0, .ref a), (1, .int (i3 m)), (2, .int (i3 (nA (ps.take i)))), (3, .int (i3 i))] [] n h := by
    intro j
    induction j with
    | zero =>
      intro i hi
      have : i = m := by omega
      subst this
      exact sX2_amplifiersBefore_4 hc hr E rfl rfl E1 ⟨R3_s (by omega), R3_s (by omega), fun _ => kk, fun c => absurd (Int.le_refl _) c⟩
    | succ j ih =>
      intro i hi
      have hp := hv i (by omega)
      have hb := (hw _ (List.mem_of_getElem? hp)).b
      have ih := ih (i + 1) (by omega)
      rw [take_s hp, nA_app, nA_one] at ih
      refine sX2_amplifiersBefore_4 hc hr E rfl rfl E1 ⟨R3_s (by omega), R3_s (by omega), fun c => absurd c (by omega), fun _ => ⟨⟨by omega, by omega, by omega⟩, R3_s (by simp only [Int.toNat_natCast]; simp only at hb; omega), fun c => ?_, fun c => ?_⟩⟩
      · simp only [Int.toNat_natCast] at c
        rw [if_neg c] at ih
        exact ih
      · simp only [Int.toNat_natCast] at c
        rw [if_pos c] at ih
        exact ih
  exact sX2_amplifiersBefore_0 hc hr (L m 0 (by omega))
set_option maxHeartbeats 4000000 in
set_option maxRecDepth 100000 in
theorem sX2_add_0 {X : Xt} {n : Nat} {h : HP} {a0 : Nat} {x1 : Int} {x2 : Int} {x3 : Int} {x4 : Int} {fs1 : List Value} {iv2 : Int} {q3 : Nat} {len4 : Nat} {f4 : Nat → Int} {q7 : Nat} {len8 : Nat} {f8 : Nat → Int} {q10 : Nat} {len11 : Nat} {f11 : Nat → Int} {q14 : Nat} {len15 : Nat} {f15 : Nat → Int} (hc : Cx X cX2_add RX2 5 0 0) {K : KT} (hr : CxR X none K) (e1 : At h n a0 (.inl (2, fs1))) (z1 : fs1.length = 5) (v1_4 : fs1[4]? = some (.int (i3 iv2))) (v1_0 : fs1[0]? = some (.ref q3)) (e4 : At h n q3 (ai len4 f4)) (v1_1 : fs1[1]? = some (.ref q7)) (e8 : At h n q7 (ai len8 f8)) (ne9 : q7 ≠ q3) (v1_2 : fs1[2]? = some (.ref q10)) (e11 : At h n q10 (ai len11 f11)) (ne12 : q10 ≠ q3) (ne13 : q10 ≠ q7) (v1_3 : fs1[3]? = some (.ref q14)) (e15 : At h n q14 (ai len15 f15)) (ne16 : q14 ≠ q3) (ne17 : q14 ≠ q7) (ne18 : q14 ≠ q10)
    (P : (R3 iv2) ∧ (R3 (len4 : Int)) ∧ (iv2 < (len4 : Int) → (Ix iv2 len4) ∧ (Ix iv2 len8) ∧ (Ix iv2 len11) ∧ (Ix iv2 len15) ∧ K (.inl none) n (va_up (va_up (va_up (va_up (va_up h q3 (ai len4 (va_up f4 (iv2 : Int).toNat x1))) q7 (ai len8 (va_up f8 (iv2 : Int).toNat x2))) q10 (ai len11 (va_up f11 (iv2 : Int).toNat x3))) q14 (ai len15 (va_up f15 (iv2 : Int).toNat x4))) a0 (.inl (2, (fs1.set 4 (.int (i3 (iv2 + 1)))))))) ∧ (¬ iv2 < (len4 : Int) → K (.inl none) n h)) :
    Ok X 0 0 0 [(0, .ref a0), (1, .int (i3 x1)), (2, .int (i3 x2)), (3, .int (i3 x3)), (4, .int (i3 x4))] [] n h := by
  refine ok_aload_n (pc := 0) hc dX2_add_0 rfl 0 rfl ?_
  refine ok_get (pc := 1) hc fl_X2_24 dX2_add_1 e1.1 e1.2 v1_4 ?_
  refine ok_aload_n (pc := 4) hc dX2_add_4 rfl 0 rfl ?_
  refine ok_get (pc := 5) hc fl_X2_9 dX2_add_5 e1.1 e1.2 v1_0 ?_
  refine ok_alen (pc := 8) hc (v := i3 (len4 : Nat)) dX2_add_8 e4.1 e4.2 (i3_nI _).symm ?_
  obtain ⟨r5, P⟩ := P
  obtain ⟨r6, P⟩ := P
  refine zk_icmp_lt (pc := 9) (tgt := 13) hc dX2_add_9 (by decide) r5 r6 (fun c => ?_) (fun c => ?_)
  · have P := P.1 c
    refine ok_aload_n (pc := 13) hc dX2_add_13 rfl 0 rfl ?_
    refine ok_get (pc := 14) hc fl_X2_9 dX2_add_14 e1.1 e1.2 v1_0 ?_
    refine ok_aload_n (pc := 17) hc dX2_add_17 rfl 0 rfl ?_
    refine ok_get (pc := 18) hc fl_X2_24 dX2_add_18 e1.1 e1.2 v1_4 ?_
    refine ok_iload_n (pc := 21) hc dX2_add_21 rfl 1 rfl ?_
    obtain ⟨r, P⟩ := P
    refine zk_iast (pc := 22) hc dX2_add_22 e4.1 e4.2 r ?_
    refine ok_aload_n (pc := 23) hc dX2_add_23 rfl 0 rfl ?_
    refine ok_get (pc := 24) hc fl_X2_15 dX2_add_24 e1.1 ((up_ne (ne_oa e1.2 e4.2)).trans e1.2) v1_1 ?_
    refine ok_aload_n (pc := 27) hc dX2_add_27 rfl 0 rfl ?_
    refine ok_get (pc := 28) hc fl_X2_24 dX2_add_28 e1.1 ((up_ne (ne_oa e1.2 e4.2)).trans e1.2) v1_4 ?_
    refine ok_iload_n (pc := 31) hc dX2_add_31 rfl 2 rfl ?_
    obtain ⟨r, P⟩ := P
    refine zk_iast (pc := 32) hc dX2_add_32 e8.1 ((up_ne ne9).trans e8.2) r ?_
    refine ok_aload_n (pc := 33) hc dX2_add_33 rfl 0 rfl ?_
    refine ok_get (pc := 34) hc fl_X2_18 dX2_add_34 e1.1 ((up_ne (ne_oa e1.2 e8.2)).trans ((up_ne (ne_oa e1.2 e4.2)).trans e1.2)) v1_2 ?_
    refine ok_aload_n (pc := 37) hc dX2_add_37 rfl 0 rfl ?_
    refine ok_get (pc := 38) hc fl_X2_24 dX2_add_38 e1.1 ((up_ne (ne_oa e1.2 e8.2)).trans ((up_ne (ne_oa e1.2 e4.2)).trans e1.2)) v1_4 ?_
    refine ok_iload_n (pc := 41) hc dX2_add_41 rfl 3 rfl ?_
    obtain ⟨r, P⟩ := P
    refine zk_iast (pc := 42) hc dX2_add_42 e11.1 ((up_ne ne13).trans ((up_ne ne12).trans e11.2)) r ?_
    refine ok_aload_n (pc := 43) hc dX2_add_43 rfl 0 rfl ?_
    refine ok_get (pc := 44) hc fl_X2_21 dX2_add_44 e1.1 ((up_ne (ne_oa e1.2 e11.2)).trans ((up_ne (ne_oa e1.2 e8.2)).trans ((up_ne (ne_oa e1.2 e4.2)).trans e1.2))) v1_3 ?_
    refine ok_aload_n (pc := 47) hc dX2_add_47 rfl 0 rfl ?_
    refine ok_get (pc := 48) hc fl_X2_24 dX2_add_48 e1.1 ((up_ne (ne_oa e1.2 e11.2)).trans ((up_ne (ne_oa e1.2 e8.2)).trans ((up_ne (ne_oa e1.2 e4.2)).trans e1.2))) v1_4 ?_
    refine ok_iload (pc := 51) hc dX2_add_51 4 rfl ?_
    obtain ⟨r, P⟩ := P
    refine zk_iast (pc := 53) hc dX2_add_53 e15.1 ((up_ne ne18).trans ((up_ne ne17).trans ((up_ne ne16).trans e15.2))) r ?_
    refine ok_aload_n (pc := 54) hc dX2_add_54 rfl 0 rfl ?_
    refine ok_dup (pc := 55) hc dX2_add_55 rfl ?_
    refine ok_get (pc := 56) hc fl_X2_24 dX2_add_56 e1.1 ((up_ne (ne_oa e1.2 e15.2)).trans ((up_ne (ne_oa e1.2 e11.2)).trans ((up_ne (ne_oa e1.2 e8.2)).trans ((up_ne (ne_oa e1.2 e4.2)).trans e1.2)))) v1_4 ?_
    refine ok_iconst (pc := 59) hc (v := i3 1) dX2_add_59 (by decide) ?_
    refine zk_iadd (pc := 60) hc dX2_add_60 ?_
    refine ok_put (pc := 61) hc fl_X2_24 dX2_add_61 e1.1 ((up_ne (ne_oa e1.2 e15.2)).trans ((up_ne (ne_oa e1.2 e11.2)).trans ((up_ne (ne_oa e1.2 e8.2)).trans ((up_ne (ne_oa e1.2 e4.2)).trans e1.2)))) (by simp [List.length_set, z1]) (fun _ => rfl) (fun _ => rfl) ?_
    exact ok_vret (st := []) (pc := 64) hc hr dX2_add_64 P
  · have P := P.2 c
    exact ok_vret (st := []) (pc := 12) hc hr dX2_add_12 P

def spec_X2_add (args : List Value) (n : Nat) (h : HP) (K : KT) : Prop := ∃ (a cap : Nat) (ps : List Part) (p : Part), args = [.ref a, .int (i3 p.1), .int (i3 p.2.1), .int (i3 p.2.2.1), .int (i3 p.2.2.2)] ∧ PtA h n a cap ps ∧ ps.length < cap ∧ PW p ∧ ∀ h', PtA h' n a cap (ps ++ [p]) → Fr h h' a (a + 4) → K (.inl none) n h'
theorem app_get {α : Type} {ps : List α} {p : α} {g g' : Nat → α} (h : ∀ i, i < ps.length → ps[i]? = some (g i)) (h1 : ∀ i, i < ps.length → g' i = g i) (h2 : g' ps.length = p) : ∀ i, i < (ps ++ [p]).length → (ps ++ [p])[i]? = some (g' i) := by
  intro i hi
  rw [List.length_append, List.length_singleton] at hi
  by_cases e : i < ps.length
  · rw [List.getElem?_append_left e, h i e, h1 i e]
  · have : i = ps.length := by omega
    subst this
    rw [List.getElem?_append_right (Nat.le_refl _), Nat.sub_self, h2]
    rfl
theorem sp_X2_add : Sp yX2_add cX2_add 5 none 0 0 0 0 spec_X2_add := by
  refine sp_intro (by decide) (by rintro args n h K ⟨a, cap, ps, p, rfl, -⟩; exact Nat.le_of_ble_eq_true rfl) ?_
  rintro X args n h K hc hr ⟨a, cap, ps, p, rfl, ⟨k, f, s, t, E, E1, E2, E3, E4, hv, hw, hl, hcap⟩, hlt, hp, kk⟩
  refine sX2_add_0 hc hr E rfl rfl rfl E1 rfl E2 (by omega) rfl E3 (by omega) (by omega) rfl E4 (by omega) (by omega) (by omega) ⟨R3_s (by omega), R3_s (by omega), fun _ => ⟨⟨by omega, by omega, by omega⟩, ⟨by omega, by omega, by omega⟩, ⟨by omega, by omega, by omega⟩, ⟨by omega, by omega, by omega⟩, ?_⟩, fun c => absurd c (by omega)⟩
  simp only [Int.toNat_natCast]
  refine kk _ ⟨va_up k ps.length p.1, va_up f ps.length p.2.1, va_up s ps.length p.2.2.1, va_up t ps.length p.2.2.2, ?_, ?_, ?_, ?_, ?_, ?_, ?_, ?_, hcap⟩ ?_
  · refine ⟨E.1, up_self.trans ?_⟩
    simp [List.length_append]
  · exact (((E1.it.up (by omega)).up (by omega)).up (by omega)).up (by omega)
  · exact ((((E2.up (by omega)).it).up (by omega)).up (by omega)).up (by omega)
  · exact ((((E3.up (by omega)).up (by omega)).it).up (by omega)).up (by omega)
  · exact ((((E4.up (by omega)).up (by omega)).up (by omega)).it).up (by omega)
  · refine app_get (g := fun i => (k i, f i, s i, t i)) (g' := fun i => (va_up k ps.length p.1 i, va_up f ps.length p.2.1 i, va_up s ps.length p.2.2.1 i, va_up t ps.length p.2.2.2 i)) hv (fun i hi => ?_) ?_
    · have e : i ≠ ps.length := by omega
      simp only [up_ne e]
    · simp only [up_self]
  · intro q hq
    rcases List.mem_append.mp hq with hq | hq
    · exact hw q hq
    · rw [List.mem_singleton.mp hq]
      exact hp
  · rw [List.length_append, List.length_singleton]
    omega
  · exact ((((Fr.rf.up (by omega)).up (by omega)).up (by omega)).up (by omega)).up (by omega)
set_option maxHeartbeats 4000000 in
set_option maxRecDepth 100000 in
theorem sX2_addAll_0 {X : Xt} {n : Nat} {h : HP} {a0 : Nat} {a1 : Nat} (hc : Cx X cX2_addAll RX2 3 1 24) {K : KT} (hr : CxR X none K) 
    (P : Ok X 0 0 2 [(0, .ref a0), (1, .ref a1), (2, .int (i3 0))] [] n h) :
    Ok X 0 0 0 [(0, .ref a0), (1, .ref a1)] [] n h := by
  refine ok_iconst (pc := 0) hc (v := i3 0) dX2_addAll_0 (by decide) ?_
  refine ok_istore_n (pc := 1) hc (lv' := [(2, .int (i3 0)), (0, .ref a0), (1, .ref a1)]) dX2_addAll_1 rfl (by decide) rfl ?_
  refine ok_lv [1, 2, 0] rfl ?_
  exact P

set_option maxHeartbeats 4000000 in
set_option maxRecDepth 100000 in
theorem sX2_addAll_2 {X : Xt} {n : Nat} {h : HP} {a0 : Nat} {a1 : Nat} {x2 : Int} {fs1 : List Value} {iv2 : Int} {q5 : Nat} {len6 : Nat} {f6 : Nat → Int} {q7 : Nat} {len8 : Nat} {f8 : Nat → Int} {q9 : Nat} {len10 : Nat} {f10 : Nat → Int} {q11 : Nat} {len12 : Nat} {f12 : Nat → Int} {fs13 : List Value} (hc : Cx X cX2_addAll RX2 3 1 24) {K : KT} (hr : CxR X none K) (e1 : At h n a1 (.inl (2, fs1))) (z1 : fs1.length = 5) (v1_4 : fs1[4]? = some (.int (i3 iv2))) (v1_0 : fs1[0]? = some (.ref q5)) (e6 : At h n q5 (ai len6 f6)) (v1_1 : fs1[1]? = some (.ref q7)) (e8 : At h n q7 (ai len8 f8)) (v1_2 : fs1[2]? = some (.ref q9)) (e10 : At h n q9 (ai len10 f10)) (v1_3 : fs1[3]? = some (.ref q11)) (e12 : At h n q11 (ai len12 f12)) (e13 : At h n a0 (.inl (2, fs13))) (z13 : fs13.length = 5)
    (P : (R3 x2) ∧ (R3 iv2) ∧ (iv2 ≤ x2 → K (.inl none) n h) ∧ (¬ iv2 ≤ x2 → (Ix x2 len6) ∧ (Ix x2 len8) ∧ (Ix x2 len10) ∧ (Ix x2 len12) ∧ spec_X2_add [.ref a0, .int (i3 (f6 (x2 : Int).toNat)), .int (i3 (f8 (x2 : Int).toNat)), .int (i3 (f10 (x2 : Int).toNat)), .int (i3 (f12 (x2 : Int).toNat))] n h (kc X 0 0 35 [(0, .ref a0), (1, .ref a1), (2, .int (i3 x2))] [] n))) :
    Ok X 0 0 2 [(0, .ref a0), (1, .ref a1), (2, .int (i3 x2))] [] n h := by
  refine ok_iload_n (pc := 2) hc dX2_addAll_2 rfl 2 rfl ?_
  refine ok_aload_n (pc := 3) hc dX2_addAll_3 rfl 1 rfl ?_
  refine ok_get (pc := 4) hc fl_X2_24 dX2_addAll_4 e1.1 e1.2 v1_4 ?_
  obtain ⟨r3, P⟩ := P
  obtain ⟨r4, P⟩ := P
  refine zk_icmp_ge (pc := 7) (tgt := 44) hc dX2_addAll_7 (by decide) r3 r4 (fun c => ?_) (fun c => ?_)
  · have P := P.1 c
    exact ok_vret (st := []) (pc := 44) hc hr dX2_addAll_44 P
  · have P := P.2 c
    refine ok_aload_n (pc := 10) hc dX2_addAll_10 rfl 0 rfl ?_
    refine ok_aload_n (pc := 11) hc dX2_addAll_11 rfl 1 rfl ?_
    refine ok_get (pc := 12) hc fl_X2_9 dX2_addAll_12 e1.1 e1.2 v1_0 ?_
    refine ok_iload_n (pc := 15) hc dX2_addAll_15 rfl 2 rfl ?_
    obtain ⟨r, P⟩ := P
    refine zk_iald (pc := 16) hc dX2_addAll_16 e6.1 e6.2 r ?_
    refine ok_aload_n (pc := 17) hc dX2_addAll_17 rfl 1 rfl ?_
    refine ok_get (pc := 18) hc fl_X2_15 dX2_addAll_18 e1.1 e1.2 v1_1 ?_
    refine ok_iload_n (pc := 21) hc dX2_addAll_21 rfl 2 rfl ?_
    obtain ⟨r, P⟩ := P
    refine zk_iald (pc := 22) hc dX2_addAll_22 e8.1 e8.2 r ?_
    refine ok_aload_n (pc := 23) hc dX2_addAll_23 rfl 1 rfl ?_
    refine ok_get (pc := 24) hc fl_X2_18 dX2_addAll_24 e1.1 e1.2 v1_2 ?_
    refine ok_iload_n (pc := 27) hc dX2_addAll_27 rfl 2 rfl ?_
    obtain ⟨r, P⟩ := P
    refine zk_iald (pc := 28) hc dX2_addAll_28 e10.1 e10.2 r ?_
    refine ok_aload_n (pc := 29) hc dX2_addAll_29 rfl 1 rfl ?_
    refine ok_get (pc := 30) hc fl_X2_21 dX2_addAll_30 e1.1 e1.2 v1_3 ?_
    refine ok_iload_n (pc := 33) hc dX2_addAll_33 rfl 2 rfl ?_
    obtain ⟨r, P⟩ := P
    refine zk_iald (pc := 34) hc dX2_addAll_34 e12.1 e12.2 r ?_
    exact ok_callV (pc := 35) (a := a0) (cb := 0) (sb := 0) (st := []) hc [.int (i3 (f6 (x2 : Int).toNat)), .int (i3 (f8 (x2 : Int).toNat)), .int (i3 (f10 (x2 : Int).toNat)), .int (i3 (f12 (x2 : Int).toNat))] cv_X2_32 sp_X2_add (by decide) dX2_addAll_35 rfl e13.1 e13.2 rfl rfl rfl (Nat.le_of_ble_eq_true rfl) P

set_option maxHeartbeats 4000000 in
set_option maxRecDepth 100000 in
theorem sX2_addAll_38 {X : Xt} {n : Nat} {h : HP} {a0 : Nat} {a1 : Nat} {x2 : Int} (hc : Cx X cX2_addAll RX2 3 1 24) {K : KT} (hr : CxR X none K) 
    (P : Ok X 0 0 2 [(0, .ref a0), (1, .ref a1), (2, .int (i3 (x2 + 1)))] [] n h) :
    Ok X 0 0 38 [(0, .ref a0), (1, .ref a1), (2, .int (i3 x2))] [] n h := by
  refine zk_iinc (pc := 38) hc (q := 2) (x := x2) (lv' := [(2, .int (i3 (x2 + 1))), (0, .ref a0), (1, .ref a1)]) dX2_addAll_38 rfl (by decide) rfl ?_
  refine ok_goto (pc := 41) (tgt := 2) hc dX2_addAll_41 (by decide) ?_
  refine ok_lv [1, 2, 0] rfl ?_
  exact P

def spec_X2_addAll (args : List Value) (n : Nat) (h : HP) (K : KT) : Prop := ∃ (a b cap cap' : Nat) (qs ps : List Part), args = [.ref a, .ref b] ∧ PtA h n a cap qs ∧ PtA h n b cap' ps ∧ (a + 4 < b ∨ b + 4 < a) ∧ qs.length + ps.length ≤ cap ∧ ∀ h', PtA h' n a cap (qs ++ ps) → Fr h h' a (a + 4) → K (.inl none) n h'
theorem sp_X2_addAll : Sp yX2_addAll cX2_addAll 3 none 1 24 0 0 spec_X2_addAll := by
  refine sp_intro (by decide) (by rintro args n h K ⟨a, b, cap, cap', qs, ps, rfl, -⟩; exact Nat.le_of_ble_eq_true rfl) ?_
  rintro X args n h K hc hr ⟨a, b, cap, cap', qs, ps, rfl, hA, hB, hd, hsum, kk⟩
  have L : ∀ (j i : Nat) (h1 : HP), i + j = ps.length → PtA h1 n a cap (qs ++ ps.take i) → Fr h h1 a (a + 4) → Ok X 0 0 2 [(0, .ref a), (1, .ref b), (2, .int (i3 i))] [] n h1 := by
    intro j
    induction j with
    | zero =>
      intro i h1 hi hA1 hF
      have : i = ps.length := by omega
      subst this
      obtain ⟨k, f, s, t, E, E1, E2, E3, E4, hv, hw, hl, hcap⟩ := hB.fr hF (by omega)
      have hA2 := hA1
      obtain ⟨k', f', s', t', E', -⟩ := hA1
      rw [List.take_length] at hA2
      exact sX2_addAll_2 hc hr E rfl rfl rfl E1 rfl E2 rfl E3 rfl E4 E' rfl ⟨R3_s (by omega), R3_s (by omega), fun _ => kk _ hA2 hF, fun c => absurd (Int.le_refl _) c⟩
    | succ j ih =>
      intro i h1 hi hA1 hF
      obtain ⟨k, f, s, t, E, E1, E2, E3, E4, hv, hw, hl, hcap⟩ := hB.fr hF (by omega)
      have hA2 := hA1
      obtain ⟨k', f', s', t', E', -⟩ := hA1
      have hp := hv i (by omega)
      refine sX2_addAll_2 hc hr E rfl rfl rfl E1 rfl E2 rfl E3 rfl E4 E' rfl ⟨R3_s (by omega), R3_s (by omega), fun c => absurd c (by omega), fun _ => ⟨⟨by omega, by omega, by omega⟩, ⟨by omega, by omega, by omega⟩, ⟨by omega, by omega, by omega⟩, ⟨by omega, by omega, by omega⟩, ?_⟩⟩
      simp only [Int.toNat_natCast]
      refine ⟨a, cap, qs ++ ps.take i, (k i, f i, s i, t i), rfl, hA2, ?_, hw _ (List.mem_of_getElem? hp), fun h' q1 q2 => ⟨rfl, ?_⟩⟩
      · rw [List.length_append, List.length_take]
        omega
      · rw [List.append_assoc, ← take_s hp] at q1
        exact sX2_addAll_38 hc hr (ih (i + 1) h' (by omega) q1 (hF.tr q2))
  exact sX2_addAll_0 hc hr (L ps.length 0 h (by omega) (by simpa using hA) Fr.rf)
set_option maxHeartbeats 4000000 in
set_option maxRecDepth 100000 in
theorem sX2_copyFrom_0 {X : Xt} {n : Nat} {h : HP} {a0 : Nat} {a1 : Nat} {fs1 : List Value} (hc : Cx X cX2_copyFrom RX2 2 2 46) {K : KT} (hr : CxR X none K) (e1 : At h n a0 (.inl (2, fs1))) (z1 : fs1.length = 5)
    (P : spec_X2_addAll [.ref a0, .ref a1] n (va_up h a0 (.inl (2, (fs1.set 4 (.int (i3 0)))))) (kc X 0 0 7 [(0, .ref a0), (1, .ref a1)] [] n)) :
    Ok X 0 0 0 [(0, .ref a0), (1, .ref a1)] [] n h := by
  refine ok_aload_n (pc := 0) hc dX2_copyFrom_0 rfl 0 rfl ?_
  refine ok_iconst (pc := 1) hc (v := i3 0) dX2_copyFrom_1 (by decide) ?_
  refine ok_put (pc := 2) hc fl_X2_24 dX2_copyFrom_2 e1.1 e1.2 (by simp [List.length_set, z1]) (fun _ => rfl) (fun _ => rfl) ?_
  refine ok_aload_n (pc := 5) hc dX2_copyFrom_5 rfl 0 rfl ?_
  refine ok_aload_n (pc := 6) hc dX2_copyFrom_6 rfl 1 rfl ?_
  exact ok_callV (pc := 7) (a := a0) (cb := 0) (sb := 0) (st := []) hc [.ref a1] cv_X2_28 sp_X2_addAll (by decide) dX2_copyFrom_7 rfl e1.1 up_self rfl rfl rfl (Nat.le_of_ble_eq_true rfl) P

set_option maxHeartbeats 4000000 in
set_option maxRecDepth 100000 in
theorem sX2_copyFrom_10 {X : Xt} {n : Nat} {h : HP} {a0 : Nat} {a1 : Nat} (hc : Cx X cX2_copyFrom RX2 2 2 46) {K : KT} (hr : CxR X none K) 
    (P : K (.inl none) n h) :
    Ok X 0 0 10 [(0, .ref a0), (1, .ref a1)] [] n h := by
  exact ok_vret (st := []) (pc := 10) hc hr dX2_copyFrom_10 P

def spec_X2_copyFrom (args : List Value) (n : Nat) (h : HP) (K : KT) : Prop := ∃ (a b cap cap' : Nat) (qs ps : List Part), args = [.ref a, .ref b] ∧ PtA h n a cap qs ∧ PtA h n b cap' ps ∧ (a + 4 < b ∨ b + 4 < a) ∧ ps.length ≤ cap ∧ ∀ h', PtA h' n a cap ps → Fr h h' a (a + 4) → K (.inl none) n h'
theorem sp_X2_copyFrom : Sp yX2_copyFrom cX2_copyFrom 2 none 2 46 0 0 spec_X2_copyFrom := by
  refine sp_intro (by decide) (by rintro args n h K ⟨a, b, cap, cap', qs, ps, rfl, -⟩; exact Nat.le_of_ble_eq_true rfl) ?_
  rintro X args n h K hc hr ⟨a, b, cap, cap', qs, ps, rfl, hA, hB, hd, hsum, kk⟩
  have hB2 := hB
  obtain ⟨k, f, s, t, E, E1, E2, E3, E4, hv, hw, hl, hcap⟩ := hA
  obtain ⟨k', f', s', t', E', -⟩ := hB
  have hF : Fr h (va_up h a (.inl (2, [.ref (a + 1), .ref (a + 2), .ref (a + 3), .ref (a + 4), .int (i3 0)]))) a (a + 4) := Fr.rf.up (by omega)
  refine sX2_copyFrom_0 hc hr E rfl ⟨a, b, cap, cap', [], ps, rfl, ⟨k, f, s, t, E.it, E1.up (by omega), E2.up (by omega), E3.up (by omega), E4.up (by omega), fun i hi => absurd hi (Nat.not_lt_zero i), fun p hp => absurd hp List.not_mem_nil, Nat.zero_le _, hcap⟩, hB2.fr hF (by omega), hd, by simpa using hsum, fun h' q1 q2 => ⟨rfl, ?_⟩⟩
  exact sX2_copyFrom_10 hc hr (kk h' (by simpa using q1) (hF.tr q2))
