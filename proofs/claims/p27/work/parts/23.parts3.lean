/-! part 23: class Parts: masks of nodes, what may be added -/
def bz (b : Bool) : Int := if b = true then 1 else 0
theorem drop_s {α : Type} {ps : List α} {i : Nat} {p : α} (h : ps[i]? = some p) : ps.drop i = p :: ps.drop (i + 1) := by
  obtain ⟨hi, e⟩ := List.getElem?_eq_some_iff.mp h
  rw [← e]
  exact List.drop_eq_getElem_cons hi
set_option maxHeartbeats 4000000 in
set_option maxRecDepth 100000 in
theorem sX2_usedNodes_0 {X : Xt} {n : Nat} {h : HP} {a0 : Nat} (hc : Cx X cX2_usedNodes RX2 3 0 0) {K : KT} (hr : CxR X (some .int) K) 
    (P : Ok X 0 0 4 [(0, .ref a0), (1, .int (i3 0)), (2, .int (i3 0))] [] n h) :
    Ok X 0 0 0 [(0, .ref a0)] [] n h := by
  refine ok_iconst (pc := 0) hc (v := i3 0) dX2_usedNodes_0 (by decide) ?_
  refine ok_istore_n (pc := 1) hc (lv' := [(1, .int (i3 0)), (0, .ref a0)]) dX2_usedNodes_1 rfl (by decide) rfl ?_
  refine ok_iconst (pc := 2) hc (v := i3 0) dX2_usedNodes_2 (by decide) ?_
  refine ok_istore_n (pc := 3) hc (lv' := [(2, .int (i3 0)), (1, .int (i3 0)), (0, .ref a0)]) dX2_usedNodes_3 rfl (by decide) rfl ?_
  refine ok_lv [2, 1, 0] rfl ?_
  exact P

set_option maxHeartbeats 4000000 in
set_option maxRecDepth 100000 in
theorem sX2_usedNodes_4 {X : Xt} {n : Nat} {h : HP} {a0 : Nat} {x1 : Int} {x2 : Int} {fs1 : List Value} {iv2 : Int} {q5 : Nat} {len6 : Nat} {f6 : Nat → Int} {q7 : Nat} {len8 : Nat} {f8 : Nat → Int} {q11 : Nat} {len12 : Nat} {f12 : Nat → Int} {q13 : Nat} {len14 : Nat} {f14 : Nat → Int} (hc : Cx X cX2_usedNodes RX2 3 0 0) {K : KT} (hr : CxR X (some .int) K) (e1 : At h n a0 (.inl (2, fs1))) (z1 : fs1.length = 5) (v1_4 : fs1[4]? = some (.int (i3 iv2))) (v1_1 : fs1[1]? = some (.ref q5)) (e6 : At h n q5 (ai len6 f6)) (v1_0 : fs1[0]? = some (.ref q7)) (e8 : At h n q7 (ai len8 f8)) (v1_3 : fs1[3]? = some (.ref q11)) (e12 : At h n q11 (ai len12 f12)) (v1_2 : fs1[2]? = some (.ref q13)) (e14 : At h n q13 (ai len14 f14))
    (P : (R3 x2) ∧ (R3 iv2) ∧ (iv2 ≤ x2 → K (.inl (some (.int (i3 (band x1 (-2)))))) n h) ∧ (¬ iv2 ≤ x2 → (Ix x2 len6) ∧ (Ix x2 len8) ∧ (R3 (f8 (x2 : Int).toNat)) ∧ ((f8 (x2 : Int).toNat) = 1 → (Ix x2 len8) ∧ (R3 (f8 (x2 : Int).toNat)) ∧ (¬ (f8 (x2 : Int).toNat) = 2 → Ok X 0 0 4 [(0, .ref a0), (1, .int (i3 (bor x1 (bshl 1 (f6 (x2 : Int).toNat))))), (2, .int (i3 (x2 + 1)))] [] n h) ∧ ((f8 (x2 : Int).toNat) = 2 → (Ix x2 len12) ∧ Ok X 0 0 4 [(0, .ref a0), (1, .int (i3 (bor (bor x1 (bshl 1 (f6 (x2 : Int).toNat))) (bshl 1 (f12 (x2 : Int).toNat))))), (2, .int (i3 (x2 + 1)))] [] n h)) ∧ (¬ (f8 (x2 : Int).toNat) = 1 → (Ix x2 len14) ∧ (Ix x2 len8) ∧ (R3 (f8 (x2 : Int).toNat)) ∧ (¬ (f8 (x2 : Int).toNat) = 2 → Ok X 0 0 4 [(0, .ref a0), (1, .int (i3 (bor (bor x1 (bshl 1 (f6 (x2 : Int).toNat))) (bshl 1 (f14 (x2 : Int).toNat))))), (2, .int (i3 (x2 + 1)))] [] n h) ∧ ((f8 (x2 : Int).toNat) = 2 → (Ix x2 len12) ∧ Ok X 0 0 4 [(0, .ref a0), (1, .int (i3 (bor (bor (bor x1 (bshl 1 (f6 (x2 : Int).toNat))) (bshl 1 (f14 (x2 : Int).toNat))) (bshl 1 (f12 (x2 : Int).toNat))))), (2, .int (i3 (x2 + 1)))] [] n h)))) :
    Ok X 0 0 4 [(0, .ref a0), (1, .int (i3 x1)), (2, .int (i3 x2))] [] n h := by
  refine ok_iload_n (pc := 4) hc dX2_usedNodes_4 rfl 2 rfl ?_
  refine ok_aload_n (pc := 5) hc dX2_usedNodes_5 rfl 0 rfl ?_
  refine ok_get (pc := 6) hc fl_X2_24 dX2_usedNodes_6 e1.1 e1.2 v1_4 ?_
  obtain ⟨r3, P⟩ := P
  obtain ⟨r4, P⟩ := P
  refine zk_icmp_ge (pc := 9) (tgt := 71) hc dX2_usedNodes_9 (by decide) r3 r4 (fun c => ?_) (fun c => ?_)
  · have P := P.1 c
    refine ok_iload_n (pc := 71) hc dX2_usedNodes_71 rfl 1 rfl ?_
    refine ok_bipush (pc := 72) hc (v := i3 (-2)) dX2_usedNodes_72 (by decide) ?_
    refine zk_iand (pc := 74) hc dX2_usedNodes_74 ?_
    exact ok_iret (st := []) (pc := 75) hc hr dX2_usedNodes_75 P
  · have P := P.2 c
    refine ok_iload_n (pc := 12) hc dX2_usedNodes_12 rfl 1 rfl ?_
    refine ok_iconst (pc := 13) hc (v := i3 1) dX2_usedNodes_13 (by decide) ?_
    refine ok_aload_n (pc := 14) hc dX2_usedNodes_14 rfl 0 rfl ?_
    refine ok_get (pc := 15) hc fl_X2_15 dX2_usedNodes_15 e1.1 e1.2 v1_1 ?_
    refine ok_iload_n (pc := 18) hc dX2_usedNodes_18 rfl 2 rfl ?_
    obtain ⟨r, P⟩ := P
    refine zk_iald (pc := 19) hc dX2_usedNodes_19 e6.1 e6.2 r ?_
    refine zk_ishl (pc := 20) hc dX2_usedNodes_20 ?_
    refine zk_ior (pc := 21) hc dX2_usedNodes_21 ?_
    refine ok_istore_n (pc := 22) hc (lv' := [(1, .int (i3 (bor x1 (bshl 1 (f6 (x2 : Int).toNat))))), (0, .ref a0), (2, .int (i3 x2))]) dX2_usedNodes_22 rfl (by decide) rfl ?_
    refine ok_aload_n (pc := 23) hc dX2_usedNodes_23 rfl 1 rfl ?_
    refine ok_get (pc := 24) hc fl_X2_9 dX2_usedNodes_24 e1.1 e1.2 v1_0 ?_
    refine ok_iload_n (pc := 27) hc dX2_usedNodes_27 rfl 2 rfl ?_
    obtain ⟨r, P⟩ := P
    refine zk_iald (pc := 28) hc dX2_usedNodes_28 e8.1 e8.2 r ?_
    refine ok_iconst (pc := 29) hc (v := i3 1) dX2_usedNodes_29 (by decide) ?_
    obtain ⟨r9, P⟩ := P
    refine zk_icmp_eq (pc := 30) (tgt := 44) hc dX2_usedNodes_30 (by decide) r9 ⟨by decide, by decide⟩ (fun c => ?_) (fun c => ?_)
    · have P := P.1 c
      refine ok_aload_n (pc := 44) hc dX2_usedNodes_44 rfl 1 rfl ?_
      refine ok_get (pc := 45) hc fl_X2_9 dX2_usedNodes_45 e1.1 e1.2 v1_0 ?_
      refine ok_iload_n (pc := 48) hc dX2_usedNodes_48 rfl 2 rfl ?_
      obtain ⟨r, P⟩ := P
      refine zk_iald (pc := 49) hc dX2_usedNodes_49 e8.1 e8.2 r ?_
      refine ok_iconst (pc := 50) hc (v := i3 2) dX2_usedNodes_50 (by decide) ?_
      obtain ⟨r10, P⟩ := P
      refine zk_icmp_ne (pc := 51) (tgt := 65) hc dX2_usedNodes_51 (by decide) r10 ⟨by decide, by decide⟩ (fun c => ?_) (fun c => ?_)
      · have P := P.1 c
        refine zk_iinc (pc := 65) hc (q := 2) (x := x2) (lv' := [(2, .int (i3 (x2 + 1))), (1, .int (i3 (bor x1 (bshl 1 (f6 (x2 : Int).toNat))))), (0, .ref a0)]) dX2_usedNodes_65 rfl (by decide) rfl ?_
        refine ok_goto (pc := 68) (tgt := 4) hc dX2_usedNodes_68 (by decide) ?_
        refine ok_lv [2, 1, 0] rfl ?_
        exact P
      · have P := P.2 c
        refine ok_iload_n (pc := 54) hc dX2_usedNodes_54 rfl 0 rfl ?_
        refine ok_iconst (pc := 55) hc (v := i3 1) dX2_usedNodes_55 (by decide) ?_
        refine ok_aload_n (pc := 56) hc dX2_usedNodes_56 rfl 1 rfl ?_
        refine ok_get (pc := 57) hc fl_X2_21 dX2_usedNodes_57 e1.1 e1.2 v1_3 ?_
        refine ok_iload_n (pc := 60) hc dX2_usedNodes_60 rfl 2 rfl ?_
        obtain ⟨r, P⟩ := P
        refine zk_iald (pc := 61) hc dX2_usedNodes_61 e12.1 e12.2 r ?_
        refine zk_ishl (pc := 62) hc dX2_usedNodes_62 ?_
        refine zk_ior (pc := 63) hc dX2_usedNodes_63 ?_
        refine ok_istore_n (pc := 64) hc (lv' := [(1, .int (i3 (bor (bor x1 (bshl 1 (f6 (x2 : Int).toNat))) (bshl 1 (f12 (x2 : Int).toNat))))), (0, .ref a0), (2, .int (i3 x2))]) dX2_usedNodes_64 rfl (by decide) rfl ?_
        refine zk_iinc (pc := 65) hc (q := 2) (x := x2) (lv' := [(2, .int (i3 (x2 + 1))), (1, .int (i3 (bor (bor x1 (bshl 1 (f6 (x2 : Int).toNat))) (bshl 1 (f12 (x2 : Int).toNat))))), (0, .ref a0)]) dX2_usedNodes_65 rfl (by decide) rfl ?_
        refine ok_goto (pc := 68) (tgt := 4) hc dX2_usedNodes_68 (by decide) ?_
        refine ok_lv [2, 1, 0] rfl ?_
        exact P
    · have P := P.2 c
      refine ok_iload_n (pc := 33) hc dX2_usedNodes_33 rfl 0 rfl ?_
      refine ok_iconst (pc := 34) hc (v := i3 1) dX2_usedNodes_34 (by decide) ?_
      refine ok_aload_n (pc := 35) hc dX2_usedNodes_35 rfl 1 rfl ?_
      refine ok_get (pc := 36) hc fl_X2_18 dX2_usedNodes_36 e1.1 e1.2 v1_2 ?_
      refine ok_iload_n (pc := 39) hc dX2_usedNodes_39 rfl 2 rfl ?_
      obtain ⟨r, P⟩ := P
      refine zk_iald (pc := 40) hc dX2_usedNodes_40 e14.1 e14.2 r ?_
      refine zk_ishl (pc := 41) hc dX2_usedNodes_41 ?_
      refine zk_ior (pc := 42) hc dX2_usedNodes_42 ?_
      refine ok_istore_n (pc := 43) hc (lv' := [(1, .int (i3 (bor (bor x1 (bshl 1 (f6 (x2 : Int).toNat))) (bshl 1 (f14 (x2 : Int).toNat))))), (0, .ref a0), (2, .int (i3 x2))]) dX2_usedNodes_43 rfl (by decide) rfl ?_
      refine ok_aload_n (pc := 44) hc dX2_usedNodes_44 rfl 1 rfl ?_
      refine ok_get (pc := 45) hc fl_X2_9 dX2_usedNodes_45 e1.1 e1.2 v1_0 ?_
      refine ok_iload_n (pc := 48) hc dX2_usedNodes_48 rfl 2 rfl ?_
      obtain ⟨r, P⟩ := P
      refine zk_iald (pc := 49) hc dX2_usedNodes_49 e8.1 e8.2 r ?_
      refine ok_iconst (pc := 50) hc (v := i3 2) dX2_usedNodes_50 (by decide) ?_
      obtain ⟨r15, P⟩ := P
      refine zk_icmp_ne (pc := 51) (tgt := 65) hc dX2_usedNodes_51 (by decide) r15 ⟨by decide, by decide⟩ (fun c => ?_) (fun c => ?_)
      · have P := P.1 c
        refine zk_iinc (pc := 65) hc (q := 2) (x := x2) (lv' := [(2, .int (i3 (x2 + 1))), (1, .int (i3 (bor (bor x1 (bshl 1 (f6 (x2 : Int).toNat))) (bshl 1 (f14 (x2 : Int).toNat))))), (0, .ref a0)]) dX2_usedNodes_65 rfl (by decide) rfl ?_
        refine ok_goto (pc := 68) (tgt := 4) hc dX2_usedNodes_68 (by decide) ?_
        refine ok_lv [2, 1, 0] rfl ?_
        exact P
      · have P := P.2 c
        refine ok_iload_n (pc := 54) hc dX2_usedNodes_54 rfl 0 rfl ?_
        refine ok_iconst (pc := 55) hc (v := i3 1) dX2_usedNodes_55 (by decide) ?_
        refine ok_aload_n (pc := 56) hc dX2_usedNodes_56 rfl 1 rfl ?_
        refine ok_get (pc := 57) hc fl_X2_21 dX2_usedNodes_57 e1.1 e1.2 v1_3 ?_
        refine ok_iload_n (pc := 60) hc dX2_usedNodes_60 rfl 2 rfl ?_
        obtain ⟨r, P⟩ := P
        refine zk_iald (pc := 61) hc dX2_usedNodes_61 e12.1 e12.2 r ?_
        refine zk_ishl (pc := 62) hc dX2_usedNodes_62 ?_
        refine zk_ior (pc := 63) hc dX2_usedNodes_63 ?_
        refine ok_istore_n (pc := 64) hc (lv' := [(1, .int (i3 (bor (bor (bor x1 (bshl 1 (f6 (x2 : Int).toNat))) (bshl 1 (f14 (x2 : Int).toNat))) (bshl 1 (f12 (x2 : Int).toNat))))), (0, .ref a0), (2, .int (i3 x2))]) dX2_usedNodes_64 rfl (by decide) rfl ?_
        refine zk_iinc (pc := 65) hc (q := 2) (x := x2) (lv' := [(2, .int (i3 (x2 + 1))), (1, .int (i3 (bor (bor (bor x1 (bshl 1 (f6 (x2 : Int).toNat))) (bshl 1 (f14 (x2 : Int).toNat))) (bshl 1 (f12 (x2 : Int).toNat))))), (0, .ref a0)]) dX2_usedNodes_65 rfl (by decide) rfl ?_
        refine ok_goto (pc := 68) (tgt := 4) hc dX2_usedNodes_68 (by decide) ?_
        refine ok_lv [2, 1, 0] rfl ?_
        exact P

def spec_X2_usedNodes (args : List Value) (n : Nat) (h : HP) (K : KT) : Prop := ∃ (a cap : Nat) (ps : List Part), args = [.ref a] ∧ PtA h n a cap ps ∧ K (.inl (some (.int (i3 (usedM ps))))) n h
theorem sp_X2_usedNodes : Sp yX2_usedNodes cX2_usedNodes 3 (some .int) 0 0 0 0 spec_X2_usedNodes := by
  refine sp_intro (by decide) (by rintro args n h K ⟨a, cap, ps, rfl, -⟩; exact Nat.le_of_ble_eq_true rfl) ?_
  rintro X args n h K hc hr ⟨a, cap, ps, rfl, ⟨k, f, s, t, E, E1, E2, E3, E4, hv, hw, hl, hcap⟩, kk⟩
  have L : ∀ j i : Nat, i + j = ps.length → Ok X 0 0 4 [(0, .ref a), (1, .int (i3 ((ps.take i).foldl um1 0))), (2, .int (i3 i))] [] n h := by
    intro j
    induction j with
    | zero =>
      intro i hi
      have : i = ps.length := by omega
      subst this
      refine sX2_usedNodes_4 hc hr E rfl rfl rfl E2 rfl E1 rfl E4 rfl E3 ⟨R3_s (by omega), R3_s (by omega), fun _ => ?_, fun c => absurd (Int.le_refl _) c⟩
      rw [List.take_length]
      exact kk
    | succ j ih =>
      intro i hi
      have hp := hv i (by omega)
      have hb := (hw _ (List.mem_of_getElem? hp)).b
      have ih := ih (i + 1) (by omega)
      rw [take_s hp, List.foldl_append, List.foldl_cons, List.foldl_nil] at ih
      unfold um1 at ih
      have ix : ∀ z : Nat, z = cap → Ix (i : Int) z := fun z hz => ⟨by omega, by omega, by omega⟩
      have rk : R3 (k (i : Int).toNat) := R3_s (by simp only [Int.toNat_natCast]; simp only at hb; omega)
      refine sX2_usedNodes_4 hc hr E rfl rfl rfl E2 rfl E1 rfl E4 rfl E3 ⟨R3_s (by omega), R3_s (by omega), fun c => absurd c (by omega), fun _ => ⟨ix _ rfl, ix _ rfl, rk, fun c => ⟨ix _ rfl, rk, fun c2 => ?_, fun c2 => ?_⟩, fun c => ⟨ix _ rfl, ix _ rfl, rk, fun c2 => ?_, fun c2 => ⟨ix _ rfl, ?_⟩⟩⟩⟩
      all_goals simp only [Int.toNat_natCast] at c c2
      · rw [if_neg c2, if_pos c] at ih
        exact ih
      · exact absurd (c.symm.trans c2) (by decide)
      · rw [if_neg c2, if_neg c] at ih
        exact ih
      · rw [if_pos c2] at ih
        exact ih
  exact sX2_usedNodes_0 hc hr (L ps.length 0 (by omega))
set_option maxHeartbeats 4000000 in
set_option maxRecDepth 100000 in
theorem sX2_drivenNode_0 {X : Xt} {n : Nat} {h : HP} {a0 : Nat} {x1 : Int} {fs1 : List Value} {q2 : Nat} {len3 : Nat} {f3 : Nat → Int} {q5 : Nat} {len6 : Nat} {f6 : Nat → Int} {q7 : Nat} {len8 : Nat} {f8 : Nat → Int} (hc : Cx X cX2_drivenNode RX2 2 0 0) {K : KT} (hr : CxR X (some .int) K) (e1 : At h n a0 (.inl (2, fs1))) (z1 : fs1.length = 5) (v1_0 : fs1[0]? = some (.ref q2)) (e3 : At h n q2 (ai len3 f3)) (v1_1 : fs1[1]? = some (.ref q5)) (e6 : At h n q5 (ai len6 f6)) (v1_3 : fs1[3]? = some (.ref q7)) (e8 : At h n q7 (ai len8 f8))
    (P : (Ix x1 len3) ∧ (R3 (f3 (x1 : Int).toNat)) ∧ ((f3 (x1 : Int).toNat) = 1 → (Ix x1 len6) ∧ K (.inl (some (.int (i3 (f6 (x1 : Int).toNat))))) n h) ∧ ((f3 (x1 : Int).toNat) = 2 → (Ix x1 len8) ∧ K (.inl (some (.int (i3 (f8 (x1 : Int).toNat))))) n h) ∧ (¬ (f3 (x1 : Int).toNat) = 1 ∧ ¬ (f3 (x1 : Int).toNat) = 2 → K (.inl (some (.int (i3 (-1))))) n h)) :
    Ok X 0 0 0 [(0, .ref a0), (1, .int (i3 x1))] [] n h := by
  refine ok_aload_n (pc := 0) hc dX2_drivenNode_0 rfl 0 rfl ?_
  refine ok_get (pc := 1) hc fl_X2_9 dX2_drivenNode_1 e1.1 e1.2 v1_0 ?_
  refine ok_iload_n (pc := 4) hc dX2_drivenNode_4 rfl 1 rfl ?_
  obtain ⟨r, P⟩ := P
  refine zk_iald (pc := 5) hc dX2_drivenNode_5 e3.1 e3.2 r ?_
  obtain ⟨r4, P⟩ := P
  by_cases c0 : (f3 (x1 : Int).toNat) = 1
  · have P := P.1 c0
    refine ok_lookup (pc := 6) (off := 26) (tgt := 32) hc dX2_drivenNode_6 (by decide) (by rw [i3_toInt r4, c0]; decide) (by decide) ?_
    refine ok_aload_n (pc := 32) hc dX2_drivenNode_32 rfl 0 rfl ?_
    refine ok_get (pc := 33) hc fl_X2_15 dX2_drivenNode_33 e1.1 e1.2 v1_1 ?_
    refine ok_iload_n (pc := 36) hc dX2_drivenNode_36 rfl 1 rfl ?_
    obtain ⟨r, P⟩ := P
    refine zk_iald (pc := 37) hc dX2_drivenNode_37 e6.1 e6.2 r ?_
    exact ok_iret (st := []) (pc := 38) hc hr dX2_drivenNode_38 P
  by_cases c1 : (f3 (x1 : Int).toNat) = 2
  · have P := P.2.1 c1
    refine ok_lookup (pc := 6) (off := 33) (tgt := 39) hc dX2_drivenNode_6 (by decide) (by rw [i3_toInt r4, c1]; decide) (by decide) ?_
    refine ok_aload_n (pc := 39) hc dX2_drivenNode_39 rfl 0 rfl ?_
    refine ok_get (pc := 40) hc fl_X2_21 dX2_drivenNode_40 e1.1 e1.2 v1_3 ?_
    refine ok_iload_n (pc := 43) hc dX2_drivenNode_43 rfl 1 rfl ?_
    obtain ⟨r, P⟩ := P
    refine zk_iald (pc := 44) hc dX2_drivenNode_44 e8.1 e8.2 r ?_
    exact ok_iret (st := []) (pc := 45) hc hr dX2_drivenNode_45 P
  have P := P.2.2 ⟨c0, c1⟩
  refine ok_lookup (pc := 6) (off := 40) (tgt := 46) hc dX2_drivenNode_6 (by decide) (by rw [i3_toInt r4]; show Op.lookupswitch.offset [(1, 26), (2, 33)] 40 _ = 40; rw [Op.lookupswitch.offset_cons, if_neg (Ne.symm c0), Op.lookupswitch.offset_cons, if_neg (Ne.symm c1), Op.lookupswitch.offset_nil]) (by decide) ?_
  refine ok_iconst (pc := 46) hc (v := i3 (-1)) dX2_drivenNode_46 (by decide) ?_
  exact ok_iret (st := []) (pc := 47) hc hr dX2_drivenNode_47 P

def spec_X2_drivenNode (args : List Value) (n : Nat) (h : HP) (K : KT) : Prop := ∃ (a cap i : Nat) (ps : List Part) (p : Part), args = [.ref a, .int (i3 i)] ∧ PtA h n a cap ps ∧ ps[i]? = some p ∧ K (.inl (some (.int (i3 (drv p))))) n h
theorem sp_X2_drivenNode : Sp yX2_drivenNode cX2_drivenNode 2 (some .int) 0 0 0 0 spec_X2_drivenNode := by
  refine sp_intro (by decide) (by rintro args n h K ⟨a, cap, i, ps, p, rfl, -⟩; exact Nat.le_of_ble_eq_true rfl) ?_
  rintro X args n h K hc hr ⟨a, cap, i, ps, p, rfl, ⟨k, f, s, t, E, E1, E2, E3, E4, hv, hw, hl, hcap⟩, hp, kk⟩
  have hi : i < ps.length := (List.getElem?_eq_some_iff.mp hp).1
  have hb := (hw _ (List.mem_of_getElem? hp)).b
  obtain rfl : (k i, f i, s i, t i) = p := Option.some.inj ((hv i hi).symm.trans hp)
  have ix : ∀ z : Nat, z = cap → Ix (i : Int) z := fun z hz => ⟨by omega, by omega, by omega⟩
  unfold drv at kk
  simp only at kk hb
  refine sX2_drivenNode_0 hc hr E rfl rfl E1 rfl E2 rfl E4 ⟨ix _ rfl, R3_s (by simp only [Int.toNat_natCast]; omega), fun c => ⟨ix _ rfl, ?_⟩, fun c => ⟨ix _ rfl, ?_⟩, fun c => ?_⟩
  all_goals simp only [Int.toNat_natCast] at c ⊢
  · rw [if_pos c] at kk
    exact kk
  · rw [if_neg (by rw [c]; decide), if_pos c] at kk
    exact kk
  · rw [if_neg c.1, if_neg c.2] at kk
    exact kk
set_option maxHeartbeats 4000000 in
set_option maxRecDepth 100000 in
theorem sX2_drivenNodes_0 {X : Xt} {n : Nat} {h : HP} {a0 : Nat} (hc : Cx X cX2_drivenNodes RX2 3 1 21) {K : KT} (hr : CxR X (some .int) K) 
    (P : Ok X 0 0 4 [(0, .ref a0), (1, .int (i3 0)), (2, .int (i3 0))] [] n h) :
    Ok X 0 0 0 [(0, .ref a0)] [] n h := by
  refine ok_iconst (pc := 0) hc (v := i3 0) dX2_drivenNodes_0 (by decide) ?_
  refine ok_istore_n (pc := 1) hc (lv' := [(1, .int (i3 0)), (0, .ref a0)]) dX2_drivenNodes_1 rfl (by decide) rfl ?_
  refine ok_iconst (pc := 2) hc (v := i3 0) dX2_drivenNodes_2 (by decide) ?_
  refine ok_istore_n (pc := 3) hc (lv' := [(2, .int (i3 0)), (1, .int (i3 0)), (0, .ref a0)]) dX2_drivenNodes_3 rfl (by decide) rfl ?_
  refine ok_lv [2, 1, 0] rfl ?_
  exact P

set_option maxHeartbeats 4000000 in
set_option maxRecDepth 100000 in
theorem sX2_drivenNodes_4 {X : Xt} {n : Nat} {h : HP} {a0 : Nat} {x1 : Int} {x2 : Int} {fs1 : List Value} {iv2 : Int} {q5 : Nat} {len6 : Nat} {f6 : Nat → Int} (hc : Cx X cX2_drivenNodes RX2 3 1 21) {K : KT} (hr : CxR X (some .int) K) (e1 : At h n a0 (.inl (2, fs1))) (z1 : fs1.length = 5) (v1_4 : fs1[4]? = some (.int (i3 iv2))) (v1_0 : fs1[0]? = some (.ref q5)) (e6 : At h n q5 (ai len6 f6))
    (P : (R3 x2) ∧ (R3 iv2) ∧ (iv2 ≤ x2 → K (.inl (some (.int (i3 x1)))) n h) ∧ (¬ iv2 ≤ x2 → (Ix x2 len6) ∧ (R3 (f6 (x2 : Int).toNat)) ∧ ((f6 (x2 : Int).toNat) = 0 → Ok X 0 0 4 [(0, .ref a0), (1, .int (i3 x1)), (2, .int (i3 (x2 + 1)))] [] n h) ∧ (¬ (f6 (x2 : Int).toNat) = 0 → spec_X2_drivenNode [.ref a0, .int (i3 x2)] n h (kc X 0 0 25 [(0, .ref a0), (1, .int (i3 x1)), (2, .int (i3 x2))] [.int (i3 1), .int (i3 x1)] n)))) :
    Ok X 0 0 4 [(0, .ref a0), (1, .int (i3 x1)), (2, .int (i3 x2))] [] n h := by
  refine ok_iload_n (pc := 4) hc dX2_drivenNodes_4 rfl 2 rfl ?_
  refine ok_aload_n (pc := 5) hc dX2_drivenNodes_5 rfl 0 rfl ?_
  refine ok_get (pc := 6) hc fl_X2_24 dX2_drivenNodes_6 e1.1 e1.2 v1_4 ?_
  obtain ⟨r3, P⟩ := P
  obtain ⟨r4, P⟩ := P
  refine zk_icmp_ge (pc := 9) (tgt := 37) hc dX2_drivenNodes_9 (by decide) r3 r4 (fun c => ?_) (fun c => ?_)
  · have P := P.1 c
    refine ok_iload_n (pc := 37) hc dX2_drivenNodes_37 rfl 1 rfl ?_
    exact ok_iret (st := []) (pc := 38) hc hr dX2_drivenNodes_38 P
  · have P := P.2 c
    refine ok_aload_n (pc := 12) hc dX2_drivenNodes_12 rfl 0 rfl ?_
    refine ok_get (pc := 13) hc fl_X2_9 dX2_drivenNodes_13 e1.1 e1.2 v1_0 ?_
    refine ok_iload_n (pc := 16) hc dX2_drivenNodes_16 rfl 2 rfl ?_
    obtain ⟨r, P⟩ := P
    refine zk_iald (pc := 17) hc dX2_drivenNodes_17 e6.1 e6.2 r ?_
    obtain ⟨r7, P⟩ := P
    refine zk_if_eq (pc := 18) (tgt := 31) hc dX2_drivenNodes_18 (by decide) r7 (fun c => ?_) (fun c => ?_)
    · have P := P.1 c
      refine zk_iinc (pc := 31) hc (q := 2) (x := x2) (lv' := [(2, .int (i3 (x2 + 1))), (0, .ref a0), (1, .int (i3 x1))]) dX2_drivenNodes_31 rfl (by decide) rfl ?_
      refine ok_goto (pc := 34) (tgt := 4) hc dX2_drivenNodes_34 (by decide) ?_
      refine ok_lv [1, 2, 0] rfl ?_
      exact P
    · have P := P.2 c
      refine ok_iload_n (pc := 21) hc dX2_drivenNodes_21 rfl 1 rfl ?_
      refine ok_iconst (pc := 22) hc (v := i3 1) dX2_drivenNodes_22 (by decide) ?_
      refine ok_aload_n (pc := 23) hc dX2_drivenNodes_23 rfl 0 rfl ?_
      refine ok_iload_n (pc := 24) hc dX2_drivenNodes_24 rfl 2 rfl ?_
      exact ok_callV (pc := 25) (a := a0) (cb := 0) (sb := 0) (st := [.int (i3 1), .int (i3 x1)]) hc [.int (i3 x2)] cv_X2_36 sp_X2_drivenNode (by decide) dX2_drivenNodes_25 rfl e1.1 e1.2 rfl rfl rfl (Nat.le_of_ble_eq_true rfl) P

set_option maxHeartbeats 4000000 in
set_option maxRecDepth 100000 in
theorem sX2_drivenNodes_28 {X : Xt} {n : Nat} {h : HP} {a0 : Nat} {x1 : Int} {x2 : Int} {t0 : Int} {t1 : Int} {t2 : Int} (hc : Cx X cX2_drivenNodes RX2 3 1 21) {K : KT} (hr : CxR X (some .int) K) 
    (P : Ok X 0 0 4 [(0, .ref a0), (1, .int (i3 (bor t2 (bshl t1 t0)))), (2, .int (i3 (x2 + 1)))] [] n h) :
    Ok X 0 0 28 [(0, .ref a0), (1, .int (i3 x1)), (2, .int (i3 x2))] [.int (i3 t0), .int (i3 t1), .int (i3 t2)] n h := by
  refine zk_ishl (pc := 28) hc dX2_drivenNodes_28 ?_
  refine zk_ior (pc := 29) hc dX2_drivenNodes_29 ?_
  refine ok_istore_n (pc := 30) hc (lv' := [(1, .int (i3 (bor t2 (bshl t1 t0)))), (0, .ref a0), (2, .int (i3 x2))]) dX2_drivenNodes_30 rfl (by decide) rfl ?_
  refine zk_iinc (pc := 31) hc (q := 2) (x := x2) (lv' := [(2, .int (i3 (x2 + 1))), (1, .int (i3 (bor t2 (bshl t1 t0)))), (0, .ref a0)]) dX2_drivenNodes_31 rfl (by decide) rfl ?_
  refine ok_goto (pc := 34) (tgt := 4) hc dX2_drivenNodes_34 (by decide) ?_
  refine ok_lv [2, 1, 0] rfl ?_
  exact P

def spec_X2_drivenNodes (args : List Value) (n : Nat) (h : HP) (K : KT) : Prop := ∃ (a cap : Nat) (ps : List Part), args = [.ref a] ∧ PtA h n a cap ps ∧ K (.inl (some (.int (i3 (drivenM ps))))) n h
theorem sp_X2_drivenNodes : Sp yX2_drivenNodes cX2_drivenNodes 3 (some .int) 1 21 0 0 spec_X2_drivenNodes := by
  refine sp_intro (by decide) (by rintro args n h K ⟨a, cap, ps, rfl, -⟩; exact Nat.le_of_ble_eq_true rfl) ?_
  rintro X args n h K hc hr ⟨a, cap, ps, rfl, ⟨k, f, s, t, E, E1, E2, E3, E4, hv, hw, hl, hcap⟩, kk⟩
  have L : ∀ j i : Nat, i + j = ps.length → Ok X 0 0 4 [(0, .ref a), (1, .int (i3 ((ps.take i).foldl dm1 0))), (2, .int (i3 i))] [] n h := by
    intro j
    induction j with
    | zero =>
      intro i hi
      have : i = ps.length := by omega
      subst this
      refine sX2_drivenNodes_4 hc hr E rfl rfl rfl E1 ⟨R3_s (by omega), R3_s (by omega), fun _ => ?_, fun c => absurd (Int.le_refl _) c⟩
      rw [List.take_length]
      exact kk
    | succ j ih =>
      intro i hi
      have hp := hv i (by omega)
      have hb := (hw _ (List.mem_of_getElem? hp)).b
      have ih := ih (i + 1) (by omega)
      rw [take_s hp, List.foldl_append, List.foldl_cons, List.foldl_nil] at ih
      unfold dm1 at ih
      refine sX2_drivenNodes_4 hc hr E rfl rfl rfl E1 ⟨R3_s (by omega), R3_s (by omega), fun c => absurd c (by omega), fun _ => ⟨⟨by omega, by omega, by omega⟩, R3_s (by simp only [Int.toNat_natCast]; simp only at hb; omega), fun c => ?_, fun c => ?_⟩⟩
      all_goals simp only [Int.toNat_natCast] at c
      · rw [if_pos c] at ih
        exact ih
      · rw [if_neg c] at ih
        exact ⟨a, cap, i, ps, _, rfl, ⟨k, f, s, t, E, E1, E2, E3, E4, hv, hw, hl, hcap⟩, hp, rfl, sX2_drivenNodes_28 hc hr ih⟩
  exact sX2_drivenNodes_0 hc hr (L ps.length 0 (by omega))
/-- can the part be: its nodes are as told -/
def toldB (p : Part) : Bool := if p.1 = 1 then decide (p.2.1 ≠ 0) else decide (p.2.1 ≠ p.2.2.1) && (decide (p.1 = 0) || (decide (p.2.2.2 ≠ 0) && decide (p.2.2.2 ≠ p.2.1) && decide (p.2.2.2 ≠ p.2.2.1)))
set_option maxHeartbeats 4000000 in
set_option maxRecDepth 100000 in
theorem sX2_hasNodesAsTold_0 {X : Xt} {n : Nat} {h : HP} {a0 : Nat} {x1 : Int} {fs1 : List Value} {q2 : Nat} {len3 : Nat} {f3 : Nat → Int} {q5 : Nat} {len6 : Nat} {f6 : Nat → Int} {q7 : Nat} {len8 : Nat} {f8 : Nat → Int} {q12 : Nat} {len13 : Nat} {f13 : Nat → Int} (hc : Cx X cX2_hasNodesAsTold RX2 3 0 0) {K : KT} (hr : CxR X (some .boolean) K) (e1 : At h n a0 (.inl (2, fs1))) (z1 : fs1.length = 5) (v1_0 : fs1[0]? = some (.ref q2)) (e3 : At h n q2 (ai len3 f3)) (v1_1 : fs1[1]? = some (.ref q5)) (e6 : At h n q5 (ai len6 f6)) (v1_2 : fs1[2]? = some (.ref q7)) (e8 : At h n q7 (ai len8 f8)) (v1_3 : fs1[3]? = some (.ref q12)) (e13 : At h n q12 (ai len13 f13))
    (P : (Ix x1 len3) ∧ (R3 (f3 (x1 : Int).toNat)) ∧ (¬ (f3 (x1 : Int).toNat) = 1 → (Ix x1 len6) ∧ (Ix x1 len8) ∧ (R3 (f6 (x1 : Int).toNat)) ∧ (R3 (f8 (x1 : Int).toNat)) ∧ (¬ (f6 (x1 : Int).toNat) = (f8 (x1 : Int).toNat) → (Ix x1 len3) ∧ (R3 (f3 (x1 : Int).toNat)) ∧ (¬ (f3 (x1 : Int).toNat) = 0 → (Ix x1 len13) ∧ (R3 (f13 (x1 : Int).toNat)) ∧ ((f13 (x1 : Int).toNat) = 0 → K (.inl (some (.int (i3 0)))) n h) ∧ (¬ (f13 (x1 : Int).toNat) = 0 → (Ix x1 len6) ∧ (R3 (f13 (x1 : Int).toNat)) ∧ (R3 (f6 (x1 : Int).toNat)) ∧ ((f13 (x1 : Int).toNat) = (f6 (x1 : Int).toNat) → K (.inl (some (.int (i3 0)))) n h) ∧ (¬ (f13 (x1 : Int).toNat) = (f6 (x1 : Int).toNat) → (Ix x1 len8) ∧ (R3 (f13 (x1 : Int).toNat)) ∧ (R3 (f8 (x1 : Int).toNat)) ∧ ((f13 (x1 : Int).toNat) = (f8 (x1 : Int).toNat) → K (.inl (some (.int (i3 0)))) n h) ∧ (¬ (f13 (x1 : Int).toNat) = (f8 (x1 : Int).toNat) → K (.inl (some (.int (i3 1)))) n h)))) ∧ ((f3 (x1 : Int).toNat) = 0 → K (.inl (some (.int (i3 1)))) n h)) ∧ ((f6 (x1 : Int).toNat) = (f8 (x1 : Int).toNat) → K (.inl (some (.int (i3 0)))) n h)) ∧ ((f3 (x1 : Int).toNat) = 1 → (Ix x1 len6) ∧ (R3 (f6 (x1 : Int).toNat)) ∧ ((f6 (x1 : Int).toNat) = 0 → K (.inl (some (.int (i3 0)))) n h) ∧ (¬ (f6 (x1 : Int).toNat) = 0 → K (.inl (some (.int (i3 1)))) n h))) :
    Ok X 0 0 0 [(0, .ref a0), (1, .int (i3 x1))] [] n h := by
  refine ok_aload_n (pc := 0) hc dX2_hasNodesAsTold_0 rfl 0 rfl ?_
  refine ok_get (pc := 1) hc fl_X2_9 dX2_hasNodesAsTold_1 e1.1 e1.2 v1_0 ?_
  refine ok_iload_n (pc := 4) hc dX2_hasNodesAsTold_4 rfl 1 rfl ?_
  obtain ⟨r, P⟩ := P
  refine zk_iald (pc := 5) hc dX2_hasNodesAsTold_5 e3.1 e3.2 r ?_
  refine ok_iconst (pc := 6) hc (v := i3 1) dX2_hasNodesAsTold_6 (by decide) ?_
  obtain ⟨r4, P⟩ := P
  refine zk_icmp_ne (pc := 7) (tgt := 25) hc dX2_hasNodesAsTold_7 (by decide) r4 ⟨by decide, by decide⟩ (fun c => ?_) (fun c => ?_)
  · have P := P.1 c
    refine ok_aload_n (pc := 25) hc dX2_hasNodesAsTold_25 rfl 0 rfl ?_
    refine ok_get (pc := 26) hc fl_X2_15 dX2_hasNodesAsTold_26 e1.1 e1.2 v1_1 ?_
    refine ok_iload_n (pc := 29) hc dX2_hasNodesAsTold_29 rfl 1 rfl ?_
    obtain ⟨r, P⟩ := P
    refine zk_iald (pc := 30) hc dX2_hasNodesAsTold_30 e6.1 e6.2 r ?_
    refine ok_aload_n (pc := 31) hc dX2_hasNodesAsTold_31 rfl 0 rfl ?_
    refine ok_get (pc := 32) hc fl_X2_18 dX2_hasNodesAsTold_32 e1.1 e1.2 v1_2 ?_
    refine ok_iload_n (pc := 35) hc dX2_hasNodesAsTold_35 rfl 1 rfl ?_
    obtain ⟨r, P⟩ := P
    refine zk_iald (pc := 36) hc dX2_hasNodesAsTold_36 e8.1 e8.2 r ?_
    obtain ⟨r9, P⟩ := P
    obtain ⟨r10, P⟩ := P
    refine zk_icmp_ne (pc := 37) (tgt := 42) hc dX2_hasNodesAsTold_37 (by decide) r9 r10 (fun c => ?_) (fun c => ?_)
    · have P := P.1 c
      refine ok_aload_n (pc := 42) hc dX2_hasNodesAsTold_42 rfl 0 rfl ?_
      refine ok_get (pc := 43) hc fl_X2_9 dX2_hasNodesAsTold_43 e1.1 e1.2 v1_0 ?_
      refine ok_iload_n (pc := 46) hc dX2_hasNodesAsTold_46 rfl 1 rfl ?_
      obtain ⟨r, P⟩ := P
      refine zk_iald (pc := 47) hc dX2_hasNodesAsTold_47 e3.1 e3.2 r ?_
      obtain ⟨r11, P⟩ := P
      refine zk_if_ne (pc := 48) (tgt := 53) hc dX2_hasNodesAsTold_48 (by decide) r11 (fun c => ?_) (fun c => ?_)
      · have P := P.1 c
        refine ok_aload_n (pc := 53) hc dX2_hasNodesAsTold_53 rfl 0 rfl ?_
        refine ok_get (pc := 54) hc fl_X2_21 dX2_hasNodesAsTold_54 e1.1 e1.2 v1_3 ?_
        refine ok_iload_n (pc := 57) hc dX2_hasNodesAsTold_57 rfl 1 rfl ?_
        obtain ⟨r, P⟩ := P
        refine zk_iald (pc := 58) hc dX2_hasNodesAsTold_58 e13.1 e13.2 r ?_
        refine ok_istore_n (pc := 59) hc (lv' := [(2, .int (i3 (f13 (x1 : Int).toNat))), (0, .ref a0), (1, .int (i3 x1))]) dX2_hasNodesAsTold_59 rfl (by decide) rfl ?_
        refine ok_iload_n (pc := 60) hc dX2_hasNodesAsTold_60 rfl 0 rfl ?_
        obtain ⟨r14, P⟩ := P
        refine zk_if_eq (pc := 61) (tgt := 88) hc dX2_hasNodesAsTold_61 (by decide) r14 (fun c => ?_) (fun c => ?_)
        · have P := P.1 c
          refine ok_iconst (pc := 88) hc (v := i3 0) dX2_hasNodesAsTold_88 (by decide) ?_
          exact ok_zret (st := []) (pc := 89) hc (nar_z (by decide)) hr dX2_hasNodesAsTold_89 P
        · have P := P.2 c
          refine ok_iload_n (pc := 64) hc dX2_hasNodesAsTold_64 rfl 0 rfl ?_
          refine ok_aload_n (pc := 65) hc dX2_hasNodesAsTold_65 rfl 1 rfl ?_
          refine ok_get (pc := 66) hc fl_X2_15 dX2_hasNodesAsTold_66 e1.1 e1.2 v1_1 ?_
          refine ok_iload_n (pc := 69) hc dX2_hasNodesAsTold_69 rfl 2 rfl ?_
          obtain ⟨r, P⟩ := P
          refine zk_iald (pc := 70) hc dX2_hasNodesAsTold_70 e6.1 e6.2 r ?_
          obtain ⟨r15, P⟩ := P
          obtain ⟨r16, P⟩ := P
          refine zk_icmp_eq (pc := 71) (tgt := 88) hc dX2_hasNodesAsTold_71 (by decide) r15 r16 (fun c => ?_) (fun c => ?_)
          · have P := P.1 c
            refine ok_iconst (pc := 88) hc (v := i3 0) dX2_hasNodesAsTold_88 (by decide) ?_
            exact ok_zret (st := []) (pc := 89) hc (nar_z (by decide)) hr dX2_hasNodesAsTold_89 P
          · have P := P.2 c
            refine ok_iload_n (pc := 74) hc dX2_hasNodesAsTold_74 rfl 0 rfl ?_
            refine ok_aload_n (pc := 75) hc dX2_hasNodesAsTold_75 rfl 1 rfl ?_
            refine ok_get (pc := 76) hc fl_X2_18 dX2_hasNodesAsTold_76 e1.1 e1.2 v1_2 ?_
            refine ok_iload_n (pc := 79) hc dX2_hasNodesAsTold_79 rfl 2 rfl ?_
            obtain ⟨r, P⟩ := P
            refine zk_iald (pc := 80) hc dX2_hasNodesAsTold_80 e8.1 e8.2 r ?_
            obtain ⟨r17, P⟩ := P
            obtain ⟨r18, P⟩ := P
            refine zk_icmp_eq (pc := 81) (tgt := 88) hc dX2_hasNodesAsTold_81 (by decide) r17 r18 (fun c => ?_) (fun c => ?_)
            · have P := P.1 c
              refine ok_iconst (pc := 88) hc (v := i3 0) dX2_hasNodesAsTold_88 (by decide) ?_
              exact ok_zret (st := []) (pc := 89) hc (nar_z (by decide)) hr dX2_hasNodesAsTold_89 P
            · have P := P.2 c
              refine ok_iconst (pc := 84) hc (v := i3 1) dX2_hasNodesAsTold_84 (by decide) ?_
              refine ok_goto (pc := 85) (tgt := 89) hc dX2_hasNodesAsTold_85 (by decide) ?_
              exact ok_zret (st := []) (pc := 89) hc (nar_z (by decide)) hr dX2_hasNodesAsTold_89 P
      · have P := P.2 c
        refine ok_iconst (pc := 51) hc (v := i3 1) dX2_hasNodesAsTold_51 (by decide) ?_
        exact ok_zret (st := []) (pc := 52) hc (nar_z (by decide)) hr dX2_hasNodesAsTold_52 P
    · have P := P.2 c
      refine ok_iconst (pc := 40) hc (v := i3 0) dX2_hasNodesAsTold_40 (by decide) ?_
      exact ok_zret (st := []) (pc := 41) hc (nar_z (by decide)) hr dX2_hasNodesAsTold_41 P
  · have P := P.2 c
    refine ok_aload_n (pc := 10) hc dX2_hasNodesAsTold_10 rfl 0 rfl ?_
    refine ok_get (pc := 11) hc fl_X2_15 dX2_hasNodesAsTold_11 e1.1 e1.2 v1_1 ?_
    refine ok_iload_n (pc := 14) hc dX2_hasNodesAsTold_14 rfl 1 rfl ?_
    obtain ⟨r, P⟩ := P
    refine zk_iald (pc := 15) hc dX2_hasNodesAsTold_15 e6.1 e6.2 r ?_
    obtain ⟨r19, P⟩ := P
    refine zk_if_eq (pc := 16) (tgt := 23) hc dX2_hasNodesAsTold_16 (by decide) r19 (fun c => ?_) (fun c => ?_)
    · have P := P.1 c
      refine ok_iconst (pc := 23) hc (v := i3 0) dX2_hasNodesAsTold_23 (by decide) ?_
      exact ok_zret (st := []) (pc := 24) hc (nar_z (by decide)) hr dX2_hasNodesAsTold_24 P
    · have P := P.2 c
      refine ok_iconst (pc := 19) hc (v := i3 1) dX2_hasNodesAsTold_19 (by decide) ?_
      refine ok_goto (pc := 20) (tgt := 24) hc dX2_hasNodesAsTold_20 (by decide) ?_
      exact ok_zret (st := []) (pc := 24) hc (nar_z (by decide)) hr dX2_hasNodesAsTold_24 P

def spec_X2_hasNodesAsTold (args : List Value) (n : Nat) (h : HP) (K : KT) : Prop := ∃ (a cap i : Nat) (ps : List Part) (p : Part), args = [.ref a, .int (i3 i)] ∧ PtA h n a cap ps ∧ ps[i]? = some p ∧ K (.inl (some (.int (i3 (bz (toldB p)))))) n h
theorem sp_X2_hasNodesAsTold : Sp yX2_hasNodesAsTold cX2_hasNodesAsTold 3 (some .boolean) 0 0 0 0 spec_X2_hasNodesAsTold := by
  refine sp_intro (by decide) (by rintro args n h K ⟨a, cap, i, ps, p, rfl, -⟩; exact Nat.le_of_ble_eq_true rfl) ?_
  rintro X args n h K hc hr ⟨a, cap, i, ps, p, rfl, ⟨k, f, s, t, E, E1, E2, E3, E4, hv, hw, hl, hcap⟩, hp, kk⟩
  have hi : i < ps.length := (List.getElem?_eq_some_iff.mp hp).1
  have hb := (hw _ (List.mem_of_getElem? hp)).b
  obtain rfl : (k i, f i, s i, t i) = p := Option.some.inj ((hv i hi).symm.trans hp)
  have ix : ∀ z : Nat, z = cap → Ix (i : Int) z := fun z hz => ⟨by omega, by omega, by omega⟩
  simp only at hb
  have rk : R3 (k (i : Int).toNat) := R3_s (by simp only [Int.toNat_natCast]; omega)
  have rf : R3 (f (i : Int).toNat) := R3_s (by simp only [Int.toNat_natCast]; omega)
  have rs : R3 (s (i : Int).toNat) := R3_s (by simp only [Int.toNat_natCast]; omega)
  have rt : R3 (t (i : Int).toNat) := R3_s (by simp only [Int.toNat_natCast]; omega)
  unfold toldB bz at kk
  simp only at kk
  refine sX2_hasNodesAsTold_0 hc hr E rfl rfl E1 rfl E2 rfl E3 rfl E4 ⟨ix _ rfl, rk, fun c => ⟨ix _ rfl, ix _ rfl, rf, rs, fun c2 => ⟨ix _ rfl, rk, fun c3 => ⟨ix _ rfl, rt, fun c4 => ?_, fun c4 => ⟨ix _ rfl, rt, rf, fun c5 => ?_, fun c5 => ⟨ix _ rfl, rt, rs, fun c6 => ?_, fun c6 => ?_⟩⟩⟩, fun c3 => ?_⟩, fun c2 => ?_⟩, fun c => ⟨ix _ rfl, rf, fun c2 => ?_, fun c2 => ?_⟩⟩
  all_goals simp_all only [Int.toNat_natCast, if_true, if_false, ne_eq, not_true_eq_false, not_false_eq_true, decide_true, decide_false, Bool.and_true, Bool.true_and, Bool.and_false, Bool.false_and, Bool.or_true, Bool.true_or, Bool.or_false, Bool.false_or, Bool.false_eq_true, reduceCtorEq]
set_option maxHeartbeats 4000000 in
set_option maxRecDepth 100000 in
theorem sX2_haveNodesAsTold_0 {X : Xt} {n : Nat} {h : HP} {a0 : Nat} (hc : Cx X cX2_haveNodesAsTold RX2 2 1 22) {K : KT} (hr : CxR X (some .boolean) K) 
    (P : Ok X 0 0 2 [(0, .ref a0), (1, .int (i3 0))] [] n h) :
    Ok X 0 0 0 [(0, .ref a0)] [] n h := by
  refine ok_iconst (pc := 0) hc (v := i3 0) dX2_haveNodesAsTold_0 (by decide) ?_
  refine ok_istore_n (pc := 1) hc (lv' := [(1, .int (i3 0)), (0, .ref a0)]) dX2_haveNodesAsTold_1 rfl (by decide) rfl ?_
  refine ok_lv [1, 0] rfl ?_
  exact P

set_option maxHeartbeats 4000000 in
set_option maxRecDepth 100000 in
theorem sX2_haveNodesAsTold_2 {X : Xt} {n : Nat} {h : HP} {a0 : Nat} {x1 : Int} {fs1 : List Value} {iv2 : Int} (hc : Cx X cX2_haveNodesAsTold RX2 2 1 22) {K : KT} (hr : CxR X (some .boolean) K) (e1 : At h n a0 (.inl (2, fs1))) (z1 : fs1.length = 5) (v1_4 : fs1[4]? = some (.int (i3 iv2)))
    (P : (R3 x1) ∧ (R3 iv2) ∧ (iv2 ≤ x1 → K (.inl (some (.int (i3 1)))) n h) ∧ (¬ iv2 ≤ x1 → spec_X2_hasNodesAsTold [.ref a0, .int (i3 x1)] n h (kc X 0 0 12 [(0, .ref a0), (1, .int (i3 x1))] [] n))) :
    Ok X 0 0 2 [(0, .ref a0), (1, .int (i3 x1))] [] n h := by
  refine ok_iload_n (pc := 2) hc dX2_haveNodesAsTold_2 rfl 1 rfl ?_
  refine ok_aload_n (pc := 3) hc dX2_haveNodesAsTold_3 rfl 0 rfl ?_
  refine ok_get (pc := 4) hc fl_X2_24 dX2_haveNodesAsTold_4 e1.1 e1.2 v1_4 ?_
  obtain ⟨r3, P⟩ := P
  obtain ⟨r4, P⟩ := P
  refine zk_icmp_ge (pc := 7) (tgt := 26) hc dX2_haveNodesAsTold_7 (by decide) r3 r4 (fun c => ?_) (fun c => ?_)
  · have P := P.1 c
    refine ok_iconst (pc := 26) hc (v := i3 1) dX2_haveNodesAsTold_26 (by decide) ?_
    exact ok_zret (st := []) (pc := 27) hc (nar_z (by decide)) hr dX2_haveNodesAsTold_27 P
  · have P := P.2 c
    refine ok_aload_n (pc := 10) hc dX2_haveNodesAsTold_10 rfl 0 rfl ?_
    refine ok_iload_n (pc := 11) hc dX2_haveNodesAsTold_11 rfl 1 rfl ?_
    exact ok_callV (pc := 12) (a := a0) (cb := 0) (sb := 0) (st := []) hc [.int (i3 x1)] cv_X2_40 sp_X2_hasNodesAsTold (by decide) dX2_haveNodesAsTold_12 rfl e1.1 e1.2 rfl rfl rfl (Nat.le_of_ble_eq_true rfl) P

set_option maxHeartbeats 4000000 in
set_option maxRecDepth 100000 in
theorem sX2_haveNodesAsTold_15 {X : Xt} {n : Nat} {h : HP} {a0 : Nat} {x1 : Int} {t0 : Int} (hc : Cx X cX2_haveNodesAsTold RX2 2 1 22) {K : KT} (hr : CxR X (some .boolean) K) 
    (P : (R3 t0) ∧ (¬ t0 = 0 → Ok X 0 0 2 [(0, .ref a0), (1, .int (i3 (x1 + 1)))] [] n h) ∧ (t0 = 0 → K (.inl (some (.int (i3 0)))) n h)) :
    Ok X 0 0 15 [(0, .ref a0), (1, .int (i3 x1))] [.int (i3 t0)] n h := by
  obtain ⟨r1, P⟩ := P
  refine zk_if_ne (pc := 15) (tgt := 20) hc dX2_haveNodesAsTold_15 (by decide) r1 (fun c => ?_) (fun c => ?_)
  · have P := P.1 c
    refine zk_iinc (pc := 20) hc (q := 1) (x := x1) (lv' := [(1, .int (i3 (x1 + 1))), (0, .ref a0)]) dX2_haveNodesAsTold_20 rfl (by decide) rfl ?_
    refine ok_goto (pc := 23) (tgt := 2) hc dX2_haveNodesAsTold_23 (by decide) ?_
    refine ok_lv [1, 0] rfl ?_
    exact P
  · have P := P.2 c
    refine ok_iconst (pc := 18) hc (v := i3 0) dX2_haveNodesAsTold_18 (by decide) ?_
    exact ok_zret (st := []) (pc := 19) hc (nar_z (by decide)) hr dX2_haveNodesAsTold_19 P

def spec_X2_haveNodesAsTold (args : List Value) (n : Nat) (h : HP) (K : KT) : Prop := ∃ (a cap : Nat) (ps : List Part), args = [.ref a] ∧ PtA h n a cap ps ∧ K (.inl (some (.int (i3 (bz (ps.all toldB)))))) n h
theorem bz01 (b : Bool) : R3 (bz b) := by cases b <;> exact ⟨by decide, by decide⟩
theorem bz0 {b : Bool} : bz b = 0 ↔ b = false := by cases b <;> decide
theorem sp_X2_haveNodesAsTold : Sp yX2_haveNodesAsTold cX2_haveNodesAsTold 2 (some .boolean) 1 22 0 0 spec_X2_haveNodesAsTold := by
  refine sp_intro (by decide) (by rintro args n h K ⟨a, cap, ps, rfl, -⟩; exact Nat.le_of_ble_eq_true rfl) ?_
  rintro X args n h K hc hr ⟨a, cap, ps, rfl, ⟨k, f, s, t, E, E1, E2, E3, E4, hv, hw, hl, hcap⟩, kk⟩
  have L : ∀ j i : Nat, i + j = ps.length → K (.inl (some (.int (i3 (bz ((ps.drop i).all toldB)))))) n h → Ok X 0 0 2 [(0, .ref a), (1, .int (i3 i))] [] n h := by
    intro j
    induction j with
    | zero =>
      intro i hi kk
      have : i = ps.length := by omega
      subst this
      refine sX2_haveNodesAsTold_2 hc hr E rfl rfl ⟨R3_s (by omega), R3_s (by omega), fun _ => ?_, fun c => absurd (Int.le_refl _) c⟩
      rw [List.drop_length] at kk
      exact kk
    | succ j ih =>
      intro i hi kk
      have hp := hv i (by omega)
      rw [drop_s hp, List.all_cons] at kk
      refine sX2_haveNodesAsTold_2 hc hr E rfl rfl ⟨R3_s (by omega), R3_s (by omega), fun c => absurd c (by omega), fun _ => ⟨a, cap, i, ps, _, rfl, ⟨k, f, s, t, E, E1, E2, E3, E4, hv, hw, hl, hcap⟩, hp, rfl, sX2_haveNodesAsTold_15 hc hr ⟨bz01 _, fun c => ?_, fun c => ?_⟩⟩⟩
      · refine ih (i + 1) (by omega) ?_
        rw [bz0] at c
        rw [show toldB (k i, f i, s i, t i) = true by simpa using c, Bool.true_and] at kk
        exact kk
      · rw [bz0] at c
        rw [c, Bool.false_and] at kk
        exact kk
  exact sX2_haveNodesAsTold_0 hc hr (L ps.length 0 (by omega) kk)
/-- have the parts nodes of their own, beside those of the mask -/
def freeW : Int → List Part → Bool
  | _, [] => true
  | m, p :: ps => if p.1 = 0 then freeW m ps else if bcon m (drv p) = 0 then freeW (bor m (bshl 1 (drv p))) ps else false
def roomB (qs ps : List Part) : Bool := decide (qs.length + ps.length ≤ 12) && (decide (nA qs + nA ps ≤ 3) && freeW (drivenM qs) ps)
set_option maxHeartbeats 4000000 in
set_option maxRecDepth 100000 in
theorem sX2_haveRoomFor_0 {X : Xt} {n : Nat} {h : HP} {a0 : Nat} {a1 : Nat} {fs1 : List Value} {iv2 : Int} {fs3 : List Value} {iv4 : Int} (hc : Cx X cX2_haveRoomFor RX2 5 2 43) {K : KT} (hr : CxR X (some .boolean) K) (e1 : At h n a0 (.inl (2, fs1))) (z1 : fs1.length = 5) (v1_4 : fs1[4]? = some (.int (i3 iv2))) (e3 : At h n a1 (.inl (2, fs3))) (z3 : fs3.length = 5) (v3_4 : fs3[4]? = some (.int (i3 iv4)))
    (P : (R3 (iv2 + iv4)) ∧ ((iv2 + iv4) ≤ 12 → spec_X2_amplifiersBefore [.ref a0, .int (i3 iv2)] n h (kc X 0 0 21 [(0, .ref a0), (1, .ref a1)] [] n)) ∧ (¬ (iv2 + iv4) ≤ 12 → K (.inl (some (.int (i3 0)))) n h)) :
    Ok X 0 0 0 [(0, .ref a0), (1, .ref a1)] [] n h := by
  refine ok_aload_n (pc := 0) hc dX2_haveRoomFor_0 rfl 0 rfl ?_
  refine ok_get (pc := 1) hc fl_X2_24 dX2_haveRoomFor_1 e1.1 e1.2 v1_4 ?_
  refine ok_aload_n (pc := 4) hc dX2_haveRoomFor_4 rfl 1 rfl ?_
  refine ok_get (pc := 5) hc fl_X2_24 dX2_haveRoomFor_5 e3.1 e3.2 v3_4 ?_
  refine zk_iadd (pc := 8) hc dX2_haveRoomFor_8 ?_
  refine ok_bipush (pc := 9) hc (v := i3 12) dX2_haveRoomFor_9 (by decide) ?_
  obtain ⟨r5, P⟩ := P
  refine zk_icmp_le (pc := 11) (tgt := 16) hc dX2_haveRoomFor_11 (by decide) r5 ⟨by decide, by decide⟩ (fun c => ?_) (fun c => ?_)
  · have P := P.1 c
    refine ok_aload_n (pc := 16) hc dX2_haveRoomFor_16 rfl 0 rfl ?_
    refine ok_aload_n (pc := 17) hc dX2_haveRoomFor_17 rfl 0 rfl ?_
    refine ok_get (pc := 18) hc fl_X2_24 dX2_haveRoomFor_18 e1.1 e1.2 v1_4 ?_
    exact ok_callV (pc := 21) (a := a0) (cb := 0) (sb := 0) (st := []) hc [.int (i3 iv2)] cv_X2_44 sp_X2_amplifiersBefore (by decide) dX2_haveRoomFor_21 rfl e1.1 e1.2 rfl rfl rfl (Nat.le_of_ble_eq_true rfl) P
  · have P := P.2 c
    refine ok_iconst (pc := 14) hc (v := i3 0) dX2_haveRoomFor_14 (by decide) ?_
    exact ok_zret (st := []) (pc := 15) hc (nar_z (by decide)) hr dX2_haveRoomFor_15 P

set_option maxHeartbeats 4000000 in
set_option maxRecDepth 100000 in
theorem sX2_haveRoomFor_24 {X : Xt} {n : Nat} {h : HP} {a0 : Nat} {a1 : Nat} {t0 : Int} {fs1 : List Value} {iv2 : Int} (hc : Cx X cX2_haveRoomFor RX2 5 2 43) {K : KT} (hr : CxR X (some .boolean) K) (e1 : At h n a1 (.inl (2, fs1))) (z1 : fs1.length = 5) (v1_4 : fs1[4]? = some (.int (i3 iv2)))
    (P : spec_X2_amplifiersBefore [.ref a1, .int (i3 iv2)] n h (kc X 0 0 29 [(0, .ref a0), (1, .ref a1)] [.int (i3 t0)] n)) :
    Ok X 0 0 24 [(0, .ref a0), (1, .ref a1)] [.int (i3 t0)] n h := by
  refine ok_aload_n (pc := 24) hc dX2_haveRoomFor_24 rfl 1 rfl ?_
  refine ok_aload_n (pc := 25) hc dX2_haveRoomFor_25 rfl 1 rfl ?_
  refine ok_get (pc := 26) hc fl_X2_24 dX2_haveRoomFor_26 e1.1 e1.2 v1_4 ?_
  exact ok_callV (pc := 29) (a := a1) (cb := 0) (sb := 0) (st := [.int (i3 t0)]) hc [.int (i3 iv2)] cv_X2_44 sp_X2_amplifiersBefore (by decide) dX2_haveRoomFor_29 rfl e1.1 e1.2 rfl rfl rfl (Nat.le_of_ble_eq_true rfl) P

set_option maxHeartbeats 4000000 in
set_option maxRecDepth 100000 in
theorem sX2_haveRoomFor_32 {X : Xt} {n : Nat} {h : HP} {a0 : Nat} {a1 : Nat} {t0 : Int} {t1 : Int} {fs2 : List Value} (hc : Cx X cX2_haveRoomFor RX2 5 2 43) {K : KT} (hr : CxR X (some .boolean) K) (e2 : At h n a0 (.inl (2, fs2))) (z2 : fs2.length = 5)
    (P : (R3 (t1 + t0)) ∧ ((t1 + t0) ≤ 3 → spec_X2_drivenNodes [.ref a0] n h (kc X 0 0 40 [(0, .ref a0), (1, .ref a1)] [] n)) ∧ (¬ (t1 + t0) ≤ 3 → K (.inl (some (.int (i3 0)))) n h)) :
    Ok X 0 0 32 [(0, .ref a0), (1, .ref a1)] [.int (i3 t0), .int (i3 t1)] n h := by
  refine zk_iadd (pc := 32) hc dX2_haveRoomFor_32 ?_
  refine ok_iconst (pc := 33) hc (v := i3 3) dX2_haveRoomFor_33 (by decide) ?_
  obtain ⟨r1, P⟩ := P
  refine zk_icmp_le (pc := 34) (tgt := 39) hc dX2_haveRoomFor_34 (by decide) r1 ⟨by decide, by decide⟩ (fun c => ?_) (fun c => ?_)
  · have P := P.1 c
    refine ok_aload_n (pc := 39) hc dX2_haveRoomFor_39 rfl 0 rfl ?_
    exact ok_callV (pc := 40) (a := a0) (cb := 0) (sb := 0) (st := []) hc [] cv_X2_47 sp_X2_drivenNodes (by decide) dX2_haveRoomFor_40 rfl e2.1 e2.2 rfl rfl rfl (Nat.le_of_ble_eq_true rfl) P
  · have P := P.2 c
    refine ok_iconst (pc := 37) hc (v := i3 0) dX2_haveRoomFor_37 (by decide) ?_
    exact ok_zret (st := []) (pc := 38) hc (nar_z (by decide)) hr dX2_haveRoomFor_38 P

set_option maxHeartbeats 4000000 in
set_option maxRecDepth 100000 in
theorem sX2_haveRoomFor_43 {X : Xt} {n : Nat} {h : HP} {a0 : Nat} {a1 : Nat} {t0 : Int} (hc : Cx X cX2_haveRoomFor RX2 5 2 43) {K : KT} (hr : CxR X (some .boolean) K) 
    (P : Ok X 0 0 46 [(0, .ref a0), (1, .ref a1), (2, .int (i3 t0)), (3, .int (i3 0))] [] n h) :
    Ok X 0 0 43 [(0, .ref a0), (1, .ref a1)] [.int (i3 t0)] n h := by
  refine ok_istore_n (pc := 43) hc (lv' := [(2, .int (i3 t0)), (0, .ref a0), (1, .ref a1)]) dX2_haveRoomFor_43 rfl (by decide) rfl ?_
  refine ok_iconst (pc := 44) hc (v := i3 0) dX2_haveRoomFor_44 (by decide) ?_
  refine ok_istore_n (pc := 45) hc (lv' := [(3, .int (i3 0)), (2, .int (i3 t0)), (0, .ref a0), (1, .ref a1)]) dX2_haveRoomFor_45 rfl (by decide) rfl ?_
  refine ok_lv [2, 3, 1, 0] rfl ?_
  exact P

set_option maxHeartbeats 4000000 in
set_option maxRecDepth 100000 in
theorem sX2_haveRoomFor_46 {X : Xt} {n : Nat} {h : HP} {a0 : Nat} {a1 : Nat} {x2 : Int} {x3 : Int} {fs1 : List Value} {iv2 : Int} {q5 : Nat} {len6 : Nat} {f6 : Nat → Int} (hc : Cx X cX2_haveRoomFor RX2 5 2 43) {K : KT} (hr : CxR X (some .boolean) K) (e1 : At h n a1 (.inl (2, fs1))) (z1 : fs1.length = 5) (v1_4 : fs1[4]? = some (.int (i3 iv2))) (v1_0 : fs1[0]? = some (.ref q5)) (e6 : At h n q5 (ai len6 f6))
    (P : (R3 x3) ∧ (R3 iv2) ∧ (iv2 ≤ x3 → K (.inl (some (.int (i3 1)))) n h) ∧ (¬ iv2 ≤ x3 → (Ix x3 len6) ∧ (R3 (f6 (x3 : Int).toNat)) ∧ ((f6 (x3 : Int).toNat) = 0 → Ok X 0 0 46 [(0, .ref a0), (1, .ref a1), (2, .int (i3 x2)), (3, .int (i3 (x3 + 1)))] [] n h) ∧ (¬ (f6 (x3 : Int).toNat) = 0 → spec_X2_drivenNode [.ref a1, .int (i3 x3)] n h (kc X 0 0 65 [(0, .ref a0), (1, .ref a1), (2, .int (i3 x2)), (3, .int (i3 x3))] [] n)))) :
    Ok X 0 0 46 [(0, .ref a0), (1, .ref a1), (2, .int (i3 x2)), (3, .int (i3 x3))] [] n h := by
  refine ok_iload_n (pc := 46) hc dX2_haveRoomFor_46 rfl 3 rfl ?_
  refine ok_aload_n (pc := 47) hc dX2_haveRoomFor_47 rfl 1 rfl ?_
  refine ok_get (pc := 48) hc fl_X2_24 dX2_haveRoomFor_48 e1.1 e1.2 v1_4 ?_
  obtain ⟨r3, P⟩ := P
  obtain ⟨r4, P⟩ := P
  refine zk_icmp_ge (pc := 51) (tgt := 94) hc dX2_haveRoomFor_51 (by decide) r3 r4 (fun c => ?_) (fun c => ?_)
  · have P := P.1 c
    refine ok_iconst (pc := 94) hc (v := i3 1) dX2_haveRoomFor_94 (by decide) ?_
    exact ok_zret (st := []) (pc := 95) hc (nar_z (by decide)) hr dX2_haveRoomFor_95 P
  · have P := P.2 c
    refine ok_aload_n (pc := 54) hc dX2_haveRoomFor_54 rfl 1 rfl ?_
    refine ok_get (pc := 55) hc fl_X2_9 dX2_haveRoomFor_55 e1.1 e1.2 v1_0 ?_
    refine ok_iload_n (pc := 58) hc dX2_haveRoomFor_58 rfl 3 rfl ?_
    obtain ⟨r, P⟩ := P
    refine zk_iald (pc := 59) hc dX2_haveRoomFor_59 e6.1 e6.2 r ?_
    obtain ⟨r7, P⟩ := P
    refine zk_if_eq (pc := 60) (tgt := 88) hc dX2_haveRoomFor_60 (by decide) r7 (fun c => ?_) (fun c => ?_)
    · have P := P.1 c
      refine zk_iinc (pc := 88) hc (q := 3) (x := x3) (lv' := [(3, .int (i3 (x3 + 1))), (0, .ref a0), (1, .ref a1), (2, .int (i3 x2))]) dX2_haveRoomFor_88 rfl (by decide) rfl ?_
      refine ok_goto (pc := 91) (tgt := 46) hc dX2_haveRoomFor_91 (by decide) ?_
      refine ok_lv [1, 2, 3, 0] rfl ?_
      exact P
    · have P := P.2 c
      refine ok_aload_n (pc := 63) hc dX2_haveRoomFor_63 rfl 1 rfl ?_
      refine ok_iload_n (pc := 64) hc dX2_haveRoomFor_64 rfl 3 rfl ?_
      exact ok_callV (pc := 65) (a := a1) (cb := 0) (sb := 0) (st := []) hc [.int (i3 x3)] cv_X2_36 sp_X2_drivenNode (by decide) dX2_haveRoomFor_65 rfl e1.1 e1.2 rfl rfl rfl (Nat.le_of_ble_eq_true rfl) P

set_option maxHeartbeats 4000000 in
set_option maxRecDepth 100000 in
theorem sX2_haveRoomFor_68 {X : Xt} {n : Nat} {h : HP} {a0 : Nat} {a1 : Nat} {x2 : Int} {x3 : Int} {t0 : Int} (hc : Cx X cX2_haveRoomFor RX2 5 2 43) {K : KT} (hr : CxR X (some .boolean) K) 
    (P : (R3 (bcon x2 t0)) ∧ ((bcon x2 t0) = 0 → Ok X 0 0 46 [(0, .ref a0), (1, .ref a1), (2, .int (i3 (bor x2 (bshl 1 t0)))), (3, .int (i3 (x3 + 1)))] [] n h) ∧ (¬ (bcon x2 t0) = 0 → K (.inl (some (.int (i3 0)))) n h)) :
    Ok X 0 0 68 [(0, .ref a0), (1, .ref a1), (2, .int (i3 x2)), (3, .int (i3 x3))] [.int (i3 t0)] n h := by
  refine ok_istore (pc := 68) hc (lv' := [(4, .int (i3 t0)), (0, .ref a0), (1, .ref a1), (2, .int (i3 x2)), (3, .int (i3 x3))]) dX2_haveRoomFor_68 (by decide) rfl ?_
  refine ok_iload_n (pc := 70) hc dX2_haveRoomFor_70 rfl 3 rfl ?_
  refine ok_iload (pc := 71) hc dX2_haveRoomFor_71 0 rfl ?_
  refine ok_callN (pc := 73) (cb := 0) (sb := 0) (st := []) hc [.int (i3 x2), .int (i3 t0)] cn_X2_51 sp_X6_contains (by decide) dX2_haveRoomFor_73 rfl rfl rfl rfl (Nat.le_of_ble_eq_true rfl) (⟨_, _, rfl, rfl, ?_⟩)
  show Ok X 0 0 (73 + 3) [(4, .int (i3 t0)), (0, .ref a0), (1, .ref a1), (2, .int (i3 x2)), (3, .int (i3 x3))] [.int (i3 (bcon x2 t0))] n h
  obtain ⟨r1, P⟩ := P
  refine zk_if_eq (pc := 76) (tgt := 81) hc dX2_haveRoomFor_76 (by decide) r1 (fun c => ?_) (fun c => ?_)
  · have P := P.1 c
    refine ok_iload_n (pc := 81) hc dX2_haveRoomFor_81 rfl 3 rfl ?_
    refine ok_iconst (pc := 82) hc (v := i3 1) dX2_haveRoomFor_82 (by decide) ?_
    refine ok_iload (pc := 83) hc dX2_haveRoomFor_83 0 rfl ?_
    refine zk_ishl (pc := 85) hc dX2_haveRoomFor_85 ?_
    refine zk_ior (pc := 86) hc dX2_haveRoomFor_86 ?_
    refine ok_istore_n (pc := 87) hc (lv' := [(2, .int (i3 (bor x2 (bshl 1 t0)))), (4, .int (i3 t0)), (0, .ref a0), (1, .ref a1), (3, .int (i3 x3))]) dX2_haveRoomFor_87 rfl (by decide) rfl ?_
    refine zk_iinc (pc := 88) hc (q := 4) (x := x3) (lv' := [(3, .int (i3 (x3 + 1))), (2, .int (i3 (bor x2 (bshl 1 t0)))), (4, .int (i3 t0)), (0, .ref a0), (1, .ref a1)]) dX2_haveRoomFor_88 rfl (by decide) rfl ?_
    refine ok_goto (pc := 91) (tgt := 46) hc dX2_haveRoomFor_91 (by decide) ?_
    refine ok_lv [3, 4, 1, 0] rfl ?_
    exact P
  · have P := P.2 c
    refine ok_iconst (pc := 79) hc (v := i3 0) dX2_haveRoomFor_79 (by decide) ?_
    exact ok_zret (st := []) (pc := 80) hc (nar_z (by decide)) hr dX2_haveRoomFor_80 P

def spec_X2_haveRoomFor (args : List Value) (n : Nat) (h : HP) (K : KT) : Prop := ∃ (a b cap cap' : Nat) (qs ps : List Part), args = [.ref a, .ref b] ∧ PtA h n a cap qs ∧ PtA h n b cap' ps ∧ K (.inl (some (.int (i3 (bz (roomB qs ps)))))) n h
theorem sp_X2_haveRoomFor : Sp yX2_haveRoomFor cX2_haveRoomFor 5 (some .boolean) 2 43 0 0 spec_X2_haveRoomFor := by
  refine sp_intro (by decide) (by rintro args n h K ⟨a, b, cap, cap', qs, ps, rfl, -⟩; exact Nat.le_of_ble_eq_true rfl) ?_
  rintro X args n h K hc hr ⟨a, b, cap, cap', qs, ps, rfl, hA, hB, kk⟩
  have hA0 := hA
  have hB0 := hB
  obtain ⟨k', f', s', t', E', -, -, -, -, -, -, hl', hcap'⟩ := hA
  obtain ⟨k, f, s, t, E, E1, E2, E3, E4, hv, hw, hl, hcap⟩ := hB
  have L : ∀ (j i : Nat) (m : Int), i + j = ps.length → K (.inl (some (.int (i3 (bz (freeW m (ps.drop i))))))) n h → Ok X 0 0 46 [(0, .ref a), (1, .ref b), (2, .int (i3 m)), (3, .int (i3 i))] [] n h := by
    intro j
    induction j with
    | zero =>
      intro i m hi kk
      have : i = ps.length := by omega
      subst this
      refine sX2_haveRoomFor_46 hc hr E rfl rfl rfl E1 ⟨R3_s (by omega), R3_s (by omega), fun _ => ?_, fun c => absurd (Int.le_refl _) c⟩
      rw [List.drop_length] at kk
      exact kk
    | succ j ih =>
      intro i m hi kk
      have hp := hv i (by omega)
      have hb := (hw _ (List.mem_of_getElem? hp)).b
      rw [drop_s hp, freeW] at kk
      refine sX2_haveRoomFor_46 hc hr E rfl rfl rfl E1 ⟨R3_s (by omega), R3_s (by omega), fun c => absurd c (by omega), fun _ => ⟨⟨by omega, by omega, by omega⟩, R3_s (by simp only [Int.toNat_natCast]; simp only at hb; omega), fun c => ?_, fun c => ?_⟩⟩
      all_goals simp only [Int.toNat_natCast] at c
      · rw [if_pos c] at kk
        exact ih (i + 1) m (by omega) kk
      · rw [if_neg c] at kk
        refine ⟨b, cap', i, ps, _, rfl, hB0, hp, rfl, sX2_haveRoomFor_68 hc hr ⟨R3_s (by rcases bcon01 m (drv (k i, f i, s i, t i)) with q | q <;> omega), fun c2 => ?_, fun c2 => ?_⟩⟩
        · rw [if_pos c2] at kk
          exact ih (i + 1) _ (by omega) kk
        · rw [if_neg c2] at kk
          exact kk
  unfold roomB at kk
  refine sX2_haveRoomFor_0 hc hr E' rfl rfl E rfl rfl ⟨R3_s (by omega), fun c => ?_, fun c => ?_⟩
  · rw [decide_eq_true (by omega : qs.length + ps.length ≤ 12), Bool.true_and] at kk
    have n1 := nA_le qs
    have n2 := nA_le ps
    refine ⟨a, cap, qs.length, qs, rfl, hA0, Nat.le_refl _, rfl, sX2_haveRoomFor_24 hc hr E rfl rfl ⟨b, cap', ps.length, ps, rfl, hB0, Nat.le_refl _, rfl, ?_⟩⟩
    rw [List.take_length, List.take_length]
    refine sX2_haveRoomFor_32 hc hr E' rfl ⟨R3_s (by omega), fun c2 => ?_, fun c2 => ?_⟩
    · rw [decide_eq_true (by omega : nA qs + nA ps ≤ 3), Bool.true_and] at kk
      exact ⟨a, cap, qs, rfl, hA0, rfl, sX2_haveRoomFor_43 hc hr (L ps.length 0 _ (by omega) kk)⟩
    · rw [decide_eq_false (by omega : ¬ nA qs + nA ps ≤ 3), Bool.false_and] at kk
      exact kk
  · rw [decide_eq_false (by omega : ¬ qs.length + ps.length ≤ 12), Bool.false_and] at kk
    exact kk
