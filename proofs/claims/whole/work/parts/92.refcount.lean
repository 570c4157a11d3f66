/-! part 92: the reference: casesThat, usedNodes, counted, count -/
theorem faultF_1 {S : Stt} {m : Nat} {G : Nat → Int} {a : Nat} {p : Part} {st : Int} : faultF S m G a p st ≠ 1 := by
  unfold faultF
  split
  · split <;> decide
  · split
    · split <;> decide
    · split
      · split <;> decide
      · decide
theorem jud_1 (S : Stt) (c : Int) : (jud S c).1 = 1 ↔ solD S.1 (satN c (nA S.1)) = 0 := by
  have L : ∀ (l : List Part) (m a : Nat) (G : Nat → Int), (judL S m G c l a).1 ≠ 1 := by
    intro l
    induction l with
    | nil => intro m a G; exact (by decide : (0 : Int) ≠ 1)
    | cons p l ih =>
      intro m a G
      unfold judL
      split
      · exact ih m (a + 1) G
      · exact faultF_1
  unfold jud
  split
  · rename_i z
    exact ⟨fun _ => z, fun _ => rfl⟩
  · rename_i z
    exact ⟨fun y => absurd y (L _ _ _ _), fun y => absurd y z⟩
set_option maxHeartbeats 4000000 in
set_option maxRecDepth 100000 in
theorem sX7_casesThat_0 {X : Xt} {n : Nat} {h : HP} {a0 : Nat} {x1 : Int} {fs1 : List Value} {q2 : Nat} {f3 : Nat → Int} {ps4 : List Part} (hc : Cx X cX7_casesThat RX7 6 10 232) {K : KT} (hr : CxR X (some .int) K) (e1 : At h n a0 (.inl (7, fs1))) (z1 : fs1.length = 24) (v1_1 : fs1[1]? = some (.ref q2)) (e3 : At h n q2 (ai 52 f3)) (hP4 : ZPs f3 ps4)
    (P : Ok X 0 0 10 [(0, .ref a0), (1, .int (i3 x1)), (2, .int (i3 0)), (3, .int (i3 ((3 : Int) ^ nA ps4))), (4, .int (i3 0))] [] n h) :
    Ok X 0 0 0 [(0, .ref a0), (1, .int (i3 x1))] [] n h := by
  refine ok_iconst (pc := 0) hc (v := i3 0) dX7_casesThat_0 (by decide) ?_
  refine ok_istore_n (pc := 1) hc (lv' := [(2, .int (i3 0)), (0, .ref a0), (1, .int (i3 x1))]) dX7_casesThat_1 rfl (by decide) rfl ?_
  refine ok_aload_n (pc := 2) hc dX7_casesThat_2 rfl 1 rfl ?_
  refine ok_callV (pc := 3) (a := a0) (cb := 0) (sb := 0) (st := []) hc [] cv_X7_138 sp_X7_cases (by decide) dX7_casesThat_3 rfl e1.1 e1.2 rfl rfl rfl (Nat.le_of_ble_eq_true rfl) (⟨_, _, _, rfl, ⟨_, _, ⟨e1.1, e1.2⟩, z1, v1_1, ⟨e3.1, e3.2⟩⟩, hP4, rfl, ?_⟩)
  show Ok X 0 0 (3 + 3) [(2, .int (i3 0)), (0, .ref a0), (1, .int (i3 x1))] [.int (i3 ((3 : Int) ^ nA ps4))] n h
  refine ok_istore_n (pc := 6) hc (lv' := [(3, .int (i3 ((3 : Int) ^ nA ps4))), (2, .int (i3 0)), (0, .ref a0), (1, .int (i3 x1))]) dX7_casesThat_6 rfl (by decide) rfl ?_
  refine ok_iconst (pc := 7) hc (v := i3 0) dX7_casesThat_7 (by decide) ?_
  refine ok_istore (pc := 8) hc (lv' := [(4, .int (i3 0)), (3, .int (i3 ((3 : Int) ^ nA ps4))), (2, .int (i3 0)), (0, .ref a0), (1, .int (i3 x1))]) dX7_casesThat_8 (by decide) rfl ?_
  refine ok_lv [3, 4, 2, 1, 0] rfl ?_
  exact P

set_option maxHeartbeats 4000000 in
set_option maxRecDepth 100000 in
theorem sX7_casesThat_10 {X : Xt} {n : Nat} {h : HP} {a0 : Nat} {x1 : Int} {x2 : Int} {x3 : Int} {x4 : Int} {fs3 : List Value} (hc : Cx X cX7_casesThat RX7 6 10 232) {K : KT} (hr : CxR X (some .int) K) (e3 : At h n a0 (.inl (7, fs3))) (z3 : fs3.length = 24)
    (P : (R3 x4) ∧ (R3 x3) ∧ (x3 ≤ x4 → K (.inl (some (.int (i3 x2)))) n h) ∧ (¬ x3 ≤ x4 → spec_X7_reason [.ref a0, .int (i3 x4)] n h (kc X 0 0 19 [(0, .ref a0), (1, .int (i3 x1)), (2, .int (i3 x2)), (3, .int (i3 x3)), (4, .int (i3 x4))] [] n))) :
    Ok X 0 0 10 [(0, .ref a0), (1, .int (i3 x1)), (2, .int (i3 x2)), (3, .int (i3 x3)), (4, .int (i3 x4))] [] n h := by
  refine ok_iload (pc := 10) hc dX7_casesThat_10 4 rfl ?_
  refine ok_iload_n (pc := 12) hc dX7_casesThat_12 rfl 3 rfl ?_
  obtain ⟨r1, P⟩ := P
  obtain ⟨r2, P⟩ := P
  refine zk_icmp_ge (pc := 13) (tgt := 57) hc dX7_casesThat_13 (by decide) r1 r2 (fun c => ?_) (fun c => ?_)
  · have P := P.1 c
    refine ok_iload_n (pc := 57) hc dX7_casesThat_57 rfl 2 rfl ?_
    exact ok_iret (st := []) (pc := 58) hc hr dX7_casesThat_58 P
  · have P := P.2 c
    refine ok_aload_n (pc := 16) hc dX7_casesThat_16 rfl 0 rfl ?_
    refine ok_iload (pc := 17) hc dX7_casesThat_17 4 rfl ?_
    exact ok_callV (pc := 19) (a := a0) (cb := 0) (sb := 0) (st := []) hc [.int (i3 x4)] cv_X7_144 sp_X7_reason (by decide) dX7_casesThat_19 rfl e3.1 e3.2 rfl rfl rfl (Nat.le_of_ble_eq_true rfl) P

set_option maxHeartbeats 4000000 in
set_option maxRecDepth 100000 in
theorem sX7_casesThat_22 {X : Xt} {n : Nat} {h : HP} {a0 : Nat} {x1 : Int} {x2 : Int} {x3 : Int} {x4 : Int} {t0 : Int} (hc : Cx X cX7_casesThat RX7 6 10 232) {K : KT} (hr : CxR X (some .int) K) 
    (P : (R3 x1) ∧ (x1 = 0 → (R3 x1) ∧ (¬ x1 = 0 → Ok X 0 0 10 [(0, .ref a0), (1, .int (i3 x1)), (2, .int (i3 (x2 + 0))), (3, .int (i3 x3)), (4, .int (i3 (x4 + 1)))] [] n h) ∧ (x1 = 0 → (R3 t0) ∧ (t0 = 1 → Ok X 0 0 10 [(0, .ref a0), (1, .int (i3 x1)), (2, .int (i3 (x2 + 0))), (3, .int (i3 x3)), (4, .int (i3 (x4 + 1)))] [] n h) ∧ (¬ t0 = 1 → Ok X 0 0 10 [(0, .ref a0), (1, .int (i3 x1)), (2, .int (i3 (x2 + 1))), (3, .int (i3 x3)), (4, .int (i3 (x4 + 1)))] [] n h))) ∧ (¬ x1 = 0 → (R3 t0) ∧ (t0 = 0 → Ok X 0 0 10 [(0, .ref a0), (1, .int (i3 x1)), (2, .int (i3 (x2 + 1))), (3, .int (i3 x3)), (4, .int (i3 (x4 + 1)))] [] n h) ∧ (¬ t0 = 0 → (R3 x1) ∧ (¬ x1 = 0 → Ok X 0 0 10 [(0, .ref a0), (1, .int (i3 x1)), (2, .int (i3 (x2 + 0))), (3, .int (i3 x3)), (4, .int (i3 (x4 + 1)))] [] n h) ∧ (x1 = 0 → (R3 t0) ∧ (t0 = 1 → Ok X 0 0 10 [(0, .ref a0), (1, .int (i3 x1)), (2, .int (i3 (x2 + 0))), (3, .int (i3 x3)), (4, .int (i3 (x4 + 1)))] [] n h) ∧ (¬ t0 = 1 → Ok X 0 0 10 [(0, .ref a0), (1, .int (i3 x1)), (2, .int (i3 (x2 + 1))), (3, .int (i3 x3)), (4, .int (i3 (x4 + 1)))] [] n h))))) :
    Ok X 0 0 22 [(0, .ref a0), (1, .int (i3 x1)), (2, .int (i3 x2)), (3, .int (i3 x3)), (4, .int (i3 x4))] [.int (i3 t0)] n h := by
  refine ok_istore (pc := 22) hc (lv' := [(5, .int (i3 t0)), (0, .ref a0), (1, .int (i3 x1)), (2, .int (i3 x2)), (3, .int (i3 x3)), (4, .int (i3 x4))]) dX7_casesThat_22 (by decide) rfl ?_
  refine ok_iload_n (pc := 24) hc dX7_casesThat_24 rfl 3 rfl ?_
  refine ok_iload_n (pc := 25) hc dX7_casesThat_25 rfl 2 rfl ?_
  obtain ⟨r1, P⟩ := P
  refine zk_if_eq (pc := 26) (tgt := 34) hc dX7_casesThat_26 (by decide) r1 (fun c => ?_) (fun c => ?_)
  · have P := P.1 c
    refine ok_iload_n (pc := 34) hc dX7_casesThat_34 rfl 2 rfl ?_
    obtain ⟨r2, P⟩ := P
    refine zk_if_ne (pc := 35) (tgt := 48) hc dX7_casesThat_35 (by decide) r2 (fun c => ?_) (fun c => ?_)
    · have P := P.1 c
      refine ok_iconst (pc := 48) hc (v := i3 0) dX7_casesThat_48 (by decide) ?_
      refine zk_iadd (pc := 49) hc dX7_casesThat_49 ?_
      refine ok_istore_n (pc := 50) hc (lv' := [(2, .int (i3 (x2 + 0))), (5, .int (i3 t0)), (0, .ref a0), (1, .int (i3 x1)), (3, .int (i3 x3)), (4, .int (i3 x4))]) dX7_casesThat_50 rfl (by decide) rfl ?_
      refine zk_iinc (pc := 51) hc (q := 5) (x := x4) (lv' := [(4, .int (i3 (x4 + 1))), (2, .int (i3 (x2 + 0))), (5, .int (i3 t0)), (0, .ref a0), (1, .int (i3 x1)), (3, .int (i3 x3))]) dX7_casesThat_51 rfl (by decide) rfl ?_
      refine ok_goto (pc := 54) (tgt := 10) hc dX7_casesThat_54 (by decide) ?_
      refine ok_lv [3, 4, 1, 5, 0] rfl ?_
      exact P
    · have P := P.2 c
      refine ok_iload (pc := 38) hc dX7_casesThat_38 0 rfl ?_
      refine ok_iconst (pc := 40) hc (v := i3 1) dX7_casesThat_40 (by decide) ?_
      obtain ⟨r3, P⟩ := P
      refine zk_icmp_eq (pc := 41) (tgt := 48) hc dX7_casesThat_41 (by decide) r3 ⟨by decide, by decide⟩ (fun c => ?_) (fun c => ?_)
      · have P := P.1 c
        refine ok_iconst (pc := 48) hc (v := i3 0) dX7_casesThat_48 (by decide) ?_
        refine zk_iadd (pc := 49) hc dX7_casesThat_49 ?_
        refine ok_istore_n (pc := 50) hc (lv' := [(2, .int (i3 (x2 + 0))), (5, .int (i3 t0)), (0, .ref a0), (1, .int (i3 x1)), (3, .int (i3 x3)), (4, .int (i3 x4))]) dX7_casesThat_50 rfl (by decide) rfl ?_
        refine zk_iinc (pc := 51) hc (q := 5) (x := x4) (lv' := [(4, .int (i3 (x4 + 1))), (2, .int (i3 (x2 + 0))), (5, .int (i3 t0)), (0, .ref a0), (1, .int (i3 x1)), (3, .int (i3 x3))]) dX7_casesThat_51 rfl (by decide) rfl ?_
        refine ok_goto (pc := 54) (tgt := 10) hc dX7_casesThat_54 (by decide) ?_
        refine ok_lv [3, 4, 1, 5, 0] rfl ?_
        exact P
      · have P := P.2 c
        refine ok_iconst (pc := 44) hc (v := i3 1) dX7_casesThat_44 (by decide) ?_
        refine ok_goto (pc := 45) (tgt := 49) hc dX7_casesThat_45 (by decide) ?_
        refine zk_iadd (pc := 49) hc dX7_casesThat_49 ?_
        refine ok_istore_n (pc := 50) hc (lv' := [(2, .int (i3 (x2 + 1))), (5, .int (i3 t0)), (0, .ref a0), (1, .int (i3 x1)), (3, .int (i3 x3)), (4, .int (i3 x4))]) dX7_casesThat_50 rfl (by decide) rfl ?_
        refine zk_iinc (pc := 51) hc (q := 5) (x := x4) (lv' := [(4, .int (i3 (x4 + 1))), (2, .int (i3 (x2 + 1))), (5, .int (i3 t0)), (0, .ref a0), (1, .int (i3 x1)), (3, .int (i3 x3))]) dX7_casesThat_51 rfl (by decide) rfl ?_
        refine ok_goto (pc := 54) (tgt := 10) hc dX7_casesThat_54 (by decide) ?_
        refine ok_lv [3, 4, 1, 5, 0] rfl ?_
        exact P
  · have P := P.2 c
    refine ok_iload (pc := 29) hc dX7_casesThat_29 0 rfl ?_
    obtain ⟨r4, P⟩ := P
    refine zk_if_eq (pc := 31) (tgt := 44) hc dX7_casesThat_31 (by decide) r4 (fun c => ?_) (fun c => ?_)
    · have P := P.1 c
      refine ok_iconst (pc := 44) hc (v := i3 1) dX7_casesThat_44 (by decide) ?_
      refine ok_goto (pc := 45) (tgt := 49) hc dX7_casesThat_45 (by decide) ?_
      refine zk_iadd (pc := 49) hc dX7_casesThat_49 ?_
      refine ok_istore_n (pc := 50) hc (lv' := [(2, .int (i3 (x2 + 1))), (5, .int (i3 t0)), (0, .ref a0), (1, .int (i3 x1)), (3, .int (i3 x3)), (4, .int (i3 x4))]) dX7_casesThat_50 rfl (by decide) rfl ?_
      refine zk_iinc (pc := 51) hc (q := 5) (x := x4) (lv' := [(4, .int (i3 (x4 + 1))), (2, .int (i3 (x2 + 1))), (5, .int (i3 t0)), (0, .ref a0), (1, .int (i3 x1)), (3, .int (i3 x3))]) dX7_casesThat_51 rfl (by decide) rfl ?_
      refine ok_goto (pc := 54) (tgt := 10) hc dX7_casesThat_54 (by decide) ?_
      refine ok_lv [3, 4, 1, 5, 0] rfl ?_
      exact P
    · have P := P.2 c
      refine ok_iload_n (pc := 34) hc dX7_casesThat_34 rfl 2 rfl ?_
      obtain ⟨r5, P⟩ := P
      refine zk_if_ne (pc := 35) (tgt := 48) hc dX7_casesThat_35 (by decide) r5 (fun c => ?_) (fun c => ?_)
      · have P := P.1 c
        refine ok_iconst (pc := 48) hc (v := i3 0) dX7_casesThat_48 (by decide) ?_
        refine zk_iadd (pc := 49) hc dX7_casesThat_49 ?_
        refine ok_istore_n (pc := 50) hc (lv' := [(2, .int (i3 (x2 + 0))), (5, .int (i3 t0)), (0, .ref a0), (1, .int (i3 x1)), (3, .int (i3 x3)), (4, .int (i3 x4))]) dX7_casesThat_50 rfl (by decide) rfl ?_
        refine zk_iinc (pc := 51) hc (q := 5) (x := x4) (lv' := [(4, .int (i3 (x4 + 1))), (2, .int (i3 (x2 + 0))), (5, .int (i3 t0)), (0, .ref a0), (1, .int (i3 x1)), (3, .int (i3 x3))]) dX7_casesThat_51 rfl (by decide) rfl ?_
        refine ok_goto (pc := 54) (tgt := 10) hc dX7_casesThat_54 (by decide) ?_
        refine ok_lv [3, 4, 1, 5, 0] rfl ?_
        exact P
      · have P := P.2 c
        refine ok_iload (pc := 38) hc dX7_casesThat_38 0 rfl ?_
        refine ok_iconst (pc := 40) hc (v := i3 1) dX7_casesThat_40 (by decide) ?_
        obtain ⟨r6, P⟩ := P
        refine zk_icmp_eq (pc := 41) (tgt := 48) hc dX7_casesThat_41 (by decide) r6 ⟨by decide, by decide⟩ (fun c => ?_) (fun c => ?_)
        · have P := P.1 c
          refine ok_iconst (pc := 48) hc (v := i3 0) dX7_casesThat_48 (by decide) ?_
          refine zk_iadd (pc := 49) hc dX7_casesThat_49 ?_
          refine ok_istore_n (pc := 50) hc (lv' := [(2, .int (i3 (x2 + 0))), (5, .int (i3 t0)), (0, .ref a0), (1, .int (i3 x1)), (3, .int (i3 x3)), (4, .int (i3 x4))]) dX7_casesThat_50 rfl (by decide) rfl ?_
          refine zk_iinc (pc := 51) hc (q := 5) (x := x4) (lv' := [(4, .int (i3 (x4 + 1))), (2, .int (i3 (x2 + 0))), (5, .int (i3 t0)), (0, .ref a0), (1, .int (i3 x1)), (3, .int (i3 x3))]) dX7_casesThat_51 rfl (by decide) rfl ?_
          refine ok_goto (pc := 54) (tgt := 10) hc dX7_casesThat_54 (by decide) ?_
          refine ok_lv [3, 4, 1, 5, 0] rfl ?_
          exact P
        · have P := P.2 c
          refine ok_iconst (pc := 44) hc (v := i3 1) dX7_casesThat_44 (by decide) ?_
          refine ok_goto (pc := 45) (tgt := 49) hc dX7_casesThat_45 (by decide) ?_
          refine zk_iadd (pc := 49) hc dX7_casesThat_49 ?_
          refine ok_istore_n (pc := 50) hc (lv' := [(2, .int (i3 (x2 + 1))), (5, .int (i3 t0)), (0, .ref a0), (1, .int (i3 x1)), (3, .int (i3 x3)), (4, .int (i3 x4))]) dX7_casesThat_50 rfl (by decide) rfl ?_
          refine zk_iinc (pc := 51) hc (q := 5) (x := x4) (lv' := [(4, .int (i3 (x4 + 1))), (2, .int (i3 (x2 + 1))), (5, .int (i3 t0)), (0, .ref a0), (1, .int (i3 x1)), (3, .int (i3 x3))]) dX7_casesThat_51 rfl (by decide) rfl ?_
          refine ok_goto (pc := 54) (tgt := 10) hc dX7_casesThat_54 (by decide) ?_
          refine ok_lv [3, 4, 1, 5, 0] rfl ?_
          exact P

def thatN (S : Stt) (b : Int) (c : Nat) : Int := if b = 0 then detN S c else holdN S c
def spec_X7_casesThat (args : List Value) (n : Nat) (h : HP) (K : KT) : Prop := ∃ (I : Nat → Int) (F : Nat → Nat → Int) (S : Stt) (b : Int), args = [.ref 128, .int (i3 b)] ∧ MAt h n I F ∧ ZSt (F 1) S ∧ GdS S ∧ R3 b ∧ ∀ (h' : HP) (I' : Nat → Int) (F' : Nat → Nat → Int), MAt h' n I' F' → KpR I I' → KpF F F' → Fr h h' 128 138 → K (.inl (some (.int (i3 (thatN S b (3 ^ nA S.1)))))) n h'
theorem sp_X7_casesThat : Sp yX7_casesThat cX7_casesThat 6 (some .int) 10 232 0 0 spec_X7_casesThat := by
  refine sp_intro (by decide) (by rintro args n h K ⟨I, F, S, b, rfl, -⟩; exact Nat.le_of_ble_eq_true rfl) ?_
  rintro X args n h K hc hr ⟨I, F, S, b, rfl, hM0, hZ, hG, hb, kk⟩
  have h27 := ref_27 hG
  have hpc := pow_c (nA S.1)
  have L : ∀ (f c : Nat) (hh : HP) (I2 : Nat → Int) (F2 : Nat → Nat → Int), c + f = 3 ^ nA S.1 → MAt hh n I2 F2 → KpR I I2 → KpF F F2 → Fr h hh 128 138 → Ok X 0 0 10 [(0, .ref 128), (1, .int (i3 b)), (2, .int (i3 (thatN S b c))), (3, .int (i3 ((3 : Int) ^ nA S.1))), (4, .int (i3 c))] [] n hh := by
    intro f
    induction f with
    | zero =>
      intro c hh I2 F2 hcf hM kI kF hf
      have : c = 3 ^ nA S.1 := by omega
      subst this
      exact sX7_casesThat_10 hc hr hM.o rfl ⟨R3_s (by omega), R3_s (by omega), fun _ => kk hh I2 F2 hM kI kF hf, fun z => absurd (by omega) z⟩
    | succ f ih =>
      intro c hh I2 F2 hcf hM kI kF hf
      have h11 : F2 1 = F 1 := kF 1 (by omega)
      refine sX7_casesThat_10 hc hr hM.o rfl ⟨R3_s (by omega), R3_s (by omega), fun z => absurd z (by omega), fun _ => ⟨I2, F2, S, c, rfl, hM, by rw [h11]; exact hZ, hG, by omega, fun h3 I3 F3 hM3 hI3 _ hF3 f3 => ⟨rfl, ?_⟩⟩⟩
      have jr := jud_r S c
      have j1 := jud_1 S c
      have nx := ih (c + 1) h3 I3 F3 (by omega) hM3 (fun k a b c d => (hI3 k a b c d).trans (kI k a b c d)) (kF.tr hF3) (hf.tr f3)
      have jR : R3 (jud S c).1 := R3_s (by omega)
      unfold thatN at nx ⊢
      refine sX7_casesThat_22 hc hr ⟨hb, fun z => ⟨hb, fun y => absurd z y, fun _ => ⟨jR, fun y => ?_, fun y => ?_⟩⟩, fun z => ⟨jR, fun y => ?_, fun y => ⟨hb, fun _ => ?_, fun x => absurd x z⟩⟩⟩
      · rw [if_pos z] at nx ⊢
        rw [show detN S (c + 1) = detN S c + (if solD S.1 (satN c (nA S.1)) = 0 then 0 else 1) from rfl, if_pos (j1.mp y)] at nx
        exact nx
      · rw [if_pos z] at nx ⊢
        rw [show detN S (c + 1) = detN S c + (if solD S.1 (satN c (nA S.1)) = 0 then 0 else 1) from rfl, if_neg (fun x => y (j1.mpr x))] at nx
        exact nx
      · rw [if_neg z] at nx ⊢
        rw [show holdN S (c + 1) = holdN S c + (if (jud S c).1 = 0 then 1 else 0) from rfl, if_pos y] at nx
        exact nx
      · rw [if_neg z] at nx ⊢
        rw [show holdN S (c + 1) = holdN S c + (if (jud S c).1 = 0 then 1 else 0) from rfl, if_neg y] at nx
        exact nx
  refine sX7_casesThat_0 hc hr hM0.o rfl rfl hM0.z hZ.1 ?_
  have := L (3 ^ nA S.1) 0 h I F (by omega) hM0 (fun _ _ _ _ _ => rfl) KpF.rf Fr.rf
  rw [show thatN S b 0 = 0 by unfold thatN; split <;> rfl] at this
  exact this
def urf (m : Int) : Nat → Int
  | 0 => 0
  | k + 1 => bor (urf m k) (if bcon m ((k : Int) + 1) = 0 then 0 else bshl 1 ((k : Int) + 1))
theorem urf_all : ∀ m < 128, bcon ((m : Nat) : Int) 0 = 0 → urf ((m : Nat) : Int) 6 = ((m : Nat) : Int) := by decide +kernel
theorem used_urf {ps : List Part} (hp : ∀ p ∈ ps, PW p) : urf (usedM ps) 6 = usedM ps := by
  have h : Mk (usedM ps) := (Mk.uf hp 0 Mk0).gnd
  have h0 := used_con hp (j := 0) (by omega)
  rw [if_neg (fun z => z.1 rfl)] at h0
  obtain ⟨m, hm⟩ : ∃ m : Nat, usedM ps = m := ⟨(usedM ps).toNat, by have := h.1; omega⟩
  have h2 := h.2
  rw [hm] at h0 h2 ⊢
  exact urf_all m (by omega) h0
set_option maxHeartbeats 4000000 in
set_option maxRecDepth 100000 in
theorem sX7_usedNodes_0 {X : Xt} {n : Nat} {h : HP} {a0 : Nat} (hc : Cx X cX7_usedNodes RX7 3 4 89) {K : KT} (hr : CxR X (some .int) K) 
    (P : Ok X 0 0 4 [(0, .ref a0), (1, .int (i3 0)), (2, .int (i3 1))] [] n h) :
    Ok X 0 0 0 [(0, .ref a0)] [] n h := by
  refine ok_iconst (pc := 0) hc (v := i3 0) dX7_usedNodes_0 (by decide) ?_
  refine ok_istore_n (pc := 1) hc (lv' := [(1, .int (i3 0)), (0, .ref a0)]) dX7_usedNodes_1 rfl (by decide) rfl ?_
  refine ok_iconst (pc := 2) hc (v := i3 1) dX7_usedNodes_2 (by decide) ?_
  refine ok_istore_n (pc := 3) hc (lv' := [(2, .int (i3 1)), (1, .int (i3 0)), (0, .ref a0)]) dX7_usedNodes_3 rfl (by decide) rfl ?_
  refine ok_lv [2, 1, 0] rfl ?_
  exact P

set_option maxHeartbeats 4000000 in
set_option maxRecDepth 100000 in
theorem sX7_usedNodes_4 {X : Xt} {n : Nat} {h : HP} {a0 : Nat} {x1 : Int} {x2 : Int} {fs2 : List Value} {q3 : Nat} {f4 : Nat → Int} {ps5 : List Part} (hc : Cx X cX7_usedNodes RX7 3 4 89) {K : KT} (hr : CxR X (some .int) K) (e2 : At h n a0 (.inl (7, fs2))) (z2 : fs2.length = 24) (v2_1 : fs2[1]? = some (.ref q3)) (e4 : At h n q3 (ai 52 f4)) (hP5 : ZPs f4 ps5)
    (P : (R3 x2) ∧ (7 ≤ x2 → K (.inl (some (.int (i3 x1)))) n h) ∧ (¬ 7 ≤ x2 → (R3 x2) ∧ ((ps5.any (fun p => atB p x2)) = false → Ok X 0 0 4 [(0, .ref a0), (1, .int (i3 (bor x1 0))), (2, .int (i3 (x2 + 1)))] [] n h) ∧ ((ps5.any (fun p => atB p x2)) = true → Ok X 0 0 4 [(0, .ref a0), (1, .int (i3 (bor x1 (bshl 1 x2)))), (2, .int (i3 (x2 + 1)))] [] n h))) :
    Ok X 0 0 4 [(0, .ref a0), (1, .int (i3 x1)), (2, .int (i3 x2))] [] n h := by
  refine ok_iload_n (pc := 4) hc dX7_usedNodes_4 rfl 2 rfl ?_
  refine ok_bipush (pc := 5) hc (v := i3 7) dX7_usedNodes_5 (by decide) ?_
  obtain ⟨r1, P⟩ := P
  refine zk_icmp_ge (pc := 7) (tgt := 34) hc dX7_usedNodes_7 (by decide) r1 ⟨by decide, by decide⟩ (fun c => ?_) (fun c => ?_)
  · have P := P.1 c
    refine ok_iload_n (pc := 34) hc dX7_usedNodes_34 rfl 1 rfl ?_
    exact ok_iret (st := []) (pc := 35) hc hr dX7_usedNodes_35 P
  · have P := P.2 c
    refine ok_iload_n (pc := 10) hc dX7_usedNodes_10 rfl 1 rfl ?_
    refine ok_aload_n (pc := 11) hc dX7_usedNodes_11 rfl 0 rfl ?_
    refine ok_iload_n (pc := 12) hc dX7_usedNodes_12 rfl 2 rfl ?_
    obtain ⟨r0, P⟩ := P
    refine ok_callV (pc := 13) (a := a0) (cb := 0) (sb := 0) (st := [.int (i3 x1)]) hc [.int (i3 x2)] cv_X7_71 sp_X7_isUsed (by decide) dX7_usedNodes_13 rfl e2.1 e2.2 rfl rfl rfl (Nat.le_of_ble_eq_true rfl) (⟨_, _, _, _, rfl, ⟨_, _, ⟨e2.1, e2.2⟩, z2, v2_1, ⟨e4.1, e4.2⟩⟩, hP5, r0, rfl, ?_⟩)
    show Ok X 0 0 (13 + 3) [(0, .ref a0), (1, .int (i3 x1)), (2, .int (i3 x2))] [.int (i3 (bz (ps5.any (fun p => atB p x2)))), .int (i3 x1)] n h
    refine zk_if_eq (pc := 16) (tgt := 25) hc dX7_usedNodes_16 (by decide) R3_bz (fun c => ?_) (fun c => ?_)
    · have P := P.1 (bz_0.mp c)
      refine ok_iconst (pc := 25) hc (v := i3 0) dX7_usedNodes_25 (by decide) ?_
      refine zk_ior (pc := 26) hc dX7_usedNodes_26 ?_
      refine ok_istore_n (pc := 27) hc (lv' := [(1, .int (i3 (bor x1 0))), (0, .ref a0), (2, .int (i3 x2))]) dX7_usedNodes_27 rfl (by decide) rfl ?_
      refine zk_iinc (pc := 28) hc (q := 2) (x := x2) (lv' := [(2, .int (i3 (x2 + 1))), (1, .int (i3 (bor x1 0))), (0, .ref a0)]) dX7_usedNodes_28 rfl (by decide) rfl ?_
      refine ok_goto (pc := 31) (tgt := 4) hc dX7_usedNodes_31 (by decide) ?_
      refine ok_lv [2, 1, 0] rfl ?_
      exact P
    · have P := P.2 (bz_1.mp c)
      refine ok_iconst (pc := 19) hc (v := i3 1) dX7_usedNodes_19 (by decide) ?_
      refine ok_iload_n (pc := 20) hc dX7_usedNodes_20 rfl 2 rfl ?_
      refine zk_ishl (pc := 21) hc dX7_usedNodes_21 ?_
      refine ok_goto (pc := 22) (tgt := 26) hc dX7_usedNodes_22 (by decide) ?_
      refine zk_ior (pc := 26) hc dX7_usedNodes_26 ?_
      refine ok_istore_n (pc := 27) hc (lv' := [(1, .int (i3 (bor x1 (bshl 1 x2)))), (0, .ref a0), (2, .int (i3 x2))]) dX7_usedNodes_27 rfl (by decide) rfl ?_
      refine zk_iinc (pc := 28) hc (q := 2) (x := x2) (lv' := [(2, .int (i3 (x2 + 1))), (1, .int (i3 (bor x1 (bshl 1 x2)))), (0, .ref a0)]) dX7_usedNodes_28 rfl (by decide) rfl ?_
      refine ok_goto (pc := 31) (tgt := 4) hc dX7_usedNodes_31 (by decide) ?_
      refine ok_lv [2, 1, 0] rfl ?_
      exact P

def spec_X7_usedNodes (args : List Value) (n : Nat) (h : HP) (K : KT) : Prop := ∃ (I : Nat → Int) (F : Nat → Nat → Int) (ps : List Part), args = [.ref 128] ∧ MAt h n I F ∧ ZPs (F 1) ps ∧ K (.inl (some (.int (i3 (usedM ps))))) n h
theorem sp_X7_usedNodes : Sp yX7_usedNodes cX7_usedNodes 3 (some .int) 4 89 0 0 spec_X7_usedNodes := by
  refine sp_intro (by decide) (by rintro args n h K ⟨I, F, ps, rfl, -⟩; exact Nat.le_of_ble_eq_true rfl) ?_
  rintro X args n h K hc hr ⟨I, F, ps, rfl, hM, hP, kk⟩
  have hu := fun j hj => used_con (ps := ps) hP.2.2.2 (j := j) hj
  rw [← used_urf hP.2.2.2] at kk
  have L : ∀ (f k : Nat), k + f = 6 → Ok X 0 0 4 [(0, .ref 128), (1, .int (i3 (urf (usedM ps) k))), (2, .int (i3 ((k : Int) + 1)))] [] n h := by
    intro f
    induction f with
    | zero =>
      intro k hk
      have : k = 6 := by omega
      subst this
      exact sX7_usedNodes_4 hc hr hM.o rfl rfl hM.z hP ⟨R3_s (by omega), fun _ => kk, fun z => absurd (by omega) z⟩
    | succ f ih =>
      intro k hk
      have nx := ih (k + 1) (by omega)
      have hj := hu ((k : Int) + 1) (by omega)
      rw [show urf (usedM ps) (k + 1) = bor (urf (usedM ps) k) (if bcon (usedM ps) ((k : Int) + 1) = 0 then 0 else bshl 1 ((k : Int) + 1)) from rfl, hj] at nx
      refine sX7_usedNodes_4 hc hr hM.o rfl rfl hM.z hP ⟨R3_s (by omega), fun z => absurd z (by omega), fun _ => ⟨R3_s (by omega), fun z => ?_, fun z => ?_⟩⟩
      · rw [if_neg (show ¬ ((k : Int) + 1 ≠ 0 ∧ ps.any (fun p => atB p ((k : Int) + 1)) = true) from fun y => by rw [z] at y; exact absurd y.2 (by decide)), if_pos rfl] at nx
        exact nx
      · rw [if_pos (show (k : Int) + 1 ≠ 0 ∧ ps.any (fun p => atB p ((k : Int) + 1)) = true from ⟨by omega, z⟩), if_neg (by decide)] at nx
        exact nx
  exact sX7_usedNodes_0 hc hr (L 6 0 rfl)
set_option maxHeartbeats 4000000 in
set_option maxRecDepth 100000 in
theorem sX7_counted_0 {X : Xt} {n : Nat} {h : HP} {a0 : Nat} {x1 : Int} {fs2 : List Value} {iv3 : Int} {q4 : Nat} {f5 : Nat → Int} {ps6 : List Part} {iv7 : Int} (hc : Cx X cX7_counted RX7 2 11 257) {K : KT} (hr : CxR X (some .int) K) (e2 : At h n a0 (.inl (7, fs2))) (z2 : fs2.length = 24) (v2_5 : fs2[5]? = some (.int (i3 iv3))) (v2_1 : fs2[1]? = some (.ref q4)) (e5 : At h n q4 (ai 52 f5)) (hP6 : ZPs f5 ps6) (v2_3 : fs2[3]? = some (.int (i3 iv7)))
    (P : (R3 x1) ∧ (x1 < 0 ∨ 8 < x1 → K (.inl (some (.int (i3 iv3)))) n h) ∧ (x1 = 0 → (Ix 48 52) ∧ K (.inl (some (.int (i3 (f5 (48 : Int).toNat))))) n h) ∧ (x1 = 1 → K (.inl (some (.int (i3 (nA ps6 : Int))))) n h) ∧ (x1 = 2 → (Ix 49 52) ∧ K (.inl (some (.int (i3 (f5 (49 : Int).toNat))))) n h) ∧ (x1 = 3 → (Ix 50 52) ∧ K (.inl (some (.int (i3 (f5 (50 : Int).toNat))))) n h) ∧ (x1 = 4 → (Ix 51 52) ∧ K (.inl (some (.int (i3 (f5 (51 : Int).toNat))))) n h) ∧ (x1 = 5 → spec_X7_casesThat [.ref a0, .int (i3 1)] n h (kc X 0 0 91 [(0, .ref a0), (1, .int (i3 x1))] [] n)) ∧ (x1 = 6 → spec_X7_casesThat [.ref a0, .int (i3 0)] n h (kc X 0 0 97 [(0, .ref a0), (1, .int (i3 x1))] [] n)) ∧ (x1 = 7 → spec_X7_usedNodes [.ref a0] n h (kc X 0 0 102 [(0, .ref a0), (1, .int (i3 x1))] [] n)) ∧ (x1 = 8 → K (.inl (some (.int (i3 iv7)))) n h)) :
    Ok X 0 0 0 [(0, .ref a0), (1, .int (i3 x1))] [] n h := by
  refine ok_iload_n (pc := 0) hc dX7_counted_0 rfl 1 rfl ?_
  obtain ⟨r1, P⟩ := P
  rcases (show (x1 < 0 ∨ 8 < x1) ∨ x1 = 0 ∨ x1 = 1 ∨ x1 = 2 ∨ x1 = 3 ∨ x1 = 4 ∨ x1 = 5 ∨ x1 = 6 ∨ x1 = 7 ∨ x1 = 8 by omega) with c | c | c | c | c | c | c | c | c | c
  · have P := P.1 c
    refine ok_tableOut (pc := 1) (tgt := 111) hc dX7_counted_1 (by rw [i3_toInt r1]; exact c) (by decide) ?_
    refine ok_aload_n (pc := 111) hc dX7_counted_111 rfl 0 rfl ?_
    refine ok_get (pc := 112) hc fl_X7_163 dX7_counted_112 e2.1 e2.2 v2_5 ?_
    exact ok_iret (st := []) (pc := 115) hc hr dX7_counted_115 P
  · have P := P.2.1 c
    refine ok_tableIn (pc := 1) (off := 51) (tgt := 52) hc dX7_counted_1 (by rw [i3_toInt r1, c]; decide) (by rw [i3_toInt r1, c]; decide) (by rw [i3_toInt r1, c]; rfl) (by decide) ?_
    refine ok_aload_n (pc := 52) hc dX7_counted_52 rfl 0 rfl ?_
    refine ok_get (pc := 53) hc fl_X7_7 dX7_counted_53 e2.1 e2.2 v2_1 ?_
    refine ok_bipush (pc := 56) hc (v := i3 48) dX7_counted_56 (by decide) ?_
    obtain ⟨r, P⟩ := P
    refine zk_iald (pc := 58) hc dX7_counted_58 e5.1 e5.2 r ?_
    exact ok_iret (st := []) (pc := 59) hc hr dX7_counted_59 P
  · have P := P.2.2.1 c
    refine ok_tableIn (pc := 1) (off := 59) (tgt := 60) hc dX7_counted_1 (by rw [i3_toInt r1, c]; decide) (by rw [i3_toInt r1, c]; decide) (by rw [i3_toInt r1, c]; rfl) (by decide) ?_
    refine ok_aload_n (pc := 60) hc dX7_counted_60 rfl 0 rfl ?_
    refine ok_callV (pc := 61) (a := a0) (cb := 0) (sb := 0) (st := []) hc [] cv_X7_64 sp_X7_amplifiers (by decide) dX7_counted_61 rfl e2.1 e2.2 rfl rfl rfl (Nat.le_of_ble_eq_true rfl) (⟨_, _, _, rfl, ⟨_, _, ⟨e2.1, e2.2⟩, z2, v2_1, ⟨e5.1, e5.2⟩⟩, hP6, rfl, ?_⟩)
    show Ok X 0 0 (61 + 3) [(0, .ref a0), (1, .int (i3 x1))] [.int (i3 (nA ps6 : Int))] n h
    exact ok_iret (st := []) (pc := 64) hc hr dX7_counted_64 P
  · have P := P.2.2.2.1 c
    refine ok_tableIn (pc := 1) (off := 64) (tgt := 65) hc dX7_counted_1 (by rw [i3_toInt r1, c]; decide) (by rw [i3_toInt r1, c]; decide) (by rw [i3_toInt r1, c]; rfl) (by decide) ?_
    refine ok_aload_n (pc := 65) hc dX7_counted_65 rfl 0 rfl ?_
    refine ok_get (pc := 66) hc fl_X7_7 dX7_counted_66 e2.1 e2.2 v2_1 ?_
    refine ok_bipush (pc := 69) hc (v := i3 49) dX7_counted_69 (by decide) ?_
    obtain ⟨r, P⟩ := P
    refine zk_iald (pc := 71) hc dX7_counted_71 e5.1 e5.2 r ?_
    exact ok_iret (st := []) (pc := 72) hc hr dX7_counted_72 P
  · have P := P.2.2.2.2.1 c
    refine ok_tableIn (pc := 1) (off := 72) (tgt := 73) hc dX7_counted_1 (by rw [i3_toInt r1, c]; decide) (by rw [i3_toInt r1, c]; decide) (by rw [i3_toInt r1, c]; rfl) (by decide) ?_
    refine ok_aload_n (pc := 73) hc dX7_counted_73 rfl 0 rfl ?_
    refine ok_get (pc := 74) hc fl_X7_7 dX7_counted_74 e2.1 e2.2 v2_1 ?_
    refine ok_bipush (pc := 77) hc (v := i3 50) dX7_counted_77 (by decide) ?_
    obtain ⟨r, P⟩ := P
    refine zk_iald (pc := 79) hc dX7_counted_79 e5.1 e5.2 r ?_
    exact ok_iret (st := []) (pc := 80) hc hr dX7_counted_80 P
  · have P := P.2.2.2.2.2.1 c
    refine ok_tableIn (pc := 1) (off := 80) (tgt := 81) hc dX7_counted_1 (by rw [i3_toInt r1, c]; decide) (by rw [i3_toInt r1, c]; decide) (by rw [i3_toInt r1, c]; rfl) (by decide) ?_
    refine ok_aload_n (pc := 81) hc dX7_counted_81 rfl 0 rfl ?_
    refine ok_get (pc := 82) hc fl_X7_7 dX7_counted_82 e2.1 e2.2 v2_1 ?_
    refine ok_bipush (pc := 85) hc (v := i3 51) dX7_counted_85 (by decide) ?_
    obtain ⟨r, P⟩ := P
    refine zk_iald (pc := 87) hc dX7_counted_87 e5.1 e5.2 r ?_
    exact ok_iret (st := []) (pc := 88) hc hr dX7_counted_88 P
  · have P := P.2.2.2.2.2.2.1 c
    refine ok_tableIn (pc := 1) (off := 88) (tgt := 89) hc dX7_counted_1 (by rw [i3_toInt r1, c]; decide) (by rw [i3_toInt r1, c]; decide) (by rw [i3_toInt r1, c]; rfl) (by decide) ?_
    refine ok_aload_n (pc := 89) hc dX7_counted_89 rfl 0 rfl ?_
    refine ok_iconst (pc := 90) hc (v := i3 1) dX7_counted_90 (by decide) ?_
    exact ok_callV (pc := 91) (a := a0) (cb := 0) (sb := 0) (st := []) hc [.int (i3 1)] cv_X7_250 sp_X7_casesThat (by decide) dX7_counted_91 rfl e2.1 e2.2 rfl rfl rfl (Nat.le_of_ble_eq_true rfl) P
  · have P := P.2.2.2.2.2.2.2.1 c
    refine ok_tableIn (pc := 1) (off := 94) (tgt := 95) hc dX7_counted_1 (by rw [i3_toInt r1, c]; decide) (by rw [i3_toInt r1, c]; decide) (by rw [i3_toInt r1, c]; rfl) (by decide) ?_
    refine ok_aload_n (pc := 95) hc dX7_counted_95 rfl 0 rfl ?_
    refine ok_iconst (pc := 96) hc (v := i3 0) dX7_counted_96 (by decide) ?_
    exact ok_callV (pc := 97) (a := a0) (cb := 0) (sb := 0) (st := []) hc [.int (i3 0)] cv_X7_250 sp_X7_casesThat (by decide) dX7_counted_97 rfl e2.1 e2.2 rfl rfl rfl (Nat.le_of_ble_eq_true rfl) P
  · have P := P.2.2.2.2.2.2.2.2.1 c
    refine ok_tableIn (pc := 1) (off := 100) (tgt := 101) hc dX7_counted_1 (by rw [i3_toInt r1, c]; decide) (by rw [i3_toInt r1, c]; decide) (by rw [i3_toInt r1, c]; rfl) (by decide) ?_
    refine ok_aload_n (pc := 101) hc dX7_counted_101 rfl 0 rfl ?_
    exact ok_callV (pc := 102) (a := a0) (cb := 0) (sb := 0) (st := []) hc [] cv_X7_254 sp_X7_usedNodes (by decide) dX7_counted_102 rfl e2.1 e2.2 rfl rfl rfl (Nat.le_of_ble_eq_true rfl) P
  · have P := P.2.2.2.2.2.2.2.2.2 c
    refine ok_tableIn (pc := 1) (off := 105) (tgt := 106) hc dX7_counted_1 (by rw [i3_toInt r1, c]; decide) (by rw [i3_toInt r1, c]; decide) (by rw [i3_toInt r1, c]; rfl) (by decide) ?_
    refine ok_aload_n (pc := 106) hc dX7_counted_106 rfl 0 rfl ?_
    refine ok_get (pc := 107) hc fl_X7_53 dX7_counted_107 e2.1 e2.2 v2_3 ?_
    exact ok_iret (st := []) (pc := 110) hc hr dX7_counted_110 P

set_option maxHeartbeats 4000000 in
set_option maxRecDepth 100000 in
theorem sX7_counted_94 {X : Xt} {n : Nat} {h : HP} {a0 : Nat} {x1 : Int} {t0 : Int} (hc : Cx X cX7_counted RX7 2 11 257) {K : KT} (hr : CxR X (some .int) K) 
    (P : K (.inl (some (.int (i3 t0)))) n h) :
    Ok X 0 0 94 [(0, .ref a0), (1, .int (i3 x1))] [.int (i3 t0)] n h := by
  exact ok_iret (st := []) (pc := 94) hc hr dX7_counted_94 P

set_option maxHeartbeats 4000000 in
set_option maxRecDepth 100000 in
theorem sX7_counted_100 {X : Xt} {n : Nat} {h : HP} {a0 : Nat} {x1 : Int} {t0 : Int} (hc : Cx X cX7_counted RX7 2 11 257) {K : KT} (hr : CxR X (some .int) K) 
    (P : K (.inl (some (.int (i3 t0)))) n h) :
    Ok X 0 0 100 [(0, .ref a0), (1, .int (i3 x1))] [.int (i3 t0)] n h := by
  exact ok_iret (st := []) (pc := 100) hc hr dX7_counted_100 P

set_option maxHeartbeats 4000000 in
set_option maxRecDepth 100000 in
theorem sX7_counted_105 {X : Xt} {n : Nat} {h : HP} {a0 : Nat} {x1 : Int} {t0 : Int} (hc : Cx X cX7_counted RX7 2 11 257) {K : KT} (hr : CxR X (some .int) K) 
    (P : K (.inl (some (.int (i3 t0)))) n h) :
    Ok X 0 0 105 [(0, .ref a0), (1, .int (i3 x1))] [.int (i3 t0)] n h := by
  exact ok_iret (st := []) (pc := 105) hc hr dX7_counted_105 P

def spec_X7_counted (args : List Value) (n : Nat) (h : HP) (K : KT) : Prop := ∃ (I : Nat → Int) (F : Nat → Nat → Int) (q : Dsk) (w : Int), args = [.ref 128, .int (i3 w)] ∧ MAt h n I F ∧ MdF I F q ∧ GdS q.1 ∧ (0 ≤ w ∧ w ≤ 9) ∧ ∀ (h' : HP) (I' : Nat → Int) (F' : Nat → Nat → Int), MAt h' n I' F' → KpR I I' → KpF F F' → Fr h h' 128 138 → K (.inl (some (.int (i3 (rvI (opCount q w)))))) n h'
theorem sp_X7_counted : Sp yX7_counted cX7_counted 2 (some .int) 11 257 0 0 spec_X7_counted := by
  refine sp_intro (by decide) (by rintro args n h K ⟨I, F, q, w, rfl, -⟩; exact Nat.le_of_ble_eq_true rfl) ?_
  rintro X args n h K hc hr ⟨I, F, q, w, rfl, hM, hF, hG, hw, kk⟩
  have k0 := kk h I F hM (fun _ _ _ _ _ => rfl) KpF.rf Fr.rf
  have hP := hF.1.1
  have e48 : F 1 (48 : Int).toNat = q.1.1.length := hP.1
  have e49 : F 1 (49 : Int).toNat = q.1.2.1 := hF.1.2.1
  have e50 : F 1 (50 : Int).toNat = q.1.2.2.1 := hF.1.2.2.1
  have e51 : F 1 (51 : Int).toNat = q.1.2.2.2 := hF.1.2.2.2
  refine sX7_counted_0 hc hr hM.o rfl rfl rfl hM.z hP rfl ?_
  rw [e48, e49, e50, e51, hF.2.1.2, hF.2.2.1.1]
  refine ⟨R3_s (by omega), fun c => ?_, fun c => ⟨⟨by decide, by decide, by decide⟩, ?_⟩, fun c => ?_, fun c => ⟨⟨by decide, by decide, by decide⟩, ?_⟩, fun c => ⟨⟨by decide, by decide, by decide⟩, ?_⟩, fun c => ⟨⟨by decide, by decide, by decide⟩, ?_⟩, fun c => ⟨I, F, q.1, 1, rfl, hM, hF.1, hG, ⟨by decide, by decide⟩, fun h1 I1 F1 hM1 hI1 hF1 f1 => ⟨rfl, sX7_counted_94 hc hr ?_⟩⟩, fun c => ⟨I, F, q.1, 0, rfl, hM, hF.1, hG, ⟨by decide, by decide⟩, fun h1 I1 F1 hM1 hI1 hF1 f1 => ⟨rfl, sX7_counted_100 hc hr ?_⟩⟩, fun c => ⟨I, F, q.1.1, rfl, hM, hP, ⟨rfl, sX7_counted_105 hc hr ?_⟩⟩, fun c => ?_⟩
  · have : w = 9 := by omega
    subst this
    exact k0
  · subst c
    exact k0
  · subst c
    exact k0
  · subst c
    exact k0
  · subst c
    exact k0
  · subst c
    exact k0
  · subst c
    exact kk h1 I1 F1 hM1 hI1 hF1 f1
  · subst c
    exact kk h1 I1 F1 hM1 hI1 hF1 f1
  · subst c
    exact k0
  · subst c
    exact k0
set_option maxHeartbeats 4000000 in
set_option maxRecDepth 100000 in
theorem sX7_count_0 {X : Xt} {n : Nat} {h : HP} {a0 : Nat} {x1 : Int} {fs1 : List Value} (hc : Cx X cX7_count RX7 2 12 278) {K : KT} (hr : CxR X (some .int) K) (e1 : At h n a0 (.inl (7, fs1))) (z1 : fs1.length = 24)
    (P : (R3 x1 ∧ R3 0 ∧ R3 9) ∧ (¬ (0 ≤ x1 ∧ x1 ≤ 9) → K (.inl (some (.int (i3 0)))) n (va_up h a0 (.inl (7, (fs1.set 0 (.int (i3 1))))))) ∧ ((0 ≤ x1 ∧ x1 ≤ 9) → spec_X7_counted [.ref a0, .int (i3 x1)] n (va_up h a0 (.inl (7, (fs1.set 0 (.int (i3 0)))))) (kc X 0 0 32 [(0, .ref a0), (1, .int (i3 x1))] [] n))) :
    Ok X 0 0 0 [(0, .ref a0), (1, .int (i3 x1))] [] n h := by
  refine ok_aload_n (pc := 0) hc dX7_count_0 rfl 0 rfl ?_
  refine ok_iload_n (pc := 1) hc dX7_count_1 rfl 1 rfl ?_
  refine ok_iconst (pc := 2) hc (v := i3 0) dX7_count_2 (by decide) ?_
  refine ok_bipush (pc := 3) hc (v := i3 9) dX7_count_3 (by decide) ?_
  obtain ⟨r0, P⟩ := P
  refine ok_callS (pc := 5) (cb := 0) (sb := 0) (st := [.ref a0]) hc [.int (i3 x1), .int (i3 0), .int (i3 9)] cs_X7_45 sp_X7_within (by decide) dX7_count_5 rfl rfl rfl rfl (Nat.le_of_ble_eq_true rfl) (⟨_, _, _, rfl, r0, rfl, ?_⟩)
  show Ok X 0 0 (5 + 3) [(0, .ref a0), (1, .int (i3 x1))] [.int (i3 (inZ x1 0 9)), .ref a0] n h
  refine zk_if_eq (pc := 8) (tgt := 15) hc dX7_count_8 (by decide) R3_inZ (fun c => ?_) (fun c => ?_)
  · have P := P.1 (inZ_0.mp c)
    refine ok_iconst (pc := 15) hc (v := i3 1) dX7_count_15 (by decide) ?_
    refine ok_put (pc := 16) hc fl_X7_41 dX7_count_16 e1.1 e1.2 (by simp [List.length_set, z1]) (fun _ => rfl) (fun _ => rfl) ?_
    refine ok_aload_n (pc := 19) hc dX7_count_19 rfl 0 rfl ?_
    refine ok_get (pc := 20) hc fl_X7_41 dX7_count_20 e1.1 up_self (set_self (by simp [List.length_set, z1])) ?_
    refine zk_if_le (pc := 23) (tgt := 30) hc dX7_count_23 (by decide) ⟨by decide, by decide⟩ (fun c => absurd c (by decide)) (fun _ => ?_)
    refine ok_iconst (pc := 26) hc (v := i3 0) dX7_count_26 (by decide) ?_
    refine ok_goto (pc := 27) (tgt := 35) hc dX7_count_27 (by decide) ?_
    exact ok_iret (st := []) (pc := 35) hc hr dX7_count_35 P
  · have P := P.2 (inZ_1.mp c)
    refine ok_iconst (pc := 11) hc (v := i3 0) dX7_count_11 (by decide) ?_
    refine ok_goto (pc := 12) (tgt := 16) hc dX7_count_12 (by decide) ?_
    refine ok_put (pc := 16) hc fl_X7_41 dX7_count_16 e1.1 e1.2 (by simp [List.length_set, z1]) (fun _ => rfl) (fun _ => rfl) ?_
    refine ok_aload_n (pc := 19) hc dX7_count_19 rfl 0 rfl ?_
    refine ok_get (pc := 20) hc fl_X7_41 dX7_count_20 e1.1 up_self (set_self (by simp [List.length_set, z1])) ?_
    refine zk_if_le (pc := 23) (tgt := 30) hc dX7_count_23 (by decide) ⟨by decide, by decide⟩ (fun _ => ?_) (fun c => absurd c (by decide))
    refine ok_aload_n (pc := 30) hc dX7_count_30 rfl 0 rfl ?_
    refine ok_iload_n (pc := 31) hc dX7_count_31 rfl 1 rfl ?_
    exact ok_callV (pc := 32) (a := a0) (cb := 0) (sb := 0) (st := []) hc [.int (i3 x1)] cv_X7_257 sp_X7_counted (by decide) dX7_count_32 rfl e1.1 up_self rfl rfl rfl (Nat.le_of_ble_eq_true rfl) P

set_option maxHeartbeats 4000000 in
set_option maxRecDepth 100000 in
theorem sX7_count_35 {X : Xt} {n : Nat} {h : HP} {a0 : Nat} {x1 : Int} {t0 : Int} (hc : Cx X cX7_count RX7 2 12 278) {K : KT} (hr : CxR X (some .int) K) 
    (P : K (.inl (some (.int (i3 t0)))) n h) :
    Ok X 0 0 35 [(0, .ref a0), (1, .int (i3 x1))] [.int (i3 t0)] n h := by
  exact ok_iret (st := []) (pc := 35) hc hr dX7_count_35 P

def spec_X7_count (args : List Value) (n : Nat) (h : HP) (K : KT) : Prop := ∃ (q : Dsk) (t w : Int), args = [.ref 128, .int (i3 w)] ∧ R3 w ∧ MdA h n q t ∧ ∀ h', MdA h' n q (cdL [eIA] (opCount q w)) → Fr h h' 128 138 → K (.inl (some (.int (i3 (rvI (opCount q w)))))) n h'
theorem sp_X7_count : Sp yX7_count cX7_count 2 (some .int) 12 278 0 0 spec_X7_count := by
  refine sp_intro (by decide) (by rintro args n h K ⟨q, t, w, rfl, -⟩; exact Nat.le_of_ble_eq_true rfl) ?_
  rintro X args n h K hc hr ⟨q, t, w, rfl, hw, ⟨I, F, hM, hF, -, hGq, hOq⟩, kk⟩
  refine sX7_count_0 hc hr hM.o rfl ⟨⟨hw, R3_0, ⟨by decide, by decide⟩⟩, fun c => ?_, fun c => ?_⟩
  · have e : opCount q w = .inr eIA := by
      unfold opCount
      rw [if_neg (by omega), if_neg (by omega), if_neg (by omega), if_neg (by omega), if_neg (by omega), if_neg (by omega), if_neg (by omega), if_neg (by omega), if_neg (by omega), if_neg (by omega)]
    rw [e, cd_1] at kk
    exact kk _ (MdA.rd (t := 1) (hM.uo (va_up I 0 1)) hF (fun _ _ _ _ _ => rfl) KpF.rf hGq hOq) (Fr.rf.up (by omega))
  · have e : cdL [eIA] (opCount q w) = 0 := by
      rcases (show w = 0 ∨ w = 1 ∨ w = 2 ∨ w = 3 ∨ w = 4 ∨ w = 5 ∨ w = 6 ∨ w = 7 ∨ w = 8 ∨ w = 9 by omega) with e | e | e | e | e | e | e | e | e | e <;> subst e <;> rfl
    rw [e] at kk
    refine ⟨va_up I 0 0, F, q, w, rfl, hM.uo (va_up I 0 0), hF.thr 0, hGq.1, c, fun h1 I1 F1 hM1 hI1 hF1 f1 => ⟨rfl, sX7_count_35 hc hr ?_⟩⟩
    exact kk h1 (MdA.rd hM1 hF hI1 hF1 hGq hOq) ((Fr.rf.up (by omega)).tr f1)
