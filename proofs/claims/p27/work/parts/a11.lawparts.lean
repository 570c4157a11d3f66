/-! part a11: the law's parts: isAt, amplifiers, used, driver, place -/
/-- the row F holds the parts ps (of a source: its third number is whatever it is) -/
def PaF (F : Nat → Int) (ps : List Part) : Prop := ps.length ≤ 12 ∧ (∀ i p, ps[i]? = some p → F (4 * i) = p.1 ∧ F (4 * i + 1) = p.2.1 ∧ (p.1 ≠ 1 → F (4 * i + 2) = p.2.2.1) ∧ F (4 * i + 3) = p.2.2.2) ∧ (∀ p ∈ ps, PW p) ∧ ∀ j, R3 (F j)
theorem PaF.g {F : Nat → Int} {ps : List Part} (h : PaF F ps) {i : Nat} {p : Part} (hp : ps[i]? = some p) : F (4 * (i : Int) : Int).toNat = p.1 ∧ F (4 * (i : Int) + 1 : Int).toNat = p.2.1 ∧ (p.1 ≠ 1 → F (4 * (i : Int) + 2 : Int).toNat = p.2.2.1) ∧ F (4 * (i : Int) + 3 : Int).toNat = p.2.2.2 ∧ i < ps.length ∧ ps.length ≤ 12 ∧ PW p := by
  have hi := (List.getElem?_eq_some_iff.mp hp).1
  have h4 := h.2.1 i p hp
  rw [show (4 * (i : Int) : Int).toNat = 4 * i by omega, show (4 * (i : Int) + 1 : Int).toNat = 4 * i + 1 by omega, show (4 * (i : Int) + 2 : Int).toNat = 4 * i + 2 by omega, show (4 * (i : Int) + 3 : Int).toNat = 4 * i + 3 by omega]
  exact ⟨h4.1, h4.2.1, h4.2.2.1, h4.2.2.2, hi, h.1, h.2.2.1 p (List.mem_of_getElem? hp)⟩
set_option maxHeartbeats 4000000 in
set_option maxRecDepth 100000 in
theorem sL_isAt_0 {X : Xt} {n : Nat} {h : HP} {x0 : Int} {x1 : Int} {a2 : Nat} {f1 : Nat → Int} (hc : Cx X cL_isAt RL 3 1 21) {K : KT} (hr : CxR X (some .boolean) K) (e1 : At h n a2 (ai 48 f1))
    (P : (Ix ((4 * x0) + 1) 48) ∧ (R3 (f1 (((4 * x0) + 1) : Int).toNat)) ∧ (R3 x1) ∧ ((f1 (((4 * x0) + 1) : Int).toNat) = x1 → K (.inl (some (.int (i3 1)))) n h) ∧ (¬ (f1 (((4 * x0) + 1) : Int).toNat) = x1 → (Ix (4 * x0) 48) ∧ (R3 (f1 (4 * x0 : Int).toNat)) ∧ ((f1 (4 * x0 : Int).toNat) = 1 → (Ix (4 * x0) 48) ∧ (R3 (f1 (4 * x0 : Int).toNat)) ∧ (¬ (f1 (4 * x0 : Int).toNat) = 2 → K (.inl (some (.int (i3 0)))) n h) ∧ ((f1 (4 * x0 : Int).toNat) = 2 → (Ix ((4 * x0) + 3) 48) ∧ (R3 (f1 (((4 * x0) + 3) : Int).toNat)) ∧ (R3 x1) ∧ (¬ (f1 (((4 * x0) + 3) : Int).toNat) = x1 → K (.inl (some (.int (i3 0)))) n h) ∧ ((f1 (((4 * x0) + 3) : Int).toNat) = x1 → K (.inl (some (.int (i3 1)))) n h))) ∧ (¬ (f1 (4 * x0 : Int).toNat) = 1 → (Ix ((4 * x0) + 2) 48) ∧ (R3 (f1 (((4 * x0) + 2) : Int).toNat)) ∧ (R3 x1) ∧ ((f1 (((4 * x0) + 2) : Int).toNat) = x1 → K (.inl (some (.int (i3 1)))) n h) ∧ (¬ (f1 (((4 * x0) + 2) : Int).toNat) = x1 → (Ix (4 * x0) 48) ∧ (R3 (f1 (4 * x0 : Int).toNat)) ∧ (¬ (f1 (4 * x0 : Int).toNat) = 2 → K (.inl (some (.int (i3 0)))) n h) ∧ ((f1 (4 * x0 : Int).toNat) = 2 → (Ix ((4 * x0) + 3) 48) ∧ (R3 (f1 (((4 * x0) + 3) : Int).toNat)) ∧ (R3 x1) ∧ (¬ (f1 (((4 * x0) + 3) : Int).toNat) = x1 → K (.inl (some (.int (i3 0)))) n h) ∧ ((f1 (((4 * x0) + 3) : Int).toNat) = x1 → K (.inl (some (.int (i3 1)))) n h)))))) :
    Ok X 0 0 0 [(0, .int (i3 x0)), (1, .int (i3 x1)), (2, .ref a2)] [] n h := by
  refine ok_aload_n (pc := 0) hc dL_isAt_0 rfl 2 rfl ?_
  refine ok_iconst (pc := 1) hc (v := i3 4) dL_isAt_1 (by decide) ?_
  refine ok_iload_n (pc := 2) hc dL_isAt_2 rfl 0 rfl ?_
  refine zk_imul (pc := 3) hc dL_isAt_3 ?_
  refine ok_iconst (pc := 4) hc (v := i3 1) dL_isAt_4 (by decide) ?_
  refine zk_iadd (pc := 5) hc dL_isAt_5 ?_
  obtain ⟨r, P⟩ := P
  refine zk_iald (pc := 6) hc dL_isAt_6 e1.1 e1.2 r ?_
  refine ok_iload_n (pc := 7) hc dL_isAt_7 rfl 1 rfl ?_
  obtain ⟨r2, P⟩ := P
  obtain ⟨r3, P⟩ := P
  refine zk_icmp_eq (pc := 8) (tgt := 51) hc dL_isAt_8 (by decide) r2 r3 (fun c => ?_) (fun c => ?_)
  · have P := P.1 c
    refine ok_iconst (pc := 51) hc (v := i3 1) dL_isAt_51 (by decide) ?_
    refine ok_goto (pc := 52) (tgt := 56) hc dL_isAt_52 (by decide) ?_
    exact ok_zret (st := []) (pc := 56) hc (nar_z (by decide)) hr dL_isAt_56 P
  · have P := P.2 c
    refine ok_iload_n (pc := 11) hc dL_isAt_11 rfl 0 rfl ?_
    refine ok_aload_n (pc := 12) hc dL_isAt_12 rfl 2 rfl ?_
    obtain ⟨r0, P⟩ := P
    refine ok_callS (pc := 13) (cb := 0) (sb := 0) (st := []) hc [.int (i3 x0), .ref a2] cs_L_8 sp_L_kind (by decide) dL_isAt_13 rfl rfl rfl rfl (Nat.le_of_ble_eq_true rfl) (⟨_, _, _, _, rfl, ⟨e1.1, e1.2⟩, r0, rfl, ?_⟩)
    show Ok X 0 0 (13 + 3) [(0, .int (i3 x0)), (1, .int (i3 x1)), (2, .ref a2)] [.int (i3 (f1 (4 * x0 : Int).toNat))] n h
    refine ok_iconst (pc := 16) hc (v := i3 1) dL_isAt_16 (by decide) ?_
    obtain ⟨r4, P⟩ := P
    refine zk_icmp_eq (pc := 17) (tgt := 31) hc dL_isAt_17 (by decide) r4 ⟨by decide, by decide⟩ (fun c => ?_) (fun c => ?_)
    · have P := P.1 c
      refine ok_iload_n (pc := 31) hc dL_isAt_31 rfl 0 rfl ?_
      refine ok_aload_n (pc := 32) hc dL_isAt_32 rfl 2 rfl ?_
      obtain ⟨r0, P⟩ := P
      refine ok_callS (pc := 33) (cb := 0) (sb := 0) (st := []) hc [.int (i3 x0), .ref a2] cs_L_8 sp_L_kind (by decide) dL_isAt_33 rfl rfl rfl rfl (Nat.le_of_ble_eq_true rfl) (⟨_, _, _, _, rfl, ⟨e1.1, e1.2⟩, r0, rfl, ?_⟩)
      show Ok X 0 0 (33 + 3) [(0, .int (i3 x0)), (1, .int (i3 x1)), (2, .ref a2)] [.int (i3 (f1 (4 * x0 : Int).toNat))] n h
      refine ok_iconst (pc := 36) hc (v := i3 2) dL_isAt_36 (by decide) ?_
      obtain ⟨r5, P⟩ := P
      refine zk_icmp_ne (pc := 37) (tgt := 55) hc dL_isAt_37 (by decide) r5 ⟨by decide, by decide⟩ (fun c => ?_) (fun c => ?_)
      · have P := P.1 c
        refine ok_iconst (pc := 55) hc (v := i3 0) dL_isAt_55 (by decide) ?_
        exact ok_zret (st := []) (pc := 56) hc (nar_z (by decide)) hr dL_isAt_56 P
      · have P := P.2 c
        refine ok_aload_n (pc := 40) hc dL_isAt_40 rfl 2 rfl ?_
        refine ok_iconst (pc := 41) hc (v := i3 4) dL_isAt_41 (by decide) ?_
        refine ok_iload_n (pc := 42) hc dL_isAt_42 rfl 0 rfl ?_
        refine zk_imul (pc := 43) hc dL_isAt_43 ?_
        refine ok_iconst (pc := 44) hc (v := i3 3) dL_isAt_44 (by decide) ?_
        refine zk_iadd (pc := 45) hc dL_isAt_45 ?_
        obtain ⟨r, P⟩ := P
        refine zk_iald (pc := 46) hc dL_isAt_46 e1.1 e1.2 r ?_
        refine ok_iload_n (pc := 47) hc dL_isAt_47 rfl 1 rfl ?_
        obtain ⟨r6, P⟩ := P
        obtain ⟨r7, P⟩ := P
        refine zk_icmp_ne (pc := 48) (tgt := 55) hc dL_isAt_48 (by decide) r6 r7 (fun c => ?_) (fun c => ?_)
        · have P := P.1 c
          refine ok_iconst (pc := 55) hc (v := i3 0) dL_isAt_55 (by decide) ?_
          exact ok_zret (st := []) (pc := 56) hc (nar_z (by decide)) hr dL_isAt_56 P
        · have P := P.2 c
          refine ok_iconst (pc := 51) hc (v := i3 1) dL_isAt_51 (by decide) ?_
          refine ok_goto (pc := 52) (tgt := 56) hc dL_isAt_52 (by decide) ?_
          exact ok_zret (st := []) (pc := 56) hc (nar_z (by decide)) hr dL_isAt_56 P
    · have P := P.2 c
      refine ok_aload_n (pc := 20) hc dL_isAt_20 rfl 2 rfl ?_
      refine ok_iconst (pc := 21) hc (v := i3 4) dL_isAt_21 (by decide) ?_
      refine ok_iload_n (pc := 22) hc dL_isAt_22 rfl 0 rfl ?_
      refine zk_imul (pc := 23) hc dL_isAt_23 ?_
      refine ok_iconst (pc := 24) hc (v := i3 2) dL_isAt_24 (by decide) ?_
      refine zk_iadd (pc := 25) hc dL_isAt_25 ?_
      obtain ⟨r, P⟩ := P
      refine zk_iald (pc := 26) hc dL_isAt_26 e1.1 e1.2 r ?_
      refine ok_iload_n (pc := 27) hc dL_isAt_27 rfl 1 rfl ?_
      obtain ⟨r8, P⟩ := P
      obtain ⟨r9, P⟩ := P
      refine zk_icmp_eq (pc := 28) (tgt := 51) hc dL_isAt_28 (by decide) r8 r9 (fun c => ?_) (fun c => ?_)
      · have P := P.1 c
        refine ok_iconst (pc := 51) hc (v := i3 1) dL_isAt_51 (by decide) ?_
        refine ok_goto (pc := 52) (tgt := 56) hc dL_isAt_52 (by decide) ?_
        exact ok_zret (st := []) (pc := 56) hc (nar_z (by decide)) hr dL_isAt_56 P
      · have P := P.2 c
        refine ok_iload_n (pc := 31) hc dL_isAt_31 rfl 0 rfl ?_
        refine ok_aload_n (pc := 32) hc dL_isAt_32 rfl 2 rfl ?_
        obtain ⟨r0, P⟩ := P
        refine ok_callS (pc := 33) (cb := 0) (sb := 0) (st := []) hc [.int (i3 x0), .ref a2] cs_L_8 sp_L_kind (by decide) dL_isAt_33 rfl rfl rfl rfl (Nat.le_of_ble_eq_true rfl) (⟨_, _, _, _, rfl, ⟨e1.1, e1.2⟩, r0, rfl, ?_⟩)
        show Ok X 0 0 (33 + 3) [(0, .int (i3 x0)), (1, .int (i3 x1)), (2, .ref a2)] [.int (i3 (f1 (4 * x0 : Int).toNat))] n h
        refine ok_iconst (pc := 36) hc (v := i3 2) dL_isAt_36 (by decide) ?_
        obtain ⟨r10, P⟩ := P
        refine zk_icmp_ne (pc := 37) (tgt := 55) hc dL_isAt_37 (by decide) r10 ⟨by decide, by decide⟩ (fun c => ?_) (fun c => ?_)
        · have P := P.1 c
          refine ok_iconst (pc := 55) hc (v := i3 0) dL_isAt_55 (by decide) ?_
          exact ok_zret (st := []) (pc := 56) hc (nar_z (by decide)) hr dL_isAt_56 P
        · have P := P.2 c
          refine ok_aload_n (pc := 40) hc dL_isAt_40 rfl 2 rfl ?_
          refine ok_iconst (pc := 41) hc (v := i3 4) dL_isAt_41 (by decide) ?_
          refine ok_iload_n (pc := 42) hc dL_isAt_42 rfl 0 rfl ?_
          refine zk_imul (pc := 43) hc dL_isAt_43 ?_
          refine ok_iconst (pc := 44) hc (v := i3 3) dL_isAt_44 (by decide) ?_
          refine zk_iadd (pc := 45) hc dL_isAt_45 ?_
          obtain ⟨r, P⟩ := P
          refine zk_iald (pc := 46) hc dL_isAt_46 e1.1 e1.2 r ?_
          refine ok_iload_n (pc := 47) hc dL_isAt_47 rfl 1 rfl ?_
          obtain ⟨r11, P⟩ := P
          obtain ⟨r12, P⟩ := P
          refine zk_icmp_ne (pc := 48) (tgt := 55) hc dL_isAt_48 (by decide) r11 r12 (fun c => ?_) (fun c => ?_)
          · have P := P.1 c
            refine ok_iconst (pc := 55) hc (v := i3 0) dL_isAt_55 (by decide) ?_
            exact ok_zret (st := []) (pc := 56) hc (nar_z (by decide)) hr dL_isAt_56 P
          · have P := P.2 c
            refine ok_iconst (pc := 51) hc (v := i3 1) dL_isAt_51 (by decide) ?_
            refine ok_goto (pc := 52) (tgt := 56) hc dL_isAt_52 (by decide) ?_
            exact ok_zret (st := []) (pc := 56) hc (nar_z (by decide)) hr dL_isAt_56 P

def spec_L_isAt (args : List Value) (n : Nat) (h : HP) (K : KT) : Prop := ∃ (a : Nat) (F : Nat → Int) (ps : List Part) (i : Nat) (p : Part) (k : Int), args = [.int (i3 i), .int (i3 k), .ref a] ∧ At h n a (ai 48 F) ∧ PaF F ps ∧ ps[i]? = some p ∧ R3 k ∧ K (.inl (some (.int (i3 (bz (atB p k)))))) n h
theorem sp_L_isAt : Sp yL_isAt cL_isAt 3 (some .boolean) 1 21 0 0 spec_L_isAt := by
  refine sp_intro (by decide) (by rintro args n h K ⟨a, F, ps, i, p, k, rfl, -⟩; exact Nat.le_of_ble_eq_true rfl) ?_
  rintro X args n h K hc hr ⟨a, F, ps, i, p, k, rfl, e, hP, hp, hk, kk⟩
  obtain ⟨g0, g1, g2, g3, hi, hl, hw⟩ := hP.g hp
  have rr := hP.2.2.2
  have x0 : Ix (4 * (i : Int)) 48 := ⟨by omega, by omega, by omega⟩
  have x1 : Ix (4 * (i : Int) + 1) 48 := ⟨by omega, by omega, by omega⟩
  have x2 : Ix (4 * (i : Int) + 2) 48 := ⟨by omega, by omega, by omega⟩
  have x3 : Ix (4 * (i : Int) + 3) 48 := ⟨by omega, by omega, by omega⟩
  have yes : atB p k = true → K (.inl (some (.int (i3 1)))) n h := fun q => by rw [q] at kk; exact kk
  have no : ¬ atB p k = true → K (.inl (some (.int (i3 0)))) n h := fun q => by rw [Bool.eq_false_iff.mpr q] at kk; exact kk
  unfold atB at yes no
  simp only [Bool.or_eq_true, Bool.and_eq_true, decide_eq_true_eq] at yes no
  have last : ¬ p.2.1 = k → (¬ p.1 = 1 → ¬ p.2.2.1 = k) → (Ix (4 * (i : Int)) 48) ∧ (R3 (F (4 * (i : Int) : Int).toNat)) ∧ (¬ (F (4 * (i : Int) : Int).toNat) = 2 → K (.inl (some (.int (i3 0)))) n h) ∧ ((F (4 * (i : Int) : Int).toNat) = 2 → (Ix ((4 * (i : Int)) + 3) 48) ∧ (R3 (F (((4 * (i : Int)) + 3) : Int).toNat)) ∧ (R3 k) ∧ (¬ (F (((4 * (i : Int)) + 3) : Int).toNat) = k → K (.inl (some (.int (i3 0)))) n h) ∧ ((F (((4 * (i : Int)) + 3) : Int).toNat) = k → K (.inl (some (.int (i3 1)))) n h)) := by
    intro c1 c2
    rw [g0, g3]
    refine ⟨x0, by rw [← g0]; exact rr _, fun c => no ?_, fun c => ⟨x3, by rw [← g3]; exact rr _, hk, fun d => no ?_, fun d => yes ?_⟩⟩
    · rintro ((z | z) | z)
      · exact c1 z
      · exact c2 z.1 z.2
      · exact c z.1
    · rintro ((z | z) | z)
      · exact c1 z
      · exact c2 z.1 z.2
      · exact d z.2
    · exact Or.inr ⟨c, d⟩
  refine sL_isAt_0 hc hr e ⟨x1, rr _, hk, fun c => yes ?_, fun c1 => ⟨x0, rr _, fun c => ?_, fun c => ⟨x2, rr _, hk, fun d => yes ?_, fun d => ?_⟩⟩⟩
  · rw [g1] at c
    exact Or.inl (Or.inl c)
  · rw [g1] at c1
    rw [g0] at c
    exact last c1 (fun z => absurd c z)
  · rw [g0] at c
    rw [g2 c] at d
    exact Or.inl (Or.inr ⟨c, d⟩)
  · rw [g1] at c1
    rw [g0] at c
    rw [g2 c] at d
    exact last c1 (fun _ => d)
set_option maxHeartbeats 4000000 in
set_option maxRecDepth 100000 in
theorem sL_amplifiers_0 {X : Xt} {n : Nat} {h : HP} {x0 : Int} {a1 : Nat} (hc : Cx X cL_amplifiers RL 4 1 21) {K : KT} (hr : CxR X (some .int) K) 
    (P : Ok X 0 0 4 [(0, .int (i3 x0)), (1, .ref a1), (2, .int (i3 0)), (3, .int (i3 0))] [] n h) :
    Ok X 0 0 0 [(0, .int (i3 x0)), (1, .ref a1)] [] n h := by
  refine ok_iconst (pc := 0) hc (v := i3 0) dL_amplifiers_0 (by decide) ?_
  refine ok_istore_n (pc := 1) hc (lv' := [(2, .int (i3 0)), (0, .int (i3 x0)), (1, .ref a1)]) dL_amplifiers_1 rfl (by decide) rfl ?_
  refine ok_iconst (pc := 2) hc (v := i3 0) dL_amplifiers_2 (by decide) ?_
  refine ok_istore_n (pc := 3) hc (lv' := [(3, .int (i3 0)), (2, .int (i3 0)), (0, .int (i3 x0)), (1, .ref a1)]) dL_amplifiers_3 rfl (by decide) rfl ?_
  refine ok_lv [2, 3, 1, 0] rfl ?_
  exact P

set_option maxHeartbeats 4000000 in
set_option maxRecDepth 100000 in
theorem sL_amplifiers_4 {X : Xt} {n : Nat} {h : HP} {x0 : Int} {a1 : Nat} {x2 : Int} {x3 : Int} {f3 : Nat → Int} (hc : Cx X cL_amplifiers RL 4 1 21) {K : KT} (hr : CxR X (some .int) K) (e3 : At h n a1 (ai 48 f3))
    (P : (R3 x3) ∧ (R3 x0) ∧ (x0 ≤ x3 → K (.inl (some (.int (i3 x2)))) n h) ∧ (¬ x0 ≤ x3 → (Ix (4 * x3) 48) ∧ (R3 (f3 (4 * x3 : Int).toNat)) ∧ (¬ (f3 (4 * x3 : Int).toNat) = 2 → Ok X 0 0 4 [(0, .int (i3 x0)), (1, .ref a1), (2, .int (i3 (x2 + 0))), (3, .int (i3 (x3 + 1)))] [] n h) ∧ ((f3 (4 * x3 : Int).toNat) = 2 → Ok X 0 0 4 [(0, .int (i3 x0)), (1, .ref a1), (2, .int (i3 (x2 + 1))), (3, .int (i3 (x3 + 1)))] [] n h))) :
    Ok X 0 0 4 [(0, .int (i3 x0)), (1, .ref a1), (2, .int (i3 x2)), (3, .int (i3 x3))] [] n h := by
  refine ok_iload_n (pc := 4) hc dL_amplifiers_4 rfl 3 rfl ?_
  refine ok_iload_n (pc := 5) hc dL_amplifiers_5 rfl 0 rfl ?_
  obtain ⟨r1, P⟩ := P
  obtain ⟨r2, P⟩ := P
  refine zk_icmp_ge (pc := 6) (tgt := 32) hc dL_amplifiers_6 (by decide) r1 r2 (fun c => ?_) (fun c => ?_)
  · have P := P.1 c
    refine ok_iload_n (pc := 32) hc dL_amplifiers_32 rfl 2 rfl ?_
    exact ok_iret (st := []) (pc := 33) hc hr dL_amplifiers_33 P
  · have P := P.2 c
    refine ok_iload_n (pc := 9) hc dL_amplifiers_9 rfl 2 rfl ?_
    refine ok_iload_n (pc := 10) hc dL_amplifiers_10 rfl 3 rfl ?_
    refine ok_aload_n (pc := 11) hc dL_amplifiers_11 rfl 1 rfl ?_
    obtain ⟨r0, P⟩ := P
    refine ok_callS (pc := 12) (cb := 0) (sb := 0) (st := [.int (i3 x2)]) hc [.int (i3 x3), .ref a1] cs_L_8 sp_L_kind (by decide) dL_amplifiers_12 rfl rfl rfl rfl (Nat.le_of_ble_eq_true rfl) (⟨_, _, _, _, rfl, ⟨e3.1, e3.2⟩, r0, rfl, ?_⟩)
    show Ok X 0 0 (12 + 3) [(0, .int (i3 x0)), (1, .ref a1), (2, .int (i3 x2)), (3, .int (i3 x3))] [.int (i3 (f3 (4 * x3 : Int).toNat)), .int (i3 x2)] n h
    refine ok_iconst (pc := 15) hc (v := i3 2) dL_amplifiers_15 (by decide) ?_
    obtain ⟨r4, P⟩ := P
    refine zk_icmp_ne (pc := 16) (tgt := 23) hc dL_amplifiers_16 (by decide) r4 ⟨by decide, by decide⟩ (fun c => ?_) (fun c => ?_)
    · have P := P.1 c
      refine ok_iconst (pc := 23) hc (v := i3 0) dL_amplifiers_23 (by decide) ?_
      refine zk_iadd (pc := 24) hc dL_amplifiers_24 ?_
      refine ok_istore_n (pc := 25) hc (lv' := [(2, .int (i3 (x2 + 0))), (0, .int (i3 x0)), (1, .ref a1), (3, .int (i3 x3))]) dL_amplifiers_25 rfl (by decide) rfl ?_
      refine zk_iinc (pc := 26) hc (q := 3) (x := x3) (lv' := [(3, .int (i3 (x3 + 1))), (2, .int (i3 (x2 + 0))), (0, .int (i3 x0)), (1, .ref a1)]) dL_amplifiers_26 rfl (by decide) rfl ?_
      refine ok_goto (pc := 29) (tgt := 4) hc dL_amplifiers_29 (by decide) ?_
      refine ok_lv [2, 3, 1, 0] rfl ?_
      exact P
    · have P := P.2 c
      refine ok_iconst (pc := 19) hc (v := i3 1) dL_amplifiers_19 (by decide) ?_
      refine ok_goto (pc := 20) (tgt := 24) hc dL_amplifiers_20 (by decide) ?_
      refine zk_iadd (pc := 24) hc dL_amplifiers_24 ?_
      refine ok_istore_n (pc := 25) hc (lv' := [(2, .int (i3 (x2 + 1))), (0, .int (i3 x0)), (1, .ref a1), (3, .int (i3 x3))]) dL_amplifiers_25 rfl (by decide) rfl ?_
      refine zk_iinc (pc := 26) hc (q := 3) (x := x3) (lv' := [(3, .int (i3 (x3 + 1))), (2, .int (i3 (x2 + 1))), (0, .int (i3 x0)), (1, .ref a1)]) dL_amplifiers_26 rfl (by decide) rfl ?_
      refine ok_goto (pc := 29) (tgt := 4) hc dL_amplifiers_29 (by decide) ?_
      refine ok_lv [2, 3, 1, 0] rfl ?_
      exact P

def spec_L_amplifiers (args : List Value) (n : Nat) (h : HP) (K : KT) : Prop := ∃ (u a : Nat) (F : Nat → Int) (ps : List Part), args = [.int (i3 u), .ref a] ∧ At h n a (ai 48 F) ∧ PaF F ps ∧ u ≤ ps.length ∧ K (.inl (some (.int (i3 (nA (ps.take u)))))) n h
theorem sp_L_amplifiers : Sp yL_amplifiers cL_amplifiers 4 (some .int) 1 21 0 0 spec_L_amplifiers := by
  refine sp_intro (by decide) (by rintro args n h K ⟨u, a, F, ps, rfl, -⟩; exact Nat.le_of_ble_eq_true rfl) ?_
  rintro X args n h K hc hr ⟨u, a, F, ps, rfl, e, hP, hu, kk⟩
  have hl := hP.1
  have L : ∀ (j i : Nat), i + j = u → Ok X 0 0 4 [(0, .int (i3 u)), (1, .ref a), (2, .int (i3 (nA (ps.take i)))), (3, .int (i3 i))] [] n h := by
    intro j
    induction j with
    | zero =>
      intro i hi
      have : i = u := by omega
      subst this
      exact sL_amplifiers_4 hc hr e ⟨R3_s (by omega), R3_s (by omega), fun _ => kk, fun c => absurd (Int.le_refl _) c⟩
    | succ j ih =>
      intro i hi
      have hp : ps[i]? = some ps[i] := List.getElem?_eq_getElem (by omega)
      generalize ps[i] = p at hp
      obtain ⟨g0, g1, g2, g3, hi', hl', hw⟩ := hP.g hp
      have i1 := ih (i + 1) (by omega)
      rw [take_s hp, nA_app, nA_one] at i1
      refine sL_amplifiers_4 hc hr e ⟨R3_s (by omega), R3_s (by omega), fun c => absurd c (by omega), fun _ => ⟨⟨by omega, by omega, by omega⟩, hP.2.2.2 _, fun c => ?_, fun c => ?_⟩⟩
      · rw [g0] at c
        rw [if_neg c] at i1
        rw [Int.add_zero]
        exact i1
      · rw [g0] at c
        rw [if_pos c] at i1
        exact i1
  exact sL_amplifiers_0 hc hr (L u 0 (by omega))
set_option maxHeartbeats 4000000 in
set_option maxRecDepth 100000 in
theorem sL_used_0 {X : Xt} {n : Nat} {h : HP} {x0 : Int} {a1 : Nat} {a2 : Nat} (hc : Cx X cL_used RL 4 2 43) {K : KT} (hr : CxR X (some .boolean) K) 
    (P : Ok X 0 0 2 [(0, .int (i3 x0)), (1, .ref a1), (2, .ref a2), (3, .int (i3 0))] [] n h) :
    Ok X 0 0 0 [(0, .int (i3 x0)), (1, .ref a1), (2, .ref a2)] [] n h := by
  refine ok_iconst (pc := 0) hc (v := i3 0) dL_used_0 (by decide) ?_
  refine ok_istore_n (pc := 1) hc (lv' := [(3, .int (i3 0)), (0, .int (i3 x0)), (1, .ref a1), (2, .ref a2)]) dL_used_1 rfl (by decide) rfl ?_
  refine ok_lv [1, 2, 3, 0] rfl ?_
  exact P

set_option maxHeartbeats 4000000 in
set_option maxRecDepth 100000 in
theorem sL_used_2 {X : Xt} {n : Nat} {h : HP} {x0 : Int} {a1 : Nat} {a2 : Nat} {x3 : Int} {len1 : Nat} {f1 : Nat → Int} {f4 : Nat → Int} {ps5 : List Part} (hc : Cx X cL_used RL 4 2 43) {K : KT} (hr : CxR X (some .boolean) K) (e1 : At h n a1 (ai len1 f1)) (e4 : At h n a2 (ai 48 f4)) (hP5 : PaF f4 ps5)
    (P : (Ix 0 len1) ∧ (R3 x3) ∧ (R3 (f1 (0 : Int).toNat)) ∧ ((f1 (0 : Int).toNat) ≤ x3 → K (.inl (some (.int (i3 0)))) n h) ∧ (¬ (f1 (0 : Int).toNat) ≤ x3 → ((0 ≤ x3 ∧ x3 < ps5.length) ∧ R3 x0) ∧ ((atB (pAt ps5 x3) x0) = false → Ok X 0 0 2 [(0, .int (i3 x0)), (1, .ref a1), (2, .ref a2), (3, .int (i3 (x3 + 1)))] [] n h) ∧ ((atB (pAt ps5 x3) x0) = true → K (.inl (some (.int (i3 1)))) n h))) :
    Ok X 0 0 2 [(0, .int (i3 x0)), (1, .ref a1), (2, .ref a2), (3, .int (i3 x3))] [] n h := by
  refine ok_iload_n (pc := 2) hc dL_used_2 rfl 3 rfl ?_
  refine ok_aload_n (pc := 3) hc dL_used_3 rfl 1 rfl ?_
  refine ok_iconst (pc := 4) hc (v := i3 0) dL_used_4 (by decide) ?_
  obtain ⟨r, P⟩ := P
  refine zk_iald (pc := 5) hc dL_used_5 e1.1 e1.2 r ?_
  obtain ⟨r2, P⟩ := P
  obtain ⟨r3, P⟩ := P
  refine zk_icmp_ge (pc := 6) (tgt := 26) hc dL_used_6 (by decide) r2 r3 (fun c => ?_) (fun c => ?_)
  · have P := P.1 c
    refine ok_iconst (pc := 26) hc (v := i3 0) dL_used_26 (by decide) ?_
    exact ok_zret (st := []) (pc := 27) hc (nar_z (by decide)) hr dL_used_27 P
  · have P := P.2 c
    refine ok_iload_n (pc := 9) hc dL_used_9 rfl 3 rfl ?_
    refine ok_iload_n (pc := 10) hc dL_used_10 rfl 0 rfl ?_
    refine ok_aload_n (pc := 11) hc dL_used_11 rfl 2 rfl ?_
    obtain ⟨r0, P⟩ := P
    refine ok_callS (pc := 12) (cb := 0) (sb := 0) (st := []) hc [.int (i3 x3), .int (i3 x0), .ref a2] cs_L_14 sp_L_isAt (by decide) dL_used_12 rfl rfl rfl rfl (Nat.le_of_ble_eq_true rfl) (⟨_, _, _, (x3 : Int).toNat, pAt ps5 x3, _, (by rw [Int.toNat_of_nonneg r0.1.1]), ⟨e4.1, e4.2⟩, hP5, pAt_some r0.1, r0.2, rfl, ?_⟩)
    show Ok X 0 0 (12 + 3) [(0, .int (i3 x0)), (1, .ref a1), (2, .ref a2), (3, .int (i3 x3))] [.int (i3 (bz (atB (pAt ps5 x3) x0)))] n h
    refine zk_if_eq (pc := 15) (tgt := 20) hc dL_used_15 (by decide) R3_bz (fun c => ?_) (fun c => ?_)
    · have P := P.1 (bz_0.mp c)
      refine zk_iinc (pc := 20) hc (q := 3) (x := x3) (lv' := [(3, .int (i3 (x3 + 1))), (0, .int (i3 x0)), (1, .ref a1), (2, .ref a2)]) dL_used_20 rfl (by decide) rfl ?_
      refine ok_goto (pc := 23) (tgt := 2) hc dL_used_23 (by decide) ?_
      refine ok_lv [1, 2, 3, 0] rfl ?_
      exact P
    · have P := P.2 (bz_1.mp c)
      refine ok_iconst (pc := 18) hc (v := i3 1) dL_used_18 (by decide) ?_
      exact ok_zret (st := []) (pc := 19) hc (nar_z (by decide)) hr dL_used_19 P

def spec_L_used (args : List Value) (n : Nat) (h : HP) (K : KT) : Prop := ∃ (d a : Nat) (Fd F : Nat → Int) (ps : List Part) (k : Int), args = [.int (i3 k), .ref d, .ref a] ∧ At h n d (ai 4 Fd) ∧ At h n a (ai 48 F) ∧ Fd 0 = ps.length ∧ PaF F ps ∧ R3 k ∧ K (.inl (some (.int (i3 (bz (ps.any (fun p => atB p k))))))) n h
theorem sp_L_used : Sp yL_used cL_used 4 (some .boolean) 2 43 0 0 spec_L_used := by
  refine sp_intro (by decide) (by rintro args n h K ⟨d, a, Fd, F, ps, k, rfl, -⟩; exact Nat.le_of_ble_eq_true rfl) ?_
  rintro X args n h K hc hr ⟨d, a, Fd, F, ps, k, rfl, ed, e, hd, hP, hk, kk⟩
  have hl := hP.1
  have hd' : Fd (0 : Int).toNat = ps.length := hd
  have L : ∀ (j i : Nat), i + j = ps.length → (ps.take i).any (fun p => atB p k) = false → Ok X 0 0 2 [(0, .int (i3 k)), (1, .ref d), (2, .ref a), (3, .int (i3 i))] [] n h := by
    intro j
    induction j with
    | zero =>
      intro i hi hn
      have : i = ps.length := by omega
      subst this
      rw [List.take_length] at hn
      rw [hn] at kk
      exact sL_used_2 hc hr ed e hP ⟨⟨by decide, by decide, by decide⟩, R3_s (by omega), R3_s (by omega), fun _ => kk, fun c => absurd (by omega) c⟩
    | succ j ih =>
      intro i hi hn
      have hp : ps[i]? = some ps[i] := List.getElem?_eq_getElem (by omega)
      generalize ps[i] = p at hp
      have i1 := ih (i + 1) (by omega)
      rw [take_s hp, List.any_append, hn, Bool.false_or, List.any_cons, List.any_nil, Bool.or_false] at i1
      refine sL_used_2 hc hr ed e hP ⟨⟨by decide, by decide, by decide⟩, R3_s (by omega), R3_s (by omega), fun c => absurd c (by omega), fun _ => ⟨⟨⟨by omega, by omega⟩, hk⟩, fun c => ?_, fun c => ?_⟩⟩
      · rw [pAt_of hp] at c
        exact i1 c
      · rw [pAt_of hp] at c
        have : ps.any (fun p => atB p k) = true := List.any_eq_true.mpr ⟨p, List.mem_of_getElem? hp, c⟩
        rw [this] at kk
        exact kk
  exact sL_used_0 hc hr (L ps.length 0 (by omega) rfl)
/-- the first part that drives the node k -/
def drvA (k : Int) : List Part → Nat → Int
  | [], _ => -1
  | p :: ps, i => if dvB p k = true then (i : Int) else drvA k ps (i + 1)
def drvI (ps : List Part) (k : Int) : Int := drvA k ps 0
theorem drvA_r (k : Int) : ∀ (ps : List Part) (i : Nat), (drvA k ps i = -1 ∧ ∀ p ∈ ps, dvB p k = false) ∨ ∃ (j : Nat) (p : Part), drvA k ps i = ((i + j : Nat) : Int) ∧ ps[j]? = some p ∧ dvB p k = true
  | [], i => Or.inl ⟨rfl, fun p hp => absurd hp List.not_mem_nil⟩
  | p :: ps, i => by
    unfold drvA
    by_cases c : dvB p k = true
    · rw [if_pos c]
      exact Or.inr ⟨0, p, rfl, rfl, c⟩
    · rw [if_neg c]
      rcases drvA_r k ps (i + 1) with ⟨h1, h2⟩ | ⟨j, q, h1, h2, h3⟩
      · refine Or.inl ⟨h1, fun q hq => ?_⟩
        rcases List.mem_cons.mp hq with e | e
        · rw [e]
          exact Bool.eq_false_iff.mpr c
        · exact h2 q e
      · exact Or.inr ⟨j + 1, q, by rw [h1]; congr 1; omega, h2, h3⟩
theorem drvI_r (ps : List Part) (k : Int) : (drvI ps k = -1 ∧ ∀ p ∈ ps, dvB p k = false) ∨ ∃ (j : Nat) (p : Part), drvI ps k = (j : Nat) ∧ ps[j]? = some p ∧ dvB p k = true := by
  rcases drvA_r k ps 0 with h | ⟨j, p, h1, h2⟩
  · exact Or.inl h
  · exact Or.inr ⟨j, p, by unfold drvI; rw [h1]; congr 1; omega, h2⟩
set_option maxHeartbeats 4000000 in
set_option maxRecDepth 100000 in
theorem sL_driver_0 {X : Xt} {n : Nat} {h : HP} {x0 : Int} {a1 : Nat} {a2 : Nat} (hc : Cx X cL_driver RL 4 1 21) {K : KT} (hr : CxR X (some .int) K) 
    (P : Ok X 0 0 2 [(0, .int (i3 x0)), (1, .ref a1), (2, .ref a2), (3, .int (i3 0))] [] n h) :
    Ok X 0 0 0 [(0, .int (i3 x0)), (1, .ref a1), (2, .ref a2)] [] n h := by
  refine ok_iconst (pc := 0) hc (v := i3 0) dL_driver_0 (by decide) ?_
  refine ok_istore_n (pc := 1) hc (lv' := [(3, .int (i3 0)), (0, .int (i3 x0)), (1, .ref a1), (2, .ref a2)]) dL_driver_1 rfl (by decide) rfl ?_
  refine ok_lv [1, 2, 3, 0] rfl ?_
  exact P

set_option maxHeartbeats 4000000 in
set_option maxRecDepth 100000 in
theorem sL_driver_2 {X : Xt} {n : Nat} {h : HP} {x0 : Int} {a1 : Nat} {a2 : Nat} {x3 : Int} {f1 : Nat → Int} {f4 : Nat → Int} (hc : Cx X cL_driver RL 4 1 21) {K : KT} (hr : CxR X (some .int) K) (e1 : At h n a1 (ai 4 f1)) (e4 : At h n a2 (ai 48 f4))
    (P : (Ix 0 4) ∧ (R3 x3) ∧ (R3 (f1 (0 : Int).toNat)) ∧ ((f1 (0 : Int).toNat) ≤ x3 → K (.inl (some (.int (i3 (-1))))) n h) ∧ (¬ (f1 (0 : Int).toNat) ≤ x3 → (Ix (4 * x3) 48) ∧ (R3 (f4 (4 * x3 : Int).toNat)) ∧ (¬ (f4 (4 * x3 : Int).toNat) = 1 → (Ix (4 * x3) 48) ∧ (R3 (f4 (4 * x3 : Int).toNat)) ∧ (¬ (f4 (4 * x3 : Int).toNat) = 2 → Ok X 0 0 2 [(0, .int (i3 x0)), (1, .ref a1), (2, .ref a2), (3, .int (i3 (x3 + 1)))] [] n h) ∧ ((f4 (4 * x3 : Int).toNat) = 2 → (Ix ((4 * x3) + 3) 48) ∧ (R3 (f4 (((4 * x3) + 3) : Int).toNat)) ∧ (R3 x0) ∧ (¬ (f4 (((4 * x3) + 3) : Int).toNat) = x0 → Ok X 0 0 2 [(0, .int (i3 x0)), (1, .ref a1), (2, .ref a2), (3, .int (i3 (x3 + 1)))] [] n h) ∧ ((f4 (((4 * x3) + 3) : Int).toNat) = x0 → K (.inl (some (.int (i3 x3)))) n h))) ∧ ((f4 (4 * x3 : Int).toNat) = 1 → (Ix ((4 * x3) + 1) 48) ∧ (R3 (f4 (((4 * x3) + 1) : Int).toNat)) ∧ (R3 x0) ∧ ((f4 (((4 * x3) + 1) : Int).toNat) = x0 → K (.inl (some (.int (i3 x3)))) n h) ∧ (¬ (f4 (((4 * x3) + 1) : Int).toNat) = x0 → (Ix (4 * x3) 48) ∧ (R3 (f4 (4 * x3 : Int).toNat)) ∧ (¬ (f4 (4 * x3 : Int).toNat) = 2 → Ok X 0 0 2 [(0, .int (i3 x0)), (1, .ref a1), (2, .ref a2), (3, .int (i3 (x3 + 1)))] [] n h) ∧ ((f4 (4 * x3 : Int).toNat) = 2 → (Ix ((4 * x3) + 3) 48) ∧ (R3 (f4 (((4 * x3) + 3) : Int).toNat)) ∧ (R3 x0) ∧ (¬ (f4 (((4 * x3) + 3) : Int).toNat) = x0 → Ok X 0 0 2 [(0, .int (i3 x0)), (1, .ref a1), (2, .ref a2), (3, .int (i3 (x3 + 1)))] [] n h) ∧ ((f4 (((4 * x3) + 3) : Int).toNat) = x0 → K (.inl (some (.int (i3 x3)))) n h)))))) :
    Ok X 0 0 2 [(0, .int (i3 x0)), (1, .ref a1), (2, .ref a2), (3, .int (i3 x3))] [] n h := by
  refine ok_iload_n (pc := 2) hc dL_driver_2 rfl 3 rfl ?_
  refine ok_aload_n (pc := 3) hc dL_driver_3 rfl 1 rfl ?_
  refine ok_iconst (pc := 4) hc (v := i3 0) dL_driver_4 (by decide) ?_
  obtain ⟨r, P⟩ := P
  refine zk_iald (pc := 5) hc dL_driver_5 e1.1 e1.2 r ?_
  obtain ⟨r2, P⟩ := P
  obtain ⟨r3, P⟩ := P
  refine zk_icmp_ge (pc := 6) (tgt := 57) hc dL_driver_6 (by decide) r2 r3 (fun c => ?_) (fun c => ?_)
  · have P := P.1 c
    refine ok_iconst (pc := 57) hc (v := i3 (-1)) dL_driver_57 (by decide) ?_
    exact ok_iret (st := []) (pc := 58) hc hr dL_driver_58 P
  · have P := P.2 c
    refine ok_iload_n (pc := 9) hc dL_driver_9 rfl 3 rfl ?_
    refine ok_aload_n (pc := 10) hc dL_driver_10 rfl 2 rfl ?_
    obtain ⟨r0, P⟩ := P
    refine ok_callS (pc := 11) (cb := 0) (sb := 0) (st := []) hc [.int (i3 x3), .ref a2] cs_L_8 sp_L_kind (by decide) dL_driver_11 rfl rfl rfl rfl (Nat.le_of_ble_eq_true rfl) (⟨_, _, _, _, rfl, ⟨e4.1, e4.2⟩, r0, rfl, ?_⟩)
    show Ok X 0 0 (11 + 3) [(0, .int (i3 x0)), (1, .ref a1), (2, .ref a2), (3, .int (i3 x3))] [.int (i3 (f4 (4 * x3 : Int).toNat))] n h
    refine ok_iconst (pc := 14) hc (v := i3 1) dL_driver_14 (by decide) ?_
    obtain ⟨r5, P⟩ := P
    refine zk_icmp_ne (pc := 15) (tgt := 29) hc dL_driver_15 (by decide) r5 ⟨by decide, by decide⟩ (fun c => ?_) (fun c => ?_)
    · have P := P.1 c
      refine ok_iload_n (pc := 29) hc dL_driver_29 rfl 3 rfl ?_
      refine ok_aload_n (pc := 30) hc dL_driver_30 rfl 2 rfl ?_
      obtain ⟨r0, P⟩ := P
      refine ok_callS (pc := 31) (cb := 0) (sb := 0) (st := []) hc [.int (i3 x3), .ref a2] cs_L_8 sp_L_kind (by decide) dL_driver_31 rfl rfl rfl rfl (Nat.le_of_ble_eq_true rfl) (⟨_, _, _, _, rfl, ⟨e4.1, e4.2⟩, r0, rfl, ?_⟩)
      show Ok X 0 0 (31 + 3) [(0, .int (i3 x0)), (1, .ref a1), (2, .ref a2), (3, .int (i3 x3))] [.int (i3 (f4 (4 * x3 : Int).toNat))] n h
      refine ok_iconst (pc := 34) hc (v := i3 2) dL_driver_34 (by decide) ?_
      obtain ⟨r6, P⟩ := P
      refine zk_icmp_ne (pc := 35) (tgt := 51) hc dL_driver_35 (by decide) r6 ⟨by decide, by decide⟩ (fun c => ?_) (fun c => ?_)
      · have P := P.1 c
        refine zk_iinc (pc := 51) hc (q := 3) (x := x3) (lv' := [(3, .int (i3 (x3 + 1))), (0, .int (i3 x0)), (1, .ref a1), (2, .ref a2)]) dL_driver_51 rfl (by decide) rfl ?_
        refine ok_goto (pc := 54) (tgt := 2) hc dL_driver_54 (by decide) ?_
        refine ok_lv [1, 2, 3, 0] rfl ?_
        exact P
      · have P := P.2 c
        refine ok_aload_n (pc := 38) hc dL_driver_38 rfl 2 rfl ?_
        refine ok_iconst (pc := 39) hc (v := i3 4) dL_driver_39 (by decide) ?_
        refine ok_iload_n (pc := 40) hc dL_driver_40 rfl 3 rfl ?_
        refine zk_imul (pc := 41) hc dL_driver_41 ?_
        refine ok_iconst (pc := 42) hc (v := i3 3) dL_driver_42 (by decide) ?_
        refine zk_iadd (pc := 43) hc dL_driver_43 ?_
        obtain ⟨r, P⟩ := P
        refine zk_iald (pc := 44) hc dL_driver_44 e4.1 e4.2 r ?_
        refine ok_iload_n (pc := 45) hc dL_driver_45 rfl 0 rfl ?_
        obtain ⟨r7, P⟩ := P
        obtain ⟨r8, P⟩ := P
        refine zk_icmp_ne (pc := 46) (tgt := 51) hc dL_driver_46 (by decide) r7 r8 (fun c => ?_) (fun c => ?_)
        · have P := P.1 c
          refine zk_iinc (pc := 51) hc (q := 3) (x := x3) (lv' := [(3, .int (i3 (x3 + 1))), (0, .int (i3 x0)), (1, .ref a1), (2, .ref a2)]) dL_driver_51 rfl (by decide) rfl ?_
          refine ok_goto (pc := 54) (tgt := 2) hc dL_driver_54 (by decide) ?_
          refine ok_lv [1, 2, 3, 0] rfl ?_
          exact P
        · have P := P.2 c
          refine ok_iload_n (pc := 49) hc dL_driver_49 rfl 3 rfl ?_
          exact ok_iret (st := []) (pc := 50) hc hr dL_driver_50 P
    · have P := P.2 c
      refine ok_aload_n (pc := 18) hc dL_driver_18 rfl 2 rfl ?_
      refine ok_iconst (pc := 19) hc (v := i3 4) dL_driver_19 (by decide) ?_
      refine ok_iload_n (pc := 20) hc dL_driver_20 rfl 3 rfl ?_
      refine zk_imul (pc := 21) hc dL_driver_21 ?_
      refine ok_iconst (pc := 22) hc (v := i3 1) dL_driver_22 (by decide) ?_
      refine zk_iadd (pc := 23) hc dL_driver_23 ?_
      obtain ⟨r, P⟩ := P
      refine zk_iald (pc := 24) hc dL_driver_24 e4.1 e4.2 r ?_
      refine ok_iload_n (pc := 25) hc dL_driver_25 rfl 0 rfl ?_
      obtain ⟨r9, P⟩ := P
      obtain ⟨r10, P⟩ := P
      refine zk_icmp_eq (pc := 26) (tgt := 49) hc dL_driver_26 (by decide) r9 r10 (fun c => ?_) (fun c => ?_)
      · have P := P.1 c
        refine ok_iload_n (pc := 49) hc dL_driver_49 rfl 3 rfl ?_
        exact ok_iret (st := []) (pc := 50) hc hr dL_driver_50 P
      · have P := P.2 c
        refine ok_iload_n (pc := 29) hc dL_driver_29 rfl 3 rfl ?_
        refine ok_aload_n (pc := 30) hc dL_driver_30 rfl 2 rfl ?_
        obtain ⟨r0, P⟩ := P
        refine ok_callS (pc := 31) (cb := 0) (sb := 0) (st := []) hc [.int (i3 x3), .ref a2] cs_L_8 sp_L_kind (by decide) dL_driver_31 rfl rfl rfl rfl (Nat.le_of_ble_eq_true rfl) (⟨_, _, _, _, rfl, ⟨e4.1, e4.2⟩, r0, rfl, ?_⟩)
        show Ok X 0 0 (31 + 3) [(0, .int (i3 x0)), (1, .ref a1), (2, .ref a2), (3, .int (i3 x3))] [.int (i3 (f4 (4 * x3 : Int).toNat))] n h
        refine ok_iconst (pc := 34) hc (v := i3 2) dL_driver_34 (by decide) ?_
        obtain ⟨r11, P⟩ := P
        refine zk_icmp_ne (pc := 35) (tgt := 51) hc dL_driver_35 (by decide) r11 ⟨by decide, by decide⟩ (fun c => ?_) (fun c => ?_)
        · have P := P.1 c
          refine zk_iinc (pc := 51) hc (q := 3) (x := x3) (lv' := [(3, .int (i3 (x3 + 1))), (0, .int (i3 x0)), (1, .ref a1), (2, .ref a2)]) dL_driver_51 rfl (by decide) rfl ?_
          refine ok_goto (pc := 54) (tgt := 2) hc dL_driver_54 (by decide) ?_
          refine ok_lv [1, 2, 3, 0] rfl ?_
          exact P
        · have P := P.2 c
          refine ok_aload_n (pc := 38) hc dL_driver_38 rfl 2 rfl ?_
          refine ok_iconst (pc := 39) hc (v := i3 4) dL_driver_39 (by decide) ?_
          refine ok_iload_n (pc := 40) hc dL_driver_40 rfl 3 rfl ?_
          refine zk_imul (pc := 41) hc dL_driver_41 ?_
          refine ok_iconst (pc := 42) hc (v := i3 3) dL_driver_42 (by decide) ?_
          refine zk_iadd (pc := 43) hc dL_driver_43 ?_
          obtain ⟨r, P⟩ := P
          refine zk_iald (pc := 44) hc dL_driver_44 e4.1 e4.2 r ?_
          refine ok_iload_n (pc := 45) hc dL_driver_45 rfl 0 rfl ?_
          obtain ⟨r12, P⟩ := P
          obtain ⟨r13, P⟩ := P
          refine zk_icmp_ne (pc := 46) (tgt := 51) hc dL_driver_46 (by decide) r12 r13 (fun c => ?_) (fun c => ?_)
          · have P := P.1 c
            refine zk_iinc (pc := 51) hc (q := 3) (x := x3) (lv' := [(3, .int (i3 (x3 + 1))), (0, .int (i3 x0)), (1, .ref a1), (2, .ref a2)]) dL_driver_51 rfl (by decide) rfl ?_
            refine ok_goto (pc := 54) (tgt := 2) hc dL_driver_54 (by decide) ?_
            refine ok_lv [1, 2, 3, 0] rfl ?_
            exact P
          · have P := P.2 c
            refine ok_iload_n (pc := 49) hc dL_driver_49 rfl 3 rfl ?_
            exact ok_iret (st := []) (pc := 50) hc hr dL_driver_50 P

def spec_L_driver (args : List Value) (n : Nat) (h : HP) (K : KT) : Prop := ∃ (d a : Nat) (Fd F : Nat → Int) (ps : List Part) (k : Int), args = [.int (i3 k), .ref d, .ref a] ∧ At h n d (ai 4 Fd) ∧ At h n a (ai 48 F) ∧ Fd 0 = ps.length ∧ PaF F ps ∧ R3 k ∧ K (.inl (some (.int (i3 (drvI ps k))))) n h
theorem dvB_1 {p : Part} {k : Int} (h : p.1 = 1) : dvB p k = true ↔ p.2.1 = k := by
  unfold dvB
  rw [drv_src h, decide_eq_true (show p.1 ≠ 0 by omega), Bool.true_and, decide_eq_true_eq]
theorem dvB_2 {p : Part} {k : Int} (h : p.1 = 2) : dvB p k = true ↔ p.2.2.2 = k := by
  unfold dvB
  rw [drv_amp h, decide_eq_true (show p.1 ≠ 0 by omega), Bool.true_and, decide_eq_true_eq]
theorem dvB_0 {p : Part} {k : Int} (h : PW p) (h1 : ¬ p.1 = 1) (h2 : ¬ p.1 = 2) : dvB p k = false := by
  unfold PW at h
  unfold dvB
  rw [decide_eq_false (show ¬ p.1 ≠ 0 by omega), Bool.false_and]
theorem sp_L_driver : Sp yL_driver cL_driver 4 (some .int) 1 21 0 0 spec_L_driver := by
  refine sp_intro (by decide) (by rintro args n h K ⟨d, a, Fd, F, ps, k, rfl, -⟩; exact Nat.le_of_ble_eq_true rfl) ?_
  rintro X args n h K hc hr ⟨d, a, Fd, F, ps, k, rfl, ed, e, hd, hP, hk, kk⟩
  have hl := hP.1
  have rr := hP.2.2.2
  have hd' : Fd (0 : Int).toNat = ps.length := hd
  have L : ∀ (j i : Nat), i + j = ps.length → drvA k (ps.drop i) i = drvI ps k → Ok X 0 0 2 [(0, .int (i3 k)), (1, .ref d), (2, .ref a), (3, .int (i3 i))] [] n h := by
    intro j
    induction j with
    | zero =>
      intro i hi hn
      have : i = ps.length := by omega
      subst this
      rw [List.drop_length] at hn
      rw [← hn] at kk
      exact sL_driver_2 hc hr ed e ⟨⟨by decide, by decide, by decide⟩, R3_s (by omega), R3_s (by omega), fun _ => kk, fun c => absurd (by omega) c⟩
    | succ j ih =>
      intro i hi hn
      have hlt : i < ps.length := by omega
      have hp : ps[i]? = some ps[i] := List.getElem?_eq_getElem hlt
      rw [List.drop_eq_getElem_cons hlt] at hn
      generalize ps[i] = p at hp hn
      obtain ⟨g0, g1, g2, g3, hi', hl', hw⟩ := hP.g hp
      unfold drvA at hn
      have yes : dvB p k = true → K (.inl (some (.int (i3 i)))) n h := fun z => by
        rw [if_pos z] at hn
        rw [← hn] at kk
        exact kk
      have no : ¬ dvB p k = true → Ok X 0 0 2 [(0, .int (i3 k)), (1, .ref d), (2, .ref a), (3, .int (i3 ((i : Int) + 1)))] [] n h := fun z => by
        rw [if_neg z] at hn
        exact ih (i + 1) (by omega) hn
      have x0 : Ix (4 * (i : Int)) 48 := ⟨by omega, by omega, by omega⟩
      have x1 : Ix (4 * (i : Int) + 1) 48 := ⟨by omega, by omega, by omega⟩
      have x3 : Ix (4 * (i : Int) + 3) 48 := ⟨by omega, by omega, by omega⟩
      refine sL_driver_2 hc hr ed e ⟨⟨by decide, by decide, by decide⟩, R3_s (by omega), R3_s (by omega), fun c => absurd c (by omega), fun _ => ⟨x0, rr _, fun c => ⟨x0, rr _, fun c2 => no ?_, fun c2 => ⟨x3, rr _, hk, fun c3 => no ?_, fun c3 => yes ?_⟩⟩, fun c => ⟨x1, rr _, hk, fun c2 => yes ?_, fun c2 => ⟨x0, rr _, fun c3 => no ?_, fun c3 => ?_⟩⟩⟩⟩
      · rw [g0] at c c2
        rw [dvB_0 hw c c2]
        decide
      · rw [g0] at c2
        rw [g3] at c3
        rw [dvB_2 c2]
        exact c3
      · rw [g0] at c2
        rw [g3] at c3
        exact (dvB_2 c2).mpr c3
      · rw [g0] at c
        rw [g1] at c2
        exact (dvB_1 c).mpr c2
      · rw [g0] at c
        rw [g1] at c2
        rw [dvB_1 c]
        exact c2
      · rw [g0] at c c3
        omega
  exact sL_driver_0 hc hr (L ps.length 0 (by omega) rfl)
set_option maxHeartbeats 4000000 in
set_option maxRecDepth 100000 in
theorem sL_place_0 {X : Xt} {n : Nat} {h : HP} {x0 : Int} {a1 : Nat} {a2 : Nat} (hc : Cx X cL_place RL 4 2 44) {K : KT} (hr : CxR X (some .int) K) 
    (P : Ok X 0 0 2 [(0, .int (i3 x0)), (1, .ref a1), (2, .ref a2), (3, .int (i3 0))] [] n h) :
    Ok X 0 0 0 [(0, .int (i3 x0)), (1, .ref a1), (2, .ref a2)] [] n h := by
  refine ok_iconst (pc := 0) hc (v := i3 0) dL_place_0 (by decide) ?_
  refine ok_istore_n (pc := 1) hc (lv' := [(3, .int (i3 0)), (0, .int (i3 x0)), (1, .ref a1), (2, .ref a2)]) dL_place_1 rfl (by decide) rfl ?_
  refine ok_lv [1, 2, 3, 0] rfl ?_
  exact P

set_option maxHeartbeats 4000000 in
set_option maxRecDepth 100000 in
theorem sL_place_2 {X : Xt} {n : Nat} {h : HP} {x0 : Int} {a1 : Nat} {a2 : Nat} {x3 : Int} {f1 : Nat → Int} {f4 : Nat → Int} {ps6 : List Part} (hc : Cx X cL_place RL 4 2 44) {K : KT} (hr : CxR X (some .int) K) (e1 : At h n a1 (ai 4 f1)) (e4 : At h n a2 (ai 48 f4)) (hP6 : PaF f4 ps6)
    (P : (Ix 0 4) ∧ (R3 x3) ∧ (R3 (f1 (0 : Int).toNat)) ∧ ((f1 (0 : Int).toNat) ≤ x3 → K (.inl (some (.int (i3 (-1))))) n h) ∧ (¬ (f1 (0 : Int).toNat) ≤ x3 → (Ix (4 * x3) 48) ∧ (R3 (f4 (4 * x3 : Int).toNat)) ∧ (¬ (f4 (4 * x3 : Int).toNat) = 2 → Ok X 0 0 2 [(0, .int (i3 x0)), (1, .ref a1), (2, .ref a2), (3, .int (i3 (x3 + 1)))] [] n h) ∧ ((f4 (4 * x3 : Int).toNat) = 2 → (0 ≤ x3 ∧ x3 ≤ ps6.length) ∧ (R3 (nA (ps6.take (x3 : Int).toNat) : Int)) ∧ (R3 x0) ∧ (¬ (nA (ps6.take (x3 : Int).toNat) : Int) = x0 → Ok X 0 0 2 [(0, .int (i3 x0)), (1, .ref a1), (2, .ref a2), (3, .int (i3 (x3 + 1)))] [] n h) ∧ ((nA (ps6.take (x3 : Int).toNat) : Int) = x0 → K (.inl (some (.int (i3 x3)))) n h)))) :
    Ok X 0 0 2 [(0, .int (i3 x0)), (1, .ref a1), (2, .ref a2), (3, .int (i3 x3))] [] n h := by
  refine ok_iload_n (pc := 2) hc dL_place_2 rfl 3 rfl ?_
  refine ok_aload_n (pc := 3) hc dL_place_3 rfl 1 rfl ?_
  refine ok_iconst (pc := 4) hc (v := i3 0) dL_place_4 (by decide) ?_
  obtain ⟨r, P⟩ := P
  refine zk_iald (pc := 5) hc dL_place_5 e1.1 e1.2 r ?_
  obtain ⟨r2, P⟩ := P
  obtain ⟨r3, P⟩ := P
  refine zk_icmp_ge (pc := 6) (tgt := 35) hc dL_place_6 (by decide) r2 r3 (fun c => ?_) (fun c => ?_)
  · have P := P.1 c
    refine ok_iconst (pc := 35) hc (v := i3 (-1)) dL_place_35 (by decide) ?_
    exact ok_iret (st := []) (pc := 36) hc hr dL_place_36 P
  · have P := P.2 c
    refine ok_iload_n (pc := 9) hc dL_place_9 rfl 3 rfl ?_
    refine ok_aload_n (pc := 10) hc dL_place_10 rfl 2 rfl ?_
    obtain ⟨r0, P⟩ := P
    refine ok_callS (pc := 11) (cb := 0) (sb := 0) (st := []) hc [.int (i3 x3), .ref a2] cs_L_8 sp_L_kind (by decide) dL_place_11 rfl rfl rfl rfl (Nat.le_of_ble_eq_true rfl) (⟨_, _, _, _, rfl, ⟨e4.1, e4.2⟩, r0, rfl, ?_⟩)
    show Ok X 0 0 (11 + 3) [(0, .int (i3 x0)), (1, .ref a1), (2, .ref a2), (3, .int (i3 x3))] [.int (i3 (f4 (4 * x3 : Int).toNat))] n h
    refine ok_iconst (pc := 14) hc (v := i3 2) dL_place_14 (by decide) ?_
    obtain ⟨r5, P⟩ := P
    refine zk_icmp_ne (pc := 15) (tgt := 29) hc dL_place_15 (by decide) r5 ⟨by decide, by decide⟩ (fun c => ?_) (fun c => ?_)
    · have P := P.1 c
      refine zk_iinc (pc := 29) hc (q := 3) (x := x3) (lv' := [(3, .int (i3 (x3 + 1))), (0, .int (i3 x0)), (1, .ref a1), (2, .ref a2)]) dL_place_29 rfl (by decide) rfl ?_
      refine ok_goto (pc := 32) (tgt := 2) hc dL_place_32 (by decide) ?_
      refine ok_lv [1, 2, 3, 0] rfl ?_
      exact P
    · have P := P.2 c
      refine ok_iload_n (pc := 18) hc dL_place_18 rfl 3 rfl ?_
      refine ok_aload_n (pc := 19) hc dL_place_19 rfl 2 rfl ?_
      obtain ⟨r0, P⟩ := P
      refine ok_callS (pc := 20) (cb := 0) (sb := 0) (st := []) hc [.int (i3 x3), .ref a2] cs_L_18 sp_L_amplifiers (by decide) dL_place_20 rfl rfl rfl rfl (Nat.le_of_ble_eq_true rfl) (⟨(x3 : Int).toNat, _, _, _, (by rw [Int.toNat_of_nonneg r0.1]), ⟨e4.1, e4.2⟩, hP6, (by omega), rfl, ?_⟩)
      show Ok X 0 0 (20 + 3) [(0, .int (i3 x0)), (1, .ref a1), (2, .ref a2), (3, .int (i3 x3))] [.int (i3 (nA (ps6.take (x3 : Int).toNat) : Int))] n h
      refine ok_iload_n (pc := 23) hc dL_place_23 rfl 0 rfl ?_
      obtain ⟨r7, P⟩ := P
      obtain ⟨r8, P⟩ := P
      refine zk_icmp_ne (pc := 24) (tgt := 29) hc dL_place_24 (by decide) r7 r8 (fun c => ?_) (fun c => ?_)
      · have P := P.1 c
        refine zk_iinc (pc := 29) hc (q := 3) (x := x3) (lv' := [(3, .int (i3 (x3 + 1))), (0, .int (i3 x0)), (1, .ref a1), (2, .ref a2)]) dL_place_29 rfl (by decide) rfl ?_
        refine ok_goto (pc := 32) (tgt := 2) hc dL_place_32 (by decide) ?_
        refine ok_lv [1, 2, 3, 0] rfl ?_
        exact P
      · have P := P.2 c
        refine ok_iload_n (pc := 27) hc dL_place_27 rfl 3 rfl ?_
        exact ok_iret (st := []) (pc := 28) hc hr dL_place_28 P

def spec_L_place (args : List Value) (n : Nat) (h : HP) (K : KT) : Prop := ∃ (d a : Nat) (Fd F : Nat → Int) (ps : List Part) (k : Int), args = [.int (i3 k), .ref d, .ref a] ∧ At h n d (ai 4 Fd) ∧ At h n a (ai 48 F) ∧ Fd 0 = ps.length ∧ PaF F ps ∧ (0 ≤ k ∧ k < nA ps) ∧ K (.inl (some (.int (i3 (pOf ps k))))) n h
theorem sp_L_place : Sp yL_place cL_place 4 (some .int) 2 44 0 0 spec_L_place := by
  refine sp_intro (by decide) (by rintro args n h K ⟨d, a, Fd, F, ps, k, rfl, -⟩; exact Nat.le_of_ble_eq_true rfl) ?_
  rintro X args n h K hc hr ⟨d, a, Fd, F, ps, k, rfl, ed, e, hd, hP, hk, kk⟩
  obtain ⟨k, rfl⟩ : ∃ z : Nat, k = z := ⟨k.toNat, by omega⟩
  have hl := hP.1
  have rr := hP.2.2.2
  have hd' : Fd (0 : Int).toNat = ps.length := hd
  obtain ⟨m, p0, hA⟩ := AmpAt.ex (ps := ps) (a := k) (by omega)
  have hm := hA.lt
  have hnl := nA_le ps
  rw [pOf_at hA] at kk
  have L : ∀ (j i : Nat), i + j = m → Ok X 0 0 2 [(0, .int (i3 k)), (1, .ref d), (2, .ref a), (3, .int (i3 i))] [] n h := by
    intro j
    induction j with
    | zero =>
      intro i hi
      have : i = m := by omega
      subst this
      obtain ⟨g0, g1, g2, g3, hi', hl', hw⟩ := hP.g hA.1
      refine sL_place_2 hc hr ed e hP ⟨⟨by decide, by decide, by decide⟩, R3_s (by omega), R3_s (by omega), fun c => absurd c (by omega), fun _ => ⟨⟨by omega, by omega, by omega⟩, rr _, fun c => ?_, fun c => ⟨⟨by omega, by omega⟩, ?_⟩⟩⟩
      · rw [g0] at c
        exact absurd hA.2.1 c
      · rw [show (i : Int).toNat = i by omega, hA.2.2]
        exact ⟨R3_s (by omega), R3_s (by omega), fun z => absurd rfl z, fun _ => kk⟩
    | succ j ih =>
      intro i hi
      have hlt : i < ps.length := by omega
      have hp : ps[i]? = some ps[i] := List.getElem?_eq_getElem hlt
      generalize ps[i] = p at hp
      obtain ⟨g0, g1, g2, g3, hi', hl', hw⟩ := hP.g hp
      have i1 := ih (i + 1) (by omega)
      refine sL_place_2 hc hr ed e hP ⟨⟨by decide, by decide, by decide⟩, R3_s (by omega), R3_s (by omega), fun c => absurd c (by omega), fun _ => ⟨⟨by omega, by omega, by omega⟩, rr _, fun c => i1, fun c => ⟨⟨by omega, by omega⟩, ?_⟩⟩⟩
      rw [g0] at c
      rw [show (i : Int).toNat = i by omega]
      have hle := nA_mono (ps := ps) (i := i + 1) (j := m) (by omega)
      rw [take_s hp, nA_app, nA_one, if_pos c, hA.2.2] at hle
      exact ⟨R3_s (by omega), R3_s (by omega), fun _ => i1, fun z => absurd z (by omega)⟩
  exact sL_place_0 hc hr (L m 0 (by omega))
