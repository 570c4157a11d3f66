/-! part a16: the law's why -/
theorem nR_11 {ps : List Part} (hl : ps.length ≤ 12) {p : Part} (hp : p ∈ ps) (h : p.1 = 1 ∨ p.1 = 2) : nR ps ≤ 11 := by
  have hk := kinds_le (ps := ps)
  rcases h with h | h
  · have : 0 < nS ps := List.countP_pos_iff.mpr ⟨p, hp, decide_eq_true h⟩
    omega
  · have : 0 < nA ps := List.countP_pos_iff.mpr ⟨p, hp, decide_eq_true h⟩
    omega
theorem gAmp_200 {ps : List Part} (hw : ∀ p ∈ ps, PW p) {rail c : Int} (hr : 0 ≤ rail ∧ rail ≤ 200) : ∀ (k j : Nat), lb_b (gAmp ps rail c k j) 200
  | 0, j => by
    show lb_b (gSrc ps j) 200
    rw [gSrc_v hw]
    split
    · exact ⟨by decide, by decide⟩
    · rename_i z
      rcases srcI_r ps j with ⟨h1, _⟩ | ⟨i, p, h1, h2, h3, h4⟩
      · exact absurd h1 z
      · unfold srcV
        rw [h1, pAt_of h2]
        have := (hw p (List.mem_of_getElem? h2)).b
        exact ⟨by omega, by omega⟩
  | k + 1, j => by
    have ih := gAmp_200 hw (c := c) hr k
    unfold gAmp
    cases (amps ps)[k]? with
    | none => exact ih j
    | some p =>
      show lb_b (gStep rail (c / 3 ^ k % 3) (gAmp ps rail c k) p j) 200
      unfold gStep
      split
      · by_cases e : j = p.2.2.2.toNat
        · rw [e, up_self]
          exact ⟨by omega, by omega⟩
        · rw [up_ne e]
          exact ih j
      · split
        · by_cases e : j = p.2.2.2.toNat
          · rw [e, up_self]
            exact ⟨by omega, by omega⟩
          · rw [up_ne e]
            exact ih j
        · exact ih j
theorem gv_case {S : Stt} (hG : GdP S.1) (hr : 0 ≤ S.2.1 ∧ S.2.1 ≤ 200) (c : Int) : GvOk S.1 (givC S c) := by
  have hpw : ∀ p ∈ S.1, PW p := fun p hp => (hG.2.2.1 p hp).1
  refine ⟨fun g hg hz => ?_, fun g _ => gAmp_200 hpw hr _ g⟩
  by_cases h : ∃ (a j : Nat) (p : Part), AmpAt S.1 a j p ∧ p.2.2.2.toNat = g
  · obtain ⟨a, j, p, hA, e⟩ := h
    have ht := told_amp (hG.2.2.1 p (List.mem_of_getElem? hA.1)) hA.2.1
    exact ⟨out_kc hA (by omega), by omega, nR_11 hG.1 (List.mem_of_getElem? hA.1) (Or.inr hA.2.1)⟩
  · have hno : ∀ (a j : Nat) (p : Part), AmpAt S.1 a j p → p.2.2.2.toNat ≠ g := fun a j p hA e => h ⟨a, j, p, hA, e⟩
    have hs : givC S c g = gSrc S.1 g := gAmp_no hno _ (Nat.le_refl _)
    rw [hs, gSrc_v hpw] at hz
    rcases srcI_r S.1 g with ⟨h1, _⟩ | ⟨i, p, h1, h2, h3, h4⟩
    · rw [if_pos h1] at hz
      exact absurd rfl hz
    · have ht := told_src (hG.2.2.1 p (List.mem_of_getElem? h2)) h3
      have hf : frF S.1 g = false := by
        show freeB S.1 g = false
        unfold freeB
        rw [decide_eq_false (show ¬ srcI S.1 g = -1 by omega), Bool.and_false]
      exact ⟨kc_no hf, by omega, nR_11 hG.1 (List.mem_of_getElem? h2) (Or.inl h3)⟩
theorem gv_test {ps : List Part} (hG : GdP ps) {a j : Nat} {p : Part} (hA : AmpAt ps a j p) : GvOk ps (fun g => if g = p.2.2.2.toNat then 1 else 0) := by
  have ht := told_amp (hG.2.2.1 p (List.mem_of_getElem? hA.1)) hA.2.1
  refine ⟨fun g hg hz => ?_, fun g _ => ?_⟩
  · have e : g = p.2.2.2.toNat := by
      refine Classical.byContradiction fun w => hz ?_
      exact if_neg w
    exact ⟨out_kc hA (by omega), by omega, nR_11 hG.1 (List.mem_of_getElem? hA.1) (Or.inr hA.2.1)⟩
  · show lb_b (if g = p.2.2.2.toNat then 1 else 0) 200
    split
    · exact ⟨by decide, by decide⟩
    · exact ⟨by decide, by decide⟩
theorem num_test {ps : List Part} {m o k : Nat} (ho : o < 7) : numer ps m (fun g => if g = o then 1 else 0) k = solN ps m (7 * k + o) := by
  unfold numer
  rw [sumN_la, la_s1 ho (fun j _ q => by
    show solN ps m (7 * k + j) * (if j = o then 1 else 0) = 0
    rw [if_neg q, Int.mul_zero])]
  show solN ps m (7 * k + o) * (if o = o then 1 else 0) = _
  rw [if_pos rfl, Int.mul_one]
theorem out_iff {x d r : Int} (hd : 0 < d) : absZ x ≤ r * d ↔ lowT x d 0 ≤ r * lowT x d 1 ∧ -(r * lowT x d 1) ≤ lowT x d 0 := by
  obtain ⟨g, g0, hx, hD, h1⟩ := low_g (x := x) hd
  generalize lowT x d 0 = x1 at *
  generalize lowT x d 1 = d1 at *
  have e1 : r * d = g * (r * d1) := by
    rw [hD]
    exact Int.mul_left_comm _ _ _
  have q1 : x ≤ r * d ↔ x1 ≤ r * d1 := by
    rw [e1, hx]
    exact ⟨fun z => Int.le_of_mul_le_mul_left z g0, fun z => Int.mul_le_mul_of_nonneg_left z (by omega)⟩
  have q2 : -(r * d) ≤ x ↔ -(r * d1) ≤ x1 := by
    rw [e1, hx, ← Int.mul_neg]
    exact ⟨fun z => Int.le_of_mul_le_mul_left z g0, fun z => Int.mul_le_mul_of_nonneg_left z (by omega)⟩
  have q3 : absZ x ≤ r * d ↔ x ≤ r * d ∧ -(r * d) ≤ x := by
    unfold absZ
    split <;> omega
  rw [q3, q1, q2]
/-- what the law's why says of a case -/
def whyI (S : Stt) (c : Int) : Int := if (jud S c).1 = 0 then 0 else if (jud S c).1 = 1 then 10 else 10 * (jud S c).1 + (jud S c).2
set_option maxHeartbeats 4000000 in
set_option maxRecDepth 100000 in
theorem sL_why_0 {X : Xt} {n : Nat} {h : HP} {x0 : Int} {a1 : Nat} {a2 : Nat} {a3 : Nat} {a4 : Nat} (hc : Cx X cL_why RL 12 4 95) {K : KT} (hr : CxR X (some .int) K) 
    (P : spec_L_equations [.int (i3 x0), .int (i3 (-1)), .ref a1, .ref a2, .ref a3] n h (kc X 0 0 5 [(0, .int (i3 x0)), (1, .ref a1), (2, .ref a2), (3, .ref a3), (4, .ref a4)] [] n)) :
    Ok X 0 0 0 [(0, .int (i3 x0)), (1, .ref a1), (2, .ref a2), (3, .ref a3), (4, .ref a4)] [] n h := by
  refine ok_iload_n (pc := 0) hc dL_why_0 rfl 0 rfl ?_
  refine ok_iconst (pc := 1) hc (v := i3 (-1)) dL_why_1 (by decide) ?_
  refine ok_aload_n (pc := 2) hc dL_why_2 rfl 1 rfl ?_
  refine ok_aload_n (pc := 3) hc dL_why_3 rfl 2 rfl ?_
  refine ok_aload_n (pc := 4) hc dL_why_4 rfl 3 rfl ?_
  exact ok_callS (pc := 5) (cb := 0) (sb := 0) (st := []) hc [.int (i3 x0), .int (i3 (-1)), .ref a1, .ref a2, .ref a3] cs_L_45 sp_L_equations (by decide) dL_why_5 rfl rfl rfl rfl (Nat.le_of_ble_eq_true rfl) P

set_option maxHeartbeats 4000000 in
set_option maxRecDepth 100000 in
theorem sL_why_8 {X : Xt} {n : Nat} {h : HP} {x0 : Int} {a1 : Nat} {a2 : Nat} {a3 : Nat} {a4 : Nat} (hc : Cx X cL_why RL 12 4 95) {K : KT} (hr : CxR X (some .int) K) 
    (P : spec_L_solve [.ref a3] n h (kc X 0 0 9 [(0, .int (i3 x0)), (1, .ref a1), (2, .ref a2), (3, .ref a3), (4, .ref a4)] [] n)) :
    Ok X 0 0 8 [(0, .int (i3 x0)), (1, .ref a1), (2, .ref a2), (3, .ref a3), (4, .ref a4)] [] n h := by
  refine ok_aload_n (pc := 8) hc dL_why_8 rfl 3 rfl ?_
  exact ok_callS (pc := 9) (cb := 0) (sb := 0) (st := []) hc [.ref a3] cs_L_49 sp_L_solve (by decide) dL_why_9 rfl rfl rfl rfl (Nat.le_of_ble_eq_true rfl) P

set_option maxHeartbeats 4000000 in
set_option maxRecDepth 100000 in
theorem sL_why_12 {X : Xt} {n : Nat} {h : HP} {x0 : Int} {a1 : Nat} {a2 : Nat} {a3 : Nat} {a4 : Nat} {t0 : Int} (hc : Cx X cL_why RL 12 4 95) {K : KT} (hr : CxR X (some .int) K) 
    (P : (R3 t0) ∧ (¬ t0 = 0 → Ok X 0 0 21 [(0, .int (i3 x0)), (1, .ref a1), (2, .ref a2), (3, .ref a3), (4, .ref a4), (5, .int (i3 0))] [] n h) ∧ (t0 = 0 → K (.inl (some (.int (i3 10)))) n h)) :
    Ok X 0 0 12 [(0, .int (i3 x0)), (1, .ref a1), (2, .ref a2), (3, .ref a3), (4, .ref a4)] [.int (i3 t0)] n h := by
  obtain ⟨r1, P⟩ := P
  refine zk_if_ne (pc := 12) (tgt := 18) hc dL_why_12 (by decide) r1 (fun c => ?_) (fun c => ?_)
  · have P := P.1 c
    refine ok_iconst (pc := 18) hc (v := i3 0) dL_why_18 (by decide) ?_
    refine ok_istore (pc := 19) hc (lv' := [(5, .int (i3 0)), (0, .int (i3 x0)), (1, .ref a1), (2, .ref a2), (3, .ref a3), (4, .ref a4)]) dL_why_19 (by decide) rfl ?_
    refine ok_lv [1, 2, 3, 4, 5, 0] rfl ?_
    exact P
  · have P := P.2 c
    refine ok_bipush (pc := 15) hc (v := i3 10) dL_why_15 (by decide) ?_
    exact ok_iret (st := []) (pc := 17) hc hr dL_why_17 P

set_option maxHeartbeats 4000000 in
set_option maxRecDepth 100000 in
theorem sL_why_21 {X : Xt} {n : Nat} {h : HP} {x0 : Int} {a1 : Nat} {a2 : Nat} {a3 : Nat} {a4 : Nat} {x5 : Int} {f1 : Nat → Int} {f2 : Nat → Int} {ps3 : List Part} {f7 : Nat → Int} {qs8 : List Part} {m8 : Nat} {γ8 : Nat → Int} (hc : Cx X cL_why RL 12 4 95) {K : KT} (hr : CxR X (some .int) K) (e1 : At h n a1 (ai 4 f1)) (e2 : At h n a2 (ai 48 f2)) (hP3 : PaF f2 ps3) (hD6 : f1 0 = ps3.length) (e7 : At h n a3 (al 56 f7)) (hS8 : Svd qs8 m8 γ8 f7)
    (P : (Ix 0 4) ∧ (0 ≤ (f1 (0 : Int).toNat) ∧ (f1 (0 : Int).toNat) ≤ ps3.length) ∧ (R3 x5) ∧ (R3 (nA (ps3.take ((f1 (0 : Int).toNat) : Int).toNat) : Int)) ∧ ((nA (ps3.take ((f1 (0 : Int).toNat) : Int).toNat) : Int) ≤ x5 → K (.inl (some (.int (i3 0)))) n h) ∧ (¬ (nA (ps3.take ((f1 (0 : Int).toNat) : Int).toNat) : Int) ≤ x5 → (0 ≤ x5 ∧ x5 < nA ps3) ∧ (Ix ((4 * (pOf ps3 x5)) + 1) 48) ∧ (Ix ((4 * (pOf ps3 x5)) + 2) 48) ∧ ((0 ≤ (f2 (((4 * (pOf ps3 x5)) + 1) : Int).toNat) ∧ (f2 (((4 * (pOf ps3 x5)) + 1) : Int).toNat) < 7) ∧ 0 ≤ (f2 (((4 * (pOf ps3 x5)) + 2) : Int).toNat) ∧ (f2 (((4 * (pOf ps3 x5)) + 2) : Int).toNat) < 7) ∧ (Ix ((4 * (pOf ps3 x5)) + 3) 48) ∧ ((0 ≤ (f2 (((4 * (pOf ps3 x5)) + 3) : Int).toNat) ∧ (f2 (((4 * (pOf ps3 x5)) + 3) : Int).toNat) < 7) ∧ (((0) : Int) = 0 ∨ ((0) : Int) = 1)) ∧ (Ix 1 4) ∧ (R3 (f1 (1 : Int).toNat)) ∧ (Ix ((4 * (pOf ps3 x5)) + 3) 48) ∧ ((0 ≤ (f2 (((4 * (pOf ps3 x5)) + 3) : Int).toNat) ∧ (f2 (((4 * (pOf ps3 x5)) + 3) : Int).toNat) < 7) ∧ (((1) : Int) = 0 ∨ ((1) : Int) = 1)) ∧ Ok X 0 0 93 [(0, .int (i3 x0)), (1, .ref a1), (2, .ref a2), (3, .ref a3), (4, .ref a4), (5, .int (i3 x5)), (6, .int (i3 (4 * (pOf ps3 x5)))), (7, .int (i3 (cmpZ (numer qs8 m8 γ8 ((f2 (((4 * (pOf ps3 x5)) + 1) : Int).toNat) : Int).toNat) (numer qs8 m8 γ8 ((f2 (((4 * (pOf ps3 x5)) + 2) : Int).toNat) : Int).toNat)))), (8, .long (i6 (lowT (numer qs8 m8 γ8 ((f2 (((4 * (pOf ps3 x5)) + 3) : Int).toNat) : Int).toNat) (solD qs8 m8) 0))), (10, .long (i6 ((f1 (1 : Int).toNat) * (lowT (numer qs8 m8 γ8 ((f2 (((4 * (pOf ps3 x5)) + 3) : Int).toNat) : Int).toNat) (solD qs8 m8) 1))))] [] n h)) :
    Ok X 0 0 21 [(0, .int (i3 x0)), (1, .ref a1), (2, .ref a2), (3, .ref a3), (4, .ref a4), (5, .int (i3 x5))] [] n h := by
  refine ok_iload (pc := 21) hc dL_why_21 5 rfl ?_
  refine ok_aload_n (pc := 23) hc dL_why_23 rfl 1 rfl ?_
  refine ok_iconst (pc := 24) hc (v := i3 0) dL_why_24 (by decide) ?_
  obtain ⟨r, P⟩ := P
  refine zk_iald (pc := 25) hc dL_why_25 e1.1 e1.2 r ?_
  refine ok_aload_n (pc := 26) hc dL_why_26 rfl 2 rfl ?_
  obtain ⟨r0, P⟩ := P
  refine ok_callS (pc := 27) (cb := 0) (sb := 0) (st := [.int (i3 x5)]) hc [.int (i3 (f1 (0 : Int).toNat)), .ref a2] cs_L_18 sp_L_amplifiers (by decide) dL_why_27 rfl rfl rfl rfl (Nat.le_of_ble_eq_true rfl) (⟨((f1 (0 : Int).toNat) : Int).toNat, _, _, _, (by rw [Int.toNat_of_nonneg r0.1]), ⟨e2.1, e2.2⟩, hP3, (by omega), rfl, ?_⟩)
  show Ok X 0 0 (27 + 3) [(0, .int (i3 x0)), (1, .ref a1), (2, .ref a2), (3, .ref a3), (4, .ref a4), (5, .int (i3 x5))] [.int (i3 (nA (ps3.take ((f1 (0 : Int).toNat) : Int).toNat) : Int)), .int (i3 x5)] n h
  obtain ⟨r4, P⟩ := P
  obtain ⟨r5, P⟩ := P
  refine zk_icmp_ge (pc := 30) (tgt := 220) hc dL_why_30 (by decide) r4 r5 (fun c => ?_) (fun c => ?_)
  · have P := P.1 c
    refine ok_iconst (pc := 220) hc (v := i3 0) dL_why_220 (by decide) ?_
    exact ok_iret (st := []) (pc := 221) hc hr dL_why_221 P
  · have P := P.2 c
    refine ok_iconst (pc := 33) hc (v := i3 4) dL_why_33 (by decide) ?_
    refine ok_iload (pc := 34) hc dL_why_34 5 rfl ?_
    refine ok_aload_n (pc := 36) hc dL_why_36 rfl 1 rfl ?_
    refine ok_aload_n (pc := 37) hc dL_why_37 rfl 2 rfl ?_
    obtain ⟨r0, P⟩ := P
    refine ok_callS (pc := 38) (cb := 0) (sb := 0) (st := [.int (i3 4)]) hc [.int (i3 x5), .ref a1, .ref a2] cs_L_53 sp_L_place (by decide) dL_why_38 rfl rfl rfl rfl (Nat.le_of_ble_eq_true rfl) (⟨_, _, _, _, _, _, rfl, ⟨e1.1, e1.2⟩, ⟨e2.1, e2.2⟩, hD6, hP3, r0, rfl, ?_⟩)
    show Ok X 0 0 (38 + 3) [(0, .int (i3 x0)), (1, .ref a1), (2, .ref a2), (3, .ref a3), (4, .ref a4), (5, .int (i3 x5))] [.int (i3 (pOf ps3 x5)), .int (i3 4)] n h
    refine zk_imul (pc := 41) hc dL_why_41 ?_
    refine ok_istore (pc := 42) hc (lv' := [(6, .int (i3 (4 * (pOf ps3 x5)))), (0, .int (i3 x0)), (1, .ref a1), (2, .ref a2), (3, .ref a3), (4, .ref a4), (5, .int (i3 x5))]) dL_why_42 (by decide) rfl ?_
    refine ok_aload_n (pc := 44) hc dL_why_44 rfl 3 rfl ?_
    refine ok_iload (pc := 45) hc dL_why_45 0 rfl ?_
    refine ok_iconst (pc := 47) hc (v := i3 1) dL_why_47 (by decide) ?_
    refine zk_iadd (pc := 48) hc dL_why_48 ?_
    obtain ⟨r, P⟩ := P
    refine zk_iald (pc := 49) hc dL_why_49 e2.1 e2.2 r ?_
    refine ok_aload_n (pc := 50) hc dL_why_50 rfl 3 rfl ?_
    refine ok_iload (pc := 51) hc dL_why_51 0 rfl ?_
    refine ok_iconst (pc := 53) hc (v := i3 2) dL_why_53 (by decide) ?_
    refine zk_iadd (pc := 54) hc dL_why_54 ?_
    obtain ⟨r, P⟩ := P
    refine zk_iald (pc := 55) hc dL_why_55 e2.1 e2.2 r ?_
    refine ok_aload_n (pc := 56) hc dL_why_56 rfl 4 rfl ?_
    obtain ⟨r0, P⟩ := P
    refine ok_callS (pc := 57) (cb := 0) (sb := 0) (st := []) hc [.int (i3 (f2 (((4 * (pOf ps3 x5)) + 1) : Int).toNat)), .int (i3 (f2 (((4 * (pOf ps3 x5)) + 2) : Int).toNat)), .ref a3] cs_L_56 sp_L_higher (by decide) dL_why_57 rfl rfl rfl rfl (Nat.le_of_ble_eq_true rfl) (⟨_, _, _, _, _, _, _, rfl, ⟨e7.1, e7.2⟩, hS8, r0, rfl, ?_⟩)
    show Ok X 0 0 (57 + 3) [(6, .int (i3 (4 * (pOf ps3 x5)))), (0, .int (i3 x0)), (1, .ref a1), (2, .ref a2), (3, .ref a3), (4, .ref a4), (5, .int (i3 x5))] [.int (i3 (cmpZ (numer qs8 m8 γ8 ((f2 (((4 * (pOf ps3 x5)) + 1) : Int).toNat) : Int).toNat) (numer qs8 m8 γ8 ((f2 (((4 * (pOf ps3 x5)) + 2) : Int).toNat) : Int).toNat)))] n h
    refine ok_istore (pc := 60) hc (lv' := [(7, .int (i3 (cmpZ (numer qs8 m8 γ8 ((f2 (((4 * (pOf ps3 x5)) + 1) : Int).toNat) : Int).toNat) (numer qs8 m8 γ8 ((f2 (((4 * (pOf ps3 x5)) + 2) : Int).toNat) : Int).toNat)))), (6, .int (i3 (4 * (pOf ps3 x5)))), (0, .int (i3 x0)), (1, .ref a1), (2, .ref a2), (3, .ref a3), (4, .ref a4), (5, .int (i3 x5))]) dL_why_60 (by decide) rfl ?_
    refine ok_aload_n (pc := 62) hc dL_why_62 rfl 4 rfl ?_
    refine ok_iload (pc := 63) hc dL_why_63 1 rfl ?_
    refine ok_iconst (pc := 65) hc (v := i3 3) dL_why_65 (by decide) ?_
    refine zk_iadd (pc := 66) hc dL_why_66 ?_
    obtain ⟨r, P⟩ := P
    refine zk_iald (pc := 67) hc dL_why_67 e2.1 e2.2 r ?_
    refine ok_iconst (pc := 68) hc (v := i3 0) dL_why_68 (by decide) ?_
    refine ok_aload_n (pc := 69) hc dL_why_69 rfl 5 rfl ?_
    obtain ⟨r0, P⟩ := P
    refine ok_callS (pc := 70) (cb := 0) (sb := 0) (st := []) hc [.int (i3 (f2 (((4 * (pOf ps3 x5)) + 3) : Int).toNat)), .int (i3 0), .ref a3] cs_L_41 sp_L_part (by decide) dL_why_70 rfl rfl rfl rfl (Nat.le_of_ble_eq_true rfl) (⟨_, _, _, _, _, _, _, rfl, ⟨e7.1, e7.2⟩, hS8, r0.1, r0.2, rfl, ?_⟩)
    show Ok X 0 0 (70 + 3) [(7, .int (i3 (cmpZ (numer qs8 m8 γ8 ((f2 (((4 * (pOf ps3 x5)) + 1) : Int).toNat) : Int).toNat) (numer qs8 m8 γ8 ((f2 (((4 * (pOf ps3 x5)) + 2) : Int).toNat) : Int).toNat)))), (6, .int (i3 (4 * (pOf ps3 x5)))), (0, .int (i3 x0)), (1, .ref a1), (2, .ref a2), (3, .ref a3), (4, .ref a4), (5, .int (i3 x5))] [.long (i6 (lowT (numer qs8 m8 γ8 ((f2 (((4 * (pOf ps3 x5)) + 3) : Int).toNat) : Int).toNat) (solD qs8 m8) 0))] n h
    refine ok_lstore (pc := 73) hc (lv' := [(8, .long (i6 (lowT (numer qs8 m8 γ8 ((f2 (((4 * (pOf ps3 x5)) + 3) : Int).toNat) : Int).toNat) (solD qs8 m8) 0))), (7, .int (i3 (cmpZ (numer qs8 m8 γ8 ((f2 (((4 * (pOf ps3 x5)) + 1) : Int).toNat) : Int).toNat) (numer qs8 m8 γ8 ((f2 (((4 * (pOf ps3 x5)) + 2) : Int).toNat) : Int).toNat)))), (6, .int (i3 (4 * (pOf ps3 x5)))), (0, .int (i3 x0)), (1, .ref a1), (2, .ref a2), (3, .ref a3), (4, .ref a4), (5, .int (i3 x5))]) dL_why_73 (by decide) rfl ?_
    refine ok_aload_n (pc := 75) hc dL_why_75 rfl 4 rfl ?_
    refine ok_iconst (pc := 76) hc (v := i3 1) dL_why_76 (by decide) ?_
    obtain ⟨r, P⟩ := P
    refine zk_iald (pc := 77) hc dL_why_77 e1.1 e1.2 r ?_
    obtain ⟨r9, P⟩ := P
    refine zk_i2l (pc := 78) hc dL_why_78 r9 ?_
    refine ok_aload_n (pc := 79) hc dL_why_79 rfl 5 rfl ?_
    refine ok_iload (pc := 80) hc dL_why_80 2 rfl ?_
    refine ok_iconst (pc := 82) hc (v := i3 3) dL_why_82 (by decide) ?_
    refine zk_iadd (pc := 83) hc dL_why_83 ?_
    obtain ⟨r, P⟩ := P
    refine zk_iald (pc := 84) hc dL_why_84 e2.1 e2.2 r ?_
    refine ok_iconst (pc := 85) hc (v := i3 1) dL_why_85 (by decide) ?_
    refine ok_aload_n (pc := 86) hc dL_why_86 rfl 6 rfl ?_
    obtain ⟨r0, P⟩ := P
    refine ok_callS (pc := 87) (cb := 0) (sb := 0) (st := [.long (i6 (f1 (1 : Int).toNat))]) hc [.int (i3 (f2 (((4 * (pOf ps3 x5)) + 3) : Int).toNat)), .int (i3 1), .ref a3] cs_L_41 sp_L_part (by decide) dL_why_87 rfl rfl rfl rfl (Nat.le_of_ble_eq_true rfl) (⟨_, _, _, _, _, _, _, rfl, ⟨e7.1, e7.2⟩, hS8, r0.1, r0.2, rfl, ?_⟩)
    show Ok X 0 0 (87 + 3) [(8, .long (i6 (lowT (numer qs8 m8 γ8 ((f2 (((4 * (pOf ps3 x5)) + 3) : Int).toNat) : Int).toNat) (solD qs8 m8) 0))), (7, .int (i3 (cmpZ (numer qs8 m8 γ8 ((f2 (((4 * (pOf ps3 x5)) + 1) : Int).toNat) : Int).toNat) (numer qs8 m8 γ8 ((f2 (((4 * (pOf ps3 x5)) + 2) : Int).toNat) : Int).toNat)))), (6, .int (i3 (4 * (pOf ps3 x5)))), (0, .int (i3 x0)), (1, .ref a1), (2, .ref a2), (3, .ref a3), (4, .ref a4), (5, .int (i3 x5))] [.long (i6 (lowT (numer qs8 m8 γ8 ((f2 (((4 * (pOf ps3 x5)) + 3) : Int).toNat) : Int).toNat) (solD qs8 m8) 1)), .long (i6 (f1 (1 : Int).toNat))] n h
    refine zk_lmul (pc := 90) hc dL_why_90 ?_
    refine ok_lstore (pc := 91) hc (lv' := [(10, .long (i6 ((f1 (1 : Int).toNat) * (lowT (numer qs8 m8 γ8 ((f2 (((4 * (pOf ps3 x5)) + 3) : Int).toNat) : Int).toNat) (solD qs8 m8) 1)))), (8, .long (i6 (lowT (numer qs8 m8 γ8 ((f2 (((4 * (pOf ps3 x5)) + 3) : Int).toNat) : Int).toNat) (solD qs8 m8) 0))), (7, .int (i3 (cmpZ (numer qs8 m8 γ8 ((f2 (((4 * (pOf ps3 x5)) + 1) : Int).toNat) : Int).toNat) (numer qs8 m8 γ8 ((f2 (((4 * (pOf ps3 x5)) + 2) : Int).toNat) : Int).toNat)))), (6, .int (i3 (4 * (pOf ps3 x5)))), (0, .int (i3 x0)), (1, .ref a1), (2, .ref a2), (3, .ref a3), (4, .ref a4), (5, .int (i3 x5))]) dL_why_91 (by decide) rfl ?_
    refine ok_lv [4, 5, 6, 7, 8, 9, 3, 2, 1, 0] rfl ?_
    exact P

set_option maxHeartbeats 4000000 in
set_option maxRecDepth 100000 in
theorem sL_why_93 {X : Xt} {n : Nat} {h : HP} {x0 : Int} {a1 : Nat} {a2 : Nat} {a3 : Nat} {a4 : Nat} {x5 : Int} {x6 : Int} {x7 : Int} {l8 : Int} {l10 : Int} (hc : Cx X cL_why RL 12 4 95) {K : KT} (hr : CxR X (some .int) K) 
    (P : ((0 ≤ x0 ∧ x0 ≤ 2147483647) ∧ 0 ≤ x5 ∧ x5 < 4) ∧ (R3 (x0 / 3 ^ (x5 : Int).toNat % 3)) ∧ (¬ (x0 / 3 ^ (x5 : Int).toNat % 3) = 1 → ((0 ≤ x0 ∧ x0 ≤ 2147483647) ∧ 0 ≤ x5 ∧ x5 < 4) ∧ (R3 (x0 / 3 ^ (x5 : Int).toNat % 3)) ∧ (¬ (x0 / 3 ^ (x5 : Int).toNat % 3) = 2 → ((0 ≤ x0 ∧ x0 ≤ 2147483647) ∧ 0 ≤ x5 ∧ x5 < 4) ∧ (R3 (x0 / 3 ^ (x5 : Int).toNat % 3)) ∧ ((x0 / 3 ^ (x5 : Int).toNat % 3) ≤ 0 → Ok X 0 0 147 [(0, .int (i3 x0)), (1, .ref a1), (2, .ref a2), (3, .ref a3), (4, .ref a4), (5, .int (i3 x5)), (6, .int (i3 x6)), (7, .int (i3 x7)), (8, .long (i6 l8)), (10, .long (i6 l10))] [] n h) ∧ (¬ (x0 / 3 ^ (x5 : Int).toNat % 3) ≤ 0 → Ok X 0 0 21 [(0, .int (i3 x0)), (1, .ref a1), (2, .ref a2), (3, .ref a3), (4, .ref a4), (5, .int (i3 (x5 + 1)))] [] n h)) ∧ ((x0 / 3 ^ (x5 : Int).toNat % 3) = 2 → (R3 x7) ∧ (x7 < 0 → ((0 ≤ x0 ∧ x0 ≤ 2147483647) ∧ 0 ≤ x5 ∧ x5 < 4) ∧ (R3 (x0 / 3 ^ (x5 : Int).toNat % 3)) ∧ ((x0 / 3 ^ (x5 : Int).toNat % 3) ≤ 0 → Ok X 0 0 147 [(0, .int (i3 x0)), (1, .ref a1), (2, .ref a2), (3, .ref a3), (4, .ref a4), (5, .int (i3 x5)), (6, .int (i3 x6)), (7, .int (i3 x7)), (8, .long (i6 l8)), (10, .long (i6 l10))] [] n h) ∧ (¬ (x0 / 3 ^ (x5 : Int).toNat % 3) ≤ 0 → Ok X 0 0 21 [(0, .int (i3 x0)), (1, .ref a1), (2, .ref a2), (3, .ref a3), (4, .ref a4), (5, .int (i3 (x5 + 1)))] [] n h)) ∧ (¬ x7 < 0 → K (.inl (some (.int (i3 (40 + x5))))) n h))) ∧ ((x0 / 3 ^ (x5 : Int).toNat % 3) = 1 → (R3 x7) ∧ (0 < x7 → ((0 ≤ x0 ∧ x0 ≤ 2147483647) ∧ 0 ≤ x5 ∧ x5 < 4) ∧ (R3 (x0 / 3 ^ (x5 : Int).toNat % 3)) ∧ (¬ (x0 / 3 ^ (x5 : Int).toNat % 3) = 2 → ((0 ≤ x0 ∧ x0 ≤ 2147483647) ∧ 0 ≤ x5 ∧ x5 < 4) ∧ (R3 (x0 / 3 ^ (x5 : Int).toNat % 3)) ∧ ((x0 / 3 ^ (x5 : Int).toNat % 3) ≤ 0 → Ok X 0 0 147 [(0, .int (i3 x0)), (1, .ref a1), (2, .ref a2), (3, .ref a3), (4, .ref a4), (5, .int (i3 x5)), (6, .int (i3 x6)), (7, .int (i3 x7)), (8, .long (i6 l8)), (10, .long (i6 l10))] [] n h) ∧ (¬ (x0 / 3 ^ (x5 : Int).toNat % 3) ≤ 0 → Ok X 0 0 21 [(0, .int (i3 x0)), (1, .ref a1), (2, .ref a2), (3, .ref a3), (4, .ref a4), (5, .int (i3 (x5 + 1)))] [] n h)) ∧ ((x0 / 3 ^ (x5 : Int).toNat % 3) = 2 → (R3 x7) ∧ (x7 < 0 → ((0 ≤ x0 ∧ x0 ≤ 2147483647) ∧ 0 ≤ x5 ∧ x5 < 4) ∧ (R3 (x0 / 3 ^ (x5 : Int).toNat % 3)) ∧ ((x0 / 3 ^ (x5 : Int).toNat % 3) ≤ 0 → Ok X 0 0 147 [(0, .int (i3 x0)), (1, .ref a1), (2, .ref a2), (3, .ref a3), (4, .ref a4), (5, .int (i3 x5)), (6, .int (i3 x6)), (7, .int (i3 x7)), (8, .long (i6 l8)), (10, .long (i6 l10))] [] n h) ∧ (¬ (x0 / 3 ^ (x5 : Int).toNat % 3) ≤ 0 → Ok X 0 0 21 [(0, .int (i3 x0)), (1, .ref a1), (2, .ref a2), (3, .ref a3), (4, .ref a4), (5, .int (i3 (x5 + 1)))] [] n h)) ∧ (¬ x7 < 0 → K (.inl (some (.int (i3 (40 + x5))))) n h))) ∧ (¬ 0 < x7 → K (.inl (some (.int (i3 (30 + x5))))) n h))) :
    Ok X 0 0 93 [(0, .int (i3 x0)), (1, .ref a1), (2, .ref a2), (3, .ref a3), (4, .ref a4), (5, .int (i3 x5)), (6, .int (i3 x6)), (7, .int (i3 x7)), (8, .long (i6 l8)), (10, .long (i6 l10))] [] n h := by
  refine ok_iload_n (pc := 93) hc dL_why_93 rfl 0 rfl ?_
  refine ok_iload (pc := 94) hc dL_why_94 5 rfl ?_
  obtain ⟨r0, P⟩ := P
  refine ok_callS (pc := 96) (cb := 0) (sb := 0) (st := []) hc [.int (i3 x0), .int (i3 x5)] cs_L_33 sp_L_state (by decide) dL_why_96 rfl rfl rfl rfl (Nat.le_of_ble_eq_true rfl) (⟨_, _, rfl, r0, rfl, ?_⟩)
  show Ok X 0 0 (96 + 3) [(0, .int (i3 x0)), (1, .ref a1), (2, .ref a2), (3, .ref a3), (4, .ref a4), (5, .int (i3 x5)), (6, .int (i3 x6)), (7, .int (i3 x7)), (8, .long (i6 l8)), (10, .long (i6 l10))] [.int (i3 (x0 / 3 ^ (x5 : Int).toNat % 3))] n h
  refine ok_iconst (pc := 99) hc (v := i3 1) dL_why_99 (by decide) ?_
  obtain ⟨r1, P⟩ := P
  refine zk_icmp_ne (pc := 100) (tgt := 114) hc dL_why_100 (by decide) r1 ⟨by decide, by decide⟩ (fun c => ?_) (fun c => ?_)
  · have P := P.1 c
    refine ok_iload_n (pc := 114) hc dL_why_114 rfl 0 rfl ?_
    refine ok_iload (pc := 115) hc dL_why_115 5 rfl ?_
    obtain ⟨r0, P⟩ := P
    refine ok_callS (pc := 117) (cb := 0) (sb := 0) (st := []) hc [.int (i3 x0), .int (i3 x5)] cs_L_33 sp_L_state (by decide) dL_why_117 rfl rfl rfl rfl (Nat.le_of_ble_eq_true rfl) (⟨_, _, rfl, r0, rfl, ?_⟩)
    show Ok X 0 0 (117 + 3) [(0, .int (i3 x0)), (1, .ref a1), (2, .ref a2), (3, .ref a3), (4, .ref a4), (5, .int (i3 x5)), (6, .int (i3 x6)), (7, .int (i3 x7)), (8, .long (i6 l8)), (10, .long (i6 l10))] [.int (i3 (x0 / 3 ^ (x5 : Int).toNat % 3))] n h
    refine ok_iconst (pc := 120) hc (v := i3 2) dL_why_120 (by decide) ?_
    obtain ⟨r2, P⟩ := P
    refine zk_icmp_ne (pc := 121) (tgt := 135) hc dL_why_121 (by decide) r2 ⟨by decide, by decide⟩ (fun c => ?_) (fun c => ?_)
    · have P := P.1 c
      refine ok_iload_n (pc := 135) hc dL_why_135 rfl 0 rfl ?_
      refine ok_iload (pc := 136) hc dL_why_136 5 rfl ?_
      obtain ⟨r0, P⟩ := P
      refine ok_callS (pc := 138) (cb := 0) (sb := 0) (st := []) hc [.int (i3 x0), .int (i3 x5)] cs_L_33 sp_L_state (by decide) dL_why_138 rfl rfl rfl rfl (Nat.le_of_ble_eq_true rfl) (⟨_, _, rfl, r0, rfl, ?_⟩)
      show Ok X 0 0 (138 + 3) [(0, .int (i3 x0)), (1, .ref a1), (2, .ref a2), (3, .ref a3), (4, .ref a4), (5, .int (i3 x5)), (6, .int (i3 x6)), (7, .int (i3 x7)), (8, .long (i6 l8)), (10, .long (i6 l10))] [.int (i3 (x0 / 3 ^ (x5 : Int).toNat % 3))] n h
      obtain ⟨r3, P⟩ := P
      refine zk_if_le (pc := 141) (tgt := 147) hc dL_why_141 (by decide) r3 (fun c => ?_) (fun c => ?_)
      · have P := P.1 c
        exact P
      · have P := P.2 c
        refine ok_goto (pc := 144) (tgt := 214) hc dL_why_144 (by decide) ?_
        refine zk_iinc (pc := 214) hc (q := 5) (x := x5) (lv' := [(5, .int (i3 (x5 + 1))), (0, .int (i3 x0)), (1, .ref a1), (2, .ref a2), (3, .ref a3), (4, .ref a4), (6, .int (i3 x6)), (7, .int (i3 x7)), (8, .long (i6 l8)), (10, .long (i6 l10))]) dL_why_214 rfl (by decide) rfl ?_
        refine ok_goto (pc := 217) (tgt := 21) hc dL_why_217 (by decide) ?_
        refine ok_lv [1, 2, 3, 4, 5, 0] rfl ?_
        exact P
    · have P := P.2 c
      refine ok_iload (pc := 124) hc dL_why_124 7 rfl ?_
      obtain ⟨r4, P⟩ := P
      refine zk_if_lt (pc := 126) (tgt := 135) hc dL_why_126 (by decide) r4 (fun c => ?_) (fun c => ?_)
      · have P := P.1 c
        refine ok_iload_n (pc := 135) hc dL_why_135 rfl 0 rfl ?_
        refine ok_iload (pc := 136) hc dL_why_136 5 rfl ?_
        obtain ⟨r0, P⟩ := P
        refine ok_callS (pc := 138) (cb := 0) (sb := 0) (st := []) hc [.int (i3 x0), .int (i3 x5)] cs_L_33 sp_L_state (by decide) dL_why_138 rfl rfl rfl rfl (Nat.le_of_ble_eq_true rfl) (⟨_, _, rfl, r0, rfl, ?_⟩)
        show Ok X 0 0 (138 + 3) [(0, .int (i3 x0)), (1, .ref a1), (2, .ref a2), (3, .ref a3), (4, .ref a4), (5, .int (i3 x5)), (6, .int (i3 x6)), (7, .int (i3 x7)), (8, .long (i6 l8)), (10, .long (i6 l10))] [.int (i3 (x0 / 3 ^ (x5 : Int).toNat % 3))] n h
        obtain ⟨r5, P⟩ := P
        refine zk_if_le (pc := 141) (tgt := 147) hc dL_why_141 (by decide) r5 (fun c => ?_) (fun c => ?_)
        · have P := P.1 c
          exact P
        · have P := P.2 c
          refine ok_goto (pc := 144) (tgt := 214) hc dL_why_144 (by decide) ?_
          refine zk_iinc (pc := 214) hc (q := 5) (x := x5) (lv' := [(5, .int (i3 (x5 + 1))), (0, .int (i3 x0)), (1, .ref a1), (2, .ref a2), (3, .ref a3), (4, .ref a4), (6, .int (i3 x6)), (7, .int (i3 x7)), (8, .long (i6 l8)), (10, .long (i6 l10))]) dL_why_214 rfl (by decide) rfl ?_
          refine ok_goto (pc := 217) (tgt := 21) hc dL_why_217 (by decide) ?_
          refine ok_lv [1, 2, 3, 4, 5, 0] rfl ?_
          exact P
      · have P := P.2 c
        refine ok_bipush (pc := 129) hc (v := i3 40) dL_why_129 (by decide) ?_
        refine ok_iload (pc := 131) hc dL_why_131 5 rfl ?_
        refine zk_iadd (pc := 133) hc dL_why_133 ?_
        exact ok_iret (st := []) (pc := 134) hc hr dL_why_134 P
  · have P := P.2 c
    refine ok_iload (pc := 103) hc dL_why_103 7 rfl ?_
    obtain ⟨r6, P⟩ := P
    refine zk_if_gt (pc := 105) (tgt := 114) hc dL_why_105 (by decide) r6 (fun c => ?_) (fun c => ?_)
    · have P := P.1 c
      refine ok_iload_n (pc := 114) hc dL_why_114 rfl 0 rfl ?_
      refine ok_iload (pc := 115) hc dL_why_115 5 rfl ?_
      obtain ⟨r0, P⟩ := P
      refine ok_callS (pc := 117) (cb := 0) (sb := 0) (st := []) hc [.int (i3 x0), .int (i3 x5)] cs_L_33 sp_L_state (by decide) dL_why_117 rfl rfl rfl rfl (Nat.le_of_ble_eq_true rfl) (⟨_, _, rfl, r0, rfl, ?_⟩)
      show Ok X 0 0 (117 + 3) [(0, .int (i3 x0)), (1, .ref a1), (2, .ref a2), (3, .ref a3), (4, .ref a4), (5, .int (i3 x5)), (6, .int (i3 x6)), (7, .int (i3 x7)), (8, .long (i6 l8)), (10, .long (i6 l10))] [.int (i3 (x0 / 3 ^ (x5 : Int).toNat % 3))] n h
      refine ok_iconst (pc := 120) hc (v := i3 2) dL_why_120 (by decide) ?_
      obtain ⟨r7, P⟩ := P
      refine zk_icmp_ne (pc := 121) (tgt := 135) hc dL_why_121 (by decide) r7 ⟨by decide, by decide⟩ (fun c => ?_) (fun c => ?_)
      · have P := P.1 c
        refine ok_iload_n (pc := 135) hc dL_why_135 rfl 0 rfl ?_
        refine ok_iload (pc := 136) hc dL_why_136 5 rfl ?_
        obtain ⟨r0, P⟩ := P
        refine ok_callS (pc := 138) (cb := 0) (sb := 0) (st := []) hc [.int (i3 x0), .int (i3 x5)] cs_L_33 sp_L_state (by decide) dL_why_138 rfl rfl rfl rfl (Nat.le_of_ble_eq_true rfl) (⟨_, _, rfl, r0, rfl, ?_⟩)
        show Ok X 0 0 (138 + 3) [(0, .int (i3 x0)), (1, .ref a1), (2, .ref a2), (3, .ref a3), (4, .ref a4), (5, .int (i3 x5)), (6, .int (i3 x6)), (7, .int (i3 x7)), (8, .long (i6 l8)), (10, .long (i6 l10))] [.int (i3 (x0 / 3 ^ (x5 : Int).toNat % 3))] n h
        obtain ⟨r8, P⟩ := P
        refine zk_if_le (pc := 141) (tgt := 147) hc dL_why_141 (by decide) r8 (fun c => ?_) (fun c => ?_)
        · have P := P.1 c
          exact P
        · have P := P.2 c
          refine ok_goto (pc := 144) (tgt := 214) hc dL_why_144 (by decide) ?_
          refine zk_iinc (pc := 214) hc (q := 5) (x := x5) (lv' := [(5, .int (i3 (x5 + 1))), (0, .int (i3 x0)), (1, .ref a1), (2, .ref a2), (3, .ref a3), (4, .ref a4), (6, .int (i3 x6)), (7, .int (i3 x7)), (8, .long (i6 l8)), (10, .long (i6 l10))]) dL_why_214 rfl (by decide) rfl ?_
          refine ok_goto (pc := 217) (tgt := 21) hc dL_why_217 (by decide) ?_
          refine ok_lv [1, 2, 3, 4, 5, 0] rfl ?_
          exact P
      · have P := P.2 c
        refine ok_iload (pc := 124) hc dL_why_124 7 rfl ?_
        obtain ⟨r9, P⟩ := P
        refine zk_if_lt (pc := 126) (tgt := 135) hc dL_why_126 (by decide) r9 (fun c => ?_) (fun c => ?_)
        · have P := P.1 c
          refine ok_iload_n (pc := 135) hc dL_why_135 rfl 0 rfl ?_
          refine ok_iload (pc := 136) hc dL_why_136 5 rfl ?_
          obtain ⟨r0, P⟩ := P
          refine ok_callS (pc := 138) (cb := 0) (sb := 0) (st := []) hc [.int (i3 x0), .int (i3 x5)] cs_L_33 sp_L_state (by decide) dL_why_138 rfl rfl rfl rfl (Nat.le_of_ble_eq_true rfl) (⟨_, _, rfl, r0, rfl, ?_⟩)
          show Ok X 0 0 (138 + 3) [(0, .int (i3 x0)), (1, .ref a1), (2, .ref a2), (3, .ref a3), (4, .ref a4), (5, .int (i3 x5)), (6, .int (i3 x6)), (7, .int (i3 x7)), (8, .long (i6 l8)), (10, .long (i6 l10))] [.int (i3 (x0 / 3 ^ (x5 : Int).toNat % 3))] n h
          obtain ⟨r10, P⟩ := P
          refine zk_if_le (pc := 141) (tgt := 147) hc dL_why_141 (by decide) r10 (fun c => ?_) (fun c => ?_)
          · have P := P.1 c
            exact P
          · have P := P.2 c
            refine ok_goto (pc := 144) (tgt := 214) hc dL_why_144 (by decide) ?_
            refine zk_iinc (pc := 214) hc (q := 5) (x := x5) (lv' := [(5, .int (i3 (x5 + 1))), (0, .int (i3 x0)), (1, .ref a1), (2, .ref a2), (3, .ref a3), (4, .ref a4), (6, .int (i3 x6)), (7, .int (i3 x7)), (8, .long (i6 l8)), (10, .long (i6 l10))]) dL_why_214 rfl (by decide) rfl ?_
            refine ok_goto (pc := 217) (tgt := 21) hc dL_why_217 (by decide) ?_
            refine ok_lv [1, 2, 3, 4, 5, 0] rfl ?_
            exact P
        · have P := P.2 c
          refine ok_bipush (pc := 129) hc (v := i3 40) dL_why_129 (by decide) ?_
          refine ok_iload (pc := 131) hc dL_why_131 5 rfl ?_
          refine zk_iadd (pc := 133) hc dL_why_133 ?_
          exact ok_iret (st := []) (pc := 134) hc hr dL_why_134 P
    · have P := P.2 c
      refine ok_bipush (pc := 108) hc (v := i3 30) dL_why_108 (by decide) ?_
      refine ok_iload (pc := 110) hc dL_why_110 5 rfl ?_
      refine zk_iadd (pc := 112) hc dL_why_112 ?_
      exact ok_iret (st := []) (pc := 113) hc hr dL_why_113 P

set_option maxHeartbeats 4000000 in
set_option maxRecDepth 100000 in
theorem sL_why_147 {X : Xt} {n : Nat} {h : HP} {x0 : Int} {a1 : Nat} {a2 : Nat} {a3 : Nat} {a4 : Nat} {x5 : Int} {x6 : Int} {x7 : Int} {l8 : Int} {l10 : Int} (hc : Cx X cL_why RL 12 4 95) {K : KT} (hr : CxR X (some .int) K) 
    (P : (R6 l8 ∧ R6 l10) ∧ (l10 < l8 → K (.inl (some (.int (i3 (20 + x5))))) n h) ∧ (¬ l10 < l8 → (R6 l8 ∧ R6 (-l10)) ∧ ((-l10) ≤ l8 → Ok X 0 0 170 [(0, .int (i3 x0)), (1, .ref a1), (2, .ref a2), (3, .ref a3), (4, .ref a4), (5, .int (i3 x5)), (6, .int (i3 x6)), (7, .int (i3 x7)), (8, .long (i6 l8)), (10, .long (i6 l10))] [] n h) ∧ (¬ (-l10) ≤ l8 → K (.inl (some (.int (i3 (20 + x5))))) n h))) :
    Ok X 0 0 147 [(0, .int (i3 x0)), (1, .ref a1), (2, .ref a2), (3, .ref a3), (4, .ref a4), (5, .int (i3 x5)), (6, .int (i3 x6)), (7, .int (i3 x7)), (8, .long (i6 l8)), (10, .long (i6 l10))] [] n h := by
  refine ok_lload (pc := 147) hc dL_why_147 8 rfl ?_
  refine ok_lload (pc := 149) hc dL_why_149 9 rfl ?_
  obtain ⟨r, P⟩ := P
  refine zk_lcmp (pc := 151) hc dL_why_151 r ?_
  refine zk_if_gt (pc := 152) (tgt := 164) hc dL_why_152 (by decide) R3_cmp (fun c => ?_) (fun c => ?_)
  · have P := P.1 (cmp_gt.mp c)
    refine ok_bipush (pc := 164) hc (v := i3 20) dL_why_164 (by decide) ?_
    refine ok_iload (pc := 166) hc dL_why_166 5 rfl ?_
    refine zk_iadd (pc := 168) hc dL_why_168 ?_
    exact ok_iret (st := []) (pc := 169) hc hr dL_why_169 P
  · have P := P.2 (fun z => c (cmp_gt.mpr z))
    refine ok_lload (pc := 155) hc dL_why_155 8 rfl ?_
    refine ok_lload (pc := 157) hc dL_why_157 9 rfl ?_
    refine zk_lneg (pc := 159) hc dL_why_159 ?_
    obtain ⟨r, P⟩ := P
    refine zk_lcmp (pc := 160) hc dL_why_160 r ?_
    refine zk_if_ge (pc := 161) (tgt := 170) hc dL_why_161 (by decide) R3_cmp (fun c => ?_) (fun c => ?_)
    · have P := P.1 (cmp_ge.mp c)
      exact P
    · have P := P.2 (fun z => c (cmp_ge.mpr z))
      refine ok_bipush (pc := 164) hc (v := i3 20) dL_why_164 (by decide) ?_
      refine ok_iload (pc := 166) hc dL_why_166 5 rfl ?_
      refine zk_iadd (pc := 168) hc dL_why_168 ?_
      exact ok_iret (st := []) (pc := 169) hc hr dL_why_169 P

set_option maxHeartbeats 4000000 in
set_option maxRecDepth 100000 in
theorem sL_why_170 {X : Xt} {n : Nat} {h : HP} {x0 : Int} {a1 : Nat} {a2 : Nat} {a3 : Nat} {a4 : Nat} {x5 : Int} {x6 : Int} {x7 : Int} {l8 : Int} {l10 : Int} (hc : Cx X cL_why RL 12 4 95) {K : KT} (hr : CxR X (some .int) K) 
    (P : spec_L_equations [.int (i3 x0), .int (i3 x5), .ref a1, .ref a2, .ref a4] n h (kc X 0 0 177 [(0, .int (i3 x0)), (1, .ref a1), (2, .ref a2), (3, .ref a3), (4, .ref a4), (5, .int (i3 x5)), (6, .int (i3 x6)), (7, .int (i3 x7)), (8, .long (i6 l8)), (10, .long (i6 l10))] [] n)) :
    Ok X 0 0 170 [(0, .int (i3 x0)), (1, .ref a1), (2, .ref a2), (3, .ref a3), (4, .ref a4), (5, .int (i3 x5)), (6, .int (i3 x6)), (7, .int (i3 x7)), (8, .long (i6 l8)), (10, .long (i6 l10))] [] n h := by
  refine ok_iload_n (pc := 170) hc dL_why_170 rfl 0 rfl ?_
  refine ok_iload (pc := 171) hc dL_why_171 5 rfl ?_
  refine ok_aload_n (pc := 173) hc dL_why_173 rfl 1 rfl ?_
  refine ok_aload_n (pc := 174) hc dL_why_174 rfl 2 rfl ?_
  refine ok_aload (pc := 175) hc dL_why_175 4 rfl ?_
  exact ok_callS (pc := 177) (cb := 0) (sb := 0) (st := []) hc [.int (i3 x0), .int (i3 x5), .ref a1, .ref a2, .ref a4] cs_L_45 sp_L_equations (by decide) dL_why_177 rfl rfl rfl rfl (Nat.le_of_ble_eq_true rfl) P

set_option maxHeartbeats 4000000 in
set_option maxRecDepth 100000 in
theorem sL_why_180 {X : Xt} {n : Nat} {h : HP} {x0 : Int} {a1 : Nat} {a2 : Nat} {a3 : Nat} {a4 : Nat} {x5 : Int} {x6 : Int} {x7 : Int} {l8 : Int} {l10 : Int} (hc : Cx X cL_why RL 12 4 95) {K : KT} (hr : CxR X (some .int) K) 
    (P : spec_L_solve [.ref a4] n h (kc X 0 0 182 [(0, .int (i3 x0)), (1, .ref a1), (2, .ref a2), (3, .ref a3), (4, .ref a4), (5, .int (i3 x5)), (6, .int (i3 x6)), (7, .int (i3 x7)), (8, .long (i6 l8)), (10, .long (i6 l10))] [] n)) :
    Ok X 0 0 180 [(0, .int (i3 x0)), (1, .ref a1), (2, .ref a2), (3, .ref a3), (4, .ref a4), (5, .int (i3 x5)), (6, .int (i3 x6)), (7, .int (i3 x7)), (8, .long (i6 l8)), (10, .long (i6 l10))] [] n h := by
  refine ok_aload (pc := 180) hc dL_why_180 4 rfl ?_
  exact ok_callS (pc := 182) (cb := 0) (sb := 0) (st := []) hc [.ref a4] cs_L_49 sp_L_solve (by decide) dL_why_182 rfl rfl rfl rfl (Nat.le_of_ble_eq_true rfl) P

set_option maxHeartbeats 4000000 in
set_option maxRecDepth 100000 in
theorem sL_why_185 {X : Xt} {n : Nat} {h : HP} {x0 : Int} {a1 : Nat} {a2 : Nat} {a3 : Nat} {a4 : Nat} {x5 : Int} {x6 : Int} {x7 : Int} {l8 : Int} {l10 : Int} {t0 : Int} (hc : Cx X cL_why RL 12 4 95) {K : KT} (hr : CxR X (some .int) K) 
    (P : (R3 t0) ∧ (t0 = 0 → K (.inl (some (.int (i3 (50 + x5))))) n h) ∧ (¬ t0 = 0 → Ok X 0 0 188 [(0, .int (i3 x0)), (1, .ref a1), (2, .ref a2), (3, .ref a3), (4, .ref a4), (5, .int (i3 x5)), (6, .int (i3 x6)), (7, .int (i3 x7)), (8, .long (i6 l8)), (10, .long (i6 l10))] [] n h)) :
    Ok X 0 0 185 [(0, .int (i3 x0)), (1, .ref a1), (2, .ref a2), (3, .ref a3), (4, .ref a4), (5, .int (i3 x5)), (6, .int (i3 x6)), (7, .int (i3 x7)), (8, .long (i6 l8)), (10, .long (i6 l10))] [.int (i3 t0)] n h := by
  obtain ⟨r1, P⟩ := P
  refine zk_if_eq (pc := 185) (tgt := 208) hc dL_why_185 (by decide) r1 (fun c => ?_) (fun c => ?_)
  · have P := P.1 c
    refine ok_bipush (pc := 208) hc (v := i3 50) dL_why_208 (by decide) ?_
    refine ok_iload (pc := 210) hc dL_why_210 5 rfl ?_
    refine zk_iadd (pc := 212) hc dL_why_212 ?_
    exact ok_iret (st := []) (pc := 213) hc hr dL_why_213 P
  · have P := P.2 c
    exact P

set_option maxHeartbeats 4000000 in
set_option maxRecDepth 100000 in
theorem sL_why_188 {X : Xt} {n : Nat} {h : HP} {x0 : Int} {a1 : Nat} {a2 : Nat} {a3 : Nat} {a4 : Nat} {x5 : Int} {x6 : Int} {x7 : Int} {l8 : Int} {l10 : Int} {f1 : Nat → Int} {f2 : Nat → Int} {qs3 : List Part} {m3 : Nat} {γ3 : Nat → Int} (hc : Cx X cL_why RL 12 4 95) {K : KT} (hr : CxR X (some .int) K) (e1 : At h n a2 (ai 48 f1)) (e2 : At h n a4 (al 56 f2)) (hS3 : Svd qs3 m3 γ3 f2)
    (P : (Ix (x6 + 1) 48) ∧ (Ix (x6 + 2) 48) ∧ ((0 ≤ (f1 ((x6 + 1) : Int).toNat) ∧ (f1 ((x6 + 1) : Int).toNat) < 7) ∧ 0 ≤ (f1 ((x6 + 2) : Int).toNat) ∧ (f1 ((x6 + 2) : Int).toNat) < 7) ∧ ((numer qs3 m3 γ3 ((f1 ((x6 + 1) : Int).toNat) : Int).toNat) < (numer qs3 m3 γ3 ((f1 ((x6 + 2) : Int).toNat) : Int).toNat) → Ok X 0 0 21 [(0, .int (i3 x0)), (1, .ref a1), (2, .ref a2), (3, .ref a3), (4, .ref a4), (5, .int (i3 (x5 + 1)))] [] n h) ∧ (¬ (numer qs3 m3 γ3 ((f1 ((x6 + 1) : Int).toNat) : Int).toNat) < (numer qs3 m3 γ3 ((f1 ((x6 + 2) : Int).toNat) : Int).toNat) → K (.inl (some (.int (i3 (50 + x5))))) n h)) :
    Ok X 0 0 188 [(0, .int (i3 x0)), (1, .ref a1), (2, .ref a2), (3, .ref a3), (4, .ref a4), (5, .int (i3 x5)), (6, .int (i3 x6)), (7, .int (i3 x7)), (8, .long (i6 l8)), (10, .long (i6 l10))] [] n h := by
  refine ok_aload_n (pc := 188) hc dL_why_188 rfl 2 rfl ?_
  refine ok_iload (pc := 189) hc dL_why_189 6 rfl ?_
  refine ok_iconst (pc := 191) hc (v := i3 1) dL_why_191 (by decide) ?_
  refine zk_iadd (pc := 192) hc dL_why_192 ?_
  obtain ⟨r, P⟩ := P
  refine zk_iald (pc := 193) hc dL_why_193 e1.1 e1.2 r ?_
  refine ok_aload_n (pc := 194) hc dL_why_194 rfl 2 rfl ?_
  refine ok_iload (pc := 195) hc dL_why_195 6 rfl ?_
  refine ok_iconst (pc := 197) hc (v := i3 2) dL_why_197 (by decide) ?_
  refine zk_iadd (pc := 198) hc dL_why_198 ?_
  obtain ⟨r, P⟩ := P
  refine zk_iald (pc := 199) hc dL_why_199 e1.1 e1.2 r ?_
  refine ok_aload (pc := 200) hc dL_why_200 4 rfl ?_
  obtain ⟨r0, P⟩ := P
  refine ok_callS (pc := 202) (cb := 0) (sb := 0) (st := []) hc [.int (i3 (f1 ((x6 + 1) : Int).toNat)), .int (i3 (f1 ((x6 + 2) : Int).toNat)), .ref a4] cs_L_56 sp_L_higher (by decide) dL_why_202 rfl rfl rfl rfl (Nat.le_of_ble_eq_true rfl) (⟨_, _, _, _, _, _, _, rfl, ⟨e2.1, e2.2⟩, hS3, r0, rfl, ?_⟩)
  show Ok X 0 0 (202 + 3) [(0, .int (i3 x0)), (1, .ref a1), (2, .ref a2), (3, .ref a3), (4, .ref a4), (5, .int (i3 x5)), (6, .int (i3 x6)), (7, .int (i3 x7)), (8, .long (i6 l8)), (10, .long (i6 l10))] [.int (i3 (cmpZ (numer qs3 m3 γ3 ((f1 ((x6 + 1) : Int).toNat) : Int).toNat) (numer qs3 m3 γ3 ((f1 ((x6 + 2) : Int).toNat) : Int).toNat)))] n h
  refine zk_if_lt (pc := 205) (tgt := 214) hc dL_why_205 (by decide) R3_cmp (fun c => ?_) (fun c => ?_)
  · have P := P.1 (cmp_lt.mp c)
    refine zk_iinc (pc := 214) hc (q := 5) (x := x5) (lv' := [(5, .int (i3 (x5 + 1))), (0, .int (i3 x0)), (1, .ref a1), (2, .ref a2), (3, .ref a3), (4, .ref a4), (6, .int (i3 x6)), (7, .int (i3 x7)), (8, .long (i6 l8)), (10, .long (i6 l10))]) dL_why_214 rfl (by decide) rfl ?_
    refine ok_goto (pc := 217) (tgt := 21) hc dL_why_217 (by decide) ?_
    refine ok_lv [1, 2, 3, 4, 5, 0] rfl ?_
    exact P
  · have P := P.2 (fun z => c (cmp_lt.mpr z))
    refine ok_bipush (pc := 208) hc (v := i3 50) dL_why_208 (by decide) ?_
    refine ok_iload (pc := 210) hc dL_why_210 5 rfl ?_
    refine zk_iadd (pc := 212) hc dL_why_212 ?_
    exact ok_iret (st := []) (pc := 213) hc hr dL_why_213 P

def spec_L_why (args : List Value) (n : Nat) (h : HP) (K : KT) : Prop := ∃ (d a e f : Nat) (Fd F Ee Ef : Nat → Int) (S : Stt) (c : Int), args = [.int (i3 c), .ref d, .ref a, .ref e, .ref f] ∧ At h n d (ai 4 Fd) ∧ At h n a (ai 48 F) ∧ At h n e (al 56 Ee) ∧ At h n f (al 56 Ef) ∧ e ≠ f ∧ (Fd 0 = S.1.length ∧ Fd 1 = S.2.1) ∧ PaF F S.1 ∧ GdP S.1 ∧ (0 ≤ S.2.1 ∧ S.2.1 ≤ 200) ∧ (0 ≤ c ∧ c ≤ 26) ∧ ∀ E' F', K (.inl (some (.int (i3 (whyI S c))))) n (va_up (va_up h e (al 56 E')) f (al 56 F'))
set_option maxHeartbeats 4000000 in
theorem sp_L_why : Sp yL_why cL_why 12 (some .int) 4 95 0 0 spec_L_why := by
  refine sp_intro (by decide) (by rintro args n h K ⟨d, a, e, f, Fd, F, Ee, Ef, S, c, rfl, -⟩; exact Nat.le_of_ble_eq_true rfl) ?_
  rintro X args n h K hc hr ⟨d, a, e, f, Fd, F, Ee, Ef, S, c, rfl, ed0, ea0, ee0, ef0, hef, ⟨hd, hd1⟩, hP, hG, hrl, hcr, kk⟩
  have hl := hP.1
  have rr := hP.2.2.2
  have hn3 := hG.2.1
  have nde : d ≠ e := ne_aa ed0.2 ee0.2 (by decide)
  have nae : a ≠ e := ne_aa ea0.2 ee0.2 (by decide)
  have ndf : d ≠ f := ne_aa ed0.2 ef0.2 (by decide)
  have naf : a ≠ f := ne_aa ea0.2 ef0.2 (by decide)
  have hd' : Fd (0 : Int).toNat = S.1.length := hd
  have hd1' : Fd (1 : Int).toNat = S.2.1 := hd1
  have hM := mat_case hG c
  have hm8 := satN_8 (c := c) hn3
  have hm2 := satN_lt c (nA S.1)
  refine sL_why_0 hc hr ⟨d, a, e, Fd, F, Ee, S.1, c, -1, satN c (nA S.1), S.2.1, givC S c, rfl, ed0, ea0, ee0, ⟨hd, hd1, hrl⟩, hP, hG, ⟨hcr, by decide, by decide⟩, hM, fun G hGe => ⟨rfl, ?_⟩⟩
  refine sL_why_8 hc hr ⟨e, G, S.1, satN c (nA S.1), givC S c, rfl, ee0.it, hG, gv_case hG hrl c, hGe, fun E' hE' => ⟨rfl, ?_⟩⟩
  rw [up_up]
  have ed : ∀ Ff, At (va_up (va_up h e (al 56 E')) f (al 56 Ff)) n d (ai 4 Fd) := fun Ff => (ed0.up nde).up ndf
  have ea : ∀ Ff, At (va_up (va_up h e (al 56 E')) f (al 56 Ff)) n a (ai 48 F) := fun Ff => (ea0.up nae).up naf
  have ee : ∀ Ff, At (va_up (va_up h e (al 56 E')) f (al 56 Ff)) n e (al 56 E') := fun Ff => ee0.it.up hef
  have ef : ∀ Ff, At (va_up (va_up h e (al 56 E')) f (al 56 Ff)) n f (al 56 Ff) := fun Ff => (ef0.up (fun z => hef z.symm)).it
  have eid : va_up (va_up h e (al 56 E')) f (al 56 Ef) = va_up h e (al 56 E') := up_id (ef0.up (fun z => hef z.symm))
  rw [← eid]
  refine sL_why_12 hc hr ⟨bz01 _, fun z => ?_, fun z => ?_⟩
  · have hs : solD S.1 (satN c (nA S.1)) ≠ 0 := by
      have := bz_1.mp z
      exact of_decide_eq_true this
    have hS : Svd S.1 (satN c (nA S.1)) (givC S c) E' := hE' hs
    have hj0 : jud S c = judL S (satN c (nA S.1)) (givC S c) c (amps S.1) 0 := by
      unfold jud
      rw [if_neg hs]
    have hlen := amps_len S.1
    have L : ∀ (j a9 : Nat) (Ff : Nat → Int), a9 + j = nA S.1 → jud S c = judL S (satN c (nA S.1)) (givC S c) c ((amps S.1).drop a9) a9 → Ok X 0 0 21 [(0, .int (i3 c)), (1, .ref d), (2, .ref a), (3, .ref e), (4, .ref f), (5, .int (i3 a9))] [] n (va_up (va_up h e (al 56 E')) f (al 56 Ff)) := by
      intro j
      induction j with
      | zero =>
        intro a9 Ff hi hj
        have ha : a9 = nA S.1 := by omega
        rw [List.drop_eq_nil_of_le (by omega)] at hj
        have hk := kk E' Ff
        unfold whyI at hk
        rw [hj] at hk
        refine sL_why_21 hc hr (ed Ff) (ea Ff) hP hd (ee Ff) hS ?_
        rw [hd', show ((S.1.length : Nat) : Int).toNat = S.1.length by omega, List.take_length]
        exact ⟨⟨by decide, by decide, by decide⟩, ⟨by omega, by omega⟩, R3_s (by omega), R3_s (by omega), fun _ => hk, fun y => absurd (by omega) y⟩
      | succ j ih =>
        intro a9 Ff hi hj
        obtain ⟨i, p, hA⟩ := AmpAt.ex (ps := S.1) (a := a9) (by omega)
        have hta := told_amp (hG.2.2.1 p (List.mem_of_getElem? hA.1)) hA.2.1
        obtain ⟨g0, g1, g2, g3, hi', hl', hw⟩ := hP.g hA.1
        have g2' := g2 (by rw [hA.2.1]; decide)
        have hpo := pOf_at hA
        have hlt : a9 < (amps S.1).length := by omega
        rw [List.drop_eq_getElem_cons hlt] at hj
        have hge : (amps S.1)[a9] = p := by
          have := hA.amps
          rw [List.getElem?_eq_getElem hlt] at this
          exact Option.some.inj this
        rw [hge] at hj
        unfold judL at hj
        obtain ⟨st, hst⟩ : ∃ st : Int, st = c / 3 ^ a9 % 3 := ⟨_, rfl⟩
        have hst3 := st3 c a9
        rw [← hst] at hst3 hj
        have bad : ∀ r : Int, 2 ≤ r → faultF S (satN c (nA S.1)) (givC S c) a9 p st = r → ∀ Ff, K (.inl (some (.int (i3 (10 * r + a9))))) n (va_up (va_up h e (al 56 E')) f (al 56 Ff)) := by
          intro r hr2 hfr Ff
          rw [hfr, if_neg (by omega)] at hj
          have hk := kk E' Ff
          unfold whyI at hk
          rw [hj] at hk
          rw [if_neg (show ¬ r = 0 by omega), if_neg (show ¬ r = 1 by omega)] at hk
          exact hk
        have good : faultF S (satN c (nA S.1)) (givC S c) a9 p st = 0 → ∀ Ff, Ok X 0 0 21 [(0, .int (i3 c)), (1, .ref d), (2, .ref a), (3, .ref e), (4, .ref f), (5, .int (i3 ((a9 : Int) + 1)))] [] n (va_up (va_up h e (al 56 E')) f (al 56 Ff)) := by
          intro hfr Ff
          rw [hfr, if_pos rfl] at hj
          exact ih (a9 + 1) Ff (by omega) hj
        have x1 : Ix (4 * (i : Int) + 1) 48 := ⟨by omega, by omega, by omega⟩
        have x2 : Ix (4 * (i : Int) + 2) 48 := ⟨by omega, by omega, by omega⟩
        have x3 : Ix (4 * (i : Int) + 3) 48 := ⟨by omega, by omega, by omega⟩
        have x4 : Ix 1 4 := ⟨by decide, by decide, by decide⟩
        refine sL_why_21 hc hr (ed Ff) (ea Ff) hP hd (ee Ff) hS ?_
        rw [hd', hd1', show ((S.1.length : Nat) : Int).toNat = S.1.length by omega, List.take_length, hpo, g1, g2', g3]
        refine ⟨⟨by decide, by decide, by decide⟩, ⟨by omega, by omega⟩, R3_s (by omega), R3_s (by omega), fun y => absurd y (by omega), fun _ => ⟨⟨by omega, by omega⟩, x1, x2, ⟨⟨by omega, by omega⟩, by omega, by omega⟩, x3, ⟨⟨by omega, by omega⟩, Or.inl rfl⟩, x4, R3_s (by omega), x3, ⟨⟨by omega, by omega⟩, Or.inr rfl⟩, ?_⟩⟩
        -- the amplifier's signs
        have rst : R3 st := R3_s (by omega)
        have etn : (a9 : Int).toNat = a9 := by omega
        have c9 : (0 ≤ c ∧ c ≤ 2147483647) ∧ (0 : Int) ≤ (a9 : Int) ∧ (a9 : Int) < 4 := ⟨⟨by omega, by omega⟩, by omega, by omega⟩
        have hsg : signP S.1 (satN c (nA S.1)) (givC S c) p = cmpZ (numer S.1 (satN c (nA S.1)) (givC S c) p.2.1.toNat) (numer S.1 (satN c (nA S.1)) (givC S c) p.2.2.1.toNat) := rfl
        obtain ⟨B, C, hBC, hnb⟩ := hS.n2
        obtain ⟨o1, o2, o3⟩ := hnb p.2.2.2.toNat (by omega)
        have ho := out_iff (x := numer S.1 (satN c (nA S.1)) (givC S c) p.2.2.2.toNat) (r := S.2.1) hS.2.1
        have r8 : R6 (lowT (numer S.1 (satN c (nA S.1)) (givC S c) p.2.2.2.toNat) (solD S.1 (satN c (nA S.1))) 0) := ⟨by have := o1.1; have := hBC.2.2.1; omega, by have := o1.2; have := hBC.2.2.1; omega⟩
        have hmul : 0 ≤ S.2.1 * lowT (numer S.1 (satN c (nA S.1)) (givC S c) p.2.2.2.toNat) (solD S.1 (satN c (nA S.1))) 1 ∧ S.2.1 * lowT (numer S.1 (satN c (nA S.1)) (givC S c) p.2.2.2.toNat) (solD S.1 (satN c (nA S.1))) 1 ≤ 200 * 67108864 := by
          refine ⟨Int.mul_nonneg hrl.1 (by omega), ?_⟩
          exact Int.mul_le_mul hrl.2 (by have := hBC.2.1; omega) (by omega) (by omega)
        generalize cmpZ (numer S.1 (satN c (nA S.1)) (givC S c) p.2.1.toNat) (numer S.1 (satN c (nA S.1)) (givC S c) p.2.2.1.toNat) = sg at *
        have rsg : R3 sg := by
          rw [← hsg]
          exact R3_cmp
        have lin : st = 0 → Ok X 0 0 147 [(0, .int (i3 c)), (1, .ref d), (2, .ref a), (3, .ref e), (4, .ref f), (5, .int (i3 a9)), (6, .int (i3 (4 * (i : Int)))), (7, .int (i3 sg)), (8, .long (i6 (lowT (numer S.1 (satN c (nA S.1)) (givC S c) p.2.2.2.toNat) (solD S.1 (satN c (nA S.1))) 0))), (10, .long (i6 (S.2.1 * lowT (numer S.1 (satN c (nA S.1)) (givC S c) p.2.2.2.toNat) (solD S.1 (satN c (nA S.1))) 1)))] [] n (va_up (va_up h e (al 56 E')) f (al 56 Ff)) := by
          intro hs0
          have r10 : R6 (S.2.1 * lowT (numer S.1 (satN c (nA S.1)) (givC S c) p.2.2.2.toNat) (solD S.1 (satN c (nA S.1))) 1) := ⟨by omega, by omega⟩
          have rn10 : R6 (-(S.2.1 * lowT (numer S.1 (satN c (nA S.1)) (givC S c) p.2.2.2.toNat) (solD S.1 (satN c (nA S.1))) 1)) := ⟨by omega, by omega⟩
          have hff : faultF S (satN c (nA S.1)) (givC S c) a9 p st = if absZ (numer S.1 (satN c (nA S.1)) (givC S c) p.2.2.2.toNat) ≤ S.2.1 * solD S.1 (satN c (nA S.1)) then (if fbk S.1 (satN c (nA S.1)) a9 p = true then 0 else 5) else 2 := by
            unfold faultF
            rw [if_neg (show ¬ st = 1 by omega), if_neg (show ¬ st = 2 by omega)]
          have b2 : ¬ absZ (numer S.1 (satN c (nA S.1)) (givC S c) p.2.2.2.toNat) ≤ S.2.1 * solD S.1 (satN c (nA S.1)) → K (.inl (some (.int (i3 (20 + a9))))) n (va_up (va_up h e (al 56 E')) f (al 56 Ff)) := by
            intro y
            exact bad 2 (by omega) (by rw [hff, if_neg y]) Ff
          refine sL_why_147 hc hr ⟨⟨r8, r10⟩, fun y => b2 (fun w => ?_), fun y => ⟨⟨r8, rn10⟩, fun y2 => ?_, fun y2 => b2 (fun w => ?_)⟩⟩
          · have := ho.mp w
            omega
          · -- the feedback
            have hin : absZ (numer S.1 (satN c (nA S.1)) (givC S c) p.2.2.2.toNat) ≤ S.2.1 * solD S.1 (satN c (nA S.1)) := ho.mpr ⟨by omega, y2⟩
            rw [if_pos hin] at hff
            have hMt := mat_test hG c hA
            refine sL_why_170 hc hr ⟨d, a, f, Fd, F, Ff, S.1, c, a9, orN (satN c (nA S.1)) a9, S.2.1, _, rfl, ed Ff, ea Ff, ef Ff, ⟨hd, hd1, hrl⟩, hP, hG, ⟨hcr, by omega, by omega⟩, hMt, fun G2 hG2 => ⟨rfl, ?_⟩⟩
            rw [up_up]
            refine sL_why_180 hc hr ⟨f, G2, S.1, orN (satN c (nA S.1)) a9, _, rfl, ef G2, hG, gv_test hG hA, hG2, fun E2 hE2 => ⟨rfl, ?_⟩⟩
            rw [up_up]
            have hfk : fbk S.1 (satN c (nA S.1)) a9 p = (decide (solD S.1 (orN (satN c (nA S.1)) a9) ≠ 0) && decide (solN S.1 (orN (satN c (nA S.1)) a9) (7 * p.2.1.toNat + p.2.2.2.toNat) < solN S.1 (orN (satN c (nA S.1)) a9) (7 * p.2.2.1.toNat + p.2.2.2.toNat))) := rfl
            have b5 : ¬ fbk S.1 (satN c (nA S.1)) a9 p = true → K (.inl (some (.int (i3 (50 + a9))))) n (va_up (va_up h e (al 56 E')) f (al 56 E2)) := by
              intro w
              exact bad 5 (by omega) (by rw [hff, if_neg w]) E2
            refine sL_why_185 hc hr ⟨bz01 _, fun w => b5 ?_, fun w => ?_⟩
            · rw [hfk, bz_0.mp w, Bool.false_and]
              decide
            · have hd2 := bz_1.mp w
              have hsv : Svd S.1 (orN (satN c (nA S.1)) a9) _ E2 := hE2 (of_decide_eq_true hd2)
              have e41 : (4 * (i : Int) + 1 : Int).toNat = (4 * (i : Int) + 1 : Int).toNat := rfl
              refine sL_why_188 hc hr (ea E2) (ef E2) hsv ?_
              rw [g1, g2', num_test (by omega), num_test (by omega)]
              refine ⟨x1, x2, ⟨⟨by omega, by omega⟩, by omega, by omega⟩, fun v => ?_, fun v => b5 ?_⟩
              · refine good ?_ E2
                rw [hff, hfk, hd2, decide_eq_true v]
                rfl
              · rw [hfk, decide_eq_false v, Bool.and_false]
                decide
          · have := ho.mp w
            omega
        refine sL_why_93 hc hr ?_
        rw [etn, ← hst]
        have f1 : st = 1 → faultF S (satN c (nA S.1)) (givC S c) a9 p st = if 0 < sg then 0 else 3 := by
          intro y
          unfold faultF
          rw [if_pos y, hsg]
        have f2 : st = 2 → faultF S (satN c (nA S.1)) (givC S c) a9 p st = if sg < 0 then 0 else 4 := by
          intro y
          unfold faultF
          rw [if_neg (show ¬ st = 1 by omega), if_pos y, hsg]
        refine ⟨c9, rst, fun y1 => ⟨c9, rst, fun y2 => ⟨c9, rst, fun y3 => lin (by omega), fun y3 => absurd (by omega) y3⟩, fun y2 => ⟨rsg, fun y3 => ⟨c9, rst, fun y4 => absurd y4 (by omega), fun _ => good (by rw [f2 y2, if_pos y3]) Ff⟩, fun y3 => bad 4 (by omega) (by rw [f2 y2, if_neg y3]) Ff⟩⟩, fun y1 => ⟨rsg, fun y2 => ⟨c9, rst, fun y3 => ⟨c9, rst, fun y4 => absurd y4 (by omega), fun _ => good (by rw [f1 y1, if_pos y2]) Ff⟩, fun y3 => absurd y3 (by omega)⟩, fun y2 => bad 3 (by omega) (by rw [f1 y1, if_neg y2]) Ff⟩⟩
    exact L (nA S.1) 0 Ef (by omega) hj0
  · have hs : solD S.1 (satN c (nA S.1)) = 0 := by
      have := bz_0.mp z
      exact Classical.byContradiction fun w => absurd (decide_eq_true w) (by rw [this]; decide)
    have hk := kk E' Ef
    unfold whyI jud at hk
    rw [if_pos hs] at hk
    exact hk
