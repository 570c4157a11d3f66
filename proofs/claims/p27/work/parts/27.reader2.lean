/-! part 27: class TextReader: the whole buffer -/
def endP (q : RdQ) : Option (List Part) := if q.1 = -1 then none else if q.1 = 1 then (if q.2.1 = 0 then none else some (q.2.2.2.2.2.2 ++ [(1, q.2.2.1, -1, if q.2.2.2.1 = 0 then q.2.2.2.2.1 else -q.2.2.2.2.1)])) else if q.2.1 < 3 then none else some (q.2.2.2.2.2.2 ++ [(q.1, q.2.2.2.2.2.1 0, q.2.2.2.2.2.1 1, q.2.2.2.2.2.1 2)])
def stepS (q : RdQ) (c : Int) : Option RdQ := if q.2.2.1 = -1 then (if nodeC c = 0 then none else some (q.1, q.2.1, c - 48, q.2.2.2.1, q.2.2.2.2.1, q.2.2.2.2.2.1, q.2.2.2.2.2.2)) else if c = 45 then (if q.2.2.2.1 = 0 ∧ q.2.1 = 0 then some (q.1, q.2.1, q.2.2.1, 1, q.2.2.2.2.1, q.2.2.2.2.2.1, q.2.2.2.2.2.2) else none) else stepV q c
def rstep (q : RdQ) (c : Int) : Option RdQ := if q.1 = -1 then (if kl c = -1 then none else some (q0R q.2.2.2.2.2.1 q.2.2.2.2.2.2 (kl c))) else if c = 59 then (endP q).map (fun ps => q0R q.2.2.2.2.2.1 ps (-1)) else if q.1 = 1 then stepS q c else stepD q c
/-- what is so when i characters have been read -/
def RI (q : RdQ) (i : Nat) : Prop := (q.1 = -1 ∧ 4 * (q.2.2.2.2.2.2.length : Int) ≤ i) ∨ (q.1 = 1 ∧ (0 ≤ q.2.2.2.2.1 ∧ q.2.2.2.2.1 ≤ 200) ∧ (q.2.2.2.1 = 0 ∨ q.2.2.2.1 = 1) ∧ ((q.2.2.1 = -1 ∧ q.2.1 = 0 ∧ 4 * (q.2.2.2.2.2.2.length : Int) + 1 ≤ i) ∨ (0 ≤ q.2.2.1 ∧ q.2.2.1 ≤ 6 ∧ 0 ≤ q.2.1 ∧ 4 * (q.2.2.2.2.2.2.length : Int) + 2 + q.2.1 ≤ i))) ∨ ((q.1 = 0 ∨ q.1 = 2) ∧ 0 ≤ q.2.1 ∧ q.2.1 ≤ 3 ∧ 4 * (q.2.2.2.2.2.2.length : Int) + 1 + q.2.1 ≤ i ∧ (∀ j : Nat, (j : Int) < q.2.1 → 0 ≤ q.2.2.2.2.2.1 j ∧ q.2.2.2.2.2.1 j ≤ 6) ∧ (q.1 = 0 → q.2.1 = 3 → 1 ≤ q.2.2.2.2.2.1 2 ∧ q.2.2.2.2.2.1 2 ≤ 4))
theorem RI.k {q : RdQ} {i : Nat} (h : RI q i) (hi : i ≤ 60) : -1 ≤ q.1 ∧ q.1 ≤ 2 ∧ (q.1 ≠ -1 → 0 ≤ q.2.1 ∧ q.2.1 ≤ 60) := by unfold RI at h; omega
theorem endP_ok {q : RdQ} {i : Nat} {ps : List Part} (h : RI q i) (hi : i ≤ 60) (e : endP q = some ps) : ∃ p, ps = q.2.2.2.2.2.2 ++ [p] ∧ PW p ∧ 4 * (q.2.2.2.2.2.2.length : Int) + 3 ≤ i := by
  unfold endP at e
  by_cases a : q.1 = -1
  · rw [if_pos a] at e
    cases e
  · rw [if_neg a] at e
    by_cases b : q.1 = 1
    · rw [if_pos b] at e
      by_cases d : q.2.1 = 0
      · rw [if_pos d] at e
        cases e
      · rw [if_neg d] at e
        cases e
        refine ⟨_, rfl, ?_, by unfold RI at h; omega⟩
        unfold PW
        right; left
        refine ⟨rfl, ?_⟩
        dsimp only
        unfold RI at h
        by_cases z : q.2.2.2.1 = 0
        · rw [if_pos z]
          omega
        · rw [if_neg z]
          omega
    · rw [if_neg b] at e
      by_cases d : q.2.1 < 3
      · rw [if_pos d] at e
        cases e
      · rw [if_neg d] at e
        cases e
        unfold RI at h
        rcases h with h | h | ⟨h1, h2, h3, h4, h5, h6⟩
        · omega
        · omega
        · have d0 := h5 0 (by omega)
          have d1 := h5 1 (by omega)
          have d2 := h5 2 (by omega)
          refine ⟨_, rfl, ?_, by omega⟩
          unfold PW
          simp only
          rcases h1 with h1 | h1
          · have := h6 h1 (by omega)
            omega
          · omega
theorem RI.step {q q' : RdQ} {c : Int} {i : Nat} (h : RI q i) (hi : i < 60) (e : rstep q c = some q') : RI q' (i + 1) := by
  unfold rstep at e
  by_cases a : q.1 = -1
  · rw [if_pos a] at e
    by_cases b : kl c = -1
    · rw [if_pos b] at e
      cases e
    · rw [if_neg b] at e
      cases e
      have := kl_b c
      unfold RI at h ⊢
      dsimp only [q0R]
      by_cases k1 : kl c = 1
      · right; left
        omega
      · right; right
        refine ⟨by omega, by omega, by omega, by omega, fun j hj => by omega, fun _ z => by omega⟩
  · rw [if_neg a] at e
    by_cases b : c = 59
    · rw [if_pos b] at e
      obtain ⟨ps, e1, rfl⟩ := Option.map_eq_some_iff.mp e
      obtain ⟨p, rfl, -, h2⟩ := endP_ok h (by omega) e1
      left
      dsimp only [q0R]
      rw [List.length_append, List.length_singleton]
      exact ⟨rfl, by omega⟩
    · rw [if_neg b] at e
      by_cases d : q.1 = 1
      · rw [if_pos d] at e
        unfold stepS at e
        by_cases f : q.2.2.1 = -1
        · rw [if_pos f] at e
          by_cases g : nodeC c = 0
          · rw [if_pos g] at e
            cases e
          · rw [if_neg g] at e
            cases e
            rw [node0] at g
            unfold RI at h ⊢
            dsimp only
            omega
        · rw [if_neg f] at e
          by_cases g : c = 45
          · rw [if_pos g] at e
            by_cases k : q.2.2.2.1 = 0 ∧ q.2.1 = 0
            · rw [if_pos k] at e
              cases e
              unfold RI at h ⊢
              dsimp only
              omega
            · rw [if_neg k] at e
              cases e
          · rw [if_neg g] at e
            unfold stepV at e
            split at e
            · cases e
              unfold RI at h ⊢
              dsimp only
              omega
            · cases e
      · rw [if_neg d] at e
        unfold stepD at e
        split at e
        · rename_i k
          cases e
          unfold RI at h ⊢
          rcases h with h | h | ⟨h1, h2, h3, h4, h5, h6⟩
          · omega
          · omega
          · obtain ⟨k1, k2⟩ := k
            unfold digOk at k2
            have cc : 48 ≤ c ∧ c ≤ 54 := by
              split at k2 <;> simp only [decide_eq_true_eq] at k2 <;> omega
            right; right
            simp only
            refine ⟨h1, by omega, by omega, by omega, fun j hj => ?_, fun z1 z2 => ?_⟩
            · by_cases jj : j = q.2.1.toNat
              · rw [jj, up_self]
                omega
              · rw [up_ne jj]
                exact h5 j (by omega)
            · rw [if_pos ⟨z1, by omega⟩] at k2
              simp only [decide_eq_true_eq] at k2
              rw [show q.2.1.toNat = 2 by omega, up_self]
              omega
        · cases e
set_option maxHeartbeats 4000000 in
set_option maxRecDepth 100000 in
theorem sX5_acceptsInSource_0 {X : Xt} {n : Nat} {h : HP} {a0 : Nat} {x1 : Int} {fs1 : List Value} {iv2 : Int} {iv5 : Int} {iv7 : Int} (hc : Cx X cX5_acceptsInSource RX5 3 1 22) {K : KT} (hr : CxR X (some .boolean) K) (e1 : At h n a0 (.inl (5, fs1))) (z1 : fs1.length = 9) (v1_6 : fs1[6]? = some (.int (i3 iv2))) (v1_7 : fs1[7]? = some (.int (i3 iv5))) (v1_5 : fs1[5]? = some (.int (i3 iv7)))
    (P : (R3 iv2) ∧ (¬ iv2 = (-1) → (R3 x1) ∧ (¬ x1 = 45 → spec_X5_acceptsInValue [.ref a0, .int (i3 x1)] n h (kc X 0 0 62 [(0, .ref a0), (1, .int (i3 x1))] [] n)) ∧ (x1 = 45 → (R3 iv5) ∧ (¬ iv5 = 0 → K (.inl (some (.int (i3 0)))) n (va_up h a0 (.inl (5, (fs1.set 7 (.int (i3 1))))))) ∧ (iv5 = 0 → (R3 iv7) ∧ (¬ iv7 = 0 → K (.inl (some (.int (i3 0)))) n (va_up h a0 (.inl (5, (fs1.set 7 (.int (i3 1))))))) ∧ (iv7 = 0 → K (.inl (some (.int (i3 1)))) n (va_up h a0 (.inl (5, (fs1.set 7 (.int (i3 1)))))))))) ∧ (iv2 = (-1) → (R3 x1) ∧ (R3 (nodeC x1)) ∧ (¬ (nodeC x1) = 0 → K (.inl (some (.int (i3 1)))) n (va_up h a0 (.inl (5, (fs1.set 6 (.int (i3 (x1 - 48)))))))) ∧ ((nodeC x1) = 0 → K (.inl (some (.int (i3 0)))) n h))) :
    Ok X 0 0 0 [(0, .ref a0), (1, .int (i3 x1))] [] n h := by
  refine ok_aload_n (pc := 0) hc dX5_acceptsInSource_0 rfl 0 rfl ?_
  refine ok_get (pc := 1) hc fl_X5_56 dX5_acceptsInSource_1 e1.1 e1.2 v1_6 ?_
  refine ok_iconst (pc := 4) hc (v := i3 (-1)) dX5_acceptsInSource_4 (by decide) ?_
  obtain ⟨r3, P⟩ := P
  refine zk_icmp_ne (pc := 5) (tgt := 27) hc dX5_acceptsInSource_5 (by decide) r3 ⟨by decide, by decide⟩ (fun c => ?_) (fun c => ?_)
  · have P := P.1 c
    refine ok_iload_n (pc := 27) hc dX5_acceptsInSource_27 rfl 1 rfl ?_
    refine ok_bipush (pc := 28) hc (v := i3 45) dX5_acceptsInSource_28 (by decide) ?_
    obtain ⟨r4, P⟩ := P
    refine zk_icmp_ne (pc := 30) (tgt := 60) hc dX5_acceptsInSource_30 (by decide) r4 ⟨by decide, by decide⟩ (fun c => ?_) (fun c => ?_)
    · have P := P.1 c
      refine ok_aload_n (pc := 60) hc dX5_acceptsInSource_60 rfl 0 rfl ?_
      refine ok_iload_n (pc := 61) hc dX5_acceptsInSource_61 rfl 1 rfl ?_
      exact ok_callV (pc := 62) (a := a0) (cb := 0) (sb := 0) (st := []) hc [.int (i3 x1)] cv_X5_82 sp_X5_acceptsInValue (by decide) dX5_acceptsInSource_62 rfl e1.1 e1.2 rfl rfl rfl (Nat.le_of_ble_eq_true rfl) P
    · have P := P.2 c
      refine ok_aload_n (pc := 33) hc dX5_acceptsInSource_33 rfl 0 rfl ?_
      refine ok_get (pc := 34) hc fl_X5_59 dX5_acceptsInSource_34 e1.1 e1.2 v1_7 ?_
      obtain ⟨r6, P⟩ := P
      refine zk_if_ne (pc := 37) (tgt := 51) hc dX5_acceptsInSource_37 (by decide) r6 (fun c => ?_) (fun c => ?_)
      · have P := P.1 c
        refine ok_iconst (pc := 51) hc (v := i3 0) dX5_acceptsInSource_51 (by decide) ?_
        refine ok_istore_n (pc := 52) hc (lv' := [(2, .int (i3 0)), (0, .ref a0), (1, .int (i3 x1))]) dX5_acceptsInSource_52 rfl (by decide) rfl ?_
        refine ok_aload_n (pc := 53) hc dX5_acceptsInSource_53 rfl 1 rfl ?_
        refine ok_iconst (pc := 54) hc (v := i3 1) dX5_acceptsInSource_54 (by decide) ?_
        refine ok_put (pc := 55) hc fl_X5_59 dX5_acceptsInSource_55 e1.1 e1.2 (by simp [List.length_set, z1]) (fun _ => nar_z (by decide)) (fun _ => fit_zz (by decide)) ?_
        refine ok_iload_n (pc := 58) hc dX5_acceptsInSource_58 rfl 0 rfl ?_
        exact ok_zret (st := []) (pc := 59) hc (nar_z (by decide)) hr dX5_acceptsInSource_59 P
      · have P := P.2 c
        refine ok_aload_n (pc := 40) hc dX5_acceptsInSource_40 rfl 0 rfl ?_
        refine ok_get (pc := 41) hc fl_X5_53 dX5_acceptsInSource_41 e1.1 e1.2 v1_5 ?_
        obtain ⟨r8, P⟩ := P
        refine zk_if_ne (pc := 44) (tgt := 51) hc dX5_acceptsInSource_44 (by decide) r8 (fun c => ?_) (fun c => ?_)
        · have P := P.1 c
          refine ok_iconst (pc := 51) hc (v := i3 0) dX5_acceptsInSource_51 (by decide) ?_
          refine ok_istore_n (pc := 52) hc (lv' := [(2, .int (i3 0)), (0, .ref a0), (1, .int (i3 x1))]) dX5_acceptsInSource_52 rfl (by decide) rfl ?_
          refine ok_aload_n (pc := 53) hc dX5_acceptsInSource_53 rfl 1 rfl ?_
          refine ok_iconst (pc := 54) hc (v := i3 1) dX5_acceptsInSource_54 (by decide) ?_
          refine ok_put (pc := 55) hc fl_X5_59 dX5_acceptsInSource_55 e1.1 e1.2 (by simp [List.length_set, z1]) (fun _ => nar_z (by decide)) (fun _ => fit_zz (by decide)) ?_
          refine ok_iload_n (pc := 58) hc dX5_acceptsInSource_58 rfl 0 rfl ?_
          exact ok_zret (st := []) (pc := 59) hc (nar_z (by decide)) hr dX5_acceptsInSource_59 P
        · have P := P.2 c
          refine ok_iconst (pc := 47) hc (v := i3 1) dX5_acceptsInSource_47 (by decide) ?_
          refine ok_goto (pc := 48) (tgt := 52) hc dX5_acceptsInSource_48 (by decide) ?_
          refine ok_istore_n (pc := 52) hc (lv' := [(2, .int (i3 1)), (0, .ref a0), (1, .int (i3 x1))]) dX5_acceptsInSource_52 rfl (by decide) rfl ?_
          refine ok_aload_n (pc := 53) hc dX5_acceptsInSource_53 rfl 1 rfl ?_
          refine ok_iconst (pc := 54) hc (v := i3 1) dX5_acceptsInSource_54 (by decide) ?_
          refine ok_put (pc := 55) hc fl_X5_59 dX5_acceptsInSource_55 e1.1 e1.2 (by simp [List.length_set, z1]) (fun _ => nar_z (by decide)) (fun _ => fit_zz (by decide)) ?_
          refine ok_iload_n (pc := 58) hc dX5_acceptsInSource_58 rfl 0 rfl ?_
          exact ok_zret (st := []) (pc := 59) hc (nar_z (by decide)) hr dX5_acceptsInSource_59 P
  · have P := P.2 c
    refine ok_iload_n (pc := 8) hc dX5_acceptsInSource_8 rfl 1 rfl ?_
    obtain ⟨r0, P⟩ := P
    refine ok_callS (pc := 9) (cb := 0) (sb := 0) (st := []) hc [.int (i3 x1)] cs_X5_79 sp_X5_isNode (by decide) dX5_acceptsInSource_9 rfl rfl rfl rfl (Nat.le_of_ble_eq_true rfl) (⟨_, rfl, r0, rfl, ?_⟩)
    show Ok X 0 0 (9 + 3) [(0, .ref a0), (1, .int (i3 x1))] [.int (i3 (nodeC x1))] n h
    obtain ⟨r9, P⟩ := P
    refine zk_if_ne (pc := 12) (tgt := 17) hc dX5_acceptsInSource_12 (by decide) r9 (fun c => ?_) (fun c => ?_)
    · have P := P.1 c
      refine ok_aload_n (pc := 17) hc dX5_acceptsInSource_17 rfl 0 rfl ?_
      refine ok_iload_n (pc := 18) hc dX5_acceptsInSource_18 rfl 1 rfl ?_
      refine ok_bipush (pc := 19) hc (v := i3 48) dX5_acceptsInSource_19 (by decide) ?_
      refine zk_isub (pc := 21) hc dX5_acceptsInSource_21 ?_
      refine ok_put (pc := 22) hc fl_X5_56 dX5_acceptsInSource_22 e1.1 e1.2 (by simp [List.length_set, z1]) (fun _ => rfl) (fun _ => rfl) ?_
      refine ok_iconst (pc := 25) hc (v := i3 1) dX5_acceptsInSource_25 (by decide) ?_
      exact ok_zret (st := []) (pc := 26) hc (nar_z (by decide)) hr dX5_acceptsInSource_26 P
    · have P := P.2 c
      refine ok_iconst (pc := 15) hc (v := i3 0) dX5_acceptsInSource_15 (by decide) ?_
      exact ok_zret (st := []) (pc := 16) hc (nar_z (by decide)) hr dX5_acceptsInSource_16 P

set_option maxHeartbeats 4000000 in
set_option maxRecDepth 100000 in
theorem sX5_acceptsInSource_65 {X : Xt} {n : Nat} {h : HP} {a0 : Nat} {x1 : Int} {t0 : Int} (hc : Cx X cX5_acceptsInSource RX5 3 1 22) {K : KT} (hr : CxR X (some .boolean) K) 
    (P : (t0 = 0 ∨ t0 = 1) ∧ K (.inl (some (.int (i3 t0)))) n h) :
    Ok X 0 0 65 [(0, .ref a0), (1, .int (i3 x1))] [.int (i3 t0)] n h := by
  obtain ⟨r, P⟩ := P
  exact ok_zret (st := []) (pc := 65) hc (nar_z r) hr dX5_acceptsInSource_65 P

def spec_X5_acceptsInSource (args : List Value) (n : Nat) (h : HP) (K : KT) : Prop := ∃ (c : Int) (T : Nat → Int) (len : Int) (q : RdQ), args = [.ref 57, .int (i3 c)] ∧ R3 c ∧ RdC h n T len q ∧ (0 ≤ q.2.1 ∧ q.2.1 ≤ 1000) ∧ (0 ≤ q.2.2.2.2.1 ∧ q.2.2.2.2.1 ≤ 1000) ∧ (-1 ≤ q.2.2.1 ∧ q.2.2.1 ≤ 6) ∧ (q.2.2.2.1 = 0 ∨ q.2.2.2.1 = 1) ∧ ansR h n T len K (stepS q c)
theorem sp_X5_acceptsInSource : Sp yX5_acceptsInSource cX5_acceptsInSource 3 (some .boolean) 1 22 0 0 spec_X5_acceptsInSource := by
  refine sp_intro (by decide) (by rintro args n h K ⟨c, T, len, q, rfl, -⟩; exact Nat.le_of_ble_eq_true rfl) ?_
  rintro X args n h K hc hr ⟨c, T, len, q, rfl, hcc, hq, ht, hv, hs, hn, kk⟩
  unfold stepS at kk
  have r01 : R3 (nodeC c) := R3_s (by rcases node01 c with e | e <;> omega)
  refine sX5_acceptsInSource_0 hc hr hq.1 rfl rfl rfl rfl ⟨R3_s (by omega), fun a => ⟨hcc, fun b => ?_, fun b => ⟨R3_s (by omega), fun d => ?_, fun d => ⟨R3_s (by omega), fun e => ?_, fun e => ?_⟩⟩⟩, fun a => ⟨hcc, r01, fun b => ?_, fun b => ?_⟩⟩
  · rw [if_neg a, if_neg b] at kk
    refine ⟨c, T, len, q, rfl, hcc, hq, ht, hv, ?_⟩
    unfold ansR at kk ⊢
    cases hst : stepV q c with
    | some q' =>
      rw [hst] at kk
      exact fun h' q1 q2 => ⟨rfl, sX5_acceptsInSource_65 hc hr ⟨Or.inr rfl, kk h' q1 q2⟩⟩
    | none =>
      rw [hst] at kk
      exact fun h' q1 q2 => ⟨rfl, sX5_acceptsInSource_65 hc hr ⟨Or.inl rfl, kk h' q1 q2⟩⟩
  · rw [if_neg a, if_pos b, if_neg (by omega)] at kk
    exact kk _ (RdC.x hq.own) (Fr.rf.up (by omega))
  · rw [if_neg a, if_pos b, if_neg (by omega)] at kk
    exact kk _ (RdC.x hq.own) (Fr.rf.up (by omega))
  · rw [if_neg a, if_pos b, if_pos (by omega)] at kk
    exact kk _ hq.own (Fr.rf.up (by omega))
  · rw [if_pos a, if_neg b] at kk
    exact kk _ hq.own (Fr.rf.up (by omega))
  · rw [if_pos a, if_pos b] at kk
    exact kk _ hq.x Fr.rf
set_option maxHeartbeats 4000000 in
set_option maxRecDepth 100000 in
theorem sX5_endsPart_0 {X : Xt} {n : Nat} {h : HP} {a0 : Nat} {fs1 : List Value} {iv2 : Int} {iv5 : Int} {q6 : Nat} {len7 : Nat} {f7 : Nat → Int} {q10 : Nat} {fs11 : List Value} {iv13 : Int} {iv14 : Int} {iv16 : Int} (hc : Cx X cX5_endsPart RX5 1 1 24) {K : KT} (hr : CxR X (some .boolean) K) (e1 : At h n a0 (.inl (5, fs1))) (z1 : fs1.length = 9) (v1_3 : fs1[3]? = some (.int (i3 iv2))) (v1_5 : fs1[5]? = some (.int (i3 iv5))) (v1_4 : fs1[4]? = some (.ref q6)) (e7 : At h n q6 (ai len7 f7)) (v1_1 : fs1[1]? = some (.ref q10)) (e11 : At h n q10 (.inl (2, fs11))) (z11 : fs11.length = 5) (v1_6 : fs1[6]? = some (.int (i3 iv13))) (v1_7 : fs1[7]? = some (.int (i3 iv14))) (v1_8 : fs1[8]? = some (.int (i3 iv16)))
    (P : (R3 iv2) ∧ (¬ iv2 = (-1) → (R3 iv2) ∧ (¬ iv2 = 1 → (R3 iv5) ∧ (R3 (len7 : Int)) ∧ ((len7 : Int) ≤ iv5 → (Ix 0 len7) ∧ (Ix 1 len7) ∧ (Ix 2 len7) ∧ spec_X2_add [.ref q10, .int (i3 iv2), .int (i3 (f7 (0 : Int).toNat)), .int (i3 (f7 (1 : Int).toNat)), .int (i3 (f7 (2 : Int).toNat))] n h (kc X 0 0 101 [(0, .ref a0)] [] n)) ∧ (¬ (len7 : Int) ≤ iv5 → K (.inl (some (.int (i3 0)))) n h)) ∧ (iv2 = 1 → (R3 iv5) ∧ (¬ iv5 = 0 → (R3 iv14) ∧ (iv14 = 0 → spec_X2_add [.ref q10, .int (i3 1), .int (i3 iv13), .int (i3 (-1)), .int (i3 iv16)] n h (kc X 0 0 56 [(0, .ref a0)] [] n)) ∧ (¬ iv14 = 0 → spec_X2_add [.ref q10, .int (i3 1), .int (i3 iv13), .int (i3 (-1)), .int (i3 (-iv16))] n h (kc X 0 0 56 [(0, .ref a0)] [] n))) ∧ (iv5 = 0 → K (.inl (some (.int (i3 0)))) n h))) ∧ (iv2 = (-1) → K (.inl (some (.int (i3 0)))) n h)) :
    Ok X 0 0 0 [(0, .ref a0)] [] n h := by
  refine ok_aload_n (pc := 0) hc dX5_endsPart_0 rfl 0 rfl ?_
  refine ok_get (pc := 1) hc fl_X5_50 dX5_endsPart_1 e1.1 e1.2 v1_3 ?_
  refine ok_iconst (pc := 4) hc (v := i3 (-1)) dX5_endsPart_4 (by decide) ?_
  obtain ⟨r3, P⟩ := P
  refine zk_icmp_ne (pc := 5) (tgt := 10) hc dX5_endsPart_5 (by decide) r3 ⟨by decide, by decide⟩ (fun c => ?_) (fun c => ?_)
  · have P := P.1 c
    refine ok_aload_n (pc := 10) hc dX5_endsPart_10 rfl 0 rfl ?_
    refine ok_get (pc := 11) hc fl_X5_50 dX5_endsPart_11 e1.1 e1.2 v1_3 ?_
    refine ok_iconst (pc := 14) hc (v := i3 1) dX5_endsPart_14 (by decide) ?_
    obtain ⟨r4, P⟩ := P
    refine zk_icmp_ne (pc := 15) (tgt := 61) hc dX5_endsPart_15 (by decide) r4 ⟨by decide, by decide⟩ (fun c => ?_) (fun c => ?_)
    · have P := P.1 c
      refine ok_aload_n (pc := 61) hc dX5_endsPart_61 rfl 0 rfl ?_
      refine ok_get (pc := 62) hc fl_X5_53 dX5_endsPart_62 e1.1 e1.2 v1_5 ?_
      refine ok_aload_n (pc := 65) hc dX5_endsPart_65 rfl 0 rfl ?_
      refine ok_get (pc := 66) hc fl_X5_24 dX5_endsPart_66 e1.1 e1.2 v1_4 ?_
      refine ok_alen (pc := 69) hc (v := i3 (len7 : Nat)) dX5_endsPart_69 e7.1 e7.2 (i3_nI _).symm ?_
      obtain ⟨r8, P⟩ := P
      obtain ⟨r9, P⟩ := P
      refine zk_icmp_ge (pc := 70) (tgt := 75) hc dX5_endsPart_70 (by decide) r8 r9 (fun c => ?_) (fun c => ?_)
      · have P := P.1 c
        refine ok_aload_n (pc := 75) hc dX5_endsPart_75 rfl 0 rfl ?_
        refine ok_get (pc := 76) hc fl_X5_20 dX5_endsPart_76 e1.1 e1.2 v1_1 ?_
        refine ok_aload_n (pc := 79) hc dX5_endsPart_79 rfl 0 rfl ?_
        refine ok_get (pc := 80) hc fl_X5_50 dX5_endsPart_80 e1.1 e1.2 v1_3 ?_
        refine ok_aload_n (pc := 83) hc dX5_endsPart_83 rfl 0 rfl ?_
        refine ok_get (pc := 84) hc fl_X5_24 dX5_endsPart_84 e1.1 e1.2 v1_4 ?_
        refine ok_iconst (pc := 87) hc (v := i3 0) dX5_endsPart_87 (by decide) ?_
        obtain ⟨r, P⟩ := P
        refine zk_iald (pc := 88) hc dX5_endsPart_88 e7.1 e7.2 r ?_
        refine ok_aload_n (pc := 89) hc dX5_endsPart_89 rfl 0 rfl ?_
        refine ok_get (pc := 90) hc fl_X5_24 dX5_endsPart_90 e1.1 e1.2 v1_4 ?_
        refine ok_iconst (pc := 93) hc (v := i3 1) dX5_endsPart_93 (by decide) ?_
        obtain ⟨r, P⟩ := P
        refine zk_iald (pc := 94) hc dX5_endsPart_94 e7.1 e7.2 r ?_
        refine ok_aload_n (pc := 95) hc dX5_endsPart_95 rfl 0 rfl ?_
        refine ok_get (pc := 96) hc fl_X5_24 dX5_endsPart_96 e1.1 e1.2 v1_4 ?_
        refine ok_iconst (pc := 99) hc (v := i3 2) dX5_endsPart_99 (by decide) ?_
        obtain ⟨r, P⟩ := P
        refine zk_iald (pc := 100) hc dX5_endsPart_100 e7.1 e7.2 r ?_
        exact ok_callV (pc := 101) (a := q10) (cb := 0) (sb := 0) (st := []) hc [.int (i3 iv2), .int (i3 (f7 (0 : Int).toNat)), .int (i3 (f7 (1 : Int).toNat)), .int (i3 (f7 (2 : Int).toNat))] cv_X5_85 sp_X2_add (by decide) dX5_endsPart_101 rfl e11.1 e11.2 rfl rfl rfl (Nat.le_of_ble_eq_true rfl) P
      · have P := P.2 c
        refine ok_iconst (pc := 73) hc (v := i3 0) dX5_endsPart_73 (by decide) ?_
        exact ok_zret (st := []) (pc := 74) hc (nar_z (by decide)) hr dX5_endsPart_74 P
    · have P := P.2 c
      refine ok_aload_n (pc := 18) hc dX5_endsPart_18 rfl 0 rfl ?_
      refine ok_get (pc := 19) hc fl_X5_53 dX5_endsPart_19 e1.1 e1.2 v1_5 ?_
      obtain ⟨r12, P⟩ := P
      refine zk_if_ne (pc := 22) (tgt := 27) hc dX5_endsPart_22 (by decide) r12 (fun c => ?_) (fun c => ?_)
      · have P := P.1 c
        refine ok_aload_n (pc := 27) hc dX5_endsPart_27 rfl 0 rfl ?_
        refine ok_get (pc := 28) hc fl_X5_20 dX5_endsPart_28 e1.1 e1.2 v1_1 ?_
        refine ok_iconst (pc := 31) hc (v := i3 1) dX5_endsPart_31 (by decide) ?_
        refine ok_aload_n (pc := 32) hc dX5_endsPart_32 rfl 0 rfl ?_
        refine ok_get (pc := 33) hc fl_X5_56 dX5_endsPart_33 e1.1 e1.2 v1_6 ?_
        refine ok_iconst (pc := 36) hc (v := i3 (-1)) dX5_endsPart_36 (by decide) ?_
        refine ok_aload_n (pc := 37) hc dX5_endsPart_37 rfl 0 rfl ?_
        refine ok_get (pc := 38) hc fl_X5_59 dX5_endsPart_38 e1.1 e1.2 v1_7 ?_
        obtain ⟨r15, P⟩ := P
        refine zk_if_eq (pc := 41) (tgt := 52) hc dX5_endsPart_41 (by decide) r15 (fun c => ?_) (fun c => ?_)
        · have P := P.1 c
          refine ok_aload_n (pc := 52) hc dX5_endsPart_52 rfl 0 rfl ?_
          refine ok_get (pc := 53) hc fl_X5_63 dX5_endsPart_53 e1.1 e1.2 v1_8 ?_
          exact ok_callV (pc := 56) (a := q10) (cb := 0) (sb := 0) (st := []) hc [.int (i3 1), .int (i3 iv13), .int (i3 (-1)), .int (i3 iv16)] cv_X5_85 sp_X2_add (by decide) dX5_endsPart_56 rfl e11.1 e11.2 rfl rfl rfl (Nat.le_of_ble_eq_true rfl) P
        · have P := P.2 c
          refine ok_aload_n (pc := 44) hc dX5_endsPart_44 rfl 0 rfl ?_
          refine ok_get (pc := 45) hc fl_X5_63 dX5_endsPart_45 e1.1 e1.2 v1_8 ?_
          refine zk_ineg (pc := 48) hc dX5_endsPart_48 ?_
          refine ok_goto (pc := 49) (tgt := 56) hc dX5_endsPart_49 (by decide) ?_
          exact ok_callV (pc := 56) (a := q10) (cb := 0) (sb := 0) (st := []) hc [.int (i3 1), .int (i3 iv13), .int (i3 (-1)), .int (i3 (-iv16))] cv_X5_85 sp_X2_add (by decide) dX5_endsPart_56 rfl e11.1 e11.2 rfl rfl rfl (Nat.le_of_ble_eq_true rfl) P
      · have P := P.2 c
        refine ok_iconst (pc := 25) hc (v := i3 0) dX5_endsPart_25 (by decide) ?_
        exact ok_zret (st := []) (pc := 26) hc (nar_z (by decide)) hr dX5_endsPart_26 P
  · have P := P.2 c
    refine ok_iconst (pc := 8) hc (v := i3 0) dX5_endsPart_8 (by decide) ?_
    exact ok_zret (st := []) (pc := 9) hc (nar_z (by decide)) hr dX5_endsPart_9 P

set_option maxHeartbeats 4000000 in
set_option maxRecDepth 100000 in
theorem sX5_endsPart_59 {X : Xt} {n : Nat} {h : HP} {a0 : Nat} (hc : Cx X cX5_endsPart RX5 1 1 24) {K : KT} (hr : CxR X (some .boolean) K) 
    (P : K (.inl (some (.int (i3 1)))) n h) :
    Ok X 0 0 59 [(0, .ref a0)] [] n h := by
  refine ok_iconst (pc := 59) hc (v := i3 1) dX5_endsPart_59 (by decide) ?_
  exact ok_zret (st := []) (pc := 60) hc (nar_z (by decide)) hr dX5_endsPart_60 P

set_option maxHeartbeats 4000000 in
set_option maxRecDepth 100000 in
theorem sX5_endsPart_104 {X : Xt} {n : Nat} {h : HP} {a0 : Nat} (hc : Cx X cX5_endsPart RX5 1 1 24) {K : KT} (hr : CxR X (some .boolean) K) 
    (P : K (.inl (some (.int (i3 1)))) n h) :
    Ok X 0 0 104 [(0, .ref a0)] [] n h := by
  refine ok_iconst (pc := 104) hc (v := i3 1) dX5_endsPart_104 (by decide) ?_
  exact ok_zret (st := []) (pc := 105) hc (nar_z (by decide)) hr dX5_endsPart_105 P

def spec_X5_endsPart (args : List Value) (n : Nat) (h : HP) (K : KT) : Prop := ∃ (i : Nat) (T : Nat → Int) (len : Int) (q : RdQ), args = [.ref 57] ∧ RdC h n T len q ∧ RI q i ∧ i ≤ 60 ∧ (match endP q with
  | some ps => ∀ h', RdC h' n T len (q.1, q.2.1, q.2.2.1, q.2.2.2.1, q.2.2.2.2.1, q.2.2.2.2.2.1, ps) → Fr h h' 57 64 → K (.inl (some (.int (i3 1)))) n h'
  | none => K (.inl (some (.int (i3 0)))) n h)
theorem sp_X5_endsPart : Sp yX5_endsPart cX5_endsPart 1 (some .boolean) 1 24 0 0 spec_X5_endsPart := by
  refine sp_intro (by decide) (by rintro args n h K ⟨i, T, len, q, rfl, -⟩; exact Nat.le_of_ble_eq_true rfl) ?_
  rintro X args n h K hc hr ⟨i, T, len, q, rfl, hq, hI, hi, kk⟩
  have hk := hI.k hi
  have hq' := hq
  obtain ⟨g1, g2, g3, g4⟩ := hq
  -- the end of a part that may be
  have fin : ∀ p : Part, endP q = some (q.2.2.2.2.2.2 ++ [p]) → ∀ h', PtA h' n 59 15 (q.2.2.2.2.2.2 ++ [p]) → Fr h h' 59 (59 + 4) → K (.inl (some (.int (i3 1)))) n h' := fun p e h' q1 q2 => by
    rw [e] at kk
    exact kk h' ⟨g1.fr q2 (by omega), g2.fr q2 (by omega), g3.fr q2 (by omega), q1⟩ (q2.sub (by omega) (by omega))
  have no : endP q = none → K (.inl (some (.int (i3 0)))) n h := fun e => by
    rw [e] at kk
    exact kk
  have src : q.1 = 1 → q.2.1 ≠ 0 → endP q = some (q.2.2.2.2.2.2 ++ [(1, q.2.2.1, -1, if q.2.2.2.1 = 0 then q.2.2.2.2.1 else -q.2.2.2.2.1)]) := fun a b => by
    unfold endP
    rw [if_neg (by omega), if_pos a, if_neg b]
  have oth : q.1 ≠ -1 → q.1 ≠ 1 → 3 ≤ q.2.1 → endP q = some (q.2.2.2.2.2.2 ++ [(q.1, q.2.2.2.2.2.1 0, q.2.2.2.2.2.1 1, q.2.2.2.2.2.1 2)]) := fun a b d => by
    unfold endP
    rw [if_neg a, if_neg b, if_neg (by omega)]
  have rng : q.1 = 1 → R3 q.2.2.2.1 := fun a => R3_s (by unfold RI at hI; omega)
  refine sX5_endsPart_0 hc hr g1 rfl rfl rfl rfl g3 rfl g4.obj rfl rfl rfl rfl ⟨R3_s (by omega), fun a => ⟨R3_s (by omega), fun b => ⟨R3_s (by omega), ⟨by decide, by decide⟩, fun d => ⟨⟨by decide, by decide, by decide⟩, ⟨by decide, by decide, by decide⟩, ⟨by decide, by decide, by decide⟩, ?_⟩, fun d => ?_⟩, fun b => ⟨R3_s (by omega), fun d => ⟨rng b, fun e => ?_, fun e => ?_⟩, fun d => ?_⟩⟩, fun a => ?_⟩
  · have e := oth a b d
    obtain ⟨p, e1, e2, e3⟩ := endP_ok hI hi e
    have := List.append_cancel_left e1
    cases this
    exact ⟨59, 15, q.2.2.2.2.2.2, (q.1, q.2.2.2.2.2.1 0, q.2.2.2.2.2.1 1, q.2.2.2.2.2.1 2), rfl, g4, by omega, e2, fun h' q1 q2 => ⟨rfl, sX5_endsPart_104 hc hr (fin _ e h' q1 q2)⟩⟩
  · refine no ?_
    unfold endP
    rw [if_neg a, if_neg b, if_pos (by omega)]
  · have e' := src b d
    rw [if_pos e] at e'
    obtain ⟨p, e1, e2, e3⟩ := endP_ok hI hi e'
    have := List.append_cancel_left e1
    cases this
    exact ⟨59, 15, q.2.2.2.2.2.2, (1, q.2.2.1, -1, q.2.2.2.2.1), rfl, g4, by omega, e2, fun h' q1 q2 => ⟨rfl, sX5_endsPart_59 hc hr (fin _ e' h' q1 q2)⟩⟩
  · have e' := src b d
    rw [if_neg e] at e'
    obtain ⟨p, e1, e2, e3⟩ := endP_ok hI hi e'
    have := List.append_cancel_left e1
    cases this
    exact ⟨59, 15, q.2.2.2.2.2.2, (1, q.2.2.1, -1, -q.2.2.2.2.1), rfl, g4, by omega, e2, fun h' q1 q2 => ⟨rfl, sX5_endsPart_59 hc hr (fin _ e' h' q1 q2)⟩⟩
  · refine no ?_
    unfold endP
    rw [if_neg a, if_pos b, if_pos d]
  · refine no ?_
    unfold endP
    rw [if_pos a]
set_option maxHeartbeats 4000000 in
set_option maxRecDepth 100000 in
theorem sX5_accepts_0 {X : Xt} {n : Nat} {h : HP} {a0 : Nat} {x1 : Int} {fs1 : List Value} {iv2 : Int} (hc : Cx X cX5_accepts RX5 3 2 44) {K : KT} (hr : CxR X (some .boolean) K) (e1 : At h n a0 (.inl (5, fs1))) (z1 : fs1.length = 9) (v1_3 : fs1[3]? = some (.int (i3 iv2)))
    (P : (R3 iv2) ∧ (¬ iv2 = (-1) → (R3 x1) ∧ (¬ x1 = 59 → (R3 iv2) ∧ (¬ iv2 = 1 → spec_X5_acceptsDigit [.ref a0, .int (i3 x1)] n h (kc X 0 0 50 [(0, .ref a0), (1, .int (i3 x1))] [] n)) ∧ (iv2 = 1 → spec_X5_acceptsInSource [.ref a0, .int (i3 x1)] n h (kc X 0 0 42 [(0, .ref a0), (1, .int (i3 x1))] [] n))) ∧ (x1 = 59 → spec_X5_endsPart [.ref a0] n h (kc X 0 0 21 [(0, .ref a0), (1, .int (i3 x1))] [] n))) ∧ (iv2 = (-1) → spec_X5_acceptsLetter [.ref a0, .int (i3 x1)] n h (kc X 0 0 10 [(0, .ref a0), (1, .int (i3 x1))] [] n))) :
    Ok X 0 0 0 [(0, .ref a0), (1, .int (i3 x1))] [] n h := by
  refine ok_aload_n (pc := 0) hc dX5_accepts_0 rfl 0 rfl ?_
  refine ok_get (pc := 1) hc fl_X5_50 dX5_accepts_1 e1.1 e1.2 v1_3 ?_
  refine ok_iconst (pc := 4) hc (v := i3 (-1)) dX5_accepts_4 (by decide) ?_
  obtain ⟨r3, P⟩ := P
  refine zk_icmp_ne (pc := 5) (tgt := 14) hc dX5_accepts_5 (by decide) r3 ⟨by decide, by decide⟩ (fun c => ?_) (fun c => ?_)
  · have P := P.1 c
    refine ok_iload_n (pc := 14) hc dX5_accepts_14 rfl 1 rfl ?_
    refine ok_bipush (pc := 15) hc (v := i3 59) dX5_accepts_15 (by decide) ?_
    obtain ⟨r4, P⟩ := P
    refine zk_icmp_ne (pc := 17) (tgt := 32) hc dX5_accepts_17 (by decide) r4 ⟨by decide, by decide⟩ (fun c => ?_) (fun c => ?_)
    · have P := P.1 c
      refine ok_aload_n (pc := 32) hc dX5_accepts_32 rfl 0 rfl ?_
      refine ok_get (pc := 33) hc fl_X5_50 dX5_accepts_33 e1.1 e1.2 v1_3 ?_
      refine ok_iconst (pc := 36) hc (v := i3 1) dX5_accepts_36 (by decide) ?_
      obtain ⟨r5, P⟩ := P
      refine zk_icmp_ne (pc := 37) (tgt := 48) hc dX5_accepts_37 (by decide) r5 ⟨by decide, by decide⟩ (fun c => ?_) (fun c => ?_)
      · have P := P.1 c
        refine ok_aload_n (pc := 48) hc dX5_accepts_48 rfl 0 rfl ?_
        refine ok_iload_n (pc := 49) hc dX5_accepts_49 rfl 1 rfl ?_
        exact ok_callV (pc := 50) (a := a0) (cb := 0) (sb := 0) (st := []) hc [.int (i3 x1)] cv_X5_72 sp_X5_acceptsDigit (by decide) dX5_accepts_50 rfl e1.1 e1.2 rfl rfl rfl (Nat.le_of_ble_eq_true rfl) P
      · have P := P.2 c
        refine ok_aload_n (pc := 40) hc dX5_accepts_40 rfl 0 rfl ?_
        refine ok_iload_n (pc := 41) hc dX5_accepts_41 rfl 1 rfl ?_
        exact ok_callV (pc := 42) (a := a0) (cb := 0) (sb := 0) (st := []) hc [.int (i3 x1)] cv_X5_69 sp_X5_acceptsInSource (by decide) dX5_accepts_42 rfl e1.1 e1.2 rfl rfl rfl (Nat.le_of_ble_eq_true rfl) P
    · have P := P.2 c
      refine ok_aload_n (pc := 20) hc dX5_accepts_20 rfl 0 rfl ?_
      exact ok_callV (pc := 21) (a := a0) (cb := 0) (sb := 0) (st := []) hc [] cv_X5_46 sp_X5_endsPart (by decide) dX5_accepts_21 rfl e1.1 e1.2 rfl rfl rfl (Nat.le_of_ble_eq_true rfl) P
  · have P := P.2 c
    refine ok_aload_n (pc := 8) hc dX5_accepts_8 rfl 0 rfl ?_
    refine ok_iload_n (pc := 9) hc dX5_accepts_9 rfl 1 rfl ?_
    exact ok_callV (pc := 10) (a := a0) (cb := 0) (sb := 0) (st := []) hc [.int (i3 x1)] cv_X5_66 sp_X5_acceptsLetter (by decide) dX5_accepts_10 rfl e1.1 e1.2 rfl rfl rfl (Nat.le_of_ble_eq_true rfl) P

set_option maxHeartbeats 4000000 in
set_option maxRecDepth 100000 in
theorem sX5_accepts_13 {X : Xt} {n : Nat} {h : HP} {a0 : Nat} {x1 : Int} {t0 : Int} (hc : Cx X cX5_accepts RX5 3 2 44) {K : KT} (hr : CxR X (some .boolean) K) 
    (P : (t0 = 0 ∨ t0 = 1) ∧ K (.inl (some (.int (i3 t0)))) n h) :
    Ok X 0 0 13 [(0, .ref a0), (1, .int (i3 x1))] [.int (i3 t0)] n h := by
  obtain ⟨r, P⟩ := P
  exact ok_zret (st := []) (pc := 13) hc (nar_z r) hr dX5_accepts_13 P

set_option maxHeartbeats 4000000 in
set_option maxRecDepth 100000 in
theorem sX5_accepts_24 {X : Xt} {n : Nat} {h : HP} {a0 : Nat} {x1 : Int} {t0 : Int} {fs1 : List Value} (hc : Cx X cX5_accepts RX5 3 2 44) {K : KT} (hr : CxR X (some .boolean) K) (e1 : At h n a0 (.inl (5, fs1))) (z1 : fs1.length = 9)
    (P : spec_X5_startPart [.ref a0, .int (i3 (-1))] n h (kc X 0 0 27 [(0, .ref a0), (1, .int (i3 x1)), (2, .int (i3 t0))] [] n)) :
    Ok X 0 0 24 [(0, .ref a0), (1, .int (i3 x1))] [.int (i3 t0)] n h := by
  refine ok_istore_n (pc := 24) hc (lv' := [(2, .int (i3 t0)), (0, .ref a0), (1, .int (i3 x1))]) dX5_accepts_24 rfl (by decide) rfl ?_
  refine ok_aload_n (pc := 25) hc dX5_accepts_25 rfl 1 rfl ?_
  refine ok_iconst (pc := 26) hc (v := i3 (-1)) dX5_accepts_26 (by decide) ?_
  refine ok_lv [1, 2, 0] rfl ?_
  exact ok_callV (pc := 27) (a := a0) (cb := 0) (sb := 0) (st := []) hc [.int (i3 (-1))] cv_X5_32 sp_X5_startPart (by decide) dX5_accepts_27 rfl e1.1 e1.2 rfl rfl rfl (Nat.le_of_ble_eq_true rfl) P

set_option maxHeartbeats 4000000 in
set_option maxRecDepth 100000 in
theorem sX5_accepts_30 {X : Xt} {n : Nat} {h : HP} {a0 : Nat} {x1 : Int} {x2 : Int} (hc : Cx X cX5_accepts RX5 3 2 44) {K : KT} (hr : CxR X (some .boolean) K) 
    (P : (x2 = 0 ∨ x2 = 1) ∧ K (.inl (some (.int (i3 x2)))) n h) :
    Ok X 0 0 30 [(0, .ref a0), (1, .int (i3 x1)), (2, .int (i3 x2))] [] n h := by
  refine ok_iload_n (pc := 30) hc dX5_accepts_30 rfl 2 rfl ?_
  obtain ⟨r, P⟩ := P
  exact ok_zret (st := []) (pc := 31) hc (nar_z r) hr dX5_accepts_31 P

set_option maxHeartbeats 4000000 in
set_option maxRecDepth 100000 in
theorem sX5_accepts_45 {X : Xt} {n : Nat} {h : HP} {a0 : Nat} {x1 : Int} {t0 : Int} (hc : Cx X cX5_accepts RX5 3 2 44) {K : KT} (hr : CxR X (some .boolean) K) 
    (P : (t0 = 0 ∨ t0 = 1) ∧ K (.inl (some (.int (i3 t0)))) n h) :
    Ok X 0 0 45 [(0, .ref a0), (1, .int (i3 x1))] [.int (i3 t0)] n h := by
  refine ok_goto (pc := 45) (tgt := 53) hc dX5_accepts_45 (by decide) ?_
  obtain ⟨r, P⟩ := P
  exact ok_zret (st := []) (pc := 53) hc (nar_z r) hr dX5_accepts_53 P

set_option maxHeartbeats 4000000 in
set_option maxRecDepth 100000 in
theorem sX5_accepts_53 {X : Xt} {n : Nat} {h : HP} {a0 : Nat} {x1 : Int} {t0 : Int} (hc : Cx X cX5_accepts RX5 3 2 44) {K : KT} (hr : CxR X (some .boolean) K) 
    (P : (t0 = 0 ∨ t0 = 1) ∧ K (.inl (some (.int (i3 t0)))) n h) :
    Ok X 0 0 53 [(0, .ref a0), (1, .int (i3 x1))] [.int (i3 t0)] n h := by
  obtain ⟨r, P⟩ := P
  exact ok_zret (st := []) (pc := 53) hc (nar_z r) hr dX5_accepts_53 P

def spec_X5_accepts (args : List Value) (n : Nat) (h : HP) (K : KT) : Prop := ∃ (i : Nat) (c : Int) (T : Nat → Int) (len : Int) (q : RdQ), args = [.ref 57, .int (i3 c)] ∧ R3 c ∧ RdC h n T len q ∧ RI q i ∧ i < 60 ∧ ansR h n T len K (rstep q c)
theorem sp_X5_accepts : Sp yX5_accepts cX5_accepts 3 (some .boolean) 2 44 0 0 spec_X5_accepts := by
  refine sp_intro (by decide) (by rintro args n h K ⟨i, c, T, len, q, rfl, -⟩; exact Nat.le_of_ble_eq_true rfl) ?_
  rintro X args n h K hc hr ⟨i, c, T, len, q, rfl, hcc, hq, hI, hi, kk⟩
  have hk := hI.k (by omega)
  unfold rstep at kk
  refine sX5_accepts_0 hc hr hq.1 rfl rfl ⟨R3_s (by omega), fun a => ⟨hcc, fun b => ⟨R3_s (by omega), fun d => ?_, fun d => ?_⟩, fun b => ?_⟩, fun a => ?_⟩
  · rw [if_neg a, if_neg b, if_neg d] at kk
    have h3 : 0 ≤ q.2.1 ∧ q.2.1 ≤ 3 := by unfold RI at hI; omega
    refine ⟨c, T, len, q, rfl, hcc, hq, R3_s (by omega), h3, ?_⟩
    unfold ansR at kk ⊢
    cases hst : stepD q c with
    | some q' =>
      rw [hst] at kk
      exact fun h' q1 q2 => ⟨rfl, sX5_accepts_53 hc hr ⟨Or.inr rfl, kk h' q1 q2⟩⟩
    | none =>
      rw [hst] at kk
      exact fun h' q1 q2 => ⟨rfl, sX5_accepts_53 hc hr ⟨Or.inl rfl, kk h' q1 q2⟩⟩
  · rw [if_neg a, if_neg b, if_pos d] at kk
    have h3 : (0 ≤ q.2.1 ∧ q.2.1 ≤ 1000) ∧ (0 ≤ q.2.2.2.2.1 ∧ q.2.2.2.2.1 ≤ 1000) ∧ (-1 ≤ q.2.2.1 ∧ q.2.2.1 ≤ 6) ∧ (q.2.2.2.1 = 0 ∨ q.2.2.2.1 = 1) := by unfold RI at hI; omega
    refine ⟨c, T, len, q, rfl, hcc, hq, h3.1, h3.2.1, h3.2.2.1, h3.2.2.2, ?_⟩
    unfold ansR at kk ⊢
    cases hst : stepS q c with
    | some q' =>
      rw [hst] at kk
      exact fun h' q1 q2 => ⟨rfl, sX5_accepts_45 hc hr ⟨Or.inr rfl, kk h' q1 q2⟩⟩
    | none =>
      rw [hst] at kk
      exact fun h' q1 q2 => ⟨rfl, sX5_accepts_45 hc hr ⟨Or.inl rfl, kk h' q1 q2⟩⟩
  · rw [if_neg a, if_pos b] at kk
    refine ⟨i, T, len, q, rfl, hq, hI, by omega, ?_⟩
    cases hst : endP q with
    | some ps =>
      rw [hst, Option.map_some] at kk
      refine fun h' q1 q2 => ⟨rfl, sX5_accepts_24 hc hr q1.1 rfl ⟨-1, T, len, _, rfl, q1, fun h2 q3 q4 => ⟨rfl, sX5_accepts_30 hc hr ⟨Or.inr rfl, ?_⟩⟩⟩⟩
      exact kk h2 q3 (q2.tr (q4.sub (by omega) (by omega)))
    | none =>
      rw [hst, Option.map_none] at kk
      refine ⟨rfl, sX5_accepts_24 hc hr hq.1 rfl ⟨-1, T, len, _, rfl, hq, fun h2 q3 q4 => ⟨rfl, sX5_accepts_30 hc hr ⟨Or.inl rfl, ?_⟩⟩⟩⟩
      exact kk h2 q3.x (q4.sub (by omega) (by omega))
  · rw [if_pos a] at kk
    refine ⟨c, T, len, q, rfl, hcc, hq, fun h' q1 q2 => ⟨rfl, ?_⟩⟩
    by_cases e : kl c = -1
    · rw [if_pos e] at kk ⊢
      exact sX5_accepts_13 hc hr ⟨Or.inl rfl, kk h' q1.x (q2.sub (by omega) (by omega))⟩
    · rw [if_neg e] at kk ⊢
      exact sX5_accepts_13 hc hr ⟨Or.inr rfl, kk h' q1 (q2.sub (by omega) (by omega))⟩
/-- the run over the characters: how many are accepted, and what has been read if all are -/
def rrun : RdQ → List Int → Nat × Option RdQ
  | q, [] => (0, some q)
  | q, c :: cs => match rstep q c with
    | none => (0, none)
    | some q' => ((rrun q' cs).1 + 1, (rrun q' cs).2)
/-- the buffer's text -/
def TxB (T : Nat → Int) (B : List Int) : Prop := B.length ≤ 60 ∧ ∀ j, j < B.length → B[j]? = some (T j) ∧ 32 ≤ T j ∧ T j ≤ 126
set_option maxHeartbeats 4000000 in
set_option maxRecDepth 100000 in
theorem sX5_read_0 {X : Xt} {n : Nat} {h : HP} {a0 : Nat} {fs1 : List Value} {q2 : Nat} {fs3 : List Value} (hc : Cx X cX5_read RX5 2 3 66) {K : KT} (hr : CxR X (some .int) K) (e1 : At h n a0 (.inl (5, fs1))) (z1 : fs1.length = 9) (v1_1 : fs1[1]? = some (.ref q2)) (e3 : At h n q2 (.inl (2, fs3))) (z3 : fs3.length = 5)
    (P : spec_X5_startPart [.ref a0, .int (i3 (-1))] n (va_up h q2 (.inl (2, (fs3.set 4 (.int (i3 0)))))) (kc X 0 0 10 [(0, .ref a0)] [] n)) :
    Ok X 0 0 0 [(0, .ref a0)] [] n h := by
  refine ok_aload_n (pc := 0) hc dX5_read_0 rfl 0 rfl ?_
  refine ok_get (pc := 1) hc fl_X5_20 dX5_read_1 e1.1 e1.2 v1_1 ?_
  refine ok_iconst (pc := 4) hc (v := i3 0) dX5_read_4 (by decide) ?_
  refine ok_put (pc := 5) hc fl_X5_28 dX5_read_5 e3.1 e3.2 (by simp [List.length_set, z3]) (fun _ => rfl) (fun _ => rfl) ?_
  refine ok_aload_n (pc := 8) hc dX5_read_8 rfl 0 rfl ?_
  refine ok_iconst (pc := 9) hc (v := i3 (-1)) dX5_read_9 (by decide) ?_
  exact ok_callV (pc := 10) (a := a0) (cb := 0) (sb := 0) (st := []) hc [.int (i3 (-1))] cv_X5_32 sp_X5_startPart (by decide) dX5_read_10 rfl e1.1 ((up_ne (ne_oo e1.2 e3.2 (by decide))).trans e1.2) rfl rfl rfl (Nat.le_of_ble_eq_true rfl) P

set_option maxHeartbeats 4000000 in
set_option maxRecDepth 100000 in
theorem sX5_read_13 {X : Xt} {n : Nat} {h : HP} {a0 : Nat} (hc : Cx X cX5_read RX5 2 3 66) {K : KT} (hr : CxR X (some .int) K) 
    (P : Ok X 0 0 15 [(0, .ref a0), (1, .int (i3 0))] [] n h) :
    Ok X 0 0 13 [(0, .ref a0)] [] n h := by
  refine ok_iconst (pc := 13) hc (v := i3 0) dX5_read_13 (by decide) ?_
  refine ok_istore_n (pc := 14) hc (lv' := [(1, .int (i3 0)), (0, .ref a0)]) dX5_read_14 rfl (by decide) rfl ?_
  refine ok_lv [1, 0] rfl ?_
  exact P

set_option maxHeartbeats 4000000 in
set_option maxRecDepth 100000 in
theorem sX5_read_15 {X : Xt} {n : Nat} {h : HP} {a0 : Nat} {x1 : Int} {fs1 : List Value} {iv2 : Int} {q5 : Nat} {len6 : Nat} {f6 : Nat → Int} (hc : Cx X cX5_read RX5 2 3 66) {K : KT} (hr : CxR X (some .int) K) (e1 : At h n a0 (.inl (5, fs1))) (z1 : fs1.length = 9) (v1_2 : fs1[2]? = some (.int (i3 iv2))) (v1_0 : fs1[0]? = some (.ref q5)) (e6 : At h n q5 (ac len6 f6))
    (P : (R3 x1) ∧ (R3 iv2) ∧ (iv2 ≤ x1 → K (.inl (some (.int (i3 iv2)))) n h) ∧ (¬ iv2 ≤ x1 → (Ix x1 len6) ∧ spec_X5_accepts [.ref a0, .int (i3 (f6 (x1 : Int).toNat))] n h (kc X 0 0 30 [(0, .ref a0), (1, .int (i3 x1))] [] n))) :
    Ok X 0 0 15 [(0, .ref a0), (1, .int (i3 x1))] [] n h := by
  refine ok_iload_n (pc := 15) hc dX5_read_15 rfl 1 rfl ?_
  refine ok_aload_n (pc := 16) hc dX5_read_16 rfl 0 rfl ?_
  refine ok_get (pc := 17) hc fl_X5_35 dX5_read_17 e1.1 e1.2 v1_2 ?_
  obtain ⟨r3, P⟩ := P
  obtain ⟨r4, P⟩ := P
  refine zk_icmp_ge (pc := 20) (tgt := 44) hc dX5_read_20 (by decide) r3 r4 (fun c => ?_) (fun c => ?_)
  · have P := P.1 c
    refine ok_aload_n (pc := 44) hc dX5_read_44 rfl 0 rfl ?_
    refine ok_get (pc := 45) hc fl_X5_35 dX5_read_45 e1.1 e1.2 v1_2 ?_
    exact ok_iret (st := []) (pc := 48) hc hr dX5_read_48 P
  · have P := P.2 c
    refine ok_aload_n (pc := 23) hc dX5_read_23 rfl 0 rfl ?_
    refine ok_aload_n (pc := 24) hc dX5_read_24 rfl 0 rfl ?_
    refine ok_get (pc := 25) hc fl_X5_9 dX5_read_25 e1.1 e1.2 v1_0 ?_
    refine ok_iload_n (pc := 28) hc dX5_read_28 rfl 1 rfl ?_
    obtain ⟨r, P⟩ := P
    refine zk_cald (pc := 29) hc dX5_read_29 e6.1 e6.2 r ?_
    exact ok_callV (pc := 30) (a := a0) (cb := 0) (sb := 0) (st := []) hc [.int (i3 (f6 (x1 : Int).toNat))] cv_X5_38 sp_X5_accepts (by decide) dX5_read_30 rfl e1.1 e1.2 rfl rfl rfl (Nat.le_of_ble_eq_true rfl) P

set_option maxHeartbeats 4000000 in
set_option maxRecDepth 100000 in
theorem sX5_read_33 {X : Xt} {n : Nat} {h : HP} {a0 : Nat} {x1 : Int} {t0 : Int} (hc : Cx X cX5_read RX5 2 3 66) {K : KT} (hr : CxR X (some .int) K) 
    (P : (R3 t0) ∧ (¬ t0 = 0 → Ok X 0 0 15 [(0, .ref a0), (1, .int (i3 (x1 + 1)))] [] n h) ∧ (t0 = 0 → K (.inl (some (.int (i3 x1)))) n h)) :
    Ok X 0 0 33 [(0, .ref a0), (1, .int (i3 x1))] [.int (i3 t0)] n h := by
  obtain ⟨r1, P⟩ := P
  refine zk_if_ne (pc := 33) (tgt := 38) hc dX5_read_33 (by decide) r1 (fun c => ?_) (fun c => ?_)
  · have P := P.1 c
    refine zk_iinc (pc := 38) hc (q := 1) (x := x1) (lv' := [(1, .int (i3 (x1 + 1))), (0, .ref a0)]) dX5_read_38 rfl (by decide) rfl ?_
    refine ok_goto (pc := 41) (tgt := 15) hc dX5_read_41 (by decide) ?_
    refine ok_lv [1, 0] rfl ?_
    exact P
  · have P := P.2 c
    refine ok_iload_n (pc := 36) hc dX5_read_36 rfl 1 rfl ?_
    exact ok_iret (st := []) (pc := 37) hc hr dX5_read_37 P

def spec_X5_read (args : List Value) (n : Nat) (h : HP) (K : KT) : Prop := ∃ (T : Nat → Int) (B : List Int), args = [.ref 57] ∧ TxB T B ∧ RdX h n T B.length ∧ ∀ (h' : HP) (D : Nat → Int), RdX h' n T B.length → Fr h h' 57 64 → (∀ q', (rrun (q0R D [] (-1)) B).2 = some q' → RdC h' n T B.length q' ∧ RI q' B.length) → K (.inl (some (.int (i3 (rrun (q0R D [] (-1)) B).1)))) n h'
theorem sp_X5_read : Sp yX5_read cX5_read 2 (some .int) 3 66 0 0 spec_X5_read := by
  refine sp_intro (by decide) (by rintro args n h K ⟨T, B, rfl, -⟩; exact Nat.le_of_ble_eq_true rfl) ?_
  rintro X args n h K hc hr ⟨T, B, rfl, ⟨hB, hT⟩, ⟨q, hq⟩, kk⟩
  have L : ∀ (j i : Nat) (q : RdQ) (h1 : HP), i + j = B.length → RdC h1 n T B.length q → RI q i → Fr h h1 57 64 → (∀ h', RdX h' n T B.length → Fr h h' 57 64 → (∀ q', (rrun q (B.drop i)).2 = some q' → RdC h' n T B.length q' ∧ RI q' B.length) → K (.inl (some (.int (i3 ((i : Int) + (rrun q (B.drop i)).1))))) n h') → Ok X 0 0 15 [(0, .ref 57), (1, .int (i3 i))] [] n h1 := by
    intro j
    induction j with
    | zero =>
      intro i q h1 hi hq hI hF kk
      have : i = B.length := by omega
      subst this
      refine sX5_read_15 hc hr hq.1 rfl rfl rfl hq.2.1 ⟨R3_s (by omega), R3_s (by omega), fun _ => ?_, fun c => absurd (Int.le_refl _) c⟩
      rw [List.drop_length] at kk
      have kk := kk h1 hq.x hF (fun q' e => by
        cases e
        exact ⟨hq, hI⟩)
      rw [show ((B.length : Int) + ((rrun q []).1 : Nat)) = (B.length : Int) by show (B.length : Int) + ((0 : Nat) : Int) = _; omega] at kk
      exact kk
    | succ j ih =>
      intro i q h1 hi hq hI hF kk
      have hp := hT i (by omega)
      rw [drop_s hp.1] at kk
      have rr : R3 (T i) := R3_s (by omega)
      refine sX5_read_15 hc hr hq.1 rfl rfl rfl hq.2.1 ⟨R3_s (by omega), R3_s (by omega), fun c => absurd c (by omega), fun _ => ⟨⟨by omega, by omega, by omega⟩, i, T i, T, B.length, q, by rw [Int.toNat_natCast], rr, hq, hI, by omega, ?_⟩⟩
      unfold ansR
      cases hst : rstep q (T i) with
      | some q' =>
        refine fun h' q1 q2 => ⟨rfl, sX5_read_33 hc hr ⟨by exact ⟨by decide, by decide⟩, fun _ => ?_, fun z => absurd z (by decide)⟩⟩
        refine ih (i + 1) q' h' (by omega) q1 (hI.step (by omega) hst) (hF.tr q2) (fun h2 z1 z2 z3 => ?_)
        unfold rrun at kk
        rw [hst] at kk
        have kk := kk h2 z1 z2 z3
        rw [show ((i + 1 : Nat) : Int) + ((rrun q' (B.drop (i + 1))).1 : Nat) = (i : Int) + ((rrun q' (B.drop (i + 1))).1 + 1 : Nat) by omega]
        exact kk
      | none =>
        refine fun h' q1 q2 => ⟨rfl, sX5_read_33 hc hr ⟨by exact ⟨by decide, by decide⟩, fun z => absurd rfl z, fun _ => ?_⟩⟩
        unfold rrun at kk
        rw [hst] at kk
        have kk := kk h' q1 (hF.tr q2) (fun q' e => by cases e)
        rw [show (i : Int) + ((0 : Nat) : Int) = (i : Int) by omega] at kk
        exact kk
  refine sX5_read_0 hc hr hq.1 rfl rfl hq.2.2.2.obj rfl ⟨-1, T, B.length, (q.1, q.2.1, q.2.2.1, q.2.2.2.1, q.2.2.2.2.1, q.2.2.2.2.2.1, []), rfl, ⟨hq.1.up (by omega), hq.2.1.up (by omega), hq.2.2.1.up (by omega), hq.2.2.2.empty⟩, fun h' q1 q2 => ⟨rfl, ?_⟩⟩
  have hF : Fr h h' 57 64 := (Fr.tr (Fr.rf.up (by omega)) (q2.sub (by omega) (by omega)) : Fr h h' 57 64)
  refine sX5_read_13 hc hr (L B.length 0 _ h' (by omega) q1 (Or.inl ⟨rfl, by show 4 * ((0 : Nat) : Int) ≤ ((0 : Nat) : Int); decide⟩) hF (fun h2 z1 z2 z3 => ?_))
  rw [List.drop_zero] at z3 ⊢
  have kk := kk h2 q.2.2.2.2.2.1 z1 z2 z3
  rw [show ((0 : Nat) : Int) + ((rrun (q0R q.2.2.2.2.2.1 [] (-1)) B).1 : Nat) = ((rrun (q0R q.2.2.2.2.2.1 [] (-1)) B).1 : Nat) by omega]
  exact kk
