/-! part 82: the reference: copy, record; its whole state -/
theorem inZ_0 {x lo hi : Int} : inZ x lo hi = 0 ↔ ¬ (lo ≤ x ∧ x ≤ hi) := by
  unfold inZ
  split <;> simp_all
theorem inZ_1 {x lo hi : Int} : ¬ inZ x lo hi = 0 ↔ (lo ≤ x ∧ x ≤ hi) := by
  unfold inZ
  split <;> simp_all
theorem R3_inZ {x lo hi : Int} : R3 (inZ x lo hi) := by
  unfold inZ
  split <;> exact ⟨by decide, by decide⟩
def spec_X7_isPartB (args : List Value) (n : Nat) (h : HP) (K : KT) : Prop := ∃ (m : Nat) (Z : Nat → Int) (ps : List Part) (x : Int), args = [.ref m, .int (i3 x)] ∧ ZAt h n m Z ∧ ZPs Z ps ∧ R3 x ∧ K (.inl (some (.int (i3 (bz (decide (0 ≤ x ∧ x < ps.length))))))) n h
theorem sp_X7_isPartB : Sp yX7_isPart cX7_isPart 2 (some .boolean) 1 22 0 0 spec_X7_isPartB := by
  refine sp_intro (by decide) (by rintro args n h K ⟨m, Z, ps, x, rfl, -⟩; exact Nat.le_of_ble_eq_true rfl) ?_
  rintro X args n h K hc hr ⟨m, Z, ps, x, rfl, ⟨fs, z, h1, h2, h3, h4⟩, hP, hx, kk⟩
  have hl := hP.2.1
  have e48 : Z (48 : Int).toNat = ps.length := hP.1
  have e : inZ x 0 (Z (48 : Int).toNat - 1) = bz (decide (0 ≤ x ∧ x < ps.length)) := by
    rw [e48]
    unfold inZ bz
    by_cases c : 0 ≤ x ∧ x < ps.length
    · rw [if_pos (by omega), decide_eq_true c, if_pos rfl]
    · rw [if_neg (by omega), decide_eq_false c, if_neg (by decide)]
  refine sX7_isPart_0 hc hr h1 h2 h3 h4 ⟨⟨by decide, by decide, by decide⟩, ⟨hx, R3_0, R3_s (by omega)⟩, ?_⟩
  rw [e]
  exact ⟨by cases decide (0 ≤ x ∧ x < (ps.length : Int)) <;> simp [bz], kk⟩
def valB (p : Part) (v : Int) : Bool := if p.1 = 0 then decide (1 ≤ v ∧ v ≤ 4) else decide (-200 ≤ v ∧ v ≤ 200)
set_option maxHeartbeats 4000000 in
set_option maxRecDepth 100000 in
theorem sX7_isValue_0 {X : Xt} {n : Nat} {h : HP} {a0 : Nat} {x1 : Int} {x2 : Int} {fs1 : List Value} {q2 : Nat} {f3 : Nat → Int} (hc : Cx X cX7_isValue RX7 3 2 44) {K : KT} (hr : CxR X (some .boolean) K) (e1 : At h n a0 (.inl (7, fs1))) (z1 : fs1.length = 24) (v1_1 : fs1[1]? = some (.ref q2)) (e3 : At h n q2 (ai 52 f3))
    (P : ((0 ≤ (4 : Int) * x1 ∧ (4 : Int) * x1 < 52) ∧ R3 0 ∧ R3 (f3 (4 * x1 : Int).toNat)) ∧ (¬ f3 (4 * x1 : Int).toNat = 0 → (R3 x2 ∧ R3 (-200) ∧ R3 200) ∧ ((inZ x2 (-200) 200) = 0 ∨ (inZ x2 (-200) 200) = 1) ∧ K (.inl (some (.int (i3 (inZ x2 (-200) 200))))) n h) ∧ (f3 (4 * x1 : Int).toNat = 0 → (R3 x2 ∧ R3 1 ∧ R3 4) ∧ ((inZ x2 1 4) = 0 ∨ (inZ x2 1 4) = 1) ∧ K (.inl (some (.int (i3 (inZ x2 1 4))))) n h)) :
    Ok X 0 0 0 [(0, .ref a0), (1, .int (i3 x1)), (2, .int (i3 x2))] [] n h := by
  refine ok_aload_n (pc := 0) hc dX7_isValue_0 rfl 0 rfl ?_
  refine ok_iload_n (pc := 1) hc dX7_isValue_1 rfl 1 rfl ?_
  refine ok_iconst (pc := 2) hc (v := i3 0) dX7_isValue_2 (by decide) ?_
  obtain ⟨r0, P⟩ := P
  refine ok_callV (pc := 3) (a := a0) (cb := 0) (sb := 0) (st := []) hc [.int (i3 x1), .int (i3 0)] cv_X7_60 sp_X7_is (by decide) dX7_isValue_3 rfl e1.1 e1.2 rfl rfl rfl (Nat.le_of_ble_eq_true rfl) (⟨_, _, _, _, rfl, ⟨_, _, ⟨e1.1, e1.2⟩, z1, v1_1, ⟨e3.1, e3.2⟩⟩, r0.1, r0.2.1, r0.2.2, rfl, ?_⟩)
  show Ok X 0 0 (3 + 3) [(0, .ref a0), (1, .int (i3 x1)), (2, .int (i3 x2))] [.int (i3 (isZ f3 x1 0))] n h
  refine zk_if_eq (pc := 6) (tgt := 18) hc dX7_isValue_6 (by decide) R3_isZ (fun c => ?_) (fun c => ?_)
  · have P := P.1 (isZ_0.mp c)
    refine ok_iload_n (pc := 18) hc dX7_isValue_18 rfl 2 rfl ?_
    refine ok_sipush (pc := 19) hc (v := i3 (-200)) dX7_isValue_19 (by decide) ?_
    refine ok_sipush (pc := 22) hc (v := i3 200) dX7_isValue_22 (by decide) ?_
    obtain ⟨r0, P⟩ := P
    refine ok_callS (pc := 25) (cb := 0) (sb := 0) (st := []) hc [.int (i3 x2), .int (i3 (-200)), .int (i3 200)] cs_X7_45 sp_X7_within (by decide) dX7_isValue_25 rfl rfl rfl rfl (Nat.le_of_ble_eq_true rfl) (⟨_, _, _, rfl, r0, rfl, ?_⟩)
    show Ok X 0 0 (25 + 3) [(0, .ref a0), (1, .int (i3 x1)), (2, .int (i3 x2))] [.int (i3 (inZ x2 (-200) 200))] n h
    obtain ⟨r, P⟩ := P
    exact ok_zret (st := []) (pc := 28) hc (nar_z r) hr dX7_isValue_28 P
  · have P := P.2 (isZ_1.mp c)
    refine ok_iload_n (pc := 9) hc dX7_isValue_9 rfl 2 rfl ?_
    refine ok_iconst (pc := 10) hc (v := i3 1) dX7_isValue_10 (by decide) ?_
    refine ok_iconst (pc := 11) hc (v := i3 4) dX7_isValue_11 (by decide) ?_
    obtain ⟨r0, P⟩ := P
    refine ok_callS (pc := 12) (cb := 0) (sb := 0) (st := []) hc [.int (i3 x2), .int (i3 1), .int (i3 4)] cs_X7_45 sp_X7_within (by decide) dX7_isValue_12 rfl rfl rfl rfl (Nat.le_of_ble_eq_true rfl) (⟨_, _, _, rfl, r0, rfl, ?_⟩)
    show Ok X 0 0 (12 + 3) [(0, .ref a0), (1, .int (i3 x1)), (2, .int (i3 x2))] [.int (i3 (inZ x2 1 4))] n h
    refine ok_goto (pc := 15) (tgt := 28) hc dX7_isValue_15 (by decide) ?_
    obtain ⟨r, P⟩ := P
    exact ok_zret (st := []) (pc := 28) hc (nar_z r) hr dX7_isValue_28 P

def spec_X7_isValue (args : List Value) (n : Nat) (h : HP) (K : KT) : Prop := ∃ (m : Nat) (Z : Nat → Int) (ps : List Part) (x v : Int), args = [.ref m, .int (i3 x), .int (i3 v)] ∧ ZAt h n m Z ∧ ZPs Z ps ∧ (0 ≤ x ∧ x < ps.length) ∧ R3 v ∧ K (.inl (some (.int (i3 (bz (valB (pAt ps x) v)))))) n h
theorem sp_X7_isValue : Sp yX7_isValue cX7_isValue 3 (some .boolean) 2 44 0 0 spec_X7_isValue := by
  refine sp_intro (by decide) (by rintro args n h K ⟨m, Z, ps, x, v, rfl, -⟩; exact Nat.le_of_ble_eq_true rfl) ?_
  rintro X args n h K hc hr ⟨m, Z, ps, x, v, rfl, ⟨fs, z, h1, h2, h3, h4⟩, hP, hx, hv, kk⟩
  obtain ⟨i, rfl⟩ : ∃ i : Nat, x = i := ⟨x.toNat, by omega⟩
  have hl := hP.2.1
  have hp := pAt_some hx
  rw [show (i : Int).toNat = i by omega] at hp
  generalize pAt ps i = p at hp kk
  have hz := hP.of hp
  have hb := (hP.2.2.2 p (List.mem_of_getElem? hp)).b
  have e0 : Z (4 * (i : Int)).toNat = p.1 := by rw [show (4 * (i : Int)).toNat = 4 * i by omega, hz.1]
  have ez : ∀ lo hi : Int, inZ v lo hi = bz (decide (lo ≤ v ∧ v ≤ hi)) := by
    intro lo hi
    unfold inZ bz
    by_cases c : lo ≤ v ∧ v ≤ hi
    · rw [if_pos c, decide_eq_true c, if_pos rfl]
    · rw [if_neg c, decide_eq_false c, if_neg (by decide)]
  have bzz : ∀ b : Bool, bz b = 0 ∨ bz b = 1 := fun b => by cases b <;> simp [bz]
  unfold valB at kk
  refine sX7_isValue_0 hc hr h1 h2 h3 h4 ⟨⟨by omega, R3_0, by rw [e0]; exact R3_s (by omega)⟩, fun c => ⟨⟨hv, ⟨by decide, by decide⟩, ⟨by decide, by decide⟩⟩, ?_⟩, fun c => ⟨⟨hv, ⟨by decide, by decide⟩, ⟨by decide, by decide⟩⟩, ?_⟩⟩
  · rw [e0] at c
    rw [if_neg c] at kk
    rw [ez]
    exact ⟨bzz _, kk⟩
  · rw [e0] at c
    rw [if_pos c] at kk
    rw [ez]
    exact ⟨bzz _, kk⟩
def cpF (f g : Nat → Int) (x y i : Nat) : Nat → Int := fun k => if y ≤ k ∧ k < y + i then f (x + (k - y)) else g k
set_option maxHeartbeats 4000000 in
set_option maxRecDepth 100000 in
theorem sX7_copy_0 {X : Xt} {n : Nat} {h : HP} {a0 : Nat} {a1 : Nat} {x2 : Int} {a3 : Nat} {x4 : Int} (hc : Cx X cX7_copy RX7 6 0 0) {K : KT} (hr : CxR X none K) 
    (P : Ok X 0 0 3 [(0, .ref a0), (1, .ref a1), (2, .int (i3 x2)), (3, .ref a3), (4, .int (i3 x4)), (5, .int (i3 0))] [] n h) :
    Ok X 0 0 0 [(0, .ref a0), (1, .ref a1), (2, .int (i3 x2)), (3, .ref a3), (4, .int (i3 x4))] [] n h := by
  refine ok_iconst (pc := 0) hc (v := i3 0) dX7_copy_0 (by decide) ?_
  refine ok_istore (pc := 1) hc (lv' := [(5, .int (i3 0)), (0, .ref a0), (1, .ref a1), (2, .int (i3 x2)), (3, .ref a3), (4, .int (i3 x4))]) dX7_copy_1 (by decide) rfl ?_
  refine ok_lv [1, 2, 3, 4, 5, 0] rfl ?_
  exact P

set_option maxHeartbeats 4000000 in
set_option maxRecDepth 100000 in
theorem sX7_copy_3 {X : Xt} {n : Nat} {h : HP} {a0 : Nat} {a1 : Nat} {x2 : Int} {a3 : Nat} {x4 : Int} {x5 : Int} (hc : Cx X cX7_copy RX7 6 0 0) {K : KT} (hr : CxR X none K) 
    (P : (R3 x5) ∧ (52 ≤ x5 → Ok X 0 0 29 [(0, .ref a0), (1, .ref a1), (2, .int (i3 x2)), (3, .ref a3), (4, .int (i3 x4)), (5, .int (i3 x5))] [] n h) ∧ (¬ 52 ≤ x5 → Ok X 0 0 10 [(0, .ref a0), (1, .ref a1), (2, .int (i3 x2)), (3, .ref a3), (4, .int (i3 x4)), (5, .int (i3 x5))] [] n h)) :
    Ok X 0 0 3 [(0, .ref a0), (1, .ref a1), (2, .int (i3 x2)), (3, .ref a3), (4, .int (i3 x4)), (5, .int (i3 x5))] [] n h := by
  refine ok_iload (pc := 3) hc dX7_copy_3 5 rfl ?_
  refine ok_bipush (pc := 5) hc (v := i3 52) dX7_copy_5 (by decide) ?_
  obtain ⟨r1, P⟩ := P
  refine zk_icmp_ge (pc := 7) (tgt := 29) hc dX7_copy_7 (by decide) r1 ⟨by decide, by decide⟩ (fun c => ?_) (fun c => ?_)
  · have P := P.1 c
    exact P
  · have P := P.2 c
    exact P

set_option maxHeartbeats 4000000 in
set_option maxRecDepth 100000 in
theorem sX7_copy_10 {X : Xt} {n : Nat} {h : HP} {a0 : Nat} {a1 : Nat} {x2 : Int} {a3 : Nat} {x4 : Int} {x5 : Int} {len1 : Nat} {f1 : Nat → Int} {len2 : Nat} {f2 : Nat → Int} (hc : Cx X cX7_copy RX7 6 0 0) {K : KT} (hr : CxR X none K) (e1 : At h n a1 (ai len1 f1)) (e2 : At h n a3 (ai len2 f2))
    (P : (Ix (x2 + x5) len1) ∧ (Ix (x4 + x5) len2) ∧ Ok X 0 0 3 [(0, .ref a0), (1, .ref a1), (2, .int (i3 x2)), (3, .ref a3), (4, .int (i3 x4)), (5, .int (i3 (x5 + 1)))] [] n (va_up h a3 (ai len2 (va_up f2 ((x4 + x5) : Int).toNat (f1 ((x2 + x5) : Int).toNat))))) :
    Ok X 0 0 10 [(0, .ref a0), (1, .ref a1), (2, .int (i3 x2)), (3, .ref a3), (4, .int (i3 x4)), (5, .int (i3 x5))] [] n h := by
  refine ok_aload_n (pc := 10) hc dX7_copy_10 rfl 3 rfl ?_
  refine ok_iload (pc := 11) hc dX7_copy_11 4 rfl ?_
  refine ok_iload (pc := 13) hc dX7_copy_13 5 rfl ?_
  refine zk_iadd (pc := 15) hc dX7_copy_15 ?_
  refine ok_aload_n (pc := 16) hc dX7_copy_16 rfl 1 rfl ?_
  refine ok_iload_n (pc := 17) hc dX7_copy_17 rfl 2 rfl ?_
  refine ok_iload (pc := 18) hc dX7_copy_18 5 rfl ?_
  refine zk_iadd (pc := 20) hc dX7_copy_20 ?_
  obtain ⟨r, P⟩ := P
  refine zk_iald (pc := 21) hc dX7_copy_21 e1.1 e1.2 r ?_
  obtain ⟨r, P⟩ := P
  refine zk_iast (pc := 22) hc dX7_copy_22 e2.1 e2.2 r ?_
  refine zk_iinc (pc := 23) hc (q := 5) (x := x5) (lv' := [(5, .int (i3 (x5 + 1))), (0, .ref a0), (1, .ref a1), (2, .int (i3 x2)), (3, .ref a3), (4, .int (i3 x4))]) dX7_copy_23 rfl (by decide) rfl ?_
  refine ok_goto (pc := 26) (tgt := 3) hc dX7_copy_26 (by decide) ?_
  refine ok_lv [1, 2, 3, 4, 5, 0] rfl ?_
  exact P

set_option maxHeartbeats 4000000 in
set_option maxRecDepth 100000 in
theorem sX7_copy_29 {X : Xt} {n : Nat} {h : HP} {a0 : Nat} {a1 : Nat} {x2 : Int} {a3 : Nat} {x4 : Int} {x5 : Int} (hc : Cx X cX7_copy RX7 6 0 0) {K : KT} (hr : CxR X none K) 
    (P : K (.inl none) n h) :
    Ok X 0 0 29 [(0, .ref a0), (1, .ref a1), (2, .int (i3 x2)), (3, .ref a3), (4, .int (i3 x4)), (5, .int (i3 x5))] [] n h := by
  exact ok_vret (st := []) (pc := 29) hc hr dX7_copy_29 P

def spec_X7_copy (args : List Value) (n : Nat) (h : HP) (K : KT) : Prop := ∃ (m a b la lb x y : Nat) (f g : Nat → Int), args = [.ref m, .ref a, .int (i3 x), .ref b, .int (i3 y)] ∧ At h n a (ai la f) ∧ At h n b (ai lb g) ∧ a ≠ b ∧ (x + 52 ≤ la ∧ y + 52 ≤ lb ∧ la ≤ 1000 ∧ lb ≤ 1000) ∧ K (.inl none) n (va_up h b (ai lb (cpF f g x y 52)))
theorem sp_X7_copy : Sp yX7_copy cX7_copy 6 none 0 0 0 0 spec_X7_copy := by
  refine sp_intro (by decide) (by rintro args n h K ⟨m, a, b, la, lb, x, y, f, g, rfl, -⟩; exact Nat.le_of_ble_eq_true rfl) ?_
  rintro X args n h K hc hr ⟨m, a, b, la, lb, x, y, f, g, rfl, ha, hb, hne, hlen, kk⟩
  have L : ∀ (j i : Nat), i + j = 52 → Ok X 0 0 3 [(0, .ref m), (1, .ref a), (2, .int (i3 x)), (3, .ref b), (4, .int (i3 y)), (5, .int (i3 i))] [] n (va_up h b (ai lb (cpF f g x y i))) := by
    intro j
    induction j with
    | zero =>
      intro i hi
      have : i = 52 := by omega
      subst this
      exact sX7_copy_3 hc hr ⟨R3_s (by omega), fun _ => sX7_copy_29 hc hr kk, fun z => absurd (by omega) z⟩
    | succ j ih =>
      intro i hi
      have ex : ((x : Int) + i).toNat = x + i := by omega
      have ey : ((y : Int) + i).toNat = y + i := by omega
      refine sX7_copy_3 hc hr ⟨R3_s (by omega), fun z => absurd z (by omega), fun _ => ?_⟩
      refine sX7_copy_10 hc hr (ha.up hne) hb.it ⟨⟨by omega, by omega, by omega⟩, ⟨by omega, by omega, by omega⟩, ?_⟩
      rw [ex, ey, up_up]
      have e : va_up (cpF f g x y i) (y + i) (f (x + i)) = cpF f g x y (i + 1) := by
        funext k
        by_cases c : k = y + i
        · subst c
          rw [up_self]
          unfold cpF
          rw [if_pos (by omega), Nat.add_sub_cancel_left]
        · rw [up_ne c]
          unfold cpF
          by_cases d : y ≤ k ∧ k < y + i
          · rw [if_pos d, if_pos (by omega)]
          · rw [if_neg d, if_neg (by omega)]
      rw [e]
      exact ih (i + 1) (by omega)
  have l0 := L 52 0 (by omega)
  have e : cpF f g x y 0 = g := by
    funext k
    exact if_neg (by omega)
  rw [e, up_id hb] at l0
  exact sX7_copy_0 hc hr l0
theorem ZPs.eq {Z Z' : Nat → Int} {ps : List Part} (h : ZPs Z ps) (e : ∀ k, k < 52 → Z' k = Z k) : ZPs Z' ps := by
  have hl := h.2.1
  refine ⟨(e 48 (by decide)).trans h.1, hl, fun i hi => ?_, h.2.2.2⟩
  rw [e _ (by omega), e _ (by omega), e _ (by omega), e _ (by omega)]
  exact h.2.2.1 i hi
theorem ZSt.eq {Z Z' : Nat → Int} {S : Stt} (h : ZSt Z S) (e : ∀ k, k < 52 → Z' k = Z k) : ZSt Z' S := ⟨h.1.eq e, (e 49 (by decide)).trans h.2.1, (e 50 (by decide)).trans h.2.2.1, (e 51 (by decide)).trans h.2.2.2⟩
def HsR (H : Nat → Int) (hist : List Stt) : Prop := hist.length ≤ 8 ∧ ∀ i S, hist[i]? = some S → ZSt (fun k => H (52 * i + k)) S
set_option maxHeartbeats 4000000 in
set_option maxRecDepth 100000 in
theorem sX7_record_0 {X : Xt} {n : Nat} {h : HP} {a0 : Nat} {fs1 : List Value} {iv2 : Int} (hc : Cx X cX7_record RX7 2 1 25) {K : KT} (hr : CxR X none K) (e1 : At h n a0 (.inl (7, fs1))) (z1 : fs1.length = 24) (v1_3 : fs1[3]? = some (.int (i3 iv2)))
    (P : (R3 iv2) ∧ (¬ iv2 = 8 → Ok X 0 0 50 [(0, .ref a0)] [] n h) ∧ (iv2 = 8 → Ok X 0 0 12 [(0, .ref a0), (1, .int (i3 52))] [] n h)) :
    Ok X 0 0 0 [(0, .ref a0)] [] n h := by
  refine ok_aload_n (pc := 0) hc dX7_record_0 rfl 0 rfl ?_
  refine ok_get (pc := 1) hc fl_X7_53 dX7_record_1 e1.1 e1.2 v1_3 ?_
  refine ok_bipush (pc := 4) hc (v := i3 8) dX7_record_4 (by decide) ?_
  obtain ⟨r3, P⟩ := P
  refine zk_icmp_ne (pc := 6) (tgt := 50) hc dX7_record_6 (by decide) r3 ⟨by decide, by decide⟩ (fun c => ?_) (fun c => ?_)
  · have P := P.1 c
    exact P
  · have P := P.2 c
    refine ok_bipush (pc := 9) hc (v := i3 52) dX7_record_9 (by decide) ?_
    refine ok_istore_n (pc := 11) hc (lv' := [(1, .int (i3 52)), (0, .ref a0)]) dX7_record_11 rfl (by decide) rfl ?_
    refine ok_lv [1, 0] rfl ?_
    exact P

set_option maxHeartbeats 4000000 in
set_option maxRecDepth 100000 in
theorem sX7_record_12 {X : Xt} {n : Nat} {h : HP} {a0 : Nat} {x1 : Int} (hc : Cx X cX7_record RX7 2 1 25) {K : KT} (hr : CxR X none K) 
    (P : (R3 x1) ∧ (416 ≤ x1 → Ok X 0 0 40 [(0, .ref a0), (1, .int (i3 x1))] [] n h) ∧ (¬ 416 ≤ x1 → Ok X 0 0 19 [(0, .ref a0), (1, .int (i3 x1))] [] n h)) :
    Ok X 0 0 12 [(0, .ref a0), (1, .int (i3 x1))] [] n h := by
  refine ok_iload_n (pc := 12) hc dX7_record_12 rfl 1 rfl ?_
  refine ok_sipush (pc := 13) hc (v := i3 416) dX7_record_13 (by decide) ?_
  obtain ⟨r1, P⟩ := P
  refine zk_icmp_ge (pc := 16) (tgt := 40) hc dX7_record_16 (by decide) r1 ⟨by decide, by decide⟩ (fun c => ?_) (fun c => ?_)
  · have P := P.1 c
    exact P
  · have P := P.2 c
    exact P

set_option maxHeartbeats 4000000 in
set_option maxRecDepth 100000 in
theorem sX7_record_19 {X : Xt} {n : Nat} {h : HP} {a0 : Nat} {x1 : Int} {fs1 : List Value} {q2 : Nat} {len3 : Nat} {f3 : Nat → Int} (hc : Cx X cX7_record RX7 2 1 25) {K : KT} (hr : CxR X none K) (e1 : At h n a0 (.inl (7, fs1))) (z1 : fs1.length = 24) (v1_4 : fs1[4]? = some (.ref q2)) (e3 : At h n q2 (ai len3 f3))
    (P : (Ix x1 len3) ∧ (Ix (x1 - 52) len3) ∧ Ok X 0 0 12 [(0, .ref a0), (1, .int (i3 (x1 + 1)))] [] n (va_up h q2 (ai len3 (va_up f3 ((x1 - 52) : Int).toNat (f3 (x1 : Int).toNat))))) :
    Ok X 0 0 19 [(0, .ref a0), (1, .int (i3 x1))] [] n h := by
  refine ok_aload_n (pc := 19) hc dX7_record_19 rfl 0 rfl ?_
  refine ok_get (pc := 20) hc fl_X7_16 dX7_record_20 e1.1 e1.2 v1_4 ?_
  refine ok_iload_n (pc := 23) hc dX7_record_23 rfl 1 rfl ?_
  refine ok_bipush (pc := 24) hc (v := i3 52) dX7_record_24 (by decide) ?_
  refine zk_isub (pc := 26) hc dX7_record_26 ?_
  refine ok_aload_n (pc := 27) hc dX7_record_27 rfl 0 rfl ?_
  refine ok_get (pc := 28) hc fl_X7_16 dX7_record_28 e1.1 e1.2 v1_4 ?_
  refine ok_iload_n (pc := 31) hc dX7_record_31 rfl 1 rfl ?_
  obtain ⟨r, P⟩ := P
  refine zk_iald (pc := 32) hc dX7_record_32 e3.1 e3.2 r ?_
  obtain ⟨r, P⟩ := P
  refine zk_iast (pc := 33) hc dX7_record_33 e3.1 e3.2 r ?_
  refine zk_iinc (pc := 34) hc (q := 1) (x := x1) (lv' := [(1, .int (i3 (x1 + 1))), (0, .ref a0)]) dX7_record_34 rfl (by decide) rfl ?_
  refine ok_goto (pc := 37) (tgt := 12) hc dX7_record_37 (by decide) ?_
  refine ok_lv [1, 0] rfl ?_
  exact P

set_option maxHeartbeats 4000000 in
set_option maxRecDepth 100000 in
theorem sX7_record_40 {X : Xt} {n : Nat} {h : HP} {a0 : Nat} {x1 : Int} {fs1 : List Value} {iv2 : Int} (hc : Cx X cX7_record RX7 2 1 25) {K : KT} (hr : CxR X none K) (e1 : At h n a0 (.inl (7, fs1))) (z1 : fs1.length = 24) (v1_3 : fs1[3]? = some (.int (i3 iv2)))
    (P : Ok X 0 0 50 [(0, .ref a0)] [] n (va_up h a0 (.inl (7, (fs1.set 3 (.int (i3 (iv2 - 1)))))))) :
    Ok X 0 0 40 [(0, .ref a0), (1, .int (i3 x1))] [] n h := by
  refine ok_aload_n (pc := 40) hc dX7_record_40 rfl 0 rfl ?_
  refine ok_dup (pc := 41) hc dX7_record_41 rfl ?_
  refine ok_get (pc := 42) hc fl_X7_53 dX7_record_42 e1.1 e1.2 v1_3 ?_
  refine ok_iconst (pc := 45) hc (v := i3 1) dX7_record_45 (by decide) ?_
  refine zk_isub (pc := 46) hc dX7_record_46 ?_
  refine ok_put (pc := 47) hc fl_X7_53 dX7_record_47 e1.1 e1.2 (by simp [List.length_set, z1]) (fun _ => rfl) (fun _ => rfl) ?_
  refine ok_lv [0] rfl ?_
  exact P

set_option maxHeartbeats 4000000 in
set_option maxRecDepth 100000 in
theorem sX7_record_50 {X : Xt} {n : Nat} {h : HP} {a0 : Nat} {fs1 : List Value} {q2 : Nat} {q3 : Nat} {iv4 : Int} (hc : Cx X cX7_record RX7 2 1 25) {K : KT} (hr : CxR X none K) (e1 : At h n a0 (.inl (7, fs1))) (z1 : fs1.length = 24) (v1_1 : fs1[1]? = some (.ref q2)) (v1_4 : fs1[4]? = some (.ref q3)) (v1_3 : fs1[3]? = some (.int (i3 iv4)))
    (P : spec_X7_copy [.ref a0, .ref q2, .int (i3 0), .ref q3, .int (i3 (52 * iv4))] n h (kc X 0 0 67 [(0, .ref a0)] [] n)) :
    Ok X 0 0 50 [(0, .ref a0)] [] n h := by
  refine ok_aload_n (pc := 50) hc dX7_record_50 rfl 0 rfl ?_
  refine ok_aload_n (pc := 51) hc dX7_record_51 rfl 0 rfl ?_
  refine ok_get (pc := 52) hc fl_X7_7 dX7_record_52 e1.1 e1.2 v1_1 ?_
  refine ok_iconst (pc := 55) hc (v := i3 0) dX7_record_55 (by decide) ?_
  refine ok_aload_n (pc := 56) hc dX7_record_56 rfl 0 rfl ?_
  refine ok_get (pc := 57) hc fl_X7_16 dX7_record_57 e1.1 e1.2 v1_4 ?_
  refine ok_bipush (pc := 60) hc (v := i3 52) dX7_record_60 (by decide) ?_
  refine ok_aload_n (pc := 62) hc dX7_record_62 rfl 0 rfl ?_
  refine ok_get (pc := 63) hc fl_X7_53 dX7_record_63 e1.1 e1.2 v1_3 ?_
  refine zk_imul (pc := 66) hc dX7_record_66 ?_
  exact ok_callV (pc := 67) (a := a0) (cb := 0) (sb := 0) (st := []) hc [.ref q2, .int (i3 0), .ref q3, .int (i3 (52 * iv4))] cv_X7_56 sp_X7_copy (by decide) dX7_record_67 rfl e1.1 e1.2 rfl rfl rfl (Nat.le_of_ble_eq_true rfl) P

set_option maxHeartbeats 4000000 in
set_option maxRecDepth 100000 in
theorem sX7_record_70 {X : Xt} {n : Nat} {h : HP} {a0 : Nat} {fs1 : List Value} {iv2 : Int} (hc : Cx X cX7_record RX7 2 1 25) {K : KT} (hr : CxR X none K) (e1 : At h n a0 (.inl (7, fs1))) (z1 : fs1.length = 24) (v1_3 : fs1[3]? = some (.int (i3 iv2)))
    (P : K (.inl none) n (va_up h a0 (.inl (7, (fs1.set 3 (.int (i3 (iv2 + 1)))))))) :
    Ok X 0 0 70 [(0, .ref a0)] [] n h := by
  refine ok_aload_n (pc := 70) hc dX7_record_70 rfl 0 rfl ?_
  refine ok_dup (pc := 71) hc dX7_record_71 rfl ?_
  refine ok_get (pc := 72) hc fl_X7_53 dX7_record_72 e1.1 e1.2 v1_3 ?_
  refine ok_iconst (pc := 75) hc (v := i3 1) dX7_record_75 (by decide) ?_
  refine zk_iadd (pc := 76) hc dX7_record_76 ?_
  refine ok_put (pc := 77) hc fl_X7_53 dX7_record_77 e1.1 e1.2 (by simp [List.length_set, z1]) (fun _ => rfl) (fun _ => rfl) ?_
  exact ok_vret (st := []) (pc := 80) hc hr dX7_record_80 P

def spec_X7_record (args : List Value) (n : Nat) (h : HP) (K : KT) : Prop := ∃ (I : Nat → Int) (F : Nat → Nat → Int) (S : Stt) (hist : List Stt), args = [.ref 128] ∧ MAt h n I F ∧ ZSt (F 1) S ∧ HsR (F 3) hist ∧ I 3 = hist.length ∧ ∀ (h' : HP) (H : Nat → Int), MAt h' n (va_up I 3 ((pushH hist S).length : Int)) (va_up F 3 H) → HsR H (pushH hist S) → Fr h h' 128 138 → K (.inl none) n h'
theorem sp_X7_record : Sp yX7_record cX7_record 2 none 1 25 0 0 spec_X7_record := by
  refine sp_intro (by decide) (by rintro args n h K ⟨I, F, S, hist, rfl, -⟩; exact Nat.le_of_ble_eq_true rfl) ?_
  rintro X args n h K hc hr ⟨I, F, S, hist, rfl, hM0, hZ, ⟨hl, hH⟩, hI3, kk⟩
  -- the state behind the others
  have h50 : ∀ (hh : HP) (I1 : Nat → Int) (H : Nat → Int) (hs : List Stt), MAt hh n I1 (va_up F 3 H) → (∀ k, k ≠ 3 → I1 k = I k) → I1 3 = hs.length → hs.length < 8 → pushH hist S = hs ++ [S] → (∀ i T, hs[i]? = some T → ZSt (fun k => H (52 * i + k)) T) → Fr h hh 128 138 → Ok X 0 0 50 [(0, .ref 128)] [] n hh := by
    intro hh I1 H hs hM hI1 h3 hlt hpu hHs hf
    refine sX7_record_50 hc hr hM.o rfl rfl rfl rfl ⟨128, 129, 131, 52, 416, 0, 52 * hs.length, F 1, H, by rw [h3]; rfl, hM.z, hM.hs, by decide, by omega, ⟨rfl, ?_⟩⟩
    have hM2 : MAt (va_up hh 131 (ai 416 (cpF (F 1) H 0 (52 * hs.length) 52))) n I1 (va_up F 3 (cpF (F 1) H 0 (52 * hs.length) 52)) := hM.uu (j := 3) (by omega) _
    refine sX7_record_70 hc hr hM2.o rfl rfl ?_
    have e : I1 3 + 1 = ((pushH hist S).length : Int) := by
      rw [hpu, List.length_append, h3]
      rfl
    rw [e]
    have eI : va_up I1 3 ((pushH hist S).length : Int) = va_up I 3 ((pushH hist S).length : Int) := by
      funext k
      by_cases c : k = 3
      · subst c
        rw [up_self, up_self]
      · rw [up_ne c, up_ne c, hI1 k c]
    have hM3 := hM2.uo (va_up I1 3 ((pushH hist S).length : Int))
    rw [eI] at hM3
    refine kk _ (cpF (F 1) H 0 (52 * hs.length) 52) ?_ ⟨?_, fun i T hi => ?_⟩ ((hf.up (by omega)).up (by omega))
    · have : (mf I1).set 3 (Value.int (i3 ((pushH hist S).length : Int))) = mf (va_up I 3 ((pushH hist S).length : Int)) := by
        rw [← eI]
        rfl
      rw [this]
      exact hM3
    · rw [hpu, List.length_append, List.length_singleton]
      omega
    · rw [hpu, List.getElem?_append] at hi
      by_cases c : i < hs.length
      · rw [if_pos c] at hi
        refine (hHs i T hi).eq fun k hk => ?_
        exact if_neg (by omega)
      · rw [if_neg c] at hi
        have ei : i = hs.length := by
          have := (List.getElem?_eq_some_iff.mp hi).1
          rw [List.length_singleton] at this
          omega
        subst ei
        rw [Nat.sub_self] at hi
        have := Option.some.inj hi
        subst this
        refine hZ.eq fun k hk => ?_
        show (if _ then F 1 (0 + (52 * hs.length + k - 52 * hs.length)) else _) = _
        rw [if_pos (by omega), Nat.add_sub_cancel_left, Nat.zero_add]
  refine sX7_record_0 hc hr hM0.o rfl rfl ⟨R3_s (by omega), fun z => ?_, fun z => ?_⟩
  · refine h50 h I (F 3) hist (hM0.u1 (by omega)) (fun _ _ => rfl) hI3 (by omega) ?_ hH Fr.rf
    unfold pushH
    rw [if_pos (by omega)]
  · -- the oldest one goes
    have L : ∀ (j i : Nat) (hh : HP), i + j = 416 → 52 ≤ i → MAt hh n I (va_up F 3 (fun x => if x + 52 < i then F 3 (x + 52) else F 3 x)) → Fr h hh 128 138 → Ok X 0 0 12 [(0, .ref 128), (1, .int (i3 i))] [] n hh := by
      intro j
      induction j with
      | zero =>
        intro i hh hi h52 hM hf
        have : i = 416 := by omega
        subst this
        refine sX7_record_12 hc hr ⟨R3_s (by omega), fun _ => sX7_record_40 hc hr hM.o rfl rfl ?_, fun w => absurd (by omega) w⟩
        have hM2 := hM.uo (va_up I 3 (I 3 - 1))
        have hlen : hist.length = 8 := by omega
        refine h50 _ (va_up I 3 (I 3 - 1)) _ hist.tail hM2 (fun k c => up_ne c) ?_ (by rw [List.length_tail]; omega) ?_ (fun i T hi => ?_) (hf.up (by omega))
        · rw [up_self, List.length_tail]
          omega
        · unfold pushH
          rw [if_neg (by omega)]
        · rw [List.getElem?_tail] at hi
          have hil := (List.getElem?_eq_some_iff.mp hi).1
          refine (hH (i + 1) T hi).eq fun k hk => ?_
          show (if _ then F 3 (52 * i + k + 52) else _) = F 3 (52 * (i + 1) + k)
          rw [if_pos (by omega)]
          refine congrArg _ ?_
          omega
      | succ j ih =>
        intro i hh hi h52 hM hf
        refine sX7_record_12 hc hr ⟨R3_s (by omega), fun w => absurd w (by omega), fun _ => ?_⟩
        refine sX7_record_19 hc hr hM.o rfl rfl hM.hs ⟨⟨by omega, by omega, by omega⟩, ⟨by omega, by omega, by omega⟩, ?_⟩
        have e1 : ((i : Int) - 52).toNat = i - 52 := by omega
        have e2 : (i : Int).toNat = i := by omega
        rw [e1, e2]
        have hM2 := hM.uu (j := 3) (by omega) (va_up (fun x => if x + 52 < i then F 3 (x + 52) else F 3 x) (i - 52) ((fun x => if x + 52 < i then F 3 (x + 52) else F 3 x) i))
        refine ih (i + 1) _ (by omega) (by omega) ?_ (hf.up (by omega))
        have ef : va_up (fun x => if x + 52 < i then F 3 (x + 52) else F 3 x) (i - 52) ((fun x => if x + 52 < i then F 3 (x + 52) else F 3 x) i) = fun x => if x + 52 < i + 1 then F 3 (x + 52) else F 3 x := by
          funext x
          by_cases c : x = i - 52
          · subst c
            rw [up_self]
            show (if i + 52 < i then _ else F 3 i) = _
            rw [if_neg (by omega), if_pos (by omega)]
            refine congrArg _ ?_
            omega
          · rw [up_ne c]
            show (if _ then _ else _) = (if _ then _ else _)
            by_cases d : x + 52 < i
            · rw [if_pos d, if_pos (by omega)]
            · rw [if_neg d, if_neg (by omega)]
        rw [ef] at hM2
        have e3 : va_up F 3 (fun x => if x + 52 < i then F 3 (x + 52) else F 3 x) 3 = fun x => if x + 52 < i then F 3 (x + 52) else F 3 x := up_self
        rw [e3, ef]
        exact hM2
    refine L 364 52 h (by omega) (by omega) ?_ Fr.rf
    have e : (fun x => if x + 52 < 52 then F 3 (x + 52) else F 3 x) = F 3 := by
      funext x
      exact if_neg (by omega)
    rw [e]
    exact hM0.u1 (by omega)
/-- a settled state's case holds -/
def StOk (S : Stt) : Prop := S.2.2.2 = 1 → (jud S S.2.2.1).1 = 0
def OkD (q : Dsk) : Prop := StOk q.1 ∧ (∀ S ∈ q.2.1, StOk S) ∧ ∀ j, j < 2 → StOk (q.2.2.1 j)
def BfR (B : Nat → Int) (l : List Int) : Prop := l.length ≤ 60 ∧ ∀ i, i < l.length → l[i]? = some (B i) ∧ 32 ≤ B i ∧ B i ≤ 126
/-- the reference's whole state; the last number is what it threw -/
def MdF (I : Nat → Int) (F : Nat → Nat → Int) (q : Dsk) : Prop := ZSt (F 1) q.1 ∧ (HsR (F 3) q.2.1 ∧ I 3 = q.2.1.length) ∧ (I 5 = q.2.2.2.1 ∧ ∀ j : Nat, j < 2 → bcon q.2.2.2.1 j ≠ 0 → ZSt (fun k => F 4 (52 * j + k)) (q.2.2.1 j)) ∧ (BfR (F 5) q.2.2.2.2 ∧ I 7 = q.2.2.2.2.length)
def MdA (h : HP) (n : Nat) (q : Dsk) (t : Int) : Prop := ∃ I F, MAt h n I F ∧ MdF I F q ∧ I 0 = t ∧ GdD q ∧ OkD q
theorem setS_ok {S : Stt} (hG : GdS S) : StOk (setS S) := by
  have key : ∀ S1 S2 : Stt, S1.1 = S2.1 → S1.2.1 = S2.2.1 → ∀ c, jud S1 c = jud S2 c := by
    rintro ⟨a, b, c, d⟩ ⟨a', b', c', d'⟩ e1 e2 x
    simp only at e1 e2
    subst e1
    subst e2
    have hf : ∀ m G a1 p st, faultF (a, b, c, d) m G a1 p st = faultF (a, b, c', d') m G a1 p st := fun _ _ _ _ _ => rfl
    have hj : ∀ m G (l : List Part) a1, judL (a, b, c, d) m G x l a1 = judL (a, b, c', d') m G x l a1 := by
      intro m G l
      induction l with
      | nil => exact fun _ => rfl
      | cons p l ih =>
        intro a1
        unfold judL
        rw [hf, ih]
    unfold jud
    rw [hj]
    rfl
  have hb : ∀ (f : Nat) (c best few : Int), (best = -1 ∨ (jud S best).1 = 0) → bestL S f c best few = -1 ∨ (jud S (bestL S f c best few)).1 = 0 := by
    intro f
    induction f with
    | zero => exact fun _ _ _ h => h
    | succ f ih =>
      intro c best few h
      unfold bestL
      split
      · exact ih _ _ _ h
      · split
        · rename_i z
          exact ih _ _ _ (Or.inr z)
        · exact ih _ _ _ h
  unfold setS StOk
  by_cases c : (jud S S.2.2.1).1 = 0
  · rw [if_pos c]
    intro _
    rw [key (S.1, S.2.1, S.2.2.1, 1) S rfl rfl]
    exact c
  · rw [if_neg c]
    by_cases d : bestOf S = -1
    · rw [if_pos d]
      intro e
      exact absurd (show (0 : Int) = 1 from e) (by decide)
    · rw [if_neg d]
      intro _
      show (jud _ (bestOf S)).1 = 0
      rw [key (S.1, S.2.1, bestOf S, 1) S rfl rfl]
      exact (hb _ _ _ _ (Or.inl rfl)).resolve_left d
theorem pushH_mem {hist : List Stt} {S T : Stt} (h : T ∈ pushH hist S) : T ∈ hist ∨ T = S := by
  unfold pushH at h
  split at h
  · rcases List.mem_append.mp h with q | q
    · exact Or.inl q
    · exact Or.inr (List.mem_singleton.mp q)
  · rcases List.mem_append.mp h with q | q
    · exact Or.inl (List.mem_of_mem_tail q)
    · exact Or.inr (List.mem_singleton.mp q)
/-- a change: recorded, then another state -/
theorem OkD.push {q : Dsk} (h : OkD q) {S : Stt} (hS : StOk S) : OkD (S, pushH q.2.1 q.1, q.2.2) := ⟨hS, fun T hT => by
  rcases pushH_mem hT with e | e
  · exact h.2.1 T e
  · rw [e]
    exact h.1, h.2.2⟩
