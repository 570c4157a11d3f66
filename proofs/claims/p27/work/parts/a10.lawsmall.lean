/-! part a10: the law's small helps: cell, at, kind, power, state, common -/
def ScX (X : Xt) (L9 : Nat) (xs : Nat → Int32) : Prop := match X with
  | (_, _, _, _, s, _, _, _, _, _, _, bs, A0, _, _) => va_X (A0 (SA + 1)) L9 xs s s.heap ∧ A0 (SA + 1) < s.heap.size ∧ ¬ bs ≤ A0 (SA + 1)
theorem sc_of {X : Xt} {cc : ByteArray} {own : String} {nL f L : Nat} (hc : Cx X cc own nL f L) : ∃ (L9 : Nat) (xs : Nat → Int32), ScX X L9 xs ∧ L9 ≤ 260 := by
  obtain ⟨p, l, e, R, s, m, args, below, meth, c, D, bs, A0, n0, Q⟩ := X
  obtain ⟨hx, hb, hown, hts, hml, hRf, hRl, hF, htr, hlk, hbs⟩ := hc
  obtain ⟨L9, xs, h1, h2, h3⟩ := hF.2.2.2.2.2.2.2.2.2.2.2.2
  refine ⟨L9, xs, ⟨h1, ?_, h3⟩, h2⟩
  obtain ⟨scr, hs, -⟩ := id h1
  exact (Array.getElem?_eq_some_iff.mp hs).1
/-- the law may end with 1 -/
def CxL (X : Xt) : Prop := ∀ (cb sb pc n : Nat) (lv : List (Nat × Value)) (h : HP), decode cL_law pc = .ok (.ireturn, 1) → Ok X cb sb pc lv [.int (i3 1)] n h
theorem ok_retL {X : Xt} {nL f L cb sb pc n : Nat} {lv : List (Nat × Value)} {h : HP} {v : Int} (_ : Cx X cL_law RL nL f L) (hL : CxL X) (hd : decode cL_law pc = .ok (.ireturn, 1)) (P : v = 1) : Ok X cb sb pc lv [.int (i3 v)] n h := by
  rw [P]
  exact hL _ _ _ _ _ _ hd
theorem ok_sld {X : Xt} {cc : ByteArray} {own : String} {nL f L cb sb pc n : Nat} {lv : List (Nat × Value)} {st : List Value} {h : HP} (hc : Cx X cc own nL f L) {L9 : Nat} {xs : Nat → Int32} (hX : ScX X L9 xs) (hd : decode cc pc = .ok (.iaload, 1)) {i : Int} (r : Ix i L9) (k : Ok X cb sb (pc + 1) lv (.int (i3 (xs i.toNat).toInt) :: st) n h) : Ok X cb sb pc lv (.int (i3 i) :: .ref (SA + 1) :: st) n h := by
  rw [i3_T] at k
  obtain ⟨p, l, e, R, s, m, args, below, meth, c, D, bs, A0, n0, Q⟩ := X
  obtain ⟨hx, hb, hown, hts, hml, hRf, hRl, hF, htr, hlk, hbs⟩ := hc
  intro A cy H locs ls cells slots h1 h2 h3 h4 hw hS hl h5 h6
  have eA : A (SA + 1) = A0 (SA + 1) := h1 _ (Or.inr (by omega))
  show W p l e R s m args below meth c H locs cells slots Q (F0 m pc ls (.int (i3 i) :: .ref (A (SA + 1)) :: st.map (trV A)))
  rw [eA]
  refine va_sld (A := fun q => bs ≤ q) (H0 := s.heap) hx hb hX.1 hX.2.1 hX.2.2 hS r.v hd ?_
  rw [i3_nat r.r]
  exact k A cy H locs ls cells slots h1 h2 h3 h4 hw hS hl h5 h6
theorem ok_slen {X : Xt} {cc : ByteArray} {own : String} {nL f L cb sb pc n : Nat} {lv : List (Nat × Value)} {st : List Value} {h : HP} (hc : Cx X cc own nL f L) {L9 : Nat} {xs : Nat → Int32} (hX : ScX X L9 xs) (hd : decode cc pc = .ok (.arraylength, 1)) (k : Ok X cb sb (pc + 1) lv (.int (i3 (L9 : Int)) :: st) n h) : Ok X cb sb pc lv (.ref (SA + 1) :: st) n h := by
  rw [i3_nI] at k
  obtain ⟨p, l, e, R, s, m, args, below, meth, c, D, bs, A0, n0, Q⟩ := X
  obtain ⟨hx, hb, hown, hts, hml, hRf, hRl, hF, htr, hlk, hbs⟩ := hc
  intro A cy H locs ls cells slots h1 h2 h3 h4 hw hS hl h5 h6
  have eA : A (SA + 1) = A0 (SA + 1) := h1 _ (Or.inr (by omega))
  show W p l e R s m args below meth c H locs cells slots Q (F0 m pc ls (.ref (A (SA + 1)) :: st.map (trV A)))
  rw [eA]
  exact va_slen (A := fun q => bs ≤ q) (H0 := s.heap) hx hb hX.1 hX.2.1 hX.2.2 hS hd (k A cy H locs ls cells slots h1 h2 h3 h4 hw hS hl h5 h6)
theorem ok_ldcI {X : Xt} {cc : ByteArray} {own : String} {nL f L cb sb pc n : Nat} {lv : List (Nat × Value)} {st : List Value} {h : HP} (hc : Cx X cc own nL f L) {index : Nat} {v : Int32} (hd : decode cc pc = .ok (.ldc index, 2)) (hw9 : Cond.constant own index v ∈ lw_all) (k : Ok X cb sb (pc + 2) lv (.int v :: st) n h) : Ok X cb sb pc lv (st) n h := by
  obtain ⟨p, l, e, R, s, m, args, below, meth, c, D, bs, A0, n0, Q⟩ := X
  obtain ⟨hx, hb, hown, hts, hml, hRf, hRl, hF, htr, hlk, hbs⟩ := hc
  intro A cy H locs ls cells slots h1 h2 h3 h4 hw hS hl h5 h6
  exact lv_ldc hx hb hown (hts _ hw9) hd (k A cy H locs ls cells slots h1 h2 h3 h4 hw hS hl h5 h6)
set_option maxHeartbeats 4000000 in
set_option maxRecDepth 100000 in
theorem sL_cell_0 {X : Xt} {n : Nat} {h : HP} {x1 : Int} (hc : Cx X cL_cell RL 2 0 0) {K : KT} (hr : CxR X (some .int) K) {L9 : Nat} {xs : Nat → Int32} (hX : ScX X L9 xs) 
    (P : (R3 x1) ∧ (R3 (L9 : Int)) ∧ ((L9 : Int) ≤ x1 → K (.inl (some (.int (i3 (1359893119 * (x1 + 1)))))) n h) ∧ (¬ (L9 : Int) ≤ x1 → (Ix x1 L9) ∧ K (.inl (some (.int (i3 ((xs (x1 : Int).toNat).toInt))))) n h)) :
    Ok X 0 0 0 [(0, .ref (SA + 1)), (1, .int (i3 x1))] [] n h := by
  refine ok_iload_n (pc := 0) hc dL_cell_0 rfl 1 rfl ?_
  refine ok_aload_n (pc := 1) hc dL_cell_1 rfl 0 rfl ?_
  refine ok_slen (pc := 2) hc hX dL_cell_2 ?_
  obtain ⟨r1, P⟩ := P
  obtain ⟨r2, P⟩ := P
  refine zk_icmp_ge (pc := 3) (tgt := 12) hc dL_cell_3 (by decide) r1 r2 (fun c => ?_) (fun c => ?_)
  · have P := P.1 c
    refine ok_ldcI (pc := 12) hc (v := i3 1359893119) dL_cell_12 (in_all (i := 504) (by decide +kernel) rfl) ?_
    refine ok_iload_n (pc := 14) hc dL_cell_14 rfl 1 rfl ?_
    refine ok_iconst (pc := 15) hc (v := i3 1) dL_cell_15 (by decide) ?_
    refine zk_iadd (pc := 16) hc dL_cell_16 ?_
    refine zk_imul (pc := 17) hc dL_cell_17 ?_
    exact ok_iret (st := []) (pc := 18) hc hr dL_cell_18 P
  · have P := P.2 c
    refine ok_aload_n (pc := 6) hc dL_cell_6 rfl 0 rfl ?_
    refine ok_iload_n (pc := 7) hc dL_cell_7 rfl 1 rfl ?_
    obtain ⟨r, P⟩ := P
    refine ok_sld (pc := 8) hc hX dL_cell_8 r ?_
    refine ok_goto (pc := 9) (tgt := 18) hc dL_cell_9 (by decide) ?_
    exact ok_iret (st := []) (pc := 18) hc hr dL_cell_18 P

def spec_L_cell (args : List Value) (n : Nat) (h : HP) (K : KT) : Prop := ∃ k : Int, args = [.ref (SA + 1), .int (i3 k)] ∧ (0 ≤ k ∧ k ≤ 1000) ∧ ∀ z : Int, K (.inl (some (.int (i3 z)))) n h
theorem sp_L_cell : Sp yL_cell cL_cell 2 (some .int) 0 0 0 0 spec_L_cell := by
  refine sp_intro (by decide) (by rintro args n h K ⟨k, rfl, -⟩; exact Nat.le_of_ble_eq_true rfl) ?_
  rintro X args n h K hc hr ⟨k, rfl, hk, kk⟩
  obtain ⟨L9, xs, hX, hL⟩ := sc_of hc
  exact sL_cell_0 hc hr hX ⟨R3_s (by omega), R3_s (by omega), fun _ => kk _, fun c => ⟨⟨by omega, by omega, by omega⟩, kk _⟩⟩
set_option maxHeartbeats 4000000 in
set_option maxRecDepth 100000 in
theorem sL_at_0 {X : Xt} {n : Nat} {h : HP} {x0 : Int} {x1 : Int} (hc : Cx X cL_at RL 2 0 0) {K : KT} (hr : CxR X (some .int) K) 
    (P : (((0 : Int) ≤ (bushr x0 1) ∧ (bushr x0 1) ≤ 2147483647) ∧ (0 : Int) < x1 ∧ (x1 : Int) ≤ 2147483647) ∧ K (.inl (some (.int (i3 ((bushr x0 1) % x1))))) n h) :
    Ok X 0 0 0 [(0, .int (i3 x0)), (1, .int (i3 x1))] [] n h := by
  refine ok_iload_n (pc := 0) hc dL_at_0 rfl 0 rfl ?_
  refine ok_iconst (pc := 1) hc (v := i3 1) dL_at_1 (by decide) ?_
  refine zk_iushr (pc := 2) hc dL_at_2 ?_
  refine ok_iload_n (pc := 3) hc dL_at_3 rfl 1 rfl ?_
  obtain ⟨r, P⟩ := P
  refine zk_irem (pc := 4) hc dL_at_4 r ?_
  exact ok_iret (st := []) (pc := 5) hc hr dL_at_5 P

theorem bushr_r (x : Int) : 0 ≤ bushr x 1 ∧ bushr x 1 ≤ 2147483647 := by
  have h := pk_ushr (i3 x) (i3 1) 1 (by decide)
  have hlt := (i3 x).toBitVec.isLt
  have e : (((i3 x).toUInt32 >>> ((i3 1).toUInt32 &&& Int32.toUInt32 31)).toInt32).toInt = ((((i3 x).toUInt32 >>> ((i3 1).toUInt32 &&& Int32.toUInt32 31)).toInt32).toBitVec.toNat : Int) := BitVec.toInt_eq_toNat_of_lt (by rw [h]; omega)
  unfold bushr
  rw [e, h]
  omega
def spec_L_at (args : List Value) (n : Nat) (h : HP) (K : KT) : Prop := ∃ x m : Int, args = [.int (i3 x), .int (i3 m)] ∧ (0 < m ∧ m ≤ 1000) ∧ ∀ z : Int, 0 ≤ z → z < m → K (.inl (some (.int (i3 z)))) n h
theorem sp_L_at : Sp yL_at cL_at 2 (some .int) 0 0 0 0 spec_L_at := by
  refine sp_intro (by decide) (by rintro args n h K ⟨x, m, rfl, -⟩; exact Nat.le_of_ble_eq_true rfl) ?_
  rintro X args n h K hc hr ⟨x, m, rfl, hm, kk⟩
  exact sL_at_0 hc hr ⟨⟨bushr_r x, by omega, by omega⟩, kk _ (Int.emod_nonneg _ (by omega)) (Int.emod_lt_of_pos _ (by omega))⟩
set_option maxHeartbeats 4000000 in
set_option maxRecDepth 100000 in
theorem sL_kind_0 {X : Xt} {n : Nat} {h : HP} {x0 : Int} {a1 : Nat} {len1 : Nat} {f1 : Nat → Int} (hc : Cx X cL_kind RL 2 0 0) {K : KT} (hr : CxR X (some .int) K) (e1 : At h n a1 (ai len1 f1))
    (P : (Ix (4 * x0) len1) ∧ K (.inl (some (.int (i3 (f1 ((4 * x0) : Int).toNat))))) n h) :
    Ok X 0 0 0 [(0, .int (i3 x0)), (1, .ref a1)] [] n h := by
  refine ok_aload_n (pc := 0) hc dL_kind_0 rfl 1 rfl ?_
  refine ok_iconst (pc := 1) hc (v := i3 4) dL_kind_1 (by decide) ?_
  refine ok_iload_n (pc := 2) hc dL_kind_2 rfl 0 rfl ?_
  refine zk_imul (pc := 3) hc dL_kind_3 ?_
  obtain ⟨r, P⟩ := P
  refine zk_iald (pc := 4) hc dL_kind_4 e1.1 e1.2 r ?_
  exact ok_iret (st := []) (pc := 5) hc hr dL_kind_5 P

def spec_L_kind (args : List Value) (n : Nat) (h : HP) (K : KT) : Prop := ∃ (x : Int) (a len : Nat) (F : Nat → Int), args = [.int (i3 x), .ref a] ∧ At h n a (ai len F) ∧ Ix (4 * x) len ∧ K (.inl (some (.int (i3 (F (4 * x : Int).toNat))))) n h
theorem sp_L_kind : Sp yL_kind cL_kind 2 (some .int) 0 0 0 0 spec_L_kind := by
  refine sp_intro (by decide) (by rintro args n h K ⟨x, a, len, F, rfl, -⟩; exact Nat.le_of_ble_eq_true rfl) ?_
  rintro X args n h K hc hr ⟨x, a, len, F, rfl, e, r, kk⟩
  exact sL_kind_0 hc hr e ⟨r, kk⟩
set_option maxHeartbeats 4000000 in
set_option maxRecDepth 100000 in
theorem sL_power_0 {X : Xt} {n : Nat} {h : HP} {x0 : Int} (hc : Cx X cL_power RL 1 0 0) {K : KT} (hr : CxR X (some .int) K) 
    (P : (R3 x0) ∧ (¬ x0 = 0 → (R3 x0) ∧ (¬ x0 = 1 → (R3 x0) ∧ (¬ x0 = 2 → K (.inl (some (.int (i3 27)))) n h) ∧ (x0 = 2 → K (.inl (some (.int (i3 9)))) n h)) ∧ (x0 = 1 → K (.inl (some (.int (i3 3)))) n h)) ∧ (x0 = 0 → K (.inl (some (.int (i3 1)))) n h)) :
    Ok X 0 0 0 [(0, .int (i3 x0))] [] n h := by
  refine ok_iload_n (pc := 0) hc dL_power_0 rfl 0 rfl ?_
  obtain ⟨r1, P⟩ := P
  refine zk_if_ne (pc := 1) (tgt := 8) hc dL_power_1 (by decide) r1 (fun c => ?_) (fun c => ?_)
  · have P := P.1 c
    refine ok_iload_n (pc := 8) hc dL_power_8 rfl 0 rfl ?_
    refine ok_iconst (pc := 9) hc (v := i3 1) dL_power_9 (by decide) ?_
    obtain ⟨r2, P⟩ := P
    refine zk_icmp_ne (pc := 10) (tgt := 17) hc dL_power_10 (by decide) r2 ⟨by decide, by decide⟩ (fun c => ?_) (fun c => ?_)
    · have P := P.1 c
      refine ok_iload_n (pc := 17) hc dL_power_17 rfl 0 rfl ?_
      refine ok_iconst (pc := 18) hc (v := i3 2) dL_power_18 (by decide) ?_
      obtain ⟨r3, P⟩ := P
      refine zk_icmp_ne (pc := 19) (tgt := 27) hc dL_power_19 (by decide) r3 ⟨by decide, by decide⟩ (fun c => ?_) (fun c => ?_)
      · have P := P.1 c
        refine ok_bipush (pc := 27) hc (v := i3 27) dL_power_27 (by decide) ?_
        exact ok_iret (st := []) (pc := 29) hc hr dL_power_29 P
      · have P := P.2 c
        refine ok_bipush (pc := 22) hc (v := i3 9) dL_power_22 (by decide) ?_
        refine ok_goto (pc := 24) (tgt := 29) hc dL_power_24 (by decide) ?_
        exact ok_iret (st := []) (pc := 29) hc hr dL_power_29 P
    · have P := P.2 c
      refine ok_iconst (pc := 13) hc (v := i3 3) dL_power_13 (by decide) ?_
      refine ok_goto (pc := 14) (tgt := 29) hc dL_power_14 (by decide) ?_
      exact ok_iret (st := []) (pc := 29) hc hr dL_power_29 P
  · have P := P.2 c
    refine ok_iconst (pc := 4) hc (v := i3 1) dL_power_4 (by decide) ?_
    refine ok_goto (pc := 5) (tgt := 29) hc dL_power_5 (by decide) ?_
    exact ok_iret (st := []) (pc := 29) hc hr dL_power_29 P

def spec_L_power (args : List Value) (n : Nat) (h : HP) (K : KT) : Prop := ∃ y : Int, args = [.int (i3 y)] ∧ (0 ≤ y ∧ y < 4) ∧ K (.inl (some (.int (i3 ((3 : Int) ^ y.toNat))))) n h
theorem sp_L_power : Sp yL_power cL_power 1 (some .int) 0 0 0 0 spec_L_power := by
  refine sp_intro (by decide) (by rintro args n h K ⟨y, rfl, -⟩; exact Nat.le_of_ble_eq_true rfl) ?_
  rintro X args n h K hc hr ⟨y, rfl, hy, kk⟩
  have r : R3 y := R3_s (by omega)
  refine sL_power_0 hc hr ⟨r, fun a => ⟨r, fun b => ⟨r, fun c => ?_, fun c => ?_⟩, fun b => ?_⟩, fun a => ?_⟩
  · have : y = 3 := by omega
    subst this
    exact kk
  · subst c
    exact kk
  · subst b
    exact kk
  · subst a
    exact kk
set_option maxHeartbeats 4000000 in
set_option maxRecDepth 100000 in
theorem sL_state_0 {X : Xt} {n : Nat} {h : HP} {x0 : Int} {x1 : Int} (hc : Cx X cL_state RL 2 1 20) {K : KT} (hr : CxR X (some .int) K) 
    (P : (0 ≤ x1 ∧ x1 < 4) ∧ (((0 : Int) ≤ x0 ∧ x0 ≤ 2147483647) ∧ (0 : Int) < ((3 : Int) ^ (x1 : Int).toNat) ∧ (((3 : Int) ^ (x1 : Int).toNat) : Int) ≤ 2147483647) ∧ (((0 : Int) ≤ (x0 / ((3 : Int) ^ (x1 : Int).toNat)) ∧ (x0 / ((3 : Int) ^ (x1 : Int).toNat)) ≤ 2147483647) ∧ (0 : Int) < 3 ∧ (3 : Int) ≤ 2147483647) ∧ K (.inl (some (.int (i3 ((x0 / ((3 : Int) ^ (x1 : Int).toNat)) % 3))))) n h) :
    Ok X 0 0 0 [(0, .int (i3 x0)), (1, .int (i3 x1))] [] n h := by
  refine ok_iload_n (pc := 0) hc dL_state_0 rfl 0 rfl ?_
  refine ok_iload_n (pc := 1) hc dL_state_1 rfl 1 rfl ?_
  obtain ⟨r0, P⟩ := P
  refine ok_callS (pc := 2) (cb := 0) (sb := 0) (st := [.int (i3 x0)]) hc [.int (i3 x1)] cs_L_21 sp_L_power (by decide) dL_state_2 rfl rfl rfl rfl (Nat.le_of_ble_eq_true rfl) (⟨_, rfl, r0, rfl, ?_⟩)
  show Ok X 0 0 (2 + 3) [(0, .int (i3 x0)), (1, .int (i3 x1))] [.int (i3 ((3 : Int) ^ (x1 : Int).toNat)), .int (i3 x0)] n h
  obtain ⟨r, P⟩ := P
  refine zk_idiv (pc := 5) hc dL_state_5 r ?_
  refine ok_iconst (pc := 6) hc (v := i3 3) dL_state_6 (by decide) ?_
  obtain ⟨r, P⟩ := P
  refine zk_irem (pc := 7) hc dL_state_7 r ?_
  exact ok_iret (st := []) (pc := 8) hc hr dL_state_8 P

def spec_L_state (args : List Value) (n : Nat) (h : HP) (K : KT) : Prop := ∃ x y : Int, args = [.int (i3 x), .int (i3 y)] ∧ ((0 ≤ x ∧ x ≤ 2147483647) ∧ 0 ≤ y ∧ y < 4) ∧ K (.inl (some (.int (i3 (x / 3 ^ y.toNat % 3))))) n h
theorem sp_L_state : Sp yL_state cL_state 2 (some .int) 1 20 0 0 spec_L_state := by
  refine sp_intro (by decide) (by rintro args n h K ⟨x, y, rfl, -⟩; exact Nat.le_of_ble_eq_true rfl) ?_
  rintro X args n h K hc hr ⟨x, y, rfl, ⟨hx, hy⟩, kk⟩
  have h1 := pow3_pos y.toNat
  have h2 := pow3_le hy
  have h3 := Int.ediv_nonneg hx.1 (Int.le_of_lt h1)
  have h4 := Int.ediv_le_self ((3 : Int) ^ y.toNat) hx.1
  exact sL_state_0 hc hr ⟨hy, ⟨hx, h1, by omega⟩, ⟨⟨h3, by omega⟩, by decide, by decide⟩, kk⟩
/-- a long whose negative is a long too -/
def R6p (x : Int) : Prop := -9223372036854775807 ≤ x ∧ x ≤ 9223372036854775807
theorem R6p.r {x : Int} (h : R6p x) : R6 x := ⟨by have := h.1; omega, h.2⟩
def gcZ (x y : Int) : Int := (Nat.gcd x.natAbs y.natAbs : Nat)
set_option maxHeartbeats 4000000 in
set_option maxRecDepth 100000 in
theorem sL_common_0 {X : Xt} {n : Nat} {h : HP} {l0 : Int} {l2 : Int} (hc : Cx X cL_common RL 10 0 0) {K : KT} (hr : CxR X (some .long) K) 
    (P : (R6 l0 ∧ R6 0) ∧ (0 ≤ l0 → (R6 l2 ∧ R6 0) ∧ (0 ≤ l2 → Ok X 0 0 28 [(0, .long (i6 l0)), (2, .long (i6 l2)), (4, .long (i6 l0)), (6, .long (i6 l2))] [] n h) ∧ (¬ 0 ≤ l2 → Ok X 0 0 28 [(0, .long (i6 l0)), (2, .long (i6 l2)), (4, .long (i6 l0)), (6, .long (i6 (-l2)))] [] n h)) ∧ (¬ 0 ≤ l0 → (R6 l2 ∧ R6 0) ∧ (0 ≤ l2 → Ok X 0 0 28 [(0, .long (i6 l0)), (2, .long (i6 l2)), (4, .long (i6 (-l0))), (6, .long (i6 l2))] [] n h) ∧ (¬ 0 ≤ l2 → Ok X 0 0 28 [(0, .long (i6 l0)), (2, .long (i6 l2)), (4, .long (i6 (-l0))), (6, .long (i6 (-l2)))] [] n h))) :
    Ok X 0 0 0 [(0, .long (i6 l0)), (2, .long (i6 l2))] [] n h := by
  refine ok_lload_n (pc := 0) hc dL_common_0 rfl 0 rfl ?_
  refine ok_lconst (pc := 1) hc (v := i6 0) dL_common_1 (by decide) ?_
  obtain ⟨r, P⟩ := P
  refine zk_lcmp (pc := 2) hc dL_common_2 r ?_
  refine zk_if_ge (pc := 3) (tgt := 11) hc dL_common_3 (by decide) R3_cmp (fun c => ?_) (fun c => ?_)
  · have P := P.1 (cmp_ge.mp c)
    refine ok_lload_n (pc := 11) hc dL_common_11 rfl 0 rfl ?_
    refine ok_lstore (pc := 12) hc (lv' := [(4, .long (i6 l0)), (0, .long (i6 l0)), (2, .long (i6 l2))]) dL_common_12 (by decide) rfl ?_
    refine ok_lload_n (pc := 14) hc dL_common_14 rfl 2 rfl ?_
    refine ok_lconst (pc := 15) hc (v := i6 0) dL_common_15 (by decide) ?_
    obtain ⟨r, P⟩ := P
    refine zk_lcmp (pc := 16) hc dL_common_16 r ?_
    refine zk_if_ge (pc := 17) (tgt := 25) hc dL_common_17 (by decide) R3_cmp (fun c => ?_) (fun c => ?_)
    · have P := P.1 (cmp_ge.mp c)
      refine ok_lload_n (pc := 25) hc dL_common_25 rfl 2 rfl ?_
      refine ok_lstore (pc := 26) hc (lv' := [(6, .long (i6 l2)), (4, .long (i6 l0)), (0, .long (i6 l0)), (2, .long (i6 l2))]) dL_common_26 (by decide) rfl ?_
      refine ok_lv [2, 3, 1, 0] rfl ?_
      exact P
    · have P := P.2 (fun z => c (cmp_ge.mpr z))
      refine ok_lload_n (pc := 20) hc dL_common_20 rfl 2 rfl ?_
      refine zk_lneg (pc := 21) hc dL_common_21 ?_
      refine ok_goto (pc := 22) (tgt := 26) hc dL_common_22 (by decide) ?_
      refine ok_lstore (pc := 26) hc (lv' := [(6, .long (i6 (-l2))), (4, .long (i6 l0)), (0, .long (i6 l0)), (2, .long (i6 l2))]) dL_common_26 (by decide) rfl ?_
      refine ok_lv [2, 3, 1, 0] rfl ?_
      exact P
  · have P := P.2 (fun z => c (cmp_ge.mpr z))
    refine ok_lload_n (pc := 6) hc dL_common_6 rfl 0 rfl ?_
    refine zk_lneg (pc := 7) hc dL_common_7 ?_
    refine ok_goto (pc := 8) (tgt := 12) hc dL_common_8 (by decide) ?_
    refine ok_lstore (pc := 12) hc (lv' := [(4, .long (i6 (-l0))), (0, .long (i6 l0)), (2, .long (i6 l2))]) dL_common_12 (by decide) rfl ?_
    refine ok_lload_n (pc := 14) hc dL_common_14 rfl 2 rfl ?_
    refine ok_lconst (pc := 15) hc (v := i6 0) dL_common_15 (by decide) ?_
    obtain ⟨r, P⟩ := P
    refine zk_lcmp (pc := 16) hc dL_common_16 r ?_
    refine zk_if_ge (pc := 17) (tgt := 25) hc dL_common_17 (by decide) R3_cmp (fun c => ?_) (fun c => ?_)
    · have P := P.1 (cmp_ge.mp c)
      refine ok_lload_n (pc := 25) hc dL_common_25 rfl 2 rfl ?_
      refine ok_lstore (pc := 26) hc (lv' := [(6, .long (i6 l2)), (4, .long (i6 (-l0))), (0, .long (i6 l0)), (2, .long (i6 l2))]) dL_common_26 (by decide) rfl ?_
      refine ok_lv [2, 3, 1, 0] rfl ?_
      exact P
    · have P := P.2 (fun z => c (cmp_ge.mpr z))
      refine ok_lload_n (pc := 20) hc dL_common_20 rfl 2 rfl ?_
      refine zk_lneg (pc := 21) hc dL_common_21 ?_
      refine ok_goto (pc := 22) (tgt := 26) hc dL_common_22 (by decide) ?_
      refine ok_lstore (pc := 26) hc (lv' := [(6, .long (i6 (-l2))), (4, .long (i6 (-l0))), (0, .long (i6 l0)), (2, .long (i6 l2))]) dL_common_26 (by decide) rfl ?_
      refine ok_lv [2, 3, 1, 0] rfl ?_
      exact P

set_option maxHeartbeats 4000000 in
set_option maxRecDepth 100000 in
theorem sL_common_28 {X : Xt} {n : Nat} {h : HP} {l0 : Int} {l2 : Int} {l4 : Int} {l6 : Int} (hc : Cx X cL_common RL 10 0 0) {K : KT} (hr : CxR X (some .long) K) 
    (P : (R6 l6 ∧ R6 0) ∧ (l6 ≤ 0 → K (.inl (some (.long (i6 l4)))) n h) ∧ (¬ l6 ≤ 0 → (((0 : Int) ≤ l4 ∧ l4 ≤ 9223372036854775807) ∧ (0 : Int) < l6 ∧ (l6 : Int) ≤ 9223372036854775807) ∧ Ok X 0 0 28 [(0, .long (i6 l0)), (2, .long (i6 l2)), (4, .long (i6 l6)), (6, .long (i6 (l4 % l6)))] [] n h)) :
    Ok X 0 0 28 [(0, .long (i6 l0)), (2, .long (i6 l2)), (4, .long (i6 l4)), (6, .long (i6 l6))] [] n h := by
  refine ok_lload (pc := 28) hc dL_common_28 3 rfl ?_
  refine ok_lconst (pc := 30) hc (v := i6 0) dL_common_30 (by decide) ?_
  obtain ⟨r, P⟩ := P
  refine zk_lcmp (pc := 31) hc dL_common_31 r ?_
  refine zk_if_le (pc := 32) (tgt := 53) hc dL_common_32 (by decide) R3_cmp (fun c => ?_) (fun c => ?_)
  · have P := P.1 (cmp_le.mp c)
    refine ok_lload (pc := 53) hc dL_common_53 2 rfl ?_
    exact ok_lret (st := []) (pc := 55) hc hr dL_common_55 P
  · have P := P.2 (fun z => c (cmp_le.mpr z))
    refine ok_lload (pc := 35) hc dL_common_35 2 rfl ?_
    refine ok_lload (pc := 37) hc dL_common_37 3 rfl ?_
    obtain ⟨r, P⟩ := P
    refine zk_lrem (pc := 39) hc dL_common_39 r ?_
    refine ok_lstore (pc := 40) hc (lv' := [(8, .long (i6 (l4 % l6))), (0, .long (i6 l0)), (2, .long (i6 l2)), (4, .long (i6 l4)), (6, .long (i6 l6))]) dL_common_40 (by decide) rfl ?_
    refine ok_lload (pc := 42) hc dL_common_42 4 rfl ?_
    refine ok_lstore (pc := 44) hc (lv' := [(4, .long (i6 l6)), (8, .long (i6 (l4 % l6))), (0, .long (i6 l0)), (2, .long (i6 l2)), (6, .long (i6 l6))]) dL_common_44 (by decide) rfl ?_
    refine ok_lload (pc := 46) hc dL_common_46 1 rfl ?_
    refine ok_lstore (pc := 48) hc (lv' := [(6, .long (i6 (l4 % l6))), (4, .long (i6 l6)), (8, .long (i6 (l4 % l6))), (0, .long (i6 l0)), (2, .long (i6 l2))]) dL_common_48 (by decide) rfl ?_
    refine ok_goto (pc := 50) (tgt := 28) hc dL_common_50 (by decide) ?_
    refine ok_lv [3, 4, 1, 0] rfl ?_
    exact P

def spec_L_common (args : List Value) (n : Nat) (h : HP) (K : KT) : Prop := ∃ x y : Int, args = [.long (i6 x), .long (i6 y)] ∧ (R6p x ∧ R6p y) ∧ K (.inl (some (.long (i6 (gcZ x y))))) n h
theorem sp_L_common : Sp yL_common cL_common 10 (some .long) 0 0 0 0 spec_L_common := by
  refine sp_intro (by decide) (by rintro args n h K ⟨x, y, rfl, -⟩; exact Nat.le_of_ble_eq_true rfl) ?_
  rintro X args n h K hc hr ⟨x, y, rfl, ⟨hx, hy⟩, kk⟩
  unfold R6p at hx hy
  have L : ∀ b a : Nat, a ≤ 9223372036854775807 → b ≤ 9223372036854775807 → Nat.gcd a b = Nat.gcd x.natAbs y.natAbs → Ok X 0 0 28 [(0, .long (i6 x)), (2, .long (i6 y)), (4, .long (i6 a)), (6, .long (i6 b))] [] n h := by
    intro b
    induction b using Nat.strongRecOn with
    | _ b ih =>
      intro a ha hb hg
      refine sL_common_28 hc hr ⟨⟨⟨by omega, by omega⟩, R6_0⟩, fun c => ?_, fun c => ⟨⟨⟨by omega, by omega⟩, by omega, by omega⟩, ?_⟩⟩
      · have hb0 : b = 0 := by omega
        subst hb0
        rw [Nat.gcd_zero_right] at hg
        unfold gcZ at kk
        rw [← hg] at kk
        exact kk
      · have hb0 : 0 < b := by omega
        have hm := Nat.mod_lt a hb0
        have := ih (a % b) hm b hb (by omega) (by rw [Nat.gcd_comm b, ← Nat.gcd_rec, Nat.gcd_comm b, hg])
        rw [Int.natCast_emod] at this
        exact this
  have L0 := L y.natAbs x.natAbs (by omega) (by omega) rfl
  refine sL_common_0 hc hr ⟨⟨⟨by omega, by omega⟩, R6_0⟩, fun c => ⟨⟨⟨by omega, by omega⟩, R6_0⟩, fun d => ?_, fun d => ?_⟩, fun c => ⟨⟨⟨by omega, by omega⟩, R6_0⟩, fun d => ?_, fun d => ?_⟩⟩
  · rw [show ((x.natAbs : Nat) : Int) = x by omega, show ((y.natAbs : Nat) : Int) = y by omega] at L0
    exact L0
  · rw [show ((x.natAbs : Nat) : Int) = x by omega, show ((y.natAbs : Nat) : Int) = -y by omega] at L0
    exact L0
  · rw [show ((x.natAbs : Nat) : Int) = -x by omega, show ((y.natAbs : Nat) : Int) = y by omega] at L0
    exact L0
  · rw [show ((x.natAbs : Nat) : Int) = -x by omega, show ((y.natAbs : Nat) : Int) = -y by omega] at L0
    exact L0
