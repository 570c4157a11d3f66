/-! part 68: the reference's rules: what a row of numbers stands for; addTo -/
def srcV (ps : List Part) (k : Int) : Int := (pAt ps (srcI ps k)).2.2.2
/-- what is given: the nodes 0 to 6, then the rail, its opposite, and one -/
def valF (ps : List Part) (off rail : Int) : Nat → Int := fun k => if k = 7 then (if off = 0 ∧ 0 < nA ps then rail else 0) else if k = 8 then (if off = 0 ∧ 0 < nA ps then -rail else 0) else if k = 9 then (if 0 < nA ps then 1 else 0) else if k = 0 ∨ frF ps k = true ∨ off ≠ 0 ∨ srcI ps k = -1 then 0 else srcV ps k
theorem valF_s {ps : List Part} {off rail : Int} {k : Nat} (hk : k < 7) (h0 : k ≠ 0) (hf : ¬ frF ps k = true) (ho : off = 0) (hs : srcI ps k ≠ -1) : valF ps off rail k = srcV ps k := by
  have h7 : ¬ k = 7 := by omega
  have h8 : ¬ k = 8 := by omega
  have h9 : ¬ k = 9 := by omega
  have hh : ¬ (k = 0 ∨ frF ps k = true ∨ off ≠ 0 ∨ srcI ps k = -1) := by
    rintro (c | c | c | c)
    · exact h0 c
    · exact hf c
    · exact c ho
    · exact hs c
  unfold valF
  rw [if_neg h7, if_neg h8, if_neg h9, if_neg hh]
theorem valF_0 {ps : List Part} {off rail : Int} {k : Nat} (hk : k < 7) (h : k = 0 ∨ frF ps k = true ∨ off ≠ 0 ∨ srcI ps k = -1) : valF ps off rail k = 0 := by
  have h7 : ¬ k = 7 := by omega
  have h8 : ¬ k = 8 := by omega
  have h9 : ¬ k = 9 := by omega
  unfold valF
  rw [if_neg h7, if_neg h8, if_neg h9, if_pos h]
def nodeOf (ps : List Part) (q : Nat) : Nat := ((List.range 7).find? (fun k => frF ps k && decide (cn (frF ps) k = q))).getD 0
theorem nodeOf_cn {ps : List Part} {k : Nat} (hk : k < 7) (hf : frF ps k = true) : nodeOf ps (cn (frF ps) k) = k := by
  unfold nodeOf
  cases e : (List.range 7).find? (fun j => frF ps j && decide (cn (frF ps) j = cn (frF ps) k)) with
  | none =>
    have := List.find?_eq_none.mp e k (List.mem_range.mpr hk)
    rw [hf, decide_eq_true rfl] at this
    exact absurd rfl this
  | some j =>
    have h1 := List.find?_some e
    rw [Bool.and_eq_true, decide_eq_true_eq] at h1
    exact cn_inj h1.1 hf h1.2
theorem nodeOf_fr {ps : List Part} {q : Nat} (h : q < cn (frF ps) 7) : nodeOf ps q < 7 ∧ frF ps (nodeOf ps q) = true ∧ cn (frF ps) (nodeOf ps q) = q := by
  obtain ⟨i, h1, h2, h3⟩ := cn_ex h
  have := nodeOf_cn h1 h2
  rw [h3] at this
  rw [this]
  exact ⟨h1, h2, h3⟩
def Tr (ps : List Part) (val : Nat → Int) (ρ : Nat → Int) (q : Nat) : Int := if q = 6 then -la_s (fun k => val k * ρ k) 10 else if q < cn (frF ps) 7 then ρ (nodeOf ps q) else 0
theorem Tr_lt {ps : List Part} {val ρ : Nat → Int} {q : Nat} (h6 : q ≠ 6) (h : q < cn (frF ps) 7) : Tr ps val ρ q = ρ (nodeOf ps q) := by
  unfold Tr
  rw [if_neg h6, if_pos h]
theorem Tr_ge {ps : List Part} {val ρ : Nat → Int} {q : Nat} (h6 : q ≠ 6) (h : ¬ q < cn (frF ps) 7) : Tr ps val ρ q = 0 := by
  unfold Tr
  rw [if_neg h6, if_neg h]
def RowIs (ps : List Part) (val : Nat → Int) (R : Nat → Int) (r : Nat) (ρ : Nat → Int) : Prop := ∀ q, q < 7 → R (7 * r + q) = Tr ps val ρ q
theorem Tr_6 (ps : List Part) (val : Nat → Int) (ρ : Nat → Int) (k : Nat) (g : Int) (hk : k < 10) : Tr ps val (fun q => g * lb_d (some k) q + ρ q) 6 = Tr ps val ρ 6 - g * val k := by
  show -la_s _ 10 = -la_s _ 10 - _
  have e : la_s (fun j => val j * (g * lb_d (some k) j + ρ j)) 10 = la_s (fun j => g * (val j * lb_d (some k) j) + val j * ρ j) 10 := la_sE fun j _ => by grind
  rw [e, la_sadd, la_smul, la_s1 hk (fun j _ q => by
    unfold lb_d
    rw [if_neg (fun z => q (Option.some.inj z).symm), Int.mul_zero])]
  unfold lb_d
  rw [if_pos rfl, Int.mul_one]
  omega
theorem Tr_n {ps : List Part} {val : Nat → Int} {ρ : Nat → Int} {k q : Nat} {g : Int} (hq : q < 6) (h : q < cn (frF ps) 7 → nodeOf ps q ≠ k) : Tr ps val (fun q => g * lb_d (some k) q + ρ q) q = Tr ps val ρ q := by
  have h6 : q ≠ 6 := by omega
  by_cases c : q < cn (frF ps) 7
  · rw [Tr_lt h6 c, Tr_lt h6 c]
    unfold lb_d
    rw [if_neg (fun z => h c (Option.some.inj z).symm), Int.mul_zero, Int.zero_add]
  · rw [Tr_ge h6 c, Tr_ge h6 c]
theorem up_id {h : HP} {n a : Nat} {e : AE} (p : At h n a e) : va_up h a e = h := by
  funext x
  by_cases c : x = a
  · subst c
    rw [up_self, p.2]
  · rw [up_ne c]
/-- a row, and a number of a node that has a column -/
theorem RowIs.fr {ps : List Part} {off rail : Int} {R : Nat → Int} {r k : Nat} {ρ : Nat → Int} {g : Int} (p : RowIs ps (valF ps off rail) R r ρ) (hk : k < 7) (hf : frF ps k = true) : RowIs ps (valF ps off rail) (va_up R (7 * r + cn (frF ps) k) (R (7 * r + cn (frF ps) k) + g)) r (fun q => g * lb_d (some k) q + ρ q) := by
  have hu := fr6 ps
  have hc := cn_lt hk hf
  have hv : valF ps off rail k = 0 := valF_0 hk (Or.inr (Or.inl hf))
  intro q hq
  by_cases e : q = cn (frF ps) k
  · subst e
    rw [up_self, p _ hq]
    have h6 : cn (frF ps) k ≠ 6 := by omega
    rw [Tr_lt h6 hc, Tr_lt h6 hc, nodeOf_cn hk hf]
    unfold lb_d
    rw [if_pos rfl]
    omega
  · rw [up_ne (by omega), p q hq]
    by_cases c : q = 6
    · subst c
      rw [Tr_6 _ _ _ _ _ (by omega), hv]
      omega
    · refine (Tr_n (by omega) (fun d z => e ?_)).symm
      rw [← z, (nodeOf_fr d).2.2]
theorem RowIs.nf {ps : List Part} {off rail : Int} {R : Nat → Int} {r k : Nat} {ρ : Nat → Int} {g : Int} (p : RowIs ps (valF ps off rail) R r ρ) (hk : k < 10) (hf : ¬ (k < 7 ∧ frF ps k = true)) : RowIs ps (valF ps off rail) (va_up R (7 * r + 6) (R (7 * r + 6) - g * valF ps off rail k)) r (fun q => g * lb_d (some k) q + ρ q) := by
  intro q hq
  by_cases c : q = 6
  · subst c
    rw [up_self, p _ hq, Tr_6 _ _ _ _ _ hk]
  · rw [up_ne (by omega), p q hq]
    refine (Tr_n (by omega) (fun d z => hf ?_)).symm
    rw [← z]
    exact ⟨(nodeOf_fr d).1, (nodeOf_fr d).2.1⟩
theorem RowIs.n0 {ps : List Part} {off rail : Int} {R : Nat → Int} {r k : Nat} {ρ : Nat → Int} {g : Int} (p : RowIs ps (valF ps off rail) R r ρ) (hk : k < 10) (hf : ¬ (k < 7 ∧ frF ps k = true)) (hv : valF ps off rail k = 0) : RowIs ps (valF ps off rail) R r (fun q => g * lb_d (some k) q + ρ q) := by
  have := p.nf (g := g) hk hf
  rw [hv, Int.mul_zero, Int.sub_zero] at this
  intro q hq
  rw [← this q hq]
  by_cases c : 7 * r + q = 7 * r + 6
  · rw [c, up_self]
  · rw [up_ne c]
set_option maxHeartbeats 4000000 in
set_option maxRecDepth 100000 in
theorem sX7_addTo_0 {X : Xt} {n : Nat} {h : HP} {a0 : Nat} {x1 : Int} {l2 : Int} {x4 : Int} {fs1 : List Value} {q2 : Nat} {len3 : Nat} {f3 : Nat → Int} {q7 : Nat} {iv8 : Int} {len9 : Nat} {f9 : Nat → Int} {q10 : Nat} {f11 : Nat → Int} {ps12 : List Part} (hc : Cx X cX7_addTo RX7 5 3 67) {K : KT} (hr : CxR X none K) (e1 : At h n a0 (.inl (7, fs1))) (z1 : fs1.length = 24) (v1_10 : fs1[10]? = some (.ref q2)) (e3 : At h n q2 (ai len3 f3)) (v1_11 : fs1[11]? = some (.ref q7)) (v1_12 : fs1[12]? = some (.int (i3 iv8))) (e9 : At h n q7 (al len9 f9)) (v1_1 : fs1[1]? = some (.ref q10)) (e11 : At h n q10 (ai 52 f11)) (hP12 : ZPs f11 ps12)
    (P : (Ix x1 len3) ∧ (R3 (f3 (x1 : Int).toNat)) ∧ ((f3 (x1 : Int).toNat) = (-1) → (R3 x1) ∧ (x1 ≤ 0 → K (.inl none) n h) ∧ (¬ x1 ≤ 0 → (R3 x4) ∧ (¬ x4 = 0 → K (.inl none) n h) ∧ (x4 = 0 → (Ix ((7 * iv8) + 6) len9) ∧ (R3 x1) ∧ (0 ≤ (4 : Int) * (srcI ps12 x1) + 3 ∧ (4 : Int) * (srcI ps12 x1) + 3 < 52) ∧ (R3 (f11 (4 * (srcI ps12 x1) + 3 : Int).toNat)) ∧ (Ix ((7 * iv8) + 6) len9) ∧ K (.inl none) n (va_up h q7 (al len9 (va_up f9 (((7 * iv8) + 6) : Int).toNat ((f9 (((7 * iv8) + 6) : Int).toNat) - (l2 * (f11 (4 * (srcI ps12 x1) + 3 : Int).toNat))))))))) ∧ (¬ (f3 (x1 : Int).toNat) = (-1) → (Ix x1 len3) ∧ (Ix ((7 * iv8) + (f3 (x1 : Int).toNat)) len9) ∧ (Ix ((7 * iv8) + (f3 (x1 : Int).toNat)) len9) ∧ K (.inl none) n (va_up h q7 (al len9 (va_up f9 (((7 * iv8) + (f3 (x1 : Int).toNat)) : Int).toNat ((f9 (((7 * iv8) + (f3 (x1 : Int).toNat)) : Int).toNat) + l2)))))) :
    Ok X 0 0 0 [(0, .ref a0), (1, .int (i3 x1)), (2, .long (i6 l2)), (4, .int (i3 x4))] [] n h := by
  refine ok_aload_n (pc := 0) hc dX7_addTo_0 rfl 0 rfl ?_
  refine ok_get (pc := 1) hc fl_X7_25 dX7_addTo_1 e1.1 e1.2 v1_10 ?_
  refine ok_iload_n (pc := 4) hc dX7_addTo_4 rfl 1 rfl ?_
  obtain ⟨r, P⟩ := P
  refine zk_iald (pc := 5) hc dX7_addTo_5 e3.1 e3.2 r ?_
  refine ok_iconst (pc := 6) hc (v := i3 (-1)) dX7_addTo_6 (by decide) ?_
  obtain ⟨r4, P⟩ := P
  refine zk_icmp_eq (pc := 7) (tgt := 36) hc dX7_addTo_7 (by decide) r4 ⟨by decide, by decide⟩ (fun c => ?_) (fun c => ?_)
  · have P := P.1 c
    refine ok_iload_n (pc := 36) hc dX7_addTo_36 rfl 1 rfl ?_
    obtain ⟨r5, P⟩ := P
    refine zk_if_le (pc := 37) (tgt := 76) hc dX7_addTo_37 (by decide) r5 (fun c => ?_) (fun c => ?_)
    · have P := P.1 c
      exact ok_vret (st := []) (pc := 76) hc hr dX7_addTo_76 P
    · have P := P.2 c
      refine ok_iload (pc := 40) hc dX7_addTo_40 3 rfl ?_
      obtain ⟨r6, P⟩ := P
      refine zk_if_ne (pc := 42) (tgt := 76) hc dX7_addTo_42 (by decide) r6 (fun c => ?_) (fun c => ?_)
      · have P := P.1 c
        exact ok_vret (st := []) (pc := 76) hc hr dX7_addTo_76 P
      · have P := P.2 c
        refine ok_aload_n (pc := 45) hc dX7_addTo_45 rfl 0 rfl ?_
        refine ok_get (pc := 46) hc fl_X7_28 dX7_addTo_46 e1.1 e1.2 v1_11 ?_
        refine ok_bipush (pc := 49) hc (v := i3 7) dX7_addTo_49 (by decide) ?_
        refine ok_aload_n (pc := 51) hc dX7_addTo_51 rfl 0 rfl ?_
        refine ok_get (pc := 52) hc fl_X7_85 dX7_addTo_52 e1.1 e1.2 v1_12 ?_
        refine zk_imul (pc := 55) hc dX7_addTo_55 ?_
        refine ok_bipush (pc := 56) hc (v := i3 6) dX7_addTo_56 (by decide) ?_
        refine zk_iadd (pc := 58) hc dX7_addTo_58 ?_
        refine ok_dup2_11 (pc := 59) hc dX7_addTo_59 rfl rfl ?_
        obtain ⟨r, P⟩ := P
        refine zk_lald (pc := 60) hc dX7_addTo_60 e9.1 e9.2 r ?_
        refine ok_lload_n (pc := 61) hc dX7_addTo_61 rfl 2 rfl ?_
        refine ok_aload_n (pc := 62) hc dX7_addTo_62 rfl 0 rfl ?_
        refine ok_aload_n (pc := 63) hc dX7_addTo_63 rfl 0 rfl ?_
        refine ok_iload_n (pc := 64) hc dX7_addTo_64 rfl 1 rfl ?_
        obtain ⟨r0, P⟩ := P
        refine ok_callV (pc := 65) (a := a0) (cb := 0) (sb := 0) (st := [.ref a0, .long (i6 l2), .long (i6 (f9 (((7 * iv8) + 6) : Int).toNat)), .int (i3 ((7 * iv8) + 6)), .ref q7]) hc [.int (i3 x1)] cv_X7_75 sp_X7_sourceAt (by decide) dX7_addTo_65 rfl e1.1 e1.2 rfl rfl rfl (Nat.le_of_ble_eq_true rfl) (⟨_, _, _, _, rfl, ⟨_, _, ⟨e1.1, e1.2⟩, z1, v1_1, ⟨e11.1, e11.2⟩⟩, hP12, r0, rfl, ?_⟩)
        show Ok X 0 0 (65 + 3) [(0, .ref a0), (1, .int (i3 x1)), (2, .long (i6 l2)), (4, .int (i3 x4))] [.int (i3 (srcI ps12 x1)), .ref a0, .long (i6 l2), .long (i6 (f9 (((7 * iv8) + 6) : Int).toNat)), .int (i3 ((7 * iv8) + 6)), .ref q7] n h
        refine ok_iconst (pc := 68) hc (v := i3 3) dX7_addTo_68 (by decide) ?_
        obtain ⟨r0, P⟩ := P
        refine ok_callV (pc := 69) (a := a0) (cb := 0) (sb := 0) (st := [.long (i6 l2), .long (i6 (f9 (((7 * iv8) + 6) : Int).toNat)), .int (i3 ((7 * iv8) + 6)), .ref q7]) hc [.int (i3 (srcI ps12 x1)), .int (i3 3)] cv_X7_49 sp_X7_of (by decide) dX7_addTo_69 rfl e1.1 e1.2 rfl rfl rfl (Nat.le_of_ble_eq_true rfl) (⟨_, _, _, _, rfl, ⟨_, _, ⟨e1.1, e1.2⟩, z1, v1_1, ⟨e11.1, e11.2⟩⟩, r0, rfl, ?_⟩)
        show Ok X 0 0 (69 + 3) [(0, .ref a0), (1, .int (i3 x1)), (2, .long (i6 l2)), (4, .int (i3 x4))] [.int (i3 (f11 (4 * (srcI ps12 x1) + 3 : Int).toNat)), .long (i6 l2), .long (i6 (f9 (((7 * iv8) + 6) : Int).toNat)), .int (i3 ((7 * iv8) + 6)), .ref q7] n h
        obtain ⟨r13, P⟩ := P
        refine zk_i2l (pc := 72) hc dX7_addTo_72 r13 ?_
        refine zk_lmul (pc := 73) hc dX7_addTo_73 ?_
        refine zk_lsub (pc := 74) hc dX7_addTo_74 ?_
        obtain ⟨r, P⟩ := P
        refine zk_last (pc := 75) hc dX7_addTo_75 e9.1 e9.2 r ?_
        exact ok_vret (st := []) (pc := 76) hc hr dX7_addTo_76 P
  · have P := P.2 c
    refine ok_aload_n (pc := 10) hc dX7_addTo_10 rfl 0 rfl ?_
    refine ok_get (pc := 11) hc fl_X7_28 dX7_addTo_11 e1.1 e1.2 v1_11 ?_
    refine ok_bipush (pc := 14) hc (v := i3 7) dX7_addTo_14 (by decide) ?_
    refine ok_aload_n (pc := 16) hc dX7_addTo_16 rfl 0 rfl ?_
    refine ok_get (pc := 17) hc fl_X7_85 dX7_addTo_17 e1.1 e1.2 v1_12 ?_
    refine zk_imul (pc := 20) hc dX7_addTo_20 ?_
    refine ok_aload_n (pc := 21) hc dX7_addTo_21 rfl 0 rfl ?_
    refine ok_get (pc := 22) hc fl_X7_25 dX7_addTo_22 e1.1 e1.2 v1_10 ?_
    refine ok_iload_n (pc := 25) hc dX7_addTo_25 rfl 1 rfl ?_
    obtain ⟨r, P⟩ := P
    refine zk_iald (pc := 26) hc dX7_addTo_26 e3.1 e3.2 r ?_
    refine zk_iadd (pc := 27) hc dX7_addTo_27 ?_
    refine ok_dup2_11 (pc := 28) hc dX7_addTo_28 rfl rfl ?_
    obtain ⟨r, P⟩ := P
    refine zk_lald (pc := 29) hc dX7_addTo_29 e9.1 e9.2 r ?_
    refine ok_lload_n (pc := 30) hc dX7_addTo_30 rfl 2 rfl ?_
    refine zk_ladd (pc := 31) hc dX7_addTo_31 ?_
    obtain ⟨r, P⟩ := P
    refine zk_last (pc := 32) hc dX7_addTo_32 e9.1 e9.2 r ?_
    refine ok_goto (pc := 33) (tgt := 76) hc dX7_addTo_33 (by decide) ?_
    exact ok_vret (st := []) (pc := 76) hc hr dX7_addTo_76 P

def spec_X7_addTo (args : List Value) (n : Nat) (h : HP) (K : KT) : Prop := ∃ (I : Nat → Int) (F : Nat → Nat → Int) (ps : List Part) (k r : Nat) (g off rail : Int) (ρ : Nat → Int), args = [.ref 128, .int (i3 k), .long (i6 g), .int (i3 off)] ∧ MAt h n I F ∧ ZPs (F 1) ps ∧ (∀ j, j < 7 → F 6 j = colF ps j) ∧ (k < 7 ∧ I 12 = r ∧ r < 6) ∧ (off = 0 ∨ off = 1) ∧ (off = 0 → k = 0 ∨ frF ps k = true ∨ srcI ps k ≠ -1) ∧ RowIs ps (valF ps off rail) (F 7) r ρ ∧ ∀ R' : Nat → Int, RowIs ps (valF ps off rail) R' r (fun q => g * lb_d (some k) q + ρ q) → (∀ x, x < 7 * r ∨ 7 * r + 7 ≤ x → R' x = F 7 x) → K (.inl none) n (va_up h 135 (al 42 R'))
theorem sp_X7_addTo : Sp yX7_addTo cX7_addTo 5 none 3 67 0 0 spec_X7_addTo := by
  refine sp_intro (by decide) (by rintro args n h K ⟨I, F, ps, k, r, g, off, rail, ρ, rfl, -⟩; exact Nat.le_of_ble_eq_true rfl) ?_
  rintro X args n h K hc hr ⟨I, F, ps, k, r, g, off, rail, ρ, rfl, hM, hP, hC, ⟨hk, h12, hr6⟩, hoff, hsrc, hR, kk⟩
  have hu := fr6 ps
  have e0 : (k : Int).toNat = k := by omega
  have hCk := hC k hk
  have hl := hP.2.1
  refine sX7_addTo_0 hc hr hM.o rfl rfl hM.c rfl rfl hM.r rfl hM.z hP ⟨⟨by omega, by omega, by omega⟩, ?_, fun c => ⟨R3_s (by omega), fun d => ?_, fun d => ⟨R3_s (by omega), fun e => ?_, fun e => ?_⟩⟩, fun c => ?_⟩
  · rw [e0, hCk]
    unfold colF
    have := cn_le (frF ps) k
    split <;> exact R3_s (by omega)
  · rw [e0, hCk] at c
    have hk0 : k = 0 := by omega
    have := kk (F 7) (hR.n0 (by omega) (fun z => by rw [hk0, fr0] at z; exact absurd z.2 (by decide)) (valF_0 hk (Or.inl hk0))) (fun x _ => rfl)
    rw [up_id hM.r] at this
    exact this
  · rw [e0, hCk] at c
    have hnf : ¬ frF ps k = true := fun z => by
      unfold colF at c
      rw [if_pos z] at c
      omega
    have := kk (F 7) (hR.n0 (by omega) (fun z => hnf z.2) (by
      exact valF_0 hk (Or.inr (Or.inr (Or.inl e))))) (fun x _ => rfl)
    rw [up_id hM.r] at this
    exact this
  · rw [e0, hCk] at c
    have hnf : ¬ frF ps k = true := fun z => by
      unfold colF at c
      rw [if_pos z] at c
      omega
    have hs : srcI ps k ≠ -1 := by
      rcases hsrc e with z | z | z
      · omega
      · exact absurd z hnf
      · exact z
    rcases srcI_r ps k with ⟨s1, _⟩ | ⟨j, p, s1, s2, s3, s4⟩
    · exact absurd s1 hs
    have hj := (List.getElem?_eq_some_iff.mp s2).1
    have hb := (hP.2.2.2 p (List.mem_of_getElem? s2)).b
    have e3 : F 1 (4 * (srcI ps k) + 3).toNat = valF ps off rail k := by
      rw [s1, show (4 * (j : Int) + 3).toNat = 4 * j + 3 by omega, (hP.of s2).2.2.2]
      rw [valF_s hk (by omega) hnf e hs]
      unfold srcV
      rw [s1, pAt_of s2]
    have e6 : (7 * I 12 + 6).toNat = 7 * r + 6 := by omega
    have := kk _ (hR.nf (g := g) (by omega) (fun z => hnf z.2)) (fun x hx => up_ne (by omega))
    rw [e3, e6, h12]
    have ev : -200 ≤ valF ps off rail k ∧ valF ps off rail k ≤ 200 := by
      rw [← e3, s1, show (4 * (j : Int) + 3).toNat = 4 * j + 3 by omega, (hP.of s2).2.2.2]
      omega
    exact ⟨⟨by omega, by omega, by omega⟩, R3_s (by omega), by rw [s1]; omega, R3_s (by omega), ⟨by omega, by omega, by omega⟩, this⟩
  · rw [e0, hCk] at c
    have hf : frF ps k = true := by
      unfold colF at c
      by_cases z : frF ps k = true
      · exact z
      · rw [if_neg z] at c
        exact absurd rfl c
    have hcn := cn_lt hk hf
    have ec : colF ps k = cn (frF ps) k := if_pos hf
    have e6 : (7 * I 12 + F 6 (k : Int).toNat).toNat = 7 * r + cn (frF ps) k := by
      rw [e0, hCk, ec]
      omega
    have := kk _ (hR.fr (g := g) hk hf) (fun x hx => up_ne (by omega))
    rw [e6]
    rw [e0, hCk, ec, h12]
    exact ⟨⟨by omega, by omega, by omega⟩, ⟨by omega, by omega, by omega⟩, ⟨by omega, by omega, by omega⟩, this⟩
