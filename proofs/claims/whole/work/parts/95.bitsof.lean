/-! part 95: bitsOf; Double.doubleToLongBits -/
def bitsI (w : UInt64) : Int := w.toInt64.toInt
theorem ok_d2raw {X : Xt} {cc : ByteArray} {own : String} {nL f L cb sb pc n : Nat} {lv : List (Nat × Value)} {st : List Value} {h : HP} (hc : Cx X cc own nL f L) {index : Nat} {w : UInt64} (hd : decode cc pc = .ok (.invokestatic index, 3)) (w1 : Cond.methodLink own index ⟨"java/lang/Double", "doubleToRawLongBits", "(D)J"⟩ ∈ lw_all) (w2 : Cond.native ⟨"java/lang/Double", "doubleToRawLongBits", "(D)J"⟩ ∈ lw_all) (w3 : Cond.static ⟨"java/lang/Double", "doubleToRawLongBits", "(D)J"⟩ ∈ lw_all) (w4 : Cond.initialized "java/lang/Double" ∈ lw_all) (hf : 1 ≤ f) (hL : 23 ≤ L) (hst : (st.map fun v => v.category).sum ≤ 8) (k : Ok X cb sb (pc + 3) lv (.long (i6 (bitsI w)) :: st) n h) : Ok X cb sb pc lv (.double w :: st) n h := by
  rw [bitsI, i6_T] at k
  obtain ⟨p, l, e, R, s, m, args, below, meth, c, D, bs, A0, n0, Q⟩ := X
  obtain ⟨hx, hb, hown, hts, hml, hRf, hRl, hF, htr, hlk, hbs⟩ := hc
  intro A cy H locs ls cells slots h1 h2 h3 h4 hw hS hl h5 h6
  have hsum : ((st.map (trV A)).map fun v => v.category).sum ≤ 8 := by simpa [Function.comp_def, trV_cat] using hst
  exact vn_d2l hx hb hl.1.symm hown (hts _ w1) (hts _ w2) (hts _ w3) (hts _ w4) (by omega) (by omega) hd (k A cy H locs ls cells slots h1 h2 h3 h4 hw hS hl h5 h6)
theorem ysS_Jxe99ae_isNaN_b9ae7 : Cond.static yJxe99ae_isNaN_b9ae7 ∈ lw_all ∧ Cond.initialized yJxe99ae_isNaN_b9ae7.cls ∈ lw_all ∧ Cond.code yJxe99ae_isNaN_b9ae7 cJxe99ae_isNaN_b9ae7 2 (some .boolean) ∈ lw_all ∧ (yJxe99ae_isNaN_b9ae7.cls ≠ "java/lang/invoke/MethodHandle" ∧ yJxe99ae_isNaN_b9ae7.cls ≠ "java/lang/invoke/VarHandle") ∧ (parseMethodDescriptor yJxe99ae_isNaN_b9ae7.desc).map (fun d => d.parameters.length) = some 1 := ⟨in_all (i := 1327) (by decide +kernel) rfl, in_all (i := 103) (by decide +kernel) rfl, in_all (i := 1328) (by decide +kernel) rfl, ⟨by decide +kernel, by decide +kernel⟩, by decide +kernel⟩
theorem cs_Jxe99ae_122 : CS RJxe99ae 122 yJxe99ae_isNaN_b9ae7 cJxe99ae_isNaN_b9ae7 2 (some .boolean) 1 := ⟨in_all (i := 1326) (by decide +kernel) rfl, ysS_Jxe99ae_isNaN_b9ae7⟩
set_option maxHeartbeats 4000000 in
set_option maxRecDepth 100000 in
theorem sJxe99ae_isNaN_b9ae7_0 {X : Xt} {n : Nat} {h : HP} {w0 : UInt64} (hc : Cx X cJxe99ae_isNaN_b9ae7 RJxe99ae 2 0 0) {K : KT} (hr : CxR X (some .boolean) K) 
    (P : (R3 ((Op.cmpValue (FP.dcmp w0 w0) .l).toInt)) ∧ ((Op.cmpValue (FP.dcmp w0 w0) .l).toInt = 0 → K (.inl (some (.int (i3 0)))) n h) ∧ (¬ (Op.cmpValue (FP.dcmp w0 w0) .l).toInt = 0 → K (.inl (some (.int (i3 1)))) n h)) :
    Ok X 0 0 0 [(0, .double w0)] [] n h := by
  refine ok_dload_n (pc := 0) hc dJxe99ae_isNaN_b9ae7_0 rfl 0 rfl ?_
  refine ok_dload_n (pc := 1) hc dJxe99ae_isNaN_b9ae7_1 rfl 0 rfl ?_
  refine ok_dcmp (pc := 2) hc dJxe99ae_isNaN_b9ae7_2 ?_
  rw [← i3_T (Op.cmpValue (FP.dcmp w0 w0) .l)]
  obtain ⟨r1, P⟩ := P
  refine zk_if_eq (pc := 3) (tgt := 10) hc dJxe99ae_isNaN_b9ae7_3 (by decide) r1 (fun c => ?_) (fun c => ?_)
  · have P := P.1 c
    refine ok_iconst (pc := 10) hc (v := i3 0) dJxe99ae_isNaN_b9ae7_10 (by decide) ?_
    exact ok_zret (st := []) (pc := 11) hc (nar_z (by decide)) hr dJxe99ae_isNaN_b9ae7_11 P
  · have P := P.2 c
    refine ok_iconst (pc := 6) hc (v := i3 1) dJxe99ae_isNaN_b9ae7_6 (by decide) ?_
    refine ok_goto (pc := 7) (tgt := 11) hc dJxe99ae_isNaN_b9ae7_7 (by decide) ?_
    exact ok_zret (st := []) (pc := 11) hc (nar_z (by decide)) hr dJxe99ae_isNaN_b9ae7_11 P

def spec_Jxe99ae_isNaN_b9ae7 (args : List Value) (n : Nat) (h : HP) (K : KT) : Prop := ∃ (w : UInt64) (lo hi : Int), args = [.double w] ∧ Gd lo hi w ∧ K (.inl (some (.int (i3 0)))) n h
theorem sp_Jxe99ae_isNaN_b9ae7 : Sp yJxe99ae_isNaN_b9ae7 cJxe99ae_isNaN_b9ae7 2 (some .boolean) 0 0 0 0 spec_Jxe99ae_isNaN_b9ae7 := by
  refine sp_intro (by decide) (by rintro args n h K ⟨w, lo, hi, rfl, -⟩; exact Nat.le_of_ble_eq_true rfl) ?_
  rintro X args n h K hc hr ⟨w, lo, hi, rfl, hg, kk⟩
  refine sJxe99ae_isNaN_b9ae7_0 hc hr ?_
  rw [dcmp_self hg]
  exact ⟨R3_0, fun _ => kk, fun z => absurd rfl z⟩
set_option maxHeartbeats 4000000 in
set_option maxRecDepth 100000 in
theorem sJxe99ae_doubleToLongBits_ccdee_0 {X : Xt} {n : Nat} {h : HP} {w0 : UInt64} (hc : Cx X cJxe99ae_doubleToLongBits_ccdee RJxe99ae 2 1 30) {K : KT} (hr : CxR X (some .long) K) 
    (P : spec_Jxe99ae_isNaN_b9ae7 [.double w0] n h (kc X 0 0 1 [(0, .double w0)] [] n)) :
    Ok X 0 0 0 [(0, .double w0)] [] n h := by
  refine ok_dload_n (pc := 0) hc dJxe99ae_doubleToLongBits_ccdee_0 rfl 0 rfl ?_
  exact ok_callS (pc := 1) (cb := 0) (sb := 0) (st := []) hc [.double w0] cs_Jxe99ae_122 sp_Jxe99ae_isNaN_b9ae7 (by decide) dJxe99ae_doubleToLongBits_ccdee_1 rfl rfl rfl rfl (Nat.le_of_ble_eq_true rfl) P

set_option maxHeartbeats 4000000 in
set_option maxRecDepth 100000 in
theorem sJxe99ae_doubleToLongBits_ccdee_4 {X : Xt} {n : Nat} {h : HP} {w0 : UInt64} {t0 : Int} (hc : Cx X cJxe99ae_doubleToLongBits_ccdee RJxe99ae 2 1 30) {K : KT} (hr : CxR X (some .long) K) 
    (P : (R3 t0) ∧ (¬ t0 = 0 → K (.inl (some (.long (i6 9221120237041090560)))) n h) ∧ (t0 = 0 → K (.inl (some (.long (i6 (bitsI w0))))) n h)) :
    Ok X 0 0 4 [(0, .double w0)] [.int (i3 t0)] n h := by
  obtain ⟨r1, P⟩ := P
  refine zk_if_ne (pc := 4) (tgt := 12) hc dJxe99ae_doubleToLongBits_ccdee_4 (by decide) r1 (fun c => ?_) (fun c => ?_)
  · have P := P.1 c
    refine ok_ldc2 (pc := 12) hc (v := i6 9221120237041090560) dJxe99ae_doubleToLongBits_ccdee_12 (in_all (i := 1332) (by decide +kernel) rfl) ?_
    exact ok_lret (st := []) (pc := 15) hc hr dJxe99ae_doubleToLongBits_ccdee_15 P
  · have P := P.2 c
    refine ok_dload_n (pc := 7) hc dJxe99ae_doubleToLongBits_ccdee_7 rfl 0 rfl ?_
    refine ok_d2raw (pc := 8) hc (index := 134) dJxe99ae_doubleToLongBits_ccdee_8 (in_all (i := 1329) (by decide +kernel) rfl) (in_all (i := 1331) (by decide +kernel) rfl) (in_all (i := 1330) (by decide +kernel) rfl) (in_all (i := 103) (by decide +kernel) rfl) (by decide) (by decide) (Nat.le_of_ble_eq_true rfl) ?_
    exact ok_lret (st := []) (pc := 11) hc hr dJxe99ae_doubleToLongBits_ccdee_11 P

def spec_Jxe99ae_doubleToLongBits_ccdee (args : List Value) (n : Nat) (h : HP) (K : KT) : Prop := ∃ (w : UInt64) (lo hi : Int), args = [.double w] ∧ Gd lo hi w ∧ K (.inl (some (.long (i6 (bitsI w))))) n h
theorem sp_Jxe99ae_doubleToLongBits_ccdee : Sp yJxe99ae_doubleToLongBits_ccdee cJxe99ae_doubleToLongBits_ccdee 2 (some .long) 1 30 0 0 spec_Jxe99ae_doubleToLongBits_ccdee := by
  refine sp_intro (by decide) (by rintro args n h K ⟨w, lo, hi, rfl, -⟩; exact Nat.le_of_ble_eq_true rfl) ?_
  rintro X args n h K hc hr ⟨w, lo, hi, rfl, hg, kk⟩
  exact sJxe99ae_doubleToLongBits_ccdee_0 hc hr ⟨w, lo, hi, rfl, hg, ⟨rfl, sJxe99ae_doubleToLongBits_ccdee_4 hc hr ⟨R3_0, fun z => absurd rfl z, fun _ => kk⟩⟩⟩
theorem dneg_n {c : Nat} {q : Int} (h : Nrm c q) : FP.dneg (dE true c q) = dE false c q := by
  show dE true c q ^^^ 0x8000000000000000 = dE false c q
  refine UInt64.toNat.inj ?_
  rw [UInt64.toNat_xor, dE_nat h, dE_nat h]
  obtain ⟨⟨h1, h2⟩, h3, h4⟩ := h
  have hX : encN false c q < 2 ^ 63 := by
    show 0 * 9223372036854775808 + ((q + 1074).toNat + 1) * 4503599627370496 + (c - 4503599627370496) < 9223372036854775808
    omega
  have e : encN true c q = 2 ^ 63 * 1 + encN false c q := by
    show 1 * 9223372036854775808 + ((q + 1074).toNat + 1) * 4503599627370496 + (c - 4503599627370496) = 9223372036854775808 * 1 + (0 * 9223372036854775808 + ((q + 1074).toNat + 1) * 4503599627370496 + (c - 4503599627370496))
    omega
  rw [e, Nat.two_pow_add_eq_or_of_lt hX, Nat.mul_one]
  show (2 ^ 63 ||| encN false c q) ^^^ 2 ^ 63 = encN false c q
  generalize encN false c q = x at *
  refine Nat.eq_of_testBit_eq fun i => ?_
  rw [Nat.testBit_xor, Nat.testBit_or, Nat.testBit_two_pow]
  by_cases z : 63 = i
  · subst z
    rw [Nat.testBit_lt_two_pow hX]
    rfl
  · rw [decide_eq_false z]
    cases x.testBit i <;> rfl
theorem sh52 : (i3 52).toInt64 &&& 63 = (52 : Int64) := by decide
theorem shl52 (E : Nat) (h : E < 2048) : (i6 E <<< (52 : Int64)).toBitVec.toNat = E * 4503599627370496 := by
  have e : (i6 E <<< (52 : Int64)).toBitVec = BitVec.ofInt 64 E <<< ((52 : BitVec 64).smod 64) := rfl
  rw [e, show (52 : BitVec 64).smod 64 = 52#64 by decide, BitVec.shiftLeft_eq', BitVec.toNat_shiftLeft, BitVec.toNat_ofInt]
  rw [show (52#64 : BitVec 64).toNat = 52 from rfl, Nat.shiftLeft_eq]
  show ((E : Int) % 18446744073709551616).toNat * 4503599627370496 % 18446744073709551616 = _
  omega
theorem bits_eq {s : Bool} {c : Nat} {q : Int} (h : Nrm c q) : i6 (lbor (lbor (if s = true then -9223372036854775808 else 0) (lshl (q + 1075) 52)) ((c - 4503599627370496 : Nat) : Int)) = i6 (bitsI (dE s c q)) := by
  rw [bitsI, i6_T, lbor, i6_T, lbor, i6_T, lshl, i6_T, sh52]
  obtain ⟨⟨h1, h2⟩, h3, h4⟩ := id h
  rw [show q + 1075 = (((q + 1074).toNat + 1 : Nat) : Int) by omega]
  have hE : (q + 1074).toNat + 1 < 2047 := by omega
  have hT : c - 4503599627370496 < 2 ^ 52 := by
    show c - 4503599627370496 < 4503599627370496
    omega
  refine Int64.toBitVec.inj (BitVec.eq_of_toNat_eq ?_)
  have hr : (dE s c q).toInt64.toBitVec.toNat = encN s c q := dE_nat h
  rw [hr, Int64.toBitVec_or, BitVec.toNat_or, Int64.toBitVec_or, BitVec.toNat_or, shl52 _ (by omega)]
  have e3 : (i6 ((c - 4503599627370496 : Nat) : Int)).toBitVec.toNat = c - 4503599627370496 := by
    show (BitVec.ofInt 64 ((c - 4503599627370496 : Nat) : Int)).toNat = _
    rw [BitVec.toNat_ofInt]
    show (((c - 4503599627370496 : Nat) : Int) % 18446744073709551616).toNat = _
    omega
  rw [e3]
  unfold encN
  generalize (q + 1074).toNat + 1 = E at *
  generalize c - 4503599627370496 = T at *
  have e2 : E * 4503599627370496 ||| T = E * 4503599627370496 + T := by
    have := Nat.two_pow_add_eq_or_of_lt hT E
    rw [Nat.mul_comm] at this
    exact this.symm
  have hX : E * 4503599627370496 + T < 2 ^ 63 := by
    show _ < 9223372036854775808
    have : T < 4503599627370496 := hT
    omega
  rw [Nat.or_assoc, e2]
  cases s with
  | false =>
    show 0 ||| (E * 4503599627370496 + T) = 0 * 9223372036854775808 + E * 4503599627370496 + T
    rw [Nat.zero_or]
    omega
  | true =>
    show 9223372036854775808 ||| (E * 4503599627370496 + T) = 1 * 9223372036854775808 + E * 4503599627370496 + T
    have := Nat.two_pow_add_eq_or_of_lt hX 1
    have e9 : (2 : Nat) ^ 63 * 1 = 9223372036854775808 := rfl
    rw [e9] at this
    omega
set_option maxHeartbeats 4000000 in
set_option maxRecDepth 100000 in
theorem sX6_bitsOf_0 {X : Xt} {n : Nat} {h : HP} {w0 : UInt64} (hc : Cx X cX6_bitsOf RX6 10 0 0) {K : KT} (hr : CxR X (some .long) K) 
    (P : (R3 ((Op.cmpValue (FP.dcmp w0 FP.dconst0) .l).toInt)) ∧ (¬ (Op.cmpValue (FP.dcmp w0 FP.dconst0) .l).toInt = 0 → (R3 ((Op.cmpValue (FP.dcmp w0 FP.dconst0) .g).toInt)) ∧ (0 ≤ (Op.cmpValue (FP.dcmp w0 FP.dconst0) .g).toInt → Ok X 0 0 29 [(0, .double w0), (2, .double w0), (4, .long (i6 1023)), (6, .int (i3 0))] [] n h) ∧ (¬ 0 ≤ (Op.cmpValue (FP.dcmp w0 FP.dconst0) .g).toInt → Ok X 0 0 29 [(0, .double w0), (2, .double (FP.dneg w0)), (4, .long (i6 1023)), (6, .int (i3 0))] [] n h)) ∧ ((Op.cmpValue (FP.dcmp w0 FP.dconst0) .l).toInt = 0 → K (.inl (some (.long (i6 0)))) n h)) :
    Ok X 0 0 0 [(0, .double w0)] [] n h := by
  refine ok_dload_n (pc := 0) hc dX6_bitsOf_0 rfl 0 rfl ?_
  refine ok_dconst0 (pc := 1) hc dX6_bitsOf_1 ?_
  refine ok_dcmp (pc := 2) hc dX6_bitsOf_2 ?_
  rw [← i3_T (Op.cmpValue (FP.dcmp w0 FP.dconst0) .l)]
  obtain ⟨r1, P⟩ := P
  refine zk_if_ne (pc := 3) (tgt := 8) hc dX6_bitsOf_3 (by decide) r1 (fun c => ?_) (fun c => ?_)
  · have P := P.1 c
    refine ok_dload_n (pc := 8) hc dX6_bitsOf_8 rfl 0 rfl ?_
    refine ok_dconst0 (pc := 9) hc dX6_bitsOf_9 ?_
    refine ok_dcmp (pc := 10) hc dX6_bitsOf_10 ?_
    rw [← i3_T (Op.cmpValue (FP.dcmp w0 FP.dconst0) .g)]
    obtain ⟨r2, P⟩ := P
    refine zk_if_ge (pc := 11) (tgt := 19) hc dX6_bitsOf_11 (by decide) r2 (fun c => ?_) (fun c => ?_)
    · have P := P.1 c
      refine ok_dload_n (pc := 19) hc dX6_bitsOf_19 rfl 0 rfl ?_
      refine ok_dstore_n (pc := 20) hc (lv' := [(2, .double w0), (0, .double w0)]) dX6_bitsOf_20 rfl (by decide) rfl ?_
      refine ok_ldc2 (pc := 21) hc (v := i6 1023) dX6_bitsOf_21 (in_all (i := 712) (by decide +kernel) rfl) ?_
      refine ok_lstore (pc := 24) hc (lv' := [(4, .long (i6 1023)), (2, .double w0), (0, .double w0)]) dX6_bitsOf_24 (by decide) rfl ?_
      refine ok_iconst (pc := 26) hc (v := i3 0) dX6_bitsOf_26 (by decide) ?_
      refine ok_istore (pc := 27) hc (lv' := [(6, .int (i3 0)), (4, .long (i6 1023)), (2, .double w0), (0, .double w0)]) dX6_bitsOf_27 (by decide) rfl ?_
      refine ok_lv [3, 2, 1, 0] rfl ?_
      exact P
    · have P := P.2 c
      refine ok_dload_n (pc := 14) hc dX6_bitsOf_14 rfl 0 rfl ?_
      refine ok_dneg (pc := 15) hc dX6_bitsOf_15 ?_
      refine ok_goto (pc := 16) (tgt := 20) hc dX6_bitsOf_16 (by decide) ?_
      refine ok_dstore_n (pc := 20) hc (lv' := [(2, .double (FP.dneg w0)), (0, .double w0)]) dX6_bitsOf_20 rfl (by decide) rfl ?_
      refine ok_ldc2 (pc := 21) hc (v := i6 1023) dX6_bitsOf_21 (in_all (i := 712) (by decide +kernel) rfl) ?_
      refine ok_lstore (pc := 24) hc (lv' := [(4, .long (i6 1023)), (2, .double (FP.dneg w0)), (0, .double w0)]) dX6_bitsOf_24 (by decide) rfl ?_
      refine ok_iconst (pc := 26) hc (v := i3 0) dX6_bitsOf_26 (by decide) ?_
      refine ok_istore (pc := 27) hc (lv' := [(6, .int (i3 0)), (4, .long (i6 1023)), (2, .double (FP.dneg w0)), (0, .double w0)]) dX6_bitsOf_27 (by decide) rfl ?_
      refine ok_lv [3, 2, 1, 0] rfl ?_
      exact P
  · have P := P.2 c
    refine ok_lconst (pc := 6) hc (v := i6 0) dX6_bitsOf_6 (by decide) ?_
    exact ok_lret (st := []) (pc := 7) hc hr dX6_bitsOf_7 P

set_option maxHeartbeats 4000000 in
set_option maxRecDepth 100000 in
theorem sX6_bitsOf_29 {X : Xt} {n : Nat} {h : HP} {w0 : UInt64} {w2 : UInt64} {l4 : Int} {x6 : Int} (hc : Cx X cX6_bitsOf RX6 10 0 0) {K : KT} (hr : CxR X (some .long) K) 
    (P : (R3 x6) ∧ (1100 ≤ x6 → Ok X 0 0 63 [(0, .double w0), (2, .double w2), (4, .long (i6 l4)), (6, .int (i3 x6))] [] n h) ∧ (¬ 1100 ≤ x6 → (R3 ((Op.cmpValue (FP.dcmp w2 4611686018427387904) .l).toInt)) ∧ ((Op.cmpValue (FP.dcmp w2 4611686018427387904) .l).toInt < 0 → Ok X 0 0 63 [(0, .double w0), (2, .double w2), (4, .long (i6 l4)), (6, .int (i3 x6))] [] n h) ∧ (¬ (Op.cmpValue (FP.dcmp w2 4611686018427387904) .l).toInt < 0 → (vf_n64 (FP.ddiv w2 4611686018427387904)) ∧ Ok X 0 0 29 [(0, .double w0), (2, .double (FP.ddiv w2 4611686018427387904)), (4, .long (i6 (l4 + 1))), (6, .int (i3 (x6 + 1)))] [] n h))) :
    Ok X 0 0 29 [(0, .double w0), (2, .double w2), (4, .long (i6 l4)), (6, .int (i3 x6))] [] n h := by
  refine ok_iload (pc := 29) hc dX6_bitsOf_29 3 rfl ?_
  refine ok_sipush (pc := 31) hc (v := i3 1100) dX6_bitsOf_31 (by decide) ?_
  obtain ⟨r1, P⟩ := P
  refine zk_icmp_ge (pc := 34) (tgt := 63) hc dX6_bitsOf_34 (by decide) r1 ⟨by decide, by decide⟩ (fun c => ?_) (fun c => ?_)
  · have P := P.1 c
    exact P
  · have P := P.2 c
    refine ok_dload_n (pc := 37) hc dX6_bitsOf_37 rfl 1 rfl ?_
    refine ok_ldc2d (pc := 38) hc (v := 4611686018427387904) dX6_bitsOf_38 (in_all (i := 713) (by decide +kernel) rfl) ?_
    refine ok_dcmp (pc := 41) hc dX6_bitsOf_41 ?_
    rw [← i3_T (Op.cmpValue (FP.dcmp w2 4611686018427387904) .l)]
    obtain ⟨r2, P⟩ := P
    refine zk_if_lt (pc := 42) (tgt := 63) hc dX6_bitsOf_42 (by decide) r2 (fun c => ?_) (fun c => ?_)
    · have P := P.1 c
      exact P
    · have P := P.2 c
      refine ok_dload_n (pc := 45) hc dX6_bitsOf_45 rfl 1 rfl ?_
      refine ok_ldc2d (pc := 46) hc (v := 4611686018427387904) dX6_bitsOf_46 (in_all (i := 713) (by decide +kernel) rfl) ?_
      obtain ⟨r, P⟩ := P
      refine ok_ddiv (pc := 49) hc dX6_bitsOf_49 r ?_
      refine ok_dstore_n (pc := 50) hc (lv' := [(2, .double (FP.ddiv w2 4611686018427387904)), (0, .double w0), (4, .long (i6 l4)), (6, .int (i3 x6))]) dX6_bitsOf_50 rfl (by decide) rfl ?_
      refine ok_lload (pc := 51) hc dX6_bitsOf_51 2 rfl ?_
      refine ok_lconst (pc := 53) hc (v := i6 1) dX6_bitsOf_53 (by decide) ?_
      refine zk_ladd (pc := 54) hc dX6_bitsOf_54 ?_
      refine ok_lstore (pc := 55) hc (lv' := [(4, .long (i6 (l4 + 1))), (2, .double (FP.ddiv w2 4611686018427387904)), (0, .double w0), (6, .int (i3 x6))]) dX6_bitsOf_55 (by decide) rfl ?_
      refine zk_iinc (pc := 57) hc (q := 3) (x := x6) (lv' := [(6, .int (i3 (x6 + 1))), (4, .long (i6 (l4 + 1))), (2, .double (FP.ddiv w2 4611686018427387904)), (0, .double w0)]) dX6_bitsOf_57 rfl (by decide) rfl ?_
      refine ok_goto (pc := 60) (tgt := 29) hc dX6_bitsOf_60 (by decide) ?_
      refine ok_lv [3, 2, 1, 0] rfl ?_
      exact P

set_option maxHeartbeats 4000000 in
set_option maxRecDepth 100000 in
theorem sX6_bitsOf_63 {X : Xt} {n : Nat} {h : HP} {w0 : UInt64} {w2 : UInt64} {l4 : Int} {x6 : Int} (hc : Cx X cX6_bitsOf RX6 10 0 0) {K : KT} (hr : CxR X (some .long) K) 
    (P : Ok X 0 0 66 [(0, .double w0), (2, .double w2), (4, .long (i6 l4)), (6, .int (i3 0))] [] n h) :
    Ok X 0 0 63 [(0, .double w0), (2, .double w2), (4, .long (i6 l4)), (6, .int (i3 x6))] [] n h := by
  refine ok_iconst (pc := 63) hc (v := i3 0) dX6_bitsOf_63 (by decide) ?_
  refine ok_istore (pc := 64) hc (lv' := [(6, .int (i3 0)), (0, .double w0), (2, .double w2), (4, .long (i6 l4))]) dX6_bitsOf_64 (by decide) rfl ?_
  refine ok_lv [1, 2, 3, 0] rfl ?_
  exact P

set_option maxHeartbeats 4000000 in
set_option maxRecDepth 100000 in
theorem sX6_bitsOf_66 {X : Xt} {n : Nat} {h : HP} {w0 : UInt64} {w2 : UInt64} {l4 : Int} {x6 : Int} (hc : Cx X cX6_bitsOf RX6 10 0 0) {K : KT} (hr : CxR X (some .long) K) 
    (P : (R3 x6) ∧ (1100 ≤ x6 → Ok X 0 0 98 [(0, .double w0), (2, .double w2), (4, .long (i6 l4)), (6, .int (i3 x6))] [] n h) ∧ (¬ 1100 ≤ x6 → (R3 ((Op.cmpValue (FP.dcmp w2 FP.dconst1) .g).toInt)) ∧ (0 ≤ (Op.cmpValue (FP.dcmp w2 FP.dconst1) .g).toInt → Ok X 0 0 98 [(0, .double w0), (2, .double w2), (4, .long (i6 l4)), (6, .int (i3 x6))] [] n h) ∧ (¬ 0 ≤ (Op.cmpValue (FP.dcmp w2 FP.dconst1) .g).toInt → (vf_n64 (FP.dmul w2 4611686018427387904)) ∧ Ok X 0 0 66 [(0, .double w0), (2, .double (FP.dmul w2 4611686018427387904)), (4, .long (i6 (l4 - 1))), (6, .int (i3 (x6 + 1)))] [] n h))) :
    Ok X 0 0 66 [(0, .double w0), (2, .double w2), (4, .long (i6 l4)), (6, .int (i3 x6))] [] n h := by
  refine ok_iload (pc := 66) hc dX6_bitsOf_66 3 rfl ?_
  refine ok_sipush (pc := 68) hc (v := i3 1100) dX6_bitsOf_68 (by decide) ?_
  obtain ⟨r1, P⟩ := P
  refine zk_icmp_ge (pc := 71) (tgt := 98) hc dX6_bitsOf_71 (by decide) r1 ⟨by decide, by decide⟩ (fun c => ?_) (fun c => ?_)
  · have P := P.1 c
    exact P
  · have P := P.2 c
    refine ok_dload_n (pc := 74) hc dX6_bitsOf_74 rfl 1 rfl ?_
    refine ok_dconst1 (pc := 75) hc dX6_bitsOf_75 ?_
    refine ok_dcmp (pc := 76) hc dX6_bitsOf_76 ?_
    rw [← i3_T (Op.cmpValue (FP.dcmp w2 FP.dconst1) .g)]
    obtain ⟨r2, P⟩ := P
    refine zk_if_ge (pc := 77) (tgt := 98) hc dX6_bitsOf_77 (by decide) r2 (fun c => ?_) (fun c => ?_)
    · have P := P.1 c
      exact P
    · have P := P.2 c
      refine ok_dload_n (pc := 80) hc dX6_bitsOf_80 rfl 1 rfl ?_
      refine ok_ldc2d (pc := 81) hc (v := 4611686018427387904) dX6_bitsOf_81 (in_all (i := 713) (by decide +kernel) rfl) ?_
      obtain ⟨r, P⟩ := P
      refine ok_dmul (pc := 84) hc dX6_bitsOf_84 r ?_
      refine ok_dstore_n (pc := 85) hc (lv' := [(2, .double (FP.dmul w2 4611686018427387904)), (0, .double w0), (4, .long (i6 l4)), (6, .int (i3 x6))]) dX6_bitsOf_85 rfl (by decide) rfl ?_
      refine ok_lload (pc := 86) hc dX6_bitsOf_86 2 rfl ?_
      refine ok_lconst (pc := 88) hc (v := i6 1) dX6_bitsOf_88 (by decide) ?_
      refine zk_lsub (pc := 89) hc dX6_bitsOf_89 ?_
      refine ok_lstore (pc := 90) hc (lv' := [(4, .long (i6 (l4 - 1))), (2, .double (FP.dmul w2 4611686018427387904)), (0, .double w0), (6, .int (i3 x6))]) dX6_bitsOf_90 (by decide) rfl ?_
      refine zk_iinc (pc := 92) hc (q := 3) (x := x6) (lv' := [(6, .int (i3 (x6 + 1))), (4, .long (i6 (l4 - 1))), (2, .double (FP.dmul w2 4611686018427387904)), (0, .double w0)]) dX6_bitsOf_92 rfl (by decide) rfl ?_
      refine ok_goto (pc := 95) (tgt := 66) hc dX6_bitsOf_95 (by decide) ?_
      refine ok_lv [3, 2, 1, 0] rfl ?_
      exact P

set_option maxHeartbeats 4000000 in
set_option maxRecDepth 100000 in
theorem sX6_bitsOf_98 {X : Xt} {n : Nat} {h : HP} {w0 : UInt64} {w2 : UInt64} {l4 : Int} {x6 : Int} (hc : Cx X cX6_bitsOf RX6 10 0 0) {K : KT} (hr : CxR X (some .long) K) 
    (P : (vf_n64 (FP.dsub w2 FP.dconst1)) ∧ (vf_n64 (FP.dmul (FP.dsub w2 FP.dconst1) 4841369599423283200)) ∧ (R3 ((Op.cmpValue (FP.dcmp w0 FP.dconst0) .g).toInt)) ∧ (0 ≤ (Op.cmpValue (FP.dcmp w0 FP.dconst0) .g).toInt → K (.inl (some (.long (i6 (lbor (lbor 0 (lshl l4 52)) ((FP.d2l (FP.dmul (FP.dsub w2 FP.dconst1) 4841369599423283200)).toInt)))))) n h) ∧ (¬ 0 ≤ (Op.cmpValue (FP.dcmp w0 FP.dconst0) .g).toInt → K (.inl (some (.long (i6 (lbor (lbor (-9223372036854775808) (lshl l4 52)) ((FP.d2l (FP.dmul (FP.dsub w2 FP.dconst1) 4841369599423283200)).toInt)))))) n h)) :
    Ok X 0 0 98 [(0, .double w0), (2, .double w2), (4, .long (i6 l4)), (6, .int (i3 x6))] [] n h := by
  refine ok_dload_n (pc := 98) hc dX6_bitsOf_98 rfl 1 rfl ?_
  refine ok_dconst1 (pc := 99) hc dX6_bitsOf_99 ?_
  obtain ⟨r, P⟩ := P
  refine ok_dsub (pc := 100) hc dX6_bitsOf_100 r ?_
  refine ok_ldc2d (pc := 101) hc (v := 4841369599423283200) dX6_bitsOf_101 (in_all (i := 714) (by decide +kernel) rfl) ?_
  obtain ⟨r, P⟩ := P
  refine ok_dmul (pc := 104) hc dX6_bitsOf_104 r ?_
  refine ok_d2l (pc := 105) hc dX6_bitsOf_105 ?_
  rw [← i6_T (FP.d2l (FP.dmul (FP.dsub w2 FP.dconst1) 4841369599423283200))]
  refine ok_lstore (pc := 106) hc (lv' := [(6, .long (i6 ((FP.d2l (FP.dmul (FP.dsub w2 FP.dconst1) 4841369599423283200)).toInt))), (0, .double w0), (2, .double w2), (4, .long (i6 l4))]) dX6_bitsOf_106 (by decide) rfl ?_
  refine ok_dload_n (pc := 108) hc dX6_bitsOf_108 rfl 1 rfl ?_
  refine ok_dconst0 (pc := 109) hc dX6_bitsOf_109 ?_
  refine ok_dcmp (pc := 110) hc dX6_bitsOf_110 ?_
  rw [← i3_T (Op.cmpValue (FP.dcmp w0 FP.dconst0) .g)]
  obtain ⟨r1, P⟩ := P
  refine zk_if_ge (pc := 111) (tgt := 120) hc dX6_bitsOf_111 (by decide) r1 (fun c => ?_) (fun c => ?_)
  · have P := P.1 c
    refine ok_lconst (pc := 120) hc (v := i6 0) dX6_bitsOf_120 (by decide) ?_
    refine ok_lstore (pc := 121) hc (lv' := [(8, .long (i6 0)), (6, .long (i6 ((FP.d2l (FP.dmul (FP.dsub w2 FP.dconst1) 4841369599423283200)).toInt))), (0, .double w0), (2, .double w2), (4, .long (i6 l4))]) dX6_bitsOf_121 (by decide) rfl ?_
    refine ok_lload (pc := 123) hc dX6_bitsOf_123 0 rfl ?_
    refine ok_lload (pc := 125) hc dX6_bitsOf_125 4 rfl ?_
    refine ok_bipush (pc := 127) hc (v := i3 52) dX6_bitsOf_127 (by decide) ?_
    refine zk_lshl (pc := 129) hc dX6_bitsOf_129 ?_
    refine zk_lor (pc := 130) hc dX6_bitsOf_130 ?_
    refine ok_lload (pc := 131) hc dX6_bitsOf_131 1 rfl ?_
    refine zk_lor (pc := 133) hc dX6_bitsOf_133 ?_
    exact ok_lret (st := []) (pc := 134) hc hr dX6_bitsOf_134 P
  · have P := P.2 c
    refine ok_ldc2 (pc := 114) hc (v := i6 (-9223372036854775808)) dX6_bitsOf_114 (in_all (i := 715) (by decide +kernel) rfl) ?_
    refine ok_goto (pc := 117) (tgt := 121) hc dX6_bitsOf_117 (by decide) ?_
    refine ok_lstore (pc := 121) hc (lv' := [(8, .long (i6 (-9223372036854775808))), (6, .long (i6 ((FP.d2l (FP.dmul (FP.dsub w2 FP.dconst1) 4841369599423283200)).toInt))), (0, .double w0), (2, .double w2), (4, .long (i6 l4))]) dX6_bitsOf_121 (by decide) rfl ?_
    refine ok_lload (pc := 123) hc dX6_bitsOf_123 0 rfl ?_
    refine ok_lload (pc := 125) hc dX6_bitsOf_125 4 rfl ?_
    refine ok_bipush (pc := 127) hc (v := i3 52) dX6_bitsOf_127 (by decide) ?_
    refine zk_lshl (pc := 129) hc dX6_bitsOf_129 ?_
    refine zk_lor (pc := 130) hc dX6_bitsOf_130 ?_
    refine ok_lload (pc := 131) hc dX6_bitsOf_131 1 rfl ?_
    refine zk_lor (pc := 133) hc dX6_bitsOf_133 ?_
    exact ok_lret (st := []) (pc := 134) hc hr dX6_bitsOf_134 P

def spec_X6_bitsOf (args : List Value) (n : Nat) (h : HP) (K : KT) : Prop := ∃ (w : UInt64), args = [.double w] ∧ Gd (-900) 900 w ∧ K (.inl (some (.long (i6 (bitsI w))))) n h
theorem sp_X6_bitsOf : Sp yX6_bitsOf cX6_bitsOf 10 (some .long) 0 0 0 0 spec_X6_bitsOf := by
  refine sp_intro (by decide) (by rintro args n h K ⟨w, rfl, -⟩; exact Nat.le_of_ble_eq_true rfl) ?_
  rintro X args n h K hc hr ⟨w, rfl, hg, kk⟩
  rcases hg with e | ⟨s, c, q, e, hN, hlo, hhi⟩
  · subst e
    have e0 : ∀ op, (Op.cmpValue (FP.dcmp 0 FP.dconst0) op).toInt = 0 := fun op => by cases op <;> decide +kernel
    have e1 : bitsI 0 = 0 := by decide
    rw [e1] at kk
    refine sX6_bitsOf_0 hc hr ?_
    rw [e0]
    exact ⟨R3_0, fun z => absurd rfl z, fun _ => kk⟩
  · subst e
    have hcb := hN.1
    have nr : ∀ q' : Int, -1074 ≤ q' → q' ≤ 971 → Nrm c q' := fun q' a b => ⟨hcb, a, b⟩
    -- the end
    have h98 : ∀ x6 : Int, Ok X 0 0 98 [(0, .double (dE s c q)), (2, .double (dE false c (-52))), (4, .long (i6 (q + 1075))), (6, .int (i3 x6))] [] n h := by
      intro x6
      obtain ⟨t1, t2, t3⟩ := tail_of hcb
      rw [← bits_eq hN] at kk
      refine sX6_bitsOf_98 hc hr ?_
      rw [t3, dcmp_0 hN]
      cases s with
      | false => exact ⟨t1, t2, ⟨by decide, by decide⟩, fun _ => kk, fun z => absurd (by decide) z⟩
      | true => exact ⟨t1, t2, ⟨by decide, by decide⟩, fun z => absurd z (by decide), fun _ => kk⟩
    -- up
    have L2 : ∀ (f j : Nat) (q' l : Int), q' + f = -52 → -1000 ≤ q' → j + f ≤ 1000 → l = 1023 + q - q' → Ok X 0 0 66 [(0, .double (dE s c q)), (2, .double (dE false c q')), (4, .long (i6 l)), (6, .int (i3 j))] [] n h := by
      intro f
      induction f with
      | zero =>
        intro j q' l hf h1 h2 hl
        have : q' = -52 := by omega
        subst this
        have : l = q + 1075 := by omega
        subst this
        have d1 := dcmp_1 (nr (-52) (by omega) (by omega)) .g
        have hcv : R3 (Op.cmpValue (FP.dcmp (dE false c (-52)) FP.dconst1) .g).toInt := R3_T _
        exact sX6_bitsOf_66 hc hr ⟨R3_s (by omega), fun _ => h98 j, fun _ => ⟨hcv, fun _ => h98 j, fun z => absurd (d1.mpr (by omega)) z⟩⟩
      | succ f ih =>
        intro j q' l hf h1 h2 hl
        have hq' := nr q' (by omega) (by omega)
        have d1 := dcmp_1 hq' .g
        have em : FP.dmul (dE false c q') 4611686018427387904 = dE false c (q' + 1) := by
          rw [mul_k hq' d2_dec (nr (q' + -51 + 52) (by omega) (by omega)) (by omega), show q' + -51 + 52 = q' + 1 by omega]
        refine sX6_bitsOf_66 hc hr ⟨R3_s (by omega), fun z => absurd z (by omega), fun _ => ⟨R3_T _, fun z => absurd (d1.mp z) (by omega), fun _ => ?_⟩⟩
        rw [em]
        exact ⟨nn_n (nr (q' + 1) (by omega) (by omega)), ih (j + 1) (q' + 1) (l - 1) (by omega) (by omega) (by omega) (by omega)⟩
    have h63 : ∀ (q' l x6 : Int), q' ≤ -52 → -1000 ≤ q' → l = 1023 + q - q' → Ok X 0 0 63 [(0, .double (dE s c q)), (2, .double (dE false c q')), (4, .long (i6 l)), (6, .int (i3 x6))] [] n h := by
      intro q' l x6 h1 h2 hl
      exact sX6_bitsOf_63 hc hr (L2 (-52 - q').toNat 0 q' l (by omega) h2 (by omega) hl)
    -- down
    have L1 : ∀ (f j : Nat) (q' l : Int), (q' + 52).toNat = f → -1000 ≤ q' → q' ≤ 900 → j + f ≤ 1000 → l = 1023 + q - q' → Ok X 0 0 29 [(0, .double (dE s c q)), (2, .double (dE false c q')), (4, .long (i6 l)), (6, .int (i3 j))] [] n h := by
      intro f
      induction f with
      | zero =>
        intro j q' l hf h1 h7 h2 hl
        have hq' := nr q' (by omega) (by omega)
        have d2 := dcmp_2 hq' .l
        exact sX6_bitsOf_29 hc hr ⟨R3_s (by omega), fun _ => h63 q' l j (by omega) h1 hl, fun _ => ⟨R3_T _, fun _ => h63 q' l j (by omega) h1 hl, fun z => absurd (d2.mpr (by omega)) z⟩⟩
      | succ f ih =>
        intro j q' l hf h1 h7 h2 hl
        have hq' := nr q' (by omega) (by omega)
        have d2 := dcmp_2 hq' .l
        have em := div_2 (s := false) hq' (by omega) (by omega)
        refine sX6_bitsOf_29 hc hr ⟨R3_s (by omega), fun z => absurd z (by omega), fun _ => ⟨R3_T _, fun z => absurd (d2.mp z) (by omega), fun _ => ?_⟩⟩
        rw [em]
        exact ⟨nn_n (nr (q' - 1) (by omega) (by omega)), ih (j + 1) (q' - 1) (l + 1) (by omega) (by omega) (by omega) (by omega) (by omega)⟩
    have go := L1 (q + 52).toNat 0 q 1023 rfl (by omega) hhi (by omega) (by omega)
    refine sX6_bitsOf_0 hc hr ?_
    rw [dcmp_0 hN, dcmp_0 hN]
    cases s with
    | false => exact ⟨⟨by decide, by decide⟩, fun _ => ⟨⟨by decide, by decide⟩, fun _ => go, fun z => absurd (by decide) z⟩, fun z => absurd z (by decide)⟩
    | true =>
      rw [dneg_n hN]
      exact ⟨⟨by decide, by decide⟩, fun _ => ⟨⟨by decide, by decide⟩, fun z => absurd z (by decide), fun _ => go⟩, fun z => absurd z (by decide)⟩
