/-! part 50: Integer.bitCount -/
theorem ok_ldcwI {X : Xt} {cc : ByteArray} {own : String} {nL f L cb sb pc n : Nat} {lv : List (Nat × Value)} {st : List Value} {h : HP} (hc : Cx X cc own nL f L) {index : Nat} {v : Int32} (hd : decode cc pc = .ok (.ldc_w index, 3)) (hw9 : Cond.constant own index v ∈ lw_all) (k : Ok X cb sb (pc + 3) lv (.int v :: st) n h) : Ok X cb sb pc lv (st) n h := by
  obtain ⟨p, l, e, R, s, m, args, below, meth, c, D, bs, A0, n0, Q⟩ := X
  obtain ⟨hx, hb, hown, hts, hml, hRf, hRl, hF, htr, hlk, hbs⟩ := hc
  intro A cy H locs ls cells slots h1 h2 h3 h4 hw hS hl h5 h6
  exact lv_ldcw hx hb hown (hts _ hw9) hd (k A cy H locs ls cells slots h1 h2 h3 h4 hw hS hl h5 h6)
def bushr (x y : Int) : Int := ((i3 x).toUInt32 >>> ((i3 y).toUInt32 &&& Int32.toUInt32 31)).toInt32.toInt
theorem zk_iushr {X : Xt} {cc : ByteArray} {own : String} {nL f L cb sb pc n : Nat} {lv : List (Nat × Value)} {st : List Value} {h : HP} (hc : Cx X cc own nL f L) {x y : Int} (hd : decode cc pc = .ok (.iushr, 1)) (k : Ok X cb sb (pc + 1) lv (.int (i3 (bushr x y)) :: st) n h) : Ok X cb sb pc lv (.int (i3 y) :: .int (i3 x) :: st) n h := by
  rw [bushr, i3_T] at k
  obtain ⟨p, l, e, R, s, m, args, below, meth, c, D, bs, A0, n0, Q⟩ := X
  obtain ⟨hx, hb, hown, hts, hml, hRf, hRl, hF, htr, hlk, hbs⟩ := hc
  intro A cy H locs ls cells slots h1 h2 h3 h4 hw hS hl h5 h6
  exact lv_iushr hx hb hd rfl (k A cy H locs ls cells slots h1 h2 h3 h4 hw hS hl h5 h6)
set_option maxHeartbeats 4000000 in
set_option maxRecDepth 100000 in
theorem sJ6_bitCount_0f7a4_0 {X : Xt} {n : Nat} {h : HP} {x0 : Int} (hc : Cx X cJ6_bitCount_0f7a4 RJ6 1 0 0) {K : KT} (hr : CxR X (some .int) K) 
    (P : K (.inl (some (.int (i3 (band (((band (((band (x0 - (band (bushr x0 1) 1431655765)) 858993459) + (band (bushr (x0 - (band (bushr x0 1) 1431655765)) 2) 858993459)) + (bushr ((band (x0 - (band (bushr x0 1) 1431655765)) 858993459) + (band (bushr (x0 - (band (bushr x0 1) 1431655765)) 2) 858993459)) 4)) 252645135) + (bushr (band (((band (x0 - (band (bushr x0 1) 1431655765)) 858993459) + (band (bushr (x0 - (band (bushr x0 1) 1431655765)) 2) 858993459)) + (bushr ((band (x0 - (band (bushr x0 1) 1431655765)) 858993459) + (band (bushr (x0 - (band (bushr x0 1) 1431655765)) 2) 858993459)) 4)) 252645135) 8)) + (bushr ((band (((band (x0 - (band (bushr x0 1) 1431655765)) 858993459) + (band (bushr (x0 - (band (bushr x0 1) 1431655765)) 2) 858993459)) + (bushr ((band (x0 - (band (bushr x0 1) 1431655765)) 858993459) + (band (bushr (x0 - (band (bushr x0 1) 1431655765)) 2) 858993459)) 4)) 252645135) + (bushr (band (((band (x0 - (band (bushr x0 1) 1431655765)) 858993459) + (band (bushr (x0 - (band (bushr x0 1) 1431655765)) 2) 858993459)) + (bushr ((band (x0 - (band (bushr x0 1) 1431655765)) 858993459) + (band (bushr (x0 - (band (bushr x0 1) 1431655765)) 2) 858993459)) 4)) 252645135) 8)) 16)) 63))))) n h) :
    Ok X 0 0 0 [(0, .int (i3 x0))] [] n h := by
  refine ok_iload_n (pc := 0) hc dJ6_bitCount_0f7a4_0 rfl 0 rfl ?_
  refine ok_iload_n (pc := 1) hc dJ6_bitCount_0f7a4_1 rfl 0 rfl ?_
  refine ok_iconst (pc := 2) hc (v := i3 1) dJ6_bitCount_0f7a4_2 (by decide) ?_
  refine zk_iushr (pc := 3) hc dJ6_bitCount_0f7a4_3 ?_
  refine ok_ldcwI (pc := 4) hc (v := i3 1431655765) dJ6_bitCount_0f7a4_4 (in_all (i := 653) (by decide +kernel) rfl) ?_
  refine zk_iand (pc := 7) hc dJ6_bitCount_0f7a4_7 ?_
  refine zk_isub (pc := 8) hc dJ6_bitCount_0f7a4_8 ?_
  refine ok_istore_n (pc := 9) hc (lv' := [(0, .int (i3 (x0 - (band (bushr x0 1) 1431655765))))]) dJ6_bitCount_0f7a4_9 rfl (by decide) rfl ?_
  refine ok_iload_n (pc := 10) hc dJ6_bitCount_0f7a4_10 rfl 0 rfl ?_
  refine ok_ldcwI (pc := 11) hc (v := i3 858993459) dJ6_bitCount_0f7a4_11 (in_all (i := 654) (by decide +kernel) rfl) ?_
  refine zk_iand (pc := 14) hc dJ6_bitCount_0f7a4_14 ?_
  refine ok_iload_n (pc := 15) hc dJ6_bitCount_0f7a4_15 rfl 0 rfl ?_
  refine ok_iconst (pc := 16) hc (v := i3 2) dJ6_bitCount_0f7a4_16 (by decide) ?_
  refine zk_iushr (pc := 17) hc dJ6_bitCount_0f7a4_17 ?_
  refine ok_ldcwI (pc := 18) hc (v := i3 858993459) dJ6_bitCount_0f7a4_18 (in_all (i := 654) (by decide +kernel) rfl) ?_
  refine zk_iand (pc := 21) hc dJ6_bitCount_0f7a4_21 ?_
  refine zk_iadd (pc := 22) hc dJ6_bitCount_0f7a4_22 ?_
  refine ok_istore_n (pc := 23) hc (lv' := [(0, .int (i3 ((band (x0 - (band (bushr x0 1) 1431655765)) 858993459) + (band (bushr (x0 - (band (bushr x0 1) 1431655765)) 2) 858993459))))]) dJ6_bitCount_0f7a4_23 rfl (by decide) rfl ?_
  refine ok_iload_n (pc := 24) hc dJ6_bitCount_0f7a4_24 rfl 0 rfl ?_
  refine ok_iload_n (pc := 25) hc dJ6_bitCount_0f7a4_25 rfl 0 rfl ?_
  refine ok_iconst (pc := 26) hc (v := i3 4) dJ6_bitCount_0f7a4_26 (by decide) ?_
  refine zk_iushr (pc := 27) hc dJ6_bitCount_0f7a4_27 ?_
  refine zk_iadd (pc := 28) hc dJ6_bitCount_0f7a4_28 ?_
  refine ok_ldcwI (pc := 29) hc (v := i3 252645135) dJ6_bitCount_0f7a4_29 (in_all (i := 655) (by decide +kernel) rfl) ?_
  refine zk_iand (pc := 32) hc dJ6_bitCount_0f7a4_32 ?_
  refine ok_istore_n (pc := 33) hc (lv' := [(0, .int (i3 (band (((band (x0 - (band (bushr x0 1) 1431655765)) 858993459) + (band (bushr (x0 - (band (bushr x0 1) 1431655765)) 2) 858993459)) + (bushr ((band (x0 - (band (bushr x0 1) 1431655765)) 858993459) + (band (bushr (x0 - (band (bushr x0 1) 1431655765)) 2) 858993459)) 4)) 252645135)))]) dJ6_bitCount_0f7a4_33 rfl (by decide) rfl ?_
  refine ok_iload_n (pc := 34) hc dJ6_bitCount_0f7a4_34 rfl 0 rfl ?_
  refine ok_iload_n (pc := 35) hc dJ6_bitCount_0f7a4_35 rfl 0 rfl ?_
  refine ok_bipush (pc := 36) hc (v := i3 8) dJ6_bitCount_0f7a4_36 (by decide) ?_
  refine zk_iushr (pc := 38) hc dJ6_bitCount_0f7a4_38 ?_
  refine zk_iadd (pc := 39) hc dJ6_bitCount_0f7a4_39 ?_
  refine ok_istore_n (pc := 40) hc (lv' := [(0, .int (i3 ((band (((band (x0 - (band (bushr x0 1) 1431655765)) 858993459) + (band (bushr (x0 - (band (bushr x0 1) 1431655765)) 2) 858993459)) + (bushr ((band (x0 - (band (bushr x0 1) 1431655765)) 858993459) + (band (bushr (x0 - (band (bushr x0 1) 1431655765)) 2) 858993459)) 4)) 252645135) + (bushr (band (((band (x0 - (band (bushr x0 1) 1431655765)) 858993459) + (band (bushr (x0 - (band (bushr x0 1) 1431655765)) 2) 858993459)) + (bushr ((band (x0 - (band (bushr x0 1) 1431655765)) 858993459) + (band (bushr (x0 - (band (bushr x0 1) 1431655765)) 2) 858993459)) 4)) 252645135) 8))))]) dJ6_bitCount_0f7a4_40 rfl (by decide) rfl ?_
  refine ok_iload_n (pc := 41) hc dJ6_bitCount_0f7a4_41 rfl 0 rfl ?_
  refine ok_iload_n (pc := 42) hc dJ6_bitCount_0f7a4_42 rfl 0 rfl ?_
  refine ok_bipush (pc := 43) hc (v := i3 16) dJ6_bitCount_0f7a4_43 (by decide) ?_
  refine zk_iushr (pc := 45) hc dJ6_bitCount_0f7a4_45 ?_
  refine zk_iadd (pc := 46) hc dJ6_bitCount_0f7a4_46 ?_
  refine ok_istore_n (pc := 47) hc (lv' := [(0, .int (i3 (((band (((band (x0 - (band (bushr x0 1) 1431655765)) 858993459) + (band (bushr (x0 - (band (bushr x0 1) 1431655765)) 2) 858993459)) + (bushr ((band (x0 - (band (bushr x0 1) 1431655765)) 858993459) + (band (bushr (x0 - (band (bushr x0 1) 1431655765)) 2) 858993459)) 4)) 252645135) + (bushr (band (((band (x0 - (band (bushr x0 1) 1431655765)) 858993459) + (band (bushr (x0 - (band (bushr x0 1) 1431655765)) 2) 858993459)) + (bushr ((band (x0 - (band (bushr x0 1) 1431655765)) 858993459) + (band (bushr (x0 - (band (bushr x0 1) 1431655765)) 2) 858993459)) 4)) 252645135) 8)) + (bushr ((band (((band (x0 - (band (bushr x0 1) 1431655765)) 858993459) + (band (bushr (x0 - (band (bushr x0 1) 1431655765)) 2) 858993459)) + (bushr ((band (x0 - (band (bushr x0 1) 1431655765)) 858993459) + (band (bushr (x0 - (band (bushr x0 1) 1431655765)) 2) 858993459)) 4)) 252645135) + (bushr (band (((band (x0 - (band (bushr x0 1) 1431655765)) 858993459) + (band (bushr (x0 - (band (bushr x0 1) 1431655765)) 2) 858993459)) + (bushr ((band (x0 - (band (bushr x0 1) 1431655765)) 858993459) + (band (bushr (x0 - (band (bushr x0 1) 1431655765)) 2) 858993459)) 4)) 252645135) 8)) 16))))]) dJ6_bitCount_0f7a4_47 rfl (by decide) rfl ?_
  refine ok_iload_n (pc := 48) hc dJ6_bitCount_0f7a4_48 rfl 0 rfl ?_
  refine ok_bipush (pc := 49) hc (v := i3 63) dJ6_bitCount_0f7a4_49 (by decide) ?_
  refine zk_iand (pc := 51) hc dJ6_bitCount_0f7a4_51 ?_
  exact ok_iret (st := []) (pc := 52) hc hr dJ6_bitCount_0f7a4_52 P

/-- how many of the seven nodes a mask holds -/
def nodesN (m : Int) : Int := sumN (fun j => bcon m j) 7
def bc1 (x : Int) : Int := x - band (bushr x 1) 1431655765
def bc2 (y : Int) : Int := band y 858993459 + band (bushr y 2) 858993459
def bc3 (y : Int) : Int := band (y + bushr y 4) 252645135
def bc4 (y : Int) : Int := y + bushr y 8
def bc5 (y : Int) : Int := y + bushr y 16
def bitcE (x : Int) : Int := band (bc5 (bc4 (bc3 (bc2 (bc1 x))))) 63
theorem bitcE_eq : ∀ m < 128, bitcE (m : Nat) = nodesN (m : Nat) := by decide +kernel
def spec_J6_bitCount_0f7a4 (args : List Value) (n : Nat) (h : HP) (K : KT) : Prop := ∃ x : Int, args = [.int (i3 x)] ∧ Mk x ∧ K (.inl (some (.int (i3 (nodesN x))))) n h
theorem sp_J6_bitCount_0f7a4 : Sp yJ6_bitCount_0f7a4 cJ6_bitCount_0f7a4 1 (some .int) 0 0 0 0 spec_J6_bitCount_0f7a4 := by
  refine sp_intro (by decide) (by rintro args n h K ⟨x, rfl, -⟩; exact Nat.le_of_ble_eq_true rfl) ?_
  rintro X args n h K hc hr ⟨x, rfl, hx, kk⟩
  have e := bitcE_eq x.toNat (by unfold Mk at hx; omega)
  rw [Int.toNat_of_nonneg hx.1] at e
  rw [← e] at kk
  exact sJ6_bitCount_0f7a4_0 hc hr kk
theorem nodesN_r (m : Int) : 0 ≤ nodesN m ∧ nodesN m ≤ 7 := by
  have h : ∀ j : Nat, 0 ≤ bcon m j ∧ bcon m j ≤ 1 := fun j => by rcases bcon01 m j with e | e <;> omega
  have h0 := h 0
  have h1 := h 1
  have h2 := h 2
  have h3 := h 3
  have h4 := h 4
  have h5 := h 5
  have h6 := h 6
  unfold nodesN
  simp only [sumN]
  omega
