/-! part 98: digest: the reference -/
theorem rv_un (r : Int ⊕ String) : rvI r = unL r := by cases r <;> rfl
def DgI (h0 h : HP) (n : Nat) (q : Dsk) (x y : Int) : Prop := ∃ I F, MAt h n I F ∧ I 23 = x ∧ MdF I F q ∧ I 0 = 0 ∧ I 16 = y ∧ Fr h0 h 128 138
theorem DgI.rd {h0 h h' : HP} {n : Nat} {q : Dsk} {x : Int} {I I' : Nat → Int} {F F' : Nat → Nat → Int} (h23 : I 23 = x) (hF : MdF I F q) (hz : I 0 = 0) (hf : Fr h0 h 128 138) (hM : MAt h' n I' F') (kI : KpR I I') (kF : KpF F F') (f : Fr h h' 128 138) : DgI h0 h' n q x (I' 16) := ⟨I', F', hM, (kI 23 (by decide) (by decide) (by decide) (by decide)).trans h23, hF.rd kI kF, (kI 0 (by decide) (by decide) (by decide) (by decide)).trans hz, rfl, hf.tr f⟩
set_option maxHeartbeats 4000000 in
set_option maxRecDepth 100000 in
theorem sX7_mix_0 {X : Xt} {n : Nat} {h : HP} {a0 : Nat} {l1 : Int} {fs1 : List Value} {jv2 : Int} (hc : Cx X cX7_mix RX7 3 0 0) {K : KT} (hr : CxR X none K) (e1 : At h n a0 (.inl (7, fs1))) (z1 : fs1.length = 24) (v1_23 : fs1[23]? = some (.long (i6 jv2)))
    (P : K (.inl none) n (va_up h a0 (.inl (7, (fs1.set 23 (.long (i6 ((31 * jv2) + l1)))))))) :
    Ok X 0 0 0 [(0, .ref a0), (1, .long (i6 l1))] [] n h := by
  refine ok_aload_n (pc := 0) hc dX7_mix_0 rfl 0 rfl ?_
  refine ok_ldc2 (pc := 1) hc (v := i6 31) dX7_mix_1 (in_all (i := 1322) (by decide +kernel) rfl) ?_
  refine ok_aload_n (pc := 4) hc dX7_mix_4 rfl 0 rfl ?_
  refine ok_get (pc := 5) hc fl_X7_266 dX7_mix_5 e1.1 e1.2 v1_23 ?_
  refine zk_lmul (pc := 8) hc dX7_mix_8 ?_
  refine ok_lload_n (pc := 9) hc dX7_mix_9 rfl 1 rfl ?_
  refine zk_ladd (pc := 10) hc dX7_mix_10 ?_
  refine ok_put (pc := 11) hc fl_X7_266 dX7_mix_11 e1.1 e1.2 (by simp [List.length_set, z1]) (fun _ => rfl) (fun _ => rfl) ?_
  exact ok_vret (st := []) (pc := 14) hc hr dX7_mix_14 P

def spec_X7_mix (args : List Value) (n : Nat) (h : HP) (K : KT) : Prop := ∃ (h0 : HP) (q : Dsk) (x y v : Int), args = [.ref 128, .long (i6 v)] ∧ DgI h0 h n q x y ∧ ∀ h', DgI h0 h' n q (31 * x + v) y → K (.inl none) n h'
theorem sp_X7_mix : Sp yX7_mix cX7_mix 3 none 0 0 0 0 spec_X7_mix := by
  refine sp_intro (by decide) (by rintro args n h K ⟨h0, q, x, y, v, rfl, -⟩; exact Nat.le_of_ble_eq_true rfl) ?_
  rintro X args n h K hc hr ⟨h0, q, x, y, v, rfl, ⟨I, F, hM, h23, hF, hz, h16, hf⟩, kk⟩
  refine sX7_mix_0 hc hr hM.o rfl rfl (kk _ ⟨va_up I 23 (31 * I 23 + v), F, hM.uo (va_up I 23 (31 * I 23 + v)), by rw [up_self, h23], hF.kt (fun k hk => up_ne (by omega)) (fun _ _ => rfl), (up_ne (by decide)).trans hz, (up_ne (by decide)).trans h16, hf.up (by omega)⟩)
theorem mix_P (q : Dsk) : ∀ (j k : Nat) (x : Int), mixS (fun i => unL (opPart q ((i : Int) / 4) ((i : Int) % 4))) (4 * j) (4 * k) x = mixP q j k x
  | 0, _, _ => rfl
  | j + 1, k, x => by
    have ih := mix_P q j (k + 1)
    have e : mixS (fun i => unL (opPart q ((i : Int) / 4) ((i : Int) % 4))) (4 * (j + 1)) (4 * k) x = mixS (fun i => unL (opPart q ((i : Int) / 4) ((i : Int) % 4))) (4 * j) (4 * (k + 1)) (31 * (31 * (31 * (31 * x + unL (opPart q (((4 * k : Nat) : Int) / 4) (((4 * k : Nat) : Int) % 4))) + unL (opPart q (((4 * k + 1 : Nat) : Int) / 4) (((4 * k + 1 : Nat) : Int) % 4))) + unL (opPart q (((4 * k + 2 : Nat) : Int) / 4) (((4 * k + 2 : Nat) : Int) % 4))) + unL (opPart q (((4 * k + 3 : Nat) : Int) / 4) (((4 * k + 3 : Nat) : Int) % 4))) := rfl
    rw [e, ih, show ((4 * k : Nat) : Int) / 4 = k by omega, show ((4 * k : Nat) : Int) % 4 = 0 by omega, show ((4 * k + 1 : Nat) : Int) / 4 = k by omega, show ((4 * k + 1 : Nat) : Int) % 4 = 1 by omega, show ((4 * k + 2 : Nat) : Int) / 4 = k by omega, show ((4 * k + 2 : Nat) : Int) % 4 = 2 by omega, show ((4 * k + 3 : Nat) : Int) / 4 = k by omega, show ((4 * k + 3 : Nat) : Int) % 4 = 3 by omega]
    rfl
theorem mix_V (q : Dsk) : ∀ (j k : Nat) (x : Int), mixS (fun i => unL (opVolt q ((i : Int) / 2) ((i : Int) % 2))) (2 * j) (2 * k) x = mixV q j k x
  | 0, _, _ => rfl
  | j + 1, k, x => by
    have ih := mix_V q j (k + 1)
    have e : mixS (fun i => unL (opVolt q ((i : Int) / 2) ((i : Int) % 2))) (2 * (j + 1)) (2 * k) x = mixS (fun i => unL (opVolt q ((i : Int) / 2) ((i : Int) % 2))) (2 * j) (2 * (k + 1)) (31 * (31 * x + unL (opVolt q (((2 * k : Nat) : Int) / 2) (((2 * k : Nat) : Int) % 2))) + unL (opVolt q (((2 * k + 1 : Nat) : Int) / 2) (((2 * k + 1 : Nat) : Int) % 2))) := rfl
    rw [e, ih, show ((2 * k : Nat) : Int) / 2 = k by omega, show ((2 * k : Nat) : Int) % 2 = 0 by omega, show ((2 * k + 1 : Nat) : Int) / 2 = k by omega, show ((2 * k + 1 : Nat) : Int) % 2 = 1 by omega]
    rfl
theorem mix_A (q : Dsk) : ∀ (j k : Nat) (x : Int), mixS (fun i => unL (opAmp q ((i : Int) / 3) ((i : Int) % 3))) (3 * j) (3 * k) x = mixA q j k x
  | 0, _, _ => rfl
  | j + 1, k, x => by
    have ih := mix_A q j (k + 1)
    have e : mixS (fun i => unL (opAmp q ((i : Int) / 3) ((i : Int) % 3))) (3 * (j + 1)) (3 * k) x = mixS (fun i => unL (opAmp q ((i : Int) / 3) ((i : Int) % 3))) (3 * j) (3 * (k + 1)) (31 * (31 * (31 * x + unL (opAmp q (((3 * k : Nat) : Int) / 3) (((3 * k : Nat) : Int) % 3))) + unL (opAmp q (((3 * k + 1 : Nat) : Int) / 3) (((3 * k + 1 : Nat) : Int) % 3))) + unL (opAmp q (((3 * k + 2 : Nat) : Int) / 3) (((3 * k + 2 : Nat) : Int) % 3))) := rfl
    rw [e, ih, show ((3 * k : Nat) : Int) / 3 = k by omega, show ((3 * k : Nat) : Int) % 3 = 0 by omega, show ((3 * k + 1 : Nat) : Int) / 3 = k by omega, show ((3 * k + 1 : Nat) : Int) % 3 = 1 by omega, show ((3 * k + 2 : Nat) : Int) / 3 = k by omega, show ((3 * k + 2 : Nat) : Int) % 3 = 2 by omega]
    rfl
theorem amp_un {q : Dsk} {a w : Int} (ha : 0 ≤ a ∧ a < nA q.1.1) (hw : 0 ≤ w ∧ w ≤ 2) : unL (opAmp q a w) = ampV q.1 a w := by
  unfold opAmp ampV sgnV
  rw [if_neg (show ¬ ¬ (0 ≤ a ∧ a < nA q.1.1) from fun z => z ha)]
  rcases (show w = 0 ∨ w = 1 ∨ w = 2 by omega) with e | e | e <;> subst e
  · rfl
  · rfl
  · show unL (if q.1.2.2.2 = 0 then (Sum.inl 0 : Int ⊕ String) else _) = if q.1.2.2.2 = 0 then 0 else _
    split <;> rfl
theorem part_un {q : Dsk} {Z : Nat → Int} (hP : ZPs Z q.1.1) {i : Nat} (hi : i < 4 * q.1.1.length) : Z i = unL (opPart q ((i : Int) / 4) ((i : Int) % 4)) ∧ R3 (Z i) := by
  have hk : 0 ≤ (i : Int) / 4 ∧ (i : Int) / 4 < q.1.1.length := by omega
  have hp1 := pAt_some hk
  unfold opPart
  rw [prt_in hk]
  generalize pAt q.1.1 ((i : Int) / 4) = p at *
  simp only
  have hz := hP.of hp1
  have hb := (hP.2.2.2 p (List.mem_of_getElem? hp1)).b
  have et : ((i : Int) / 4).toNat = i / 4 := by omega
  rw [et] at hz
  have e4 : i = 4 * (i / 4) + i % 4 := by omega
  rcases (show i % 4 = 0 ∨ i % 4 = 1 ∨ i % 4 = 2 ∨ i % 4 = 3 by omega) with e | e | e | e
  · rw [show (i : Int) % 4 = 0 by omega]
    have : Z i = p.1 := by
      rw [← hz.1]
      congr 1
      omega
    exact ⟨this, R3_s (by omega)⟩
  · rw [show (i : Int) % 4 = 1 by omega]
    have : Z i = p.2.1 := by
      rw [← hz.2.1]
      congr 1
      omega
    exact ⟨this, R3_s (by omega)⟩
  · rw [show (i : Int) % 4 = 2 by omega]
    have : Z i = p.2.2.1 := by
      rw [← hz.2.2.1]
      congr 1
      omega
    exact ⟨this, R3_s (by omega)⟩
  · rw [show (i : Int) % 4 = 3 by omega]
    have : Z i = p.2.2.2 := by
      rw [← hz.2.2.2]
      congr 1
      omega
    exact ⟨this, R3_s (by omega)⟩
set_option maxHeartbeats 4000000 in
set_option maxRecDepth 100000 in
theorem sX7_digest_0 {X : Xt} {n : Nat} {h : HP} {a0 : Nat} {fs1 : List Value} (hc : Cx X cX7_digest RX7 3 12 278) {K : KT} (hr : CxR X (some .long) K) (e1 : At h n a0 (.inl (7, fs1))) (z1 : fs1.length = 24)
    (P : Ok X 0 0 14 [(0, .ref a0), (1, .int (i3 0))] [] n (va_up (va_up h a0 (.inl (7, (fs1.set 0 (.int (i3 0)))))) a0 (.inl (7, ((fs1.set 0 (.int (i3 0))).set 23 (.long (i6 2081))))))) :
    Ok X 0 0 0 [(0, .ref a0)] [] n h := by
  refine ok_aload_n (pc := 0) hc dX7_digest_0 rfl 0 rfl ?_
  refine ok_iconst (pc := 1) hc (v := i3 0) dX7_digest_1 (by decide) ?_
  refine ok_put (pc := 2) hc fl_X7_41 dX7_digest_2 e1.1 e1.2 (by simp [List.length_set, z1]) (fun _ => rfl) (fun _ => rfl) ?_
  refine ok_aload_n (pc := 5) hc dX7_digest_5 rfl 0 rfl ?_
  refine ok_ldc2 (pc := 6) hc (v := i6 2081) dX7_digest_6 (in_all (i := 1317) (by decide +kernel) rfl) ?_
  refine ok_put (pc := 9) hc fl_X7_266 dX7_digest_9 e1.1 up_self (by simp [List.length_set, z1]) (fun _ => rfl) (fun _ => rfl) ?_
  refine ok_iconst (pc := 12) hc (v := i3 0) dX7_digest_12 (by decide) ?_
  refine ok_istore_n (pc := 13) hc (lv' := [(1, .int (i3 0)), (0, .ref a0)]) dX7_digest_13 rfl (by decide) rfl ?_
  refine ok_lv [1, 0] rfl ?_
  exact P

set_option maxHeartbeats 4000000 in
set_option maxRecDepth 100000 in
theorem sX7_digest_14 {X : Xt} {n : Nat} {h : HP} {a0 : Nat} {x1 : Int} {fs2 : List Value} (hc : Cx X cX7_digest RX7 3 12 278) {K : KT} (hr : CxR X (some .long) K) (e2 : At h n a0 (.inl (7, fs2))) (z2 : fs2.length = 24)
    (P : (R3 x1) ∧ (10 ≤ x1 → Ok X 0 0 36 [(0, .ref a0), (1, .int (i3 x1))] [] n h) ∧ (¬ 10 ≤ x1 → spec_X7_counted [.ref a0, .int (i3 x1)] n h (kc X 0 0 23 [(0, .ref a0), (1, .int (i3 x1))] [.ref a0] n))) :
    Ok X 0 0 14 [(0, .ref a0), (1, .int (i3 x1))] [] n h := by
  refine ok_iload_n (pc := 14) hc dX7_digest_14 rfl 1 rfl ?_
  refine ok_bipush (pc := 15) hc (v := i3 10) dX7_digest_15 (by decide) ?_
  obtain ⟨r1, P⟩ := P
  refine zk_icmp_ge (pc := 17) (tgt := 36) hc dX7_digest_17 (by decide) r1 ⟨by decide, by decide⟩ (fun c => ?_) (fun c => ?_)
  · have P := P.1 c
    exact P
  · have P := P.2 c
    refine ok_aload_n (pc := 20) hc dX7_digest_20 rfl 0 rfl ?_
    refine ok_aload_n (pc := 21) hc dX7_digest_21 rfl 0 rfl ?_
    refine ok_iload_n (pc := 22) hc dX7_digest_22 rfl 1 rfl ?_
    exact ok_callV (pc := 23) (a := a0) (cb := 0) (sb := 0) (st := [.ref a0]) hc [.int (i3 x1)] cv_X7_257 sp_X7_counted (by decide) dX7_digest_23 rfl e2.1 e2.2 rfl rfl rfl (Nat.le_of_ble_eq_true rfl) P

set_option maxHeartbeats 4000000 in
set_option maxRecDepth 100000 in
theorem sX7_digest_26 {X : Xt} {n : Nat} {h : HP} {a0 : Nat} {x1 : Int} {t0 : Int} {fs2 : List Value} (hc : Cx X cX7_digest RX7 3 12 278) {K : KT} (hr : CxR X (some .long) K) (e2 : At h n a0 (.inl (7, fs2))) (z2 : fs2.length = 24)
    (P : (R3 t0) ∧ spec_X7_mix [.ref a0, .long (i6 t0)] n h (kc X 0 0 27 [(0, .ref a0), (1, .int (i3 x1))] [] n)) :
    Ok X 0 0 26 [(0, .ref a0), (1, .int (i3 x1))] [.int (i3 t0), .ref a0] n h := by
  obtain ⟨r1, P⟩ := P
  refine zk_i2l (pc := 26) hc dX7_digest_26 r1 ?_
  exact ok_callV (pc := 27) (a := a0) (cb := 0) (sb := 0) (st := []) hc [.long (i6 t0)] cv_X7_271 sp_X7_mix (by decide) dX7_digest_27 rfl e2.1 e2.2 rfl rfl rfl (Nat.le_of_ble_eq_true rfl) P

set_option maxHeartbeats 4000000 in
set_option maxRecDepth 100000 in
theorem sX7_digest_30 {X : Xt} {n : Nat} {h : HP} {a0 : Nat} {x1 : Int} (hc : Cx X cX7_digest RX7 3 12 278) {K : KT} (hr : CxR X (some .long) K) 
    (P : Ok X 0 0 14 [(0, .ref a0), (1, .int (i3 (x1 + 1)))] [] n h) :
    Ok X 0 0 30 [(0, .ref a0), (1, .int (i3 x1))] [] n h := by
  refine zk_iinc (pc := 30) hc (q := 1) (x := x1) (lv' := [(1, .int (i3 (x1 + 1))), (0, .ref a0)]) dX7_digest_30 rfl (by decide) rfl ?_
  refine ok_goto (pc := 33) (tgt := 14) hc dX7_digest_33 (by decide) ?_
  refine ok_lv [1, 0] rfl ?_
  exact P

set_option maxHeartbeats 4000000 in
set_option maxRecDepth 100000 in
theorem sX7_digest_36 {X : Xt} {n : Nat} {h : HP} {a0 : Nat} {x1 : Int} (hc : Cx X cX7_digest RX7 3 12 278) {K : KT} (hr : CxR X (some .long) K) 
    (P : Ok X 0 0 38 [(0, .ref a0), (1, .int (i3 0))] [] n h) :
    Ok X 0 0 36 [(0, .ref a0), (1, .int (i3 x1))] [] n h := by
  refine ok_iconst (pc := 36) hc (v := i3 0) dX7_digest_36 (by decide) ?_
  refine ok_istore_n (pc := 37) hc (lv' := [(1, .int (i3 0)), (0, .ref a0)]) dX7_digest_37 rfl (by decide) rfl ?_
  refine ok_lv [1, 0] rfl ?_
  exact P

set_option maxHeartbeats 4000000 in
set_option maxRecDepth 100000 in
theorem sX7_digest_38 {X : Xt} {n : Nat} {h : HP} {a0 : Nat} {x1 : Int} {fs1 : List Value} {q2 : Nat} {f3 : Nat → Int} (hc : Cx X cX7_digest RX7 3 12 278) {K : KT} (hr : CxR X (some .long) K) (e1 : At h n a0 (.inl (7, fs1))) (z1 : fs1.length = 24) (v1_1 : fs1[1]? = some (.ref q2)) (e3 : At h n q2 (ai 52 f3))
    (P : (Ix 48 52) ∧ (R3 x1) ∧ (R3 (4 * (f3 (48 : Int).toNat))) ∧ ((4 * (f3 (48 : Int).toNat)) ≤ x1 → Ok X 0 0 68 [(0, .ref a0), (1, .int (i3 x1))] [] n h) ∧ (¬ (4 * (f3 (48 : Int).toNat)) ≤ x1 → (Ix x1 52) ∧ (R3 (f3 (x1 : Int).toNat)) ∧ spec_X7_mix [.ref a0, .long (i6 (f3 (x1 : Int).toNat))] n h (kc X 0 0 59 [(0, .ref a0), (1, .int (i3 x1))] [] n))) :
    Ok X 0 0 38 [(0, .ref a0), (1, .int (i3 x1))] [] n h := by
  refine ok_iload_n (pc := 38) hc dX7_digest_38 rfl 1 rfl ?_
  refine ok_iconst (pc := 39) hc (v := i3 4) dX7_digest_39 (by decide) ?_
  refine ok_aload_n (pc := 40) hc dX7_digest_40 rfl 0 rfl ?_
  refine ok_get (pc := 41) hc fl_X7_7 dX7_digest_41 e1.1 e1.2 v1_1 ?_
  refine ok_bipush (pc := 44) hc (v := i3 48) dX7_digest_44 (by decide) ?_
  obtain ⟨r, P⟩ := P
  refine zk_iald (pc := 46) hc dX7_digest_46 e3.1 e3.2 r ?_
  refine zk_imul (pc := 47) hc dX7_digest_47 ?_
  obtain ⟨r4, P⟩ := P
  obtain ⟨r5, P⟩ := P
  refine zk_icmp_ge (pc := 48) (tgt := 68) hc dX7_digest_48 (by decide) r4 r5 (fun c => ?_) (fun c => ?_)
  · have P := P.1 c
    exact P
  · have P := P.2 c
    refine ok_aload_n (pc := 51) hc dX7_digest_51 rfl 0 rfl ?_
    refine ok_aload_n (pc := 52) hc dX7_digest_52 rfl 0 rfl ?_
    refine ok_get (pc := 53) hc fl_X7_7 dX7_digest_53 e1.1 e1.2 v1_1 ?_
    refine ok_iload_n (pc := 56) hc dX7_digest_56 rfl 1 rfl ?_
    obtain ⟨r, P⟩ := P
    refine zk_iald (pc := 57) hc dX7_digest_57 e3.1 e3.2 r ?_
    obtain ⟨r6, P⟩ := P
    refine zk_i2l (pc := 58) hc dX7_digest_58 r6 ?_
    exact ok_callV (pc := 59) (a := a0) (cb := 0) (sb := 0) (st := []) hc [.long (i6 (f3 (x1 : Int).toNat))] cv_X7_271 sp_X7_mix (by decide) dX7_digest_59 rfl e1.1 e1.2 rfl rfl rfl (Nat.le_of_ble_eq_true rfl) P

set_option maxHeartbeats 4000000 in
set_option maxRecDepth 100000 in
theorem sX7_digest_62 {X : Xt} {n : Nat} {h : HP} {a0 : Nat} {x1 : Int} (hc : Cx X cX7_digest RX7 3 12 278) {K : KT} (hr : CxR X (some .long) K) 
    (P : Ok X 0 0 38 [(0, .ref a0), (1, .int (i3 (x1 + 1)))] [] n h) :
    Ok X 0 0 62 [(0, .ref a0), (1, .int (i3 x1))] [] n h := by
  refine zk_iinc (pc := 62) hc (q := 1) (x := x1) (lv' := [(1, .int (i3 (x1 + 1))), (0, .ref a0)]) dX7_digest_62 rfl (by decide) rfl ?_
  refine ok_goto (pc := 65) (tgt := 38) hc dX7_digest_65 (by decide) ?_
  refine ok_lv [1, 0] rfl ?_
  exact P

set_option maxHeartbeats 4000000 in
set_option maxRecDepth 100000 in
theorem sX7_digest_68 {X : Xt} {n : Nat} {h : HP} {a0 : Nat} {x1 : Int} (hc : Cx X cX7_digest RX7 3 12 278) {K : KT} (hr : CxR X (some .long) K) 
    (P : Ok X 0 0 70 [(0, .ref a0), (1, .int (i3 0))] [] n h) :
    Ok X 0 0 68 [(0, .ref a0), (1, .int (i3 x1))] [] n h := by
  refine ok_iconst (pc := 68) hc (v := i3 0) dX7_digest_68 (by decide) ?_
  refine ok_istore_n (pc := 69) hc (lv' := [(1, .int (i3 0)), (0, .ref a0)]) dX7_digest_69 rfl (by decide) rfl ?_
  refine ok_lv [1, 0] rfl ?_
  exact P

set_option maxHeartbeats 4000000 in
set_option maxRecDepth 100000 in
theorem sX7_digest_70 {X : Xt} {n : Nat} {h : HP} {a0 : Nat} {x1 : Int} {fs2 : List Value} (hc : Cx X cX7_digest RX7 3 12 278) {K : KT} (hr : CxR X (some .long) K) (e2 : At h n a0 (.inl (7, fs2))) (z2 : fs2.length = 24)
    (P : (R3 x1) ∧ (14 ≤ x1 → Ok X 0 0 96 [(0, .ref a0), (1, .int (i3 x1))] [] n h) ∧ (¬ 14 ≤ x1 → (((0 : Int) ≤ x1 ∧ x1 ≤ 2147483647) ∧ (0 : Int) < 2 ∧ (2 : Int) ≤ 2147483647) ∧ (((0 : Int) ≤ x1 ∧ x1 ≤ 2147483647) ∧ (0 : Int) < 2 ∧ (2 : Int) ≤ 2147483647) ∧ spec_X7_present [.ref a0, .int (i3 (x1 / 2)), .int (i3 (x1 % 2))] n h (kc X 0 0 84 [(0, .ref a0), (1, .int (i3 x1))] [.ref a0] n))) :
    Ok X 0 0 70 [(0, .ref a0), (1, .int (i3 x1))] [] n h := by
  refine ok_iload_n (pc := 70) hc dX7_digest_70 rfl 1 rfl ?_
  refine ok_bipush (pc := 71) hc (v := i3 14) dX7_digest_71 (by decide) ?_
  obtain ⟨r1, P⟩ := P
  refine zk_icmp_ge (pc := 73) (tgt := 96) hc dX7_digest_73 (by decide) r1 ⟨by decide, by decide⟩ (fun c => ?_) (fun c => ?_)
  · have P := P.1 c
    exact P
  · have P := P.2 c
    refine ok_aload_n (pc := 76) hc dX7_digest_76 rfl 0 rfl ?_
    refine ok_aload_n (pc := 77) hc dX7_digest_77 rfl 0 rfl ?_
    refine ok_iload_n (pc := 78) hc dX7_digest_78 rfl 1 rfl ?_
    refine ok_iconst (pc := 79) hc (v := i3 2) dX7_digest_79 (by decide) ?_
    obtain ⟨r, P⟩ := P
    refine zk_idiv (pc := 80) hc dX7_digest_80 r ?_
    refine ok_iload_n (pc := 81) hc dX7_digest_81 rfl 1 rfl ?_
    refine ok_iconst (pc := 82) hc (v := i3 2) dX7_digest_82 (by decide) ?_
    obtain ⟨r, P⟩ := P
    refine zk_irem (pc := 83) hc dX7_digest_83 r ?_
    exact ok_callV (pc := 84) (a := a0) (cb := 0) (sb := 0) (st := [.ref a0]) hc [.int (i3 (x1 / 2)), .int (i3 (x1 % 2))] cv_X7_231 sp_X7_present (by decide) dX7_digest_84 rfl e2.1 e2.2 rfl rfl rfl (Nat.le_of_ble_eq_true rfl) P

set_option maxHeartbeats 4000000 in
set_option maxRecDepth 100000 in
theorem sX7_digest_87 {X : Xt} {n : Nat} {h : HP} {a0 : Nat} {x1 : Int} {tl0 : Int} {fs1 : List Value} (hc : Cx X cX7_digest RX7 3 12 278) {K : KT} (hr : CxR X (some .long) K) (e1 : At h n a0 (.inl (7, fs1))) (z1 : fs1.length = 24)
    (P : spec_X7_mix [.ref a0, .long (i6 tl0)] n h (kc X 0 0 87 [(0, .ref a0), (1, .int (i3 x1))] [] n)) :
    Ok X 0 0 87 [(0, .ref a0), (1, .int (i3 x1))] [.long (i6 tl0), .ref a0] n h := by
  exact ok_callV (pc := 87) (a := a0) (cb := 0) (sb := 0) (st := []) hc [.long (i6 tl0)] cv_X7_271 sp_X7_mix (by decide) dX7_digest_87 rfl e1.1 e1.2 rfl rfl rfl (Nat.le_of_ble_eq_true rfl) P

set_option maxHeartbeats 4000000 in
set_option maxRecDepth 100000 in
theorem sX7_digest_90 {X : Xt} {n : Nat} {h : HP} {a0 : Nat} {x1 : Int} (hc : Cx X cX7_digest RX7 3 12 278) {K : KT} (hr : CxR X (some .long) K) 
    (P : Ok X 0 0 70 [(0, .ref a0), (1, .int (i3 (x1 + 1)))] [] n h) :
    Ok X 0 0 90 [(0, .ref a0), (1, .int (i3 x1))] [] n h := by
  refine zk_iinc (pc := 90) hc (q := 1) (x := x1) (lv' := [(1, .int (i3 (x1 + 1))), (0, .ref a0)]) dX7_digest_90 rfl (by decide) rfl ?_
  refine ok_goto (pc := 93) (tgt := 70) hc dX7_digest_93 (by decide) ?_
  refine ok_lv [1, 0] rfl ?_
  exact P

set_option maxHeartbeats 4000000 in
set_option maxRecDepth 100000 in
theorem sX7_digest_96 {X : Xt} {n : Nat} {h : HP} {a0 : Nat} {x1 : Int} {fs1 : List Value} {q2 : Nat} {f3 : Nat → Int} {ps4 : List Part} (hc : Cx X cX7_digest RX7 3 12 278) {K : KT} (hr : CxR X (some .long) K) (e1 : At h n a0 (.inl (7, fs1))) (z1 : fs1.length = 24) (v1_1 : fs1[1]? = some (.ref q2)) (e3 : At h n q2 (ai 52 f3)) (hP4 : ZPs f3 ps4)
    (P : Ok X 0 0 103 [(0, .ref a0), (1, .int (i3 (nA ps4 : Int))), (2, .int (i3 0))] [] n h) :
    Ok X 0 0 96 [(0, .ref a0), (1, .int (i3 x1))] [] n h := by
  refine ok_aload_n (pc := 96) hc dX7_digest_96 rfl 0 rfl ?_
  refine ok_callV (pc := 97) (a := a0) (cb := 0) (sb := 0) (st := []) hc [] cv_X7_64 sp_X7_amplifiers (by decide) dX7_digest_97 rfl e1.1 e1.2 rfl rfl rfl (Nat.le_of_ble_eq_true rfl) (⟨_, _, _, rfl, ⟨_, _, ⟨e1.1, e1.2⟩, z1, v1_1, ⟨e3.1, e3.2⟩⟩, hP4, rfl, ?_⟩)
  show Ok X 0 0 (97 + 3) [(0, .ref a0), (1, .int (i3 x1))] [.int (i3 (nA ps4 : Int))] n h
  refine ok_istore_n (pc := 100) hc (lv' := [(1, .int (i3 (nA ps4 : Int))), (0, .ref a0)]) dX7_digest_100 rfl (by decide) rfl ?_
  refine ok_iconst (pc := 101) hc (v := i3 0) dX7_digest_101 (by decide) ?_
  refine ok_istore_n (pc := 102) hc (lv' := [(2, .int (i3 0)), (1, .int (i3 (nA ps4 : Int))), (0, .ref a0)]) dX7_digest_102 rfl (by decide) rfl ?_
  refine ok_lv [2, 1, 0] rfl ?_
  exact P

set_option maxHeartbeats 4000000 in
set_option maxRecDepth 100000 in
theorem sX7_digest_103 {X : Xt} {n : Nat} {h : HP} {a0 : Nat} {x1 : Int} {x2 : Int} {fs3 : List Value} (hc : Cx X cX7_digest RX7 3 12 278) {K : KT} (hr : CxR X (some .long) K) (e3 : At h n a0 (.inl (7, fs3))) (z3 : fs3.length = 24)
    (P : (R3 x2) ∧ (R3 (3 * x1)) ∧ ((3 * x1) ≤ x2 → Ok X 0 0 131 [(0, .ref a0), (1, .int (i3 x1)), (2, .int (i3 x2))] [] n h) ∧ (¬ (3 * x1) ≤ x2 → (((0 : Int) ≤ x2 ∧ x2 ≤ 2147483647) ∧ (0 : Int) < 3 ∧ (3 : Int) ≤ 2147483647) ∧ (((0 : Int) ≤ x2 ∧ x2 ≤ 2147483647) ∧ (0 : Int) < 3 ∧ (3 : Int) ≤ 2147483647) ∧ spec_X7_amplifierNow [.ref a0, .int (i3 (x2 / 3)), .int (i3 (x2 % 3))] n h (kc X 0 0 118 [(0, .ref a0), (1, .int (i3 x1)), (2, .int (i3 x2))] [.ref a0] n))) :
    Ok X 0 0 103 [(0, .ref a0), (1, .int (i3 x1)), (2, .int (i3 x2))] [] n h := by
  refine ok_iload_n (pc := 103) hc dX7_digest_103 rfl 2 rfl ?_
  refine ok_iconst (pc := 104) hc (v := i3 3) dX7_digest_104 (by decide) ?_
  refine ok_iload_n (pc := 105) hc dX7_digest_105 rfl 1 rfl ?_
  refine zk_imul (pc := 106) hc dX7_digest_106 ?_
  obtain ⟨r1, P⟩ := P
  obtain ⟨r2, P⟩ := P
  refine zk_icmp_ge (pc := 107) (tgt := 131) hc dX7_digest_107 (by decide) r1 r2 (fun c => ?_) (fun c => ?_)
  · have P := P.1 c
    exact P
  · have P := P.2 c
    refine ok_aload_n (pc := 110) hc dX7_digest_110 rfl 0 rfl ?_
    refine ok_aload_n (pc := 111) hc dX7_digest_111 rfl 0 rfl ?_
    refine ok_iload_n (pc := 112) hc dX7_digest_112 rfl 2 rfl ?_
    refine ok_iconst (pc := 113) hc (v := i3 3) dX7_digest_113 (by decide) ?_
    obtain ⟨r, P⟩ := P
    refine zk_idiv (pc := 114) hc dX7_digest_114 r ?_
    refine ok_iload_n (pc := 115) hc dX7_digest_115 rfl 2 rfl ?_
    refine ok_iconst (pc := 116) hc (v := i3 3) dX7_digest_116 (by decide) ?_
    obtain ⟨r, P⟩ := P
    refine zk_irem (pc := 117) hc dX7_digest_117 r ?_
    exact ok_callV (pc := 118) (a := a0) (cb := 0) (sb := 0) (st := [.ref a0]) hc [.int (i3 (x2 / 3)), .int (i3 (x2 % 3))] cv_X7_238 sp_X7_amplifierNow (by decide) dX7_digest_118 rfl e3.1 e3.2 rfl rfl rfl (Nat.le_of_ble_eq_true rfl) P

set_option maxHeartbeats 4000000 in
set_option maxRecDepth 100000 in
theorem sX7_digest_121 {X : Xt} {n : Nat} {h : HP} {a0 : Nat} {x1 : Int} {x2 : Int} {t0 : Int} {fs2 : List Value} (hc : Cx X cX7_digest RX7 3 12 278) {K : KT} (hr : CxR X (some .long) K) (e2 : At h n a0 (.inl (7, fs2))) (z2 : fs2.length = 24)
    (P : (R3 t0) ∧ spec_X7_mix [.ref a0, .long (i6 t0)] n h (kc X 0 0 122 [(0, .ref a0), (1, .int (i3 x1)), (2, .int (i3 x2))] [] n)) :
    Ok X 0 0 121 [(0, .ref a0), (1, .int (i3 x1)), (2, .int (i3 x2))] [.int (i3 t0), .ref a0] n h := by
  obtain ⟨r1, P⟩ := P
  refine zk_i2l (pc := 121) hc dX7_digest_121 r1 ?_
  exact ok_callV (pc := 122) (a := a0) (cb := 0) (sb := 0) (st := []) hc [.long (i6 t0)] cv_X7_271 sp_X7_mix (by decide) dX7_digest_122 rfl e2.1 e2.2 rfl rfl rfl (Nat.le_of_ble_eq_true rfl) P

set_option maxHeartbeats 4000000 in
set_option maxRecDepth 100000 in
theorem sX7_digest_125 {X : Xt} {n : Nat} {h : HP} {a0 : Nat} {x1 : Int} {x2 : Int} (hc : Cx X cX7_digest RX7 3 12 278) {K : KT} (hr : CxR X (some .long) K) 
    (P : Ok X 0 0 103 [(0, .ref a0), (1, .int (i3 x1)), (2, .int (i3 (x2 + 1)))] [] n h) :
    Ok X 0 0 125 [(0, .ref a0), (1, .int (i3 x1)), (2, .int (i3 x2))] [] n h := by
  refine zk_iinc (pc := 125) hc (q := 2) (x := x2) (lv' := [(2, .int (i3 (x2 + 1))), (0, .ref a0), (1, .int (i3 x1))]) dX7_digest_125 rfl (by decide) rfl ?_
  refine ok_goto (pc := 128) (tgt := 103) hc dX7_digest_128 (by decide) ?_
  refine ok_lv [1, 2, 0] rfl ?_
  exact P

set_option maxHeartbeats 4000000 in
set_option maxRecDepth 100000 in
theorem sX7_digest_131 {X : Xt} {n : Nat} {h : HP} {a0 : Nat} {x1 : Int} {x2 : Int} {fs1 : List Value} {q2 : Nat} {f3 : Nat → Int} {ps4 : List Part} (hc : Cx X cX7_digest RX7 3 12 278) {K : KT} (hr : CxR X (some .long) K) (e1 : At h n a0 (.inl (7, fs1))) (z1 : fs1.length = 24) (v1_1 : fs1[1]? = some (.ref q2)) (e3 : At h n q2 (ai 52 f3)) (hP4 : ZPs f3 ps4)
    (P : Ok X 0 0 138 [(0, .ref a0), (1, .int (i3 ((3 : Int) ^ nA ps4))), (2, .int (i3 0))] [] n h) :
    Ok X 0 0 131 [(0, .ref a0), (1, .int (i3 x1)), (2, .int (i3 x2))] [] n h := by
  refine ok_aload_n (pc := 131) hc dX7_digest_131 rfl 0 rfl ?_
  refine ok_callV (pc := 132) (a := a0) (cb := 0) (sb := 0) (st := []) hc [] cv_X7_138 sp_X7_cases (by decide) dX7_digest_132 rfl e1.1 e1.2 rfl rfl rfl (Nat.le_of_ble_eq_true rfl) (⟨_, _, _, rfl, ⟨_, _, ⟨e1.1, e1.2⟩, z1, v1_1, ⟨e3.1, e3.2⟩⟩, hP4, rfl, ?_⟩)
  show Ok X 0 0 (132 + 3) [(0, .ref a0), (1, .int (i3 x1)), (2, .int (i3 x2))] [.int (i3 ((3 : Int) ^ nA ps4))] n h
  refine ok_istore_n (pc := 135) hc (lv' := [(1, .int (i3 ((3 : Int) ^ nA ps4))), (0, .ref a0), (2, .int (i3 x2))]) dX7_digest_135 rfl (by decide) rfl ?_
  refine ok_iconst (pc := 136) hc (v := i3 0) dX7_digest_136 (by decide) ?_
  refine ok_istore_n (pc := 137) hc (lv' := [(2, .int (i3 0)), (1, .int (i3 ((3 : Int) ^ nA ps4))), (0, .ref a0)]) dX7_digest_137 rfl (by decide) rfl ?_
  refine ok_lv [2, 1, 0] rfl ?_
  exact P

set_option maxHeartbeats 4000000 in
set_option maxRecDepth 100000 in
theorem sX7_digest_138 {X : Xt} {n : Nat} {h : HP} {a0 : Nat} {x1 : Int} {x2 : Int} {fs3 : List Value} (hc : Cx X cX7_digest RX7 3 12 278) {K : KT} (hr : CxR X (some .long) K) (e3 : At h n a0 (.inl (7, fs3))) (z3 : fs3.length = 24)
    (P : (R3 x2) ∧ (R3 x1) ∧ (x1 ≤ x2 → Ok X 0 0 168 [(0, .ref a0), (1, .int (i3 x1)), (2, .int (i3 x2))] [] n h) ∧ (¬ x1 ≤ x2 → spec_X7_reason [.ref a0, .int (i3 x2)] n h (kc X 0 0 146 [(0, .ref a0), (1, .int (i3 x1)), (2, .int (i3 x2))] [.ref a0] n))) :
    Ok X 0 0 138 [(0, .ref a0), (1, .int (i3 x1)), (2, .int (i3 x2))] [] n h := by
  refine ok_iload_n (pc := 138) hc dX7_digest_138 rfl 2 rfl ?_
  refine ok_iload_n (pc := 139) hc dX7_digest_139 rfl 1 rfl ?_
  obtain ⟨r1, P⟩ := P
  obtain ⟨r2, P⟩ := P
  refine zk_icmp_ge (pc := 140) (tgt := 168) hc dX7_digest_140 (by decide) r1 r2 (fun c => ?_) (fun c => ?_)
  · have P := P.1 c
    exact P
  · have P := P.2 c
    refine ok_aload_n (pc := 143) hc dX7_digest_143 rfl 0 rfl ?_
    refine ok_aload_n (pc := 144) hc dX7_digest_144 rfl 0 rfl ?_
    refine ok_iload_n (pc := 145) hc dX7_digest_145 rfl 2 rfl ?_
    exact ok_callV (pc := 146) (a := a0) (cb := 0) (sb := 0) (st := [.ref a0]) hc [.int (i3 x2)] cv_X7_144 sp_X7_reason (by decide) dX7_digest_146 rfl e3.1 e3.2 rfl rfl rfl (Nat.le_of_ble_eq_true rfl) P

set_option maxHeartbeats 4000000 in
set_option maxRecDepth 100000 in
theorem sX7_digest_149 {X : Xt} {n : Nat} {h : HP} {a0 : Nat} {x1 : Int} {x2 : Int} {t0 : Int} {fs2 : List Value} (hc : Cx X cX7_digest RX7 3 12 278) {K : KT} (hr : CxR X (some .long) K) (e2 : At h n a0 (.inl (7, fs2))) (z2 : fs2.length = 24)
    (P : (R3 t0) ∧ spec_X7_mix [.ref a0, .long (i6 t0)] n h (kc X 0 0 150 [(0, .ref a0), (1, .int (i3 x1)), (2, .int (i3 x2))] [] n)) :
    Ok X 0 0 149 [(0, .ref a0), (1, .int (i3 x1)), (2, .int (i3 x2))] [.int (i3 t0), .ref a0] n h := by
  obtain ⟨r1, P⟩ := P
  refine zk_i2l (pc := 149) hc dX7_digest_149 r1 ?_
  exact ok_callV (pc := 150) (a := a0) (cb := 0) (sb := 0) (st := []) hc [.long (i6 t0)] cv_X7_271 sp_X7_mix (by decide) dX7_digest_150 rfl e2.1 e2.2 rfl rfl rfl (Nat.le_of_ble_eq_true rfl) P

set_option maxHeartbeats 4000000 in
set_option maxRecDepth 100000 in
theorem sX7_digest_153 {X : Xt} {n : Nat} {h : HP} {a0 : Nat} {x1 : Int} {x2 : Int} {fs1 : List Value} {iv2 : Int} (hc : Cx X cX7_digest RX7 3 12 278) {K : KT} (hr : CxR X (some .long) K) (e1 : At h n a0 (.inl (7, fs1))) (z1 : fs1.length = 24) (v1_16 : fs1[16]? = some (.int (i3 iv2)))
    (P : (R3 iv2) ∧ spec_X7_mix [.ref a0, .long (i6 iv2)] n h (kc X 0 0 159 [(0, .ref a0), (1, .int (i3 x1)), (2, .int (i3 x2))] [] n)) :
    Ok X 0 0 153 [(0, .ref a0), (1, .int (i3 x1)), (2, .int (i3 x2))] [] n h := by
  refine ok_aload_n (pc := 153) hc dX7_digest_153 rfl 0 rfl ?_
  refine ok_aload_n (pc := 154) hc dX7_digest_154 rfl 0 rfl ?_
  refine ok_get (pc := 155) hc fl_X7_132 dX7_digest_155 e1.1 e1.2 v1_16 ?_
  obtain ⟨r3, P⟩ := P
  refine zk_i2l (pc := 158) hc dX7_digest_158 r3 ?_
  exact ok_callV (pc := 159) (a := a0) (cb := 0) (sb := 0) (st := []) hc [.long (i6 iv2)] cv_X7_271 sp_X7_mix (by decide) dX7_digest_159 rfl e1.1 e1.2 rfl rfl rfl (Nat.le_of_ble_eq_true rfl) P

set_option maxHeartbeats 4000000 in
set_option maxRecDepth 100000 in
theorem sX7_digest_162 {X : Xt} {n : Nat} {h : HP} {a0 : Nat} {x1 : Int} {x2 : Int} (hc : Cx X cX7_digest RX7 3 12 278) {K : KT} (hr : CxR X (some .long) K) 
    (P : Ok X 0 0 138 [(0, .ref a0), (1, .int (i3 x1)), (2, .int (i3 (x2 + 1)))] [] n h) :
    Ok X 0 0 162 [(0, .ref a0), (1, .int (i3 x1)), (2, .int (i3 x2))] [] n h := by
  refine zk_iinc (pc := 162) hc (q := 2) (x := x2) (lv' := [(2, .int (i3 (x2 + 1))), (0, .ref a0), (1, .int (i3 x1))]) dX7_digest_162 rfl (by decide) rfl ?_
  refine ok_goto (pc := 165) (tgt := 138) hc dX7_digest_165 (by decide) ?_
  refine ok_lv [1, 2, 0] rfl ?_
  exact P

set_option maxHeartbeats 4000000 in
set_option maxRecDepth 100000 in
theorem sX7_digest_168 {X : Xt} {n : Nat} {h : HP} {a0 : Nat} {x1 : Int} {x2 : Int} {fs1 : List Value} (hc : Cx X cX7_digest RX7 3 12 278) {K : KT} (hr : CxR X (some .long) K) (e1 : At h n a0 (.inl (7, fs1))) (z1 : fs1.length = 24)
    (P : spec_X7_meanNow [.ref a0] n h (kc X 0 0 170 [(0, .ref a0), (1, .int (i3 x1)), (2, .int (i3 x2))] [.ref a0] n)) :
    Ok X 0 0 168 [(0, .ref a0), (1, .int (i3 x1)), (2, .int (i3 x2))] [] n h := by
  refine ok_aload_n (pc := 168) hc dX7_digest_168 rfl 0 rfl ?_
  refine ok_aload_n (pc := 169) hc dX7_digest_169 rfl 0 rfl ?_
  exact ok_callV (pc := 170) (a := a0) (cb := 0) (sb := 0) (st := [.ref a0]) hc [] cv_X7_260 sp_X7_meanNow (by decide) dX7_digest_170 rfl e1.1 e1.2 rfl rfl rfl (Nat.le_of_ble_eq_true rfl) P

set_option maxHeartbeats 4000000 in
set_option maxRecDepth 100000 in
theorem sX7_digest_173 {X : Xt} {n : Nat} {h : HP} {a0 : Nat} {x1 : Int} {x2 : Int} {td0 : UInt64} {ta1 : Nat} (hc : Cx X cX7_digest RX7 3 12 278) {K : KT} (hr : CxR X (some .long) K) 
    (P : spec_Jxe99ae_doubleToLongBits_ccdee [.double td0] n h (kc X 0 0 173 [(0, .ref a0), (1, .int (i3 x1)), (2, .int (i3 x2))] [.ref ta1] n)) :
    Ok X 0 0 173 [(0, .ref a0), (1, .int (i3 x1)), (2, .int (i3 x2))] [.double td0, .ref ta1] n h := by
  exact ok_callS (pc := 173) (cb := 0) (sb := 0) (st := [.ref ta1]) hc [.double td0] cs_X7_275 sp_Jxe99ae_doubleToLongBits_ccdee (by decide) dX7_digest_173 rfl rfl rfl rfl (Nat.le_of_ble_eq_true rfl) P

set_option maxHeartbeats 4000000 in
set_option maxRecDepth 100000 in
theorem sX7_digest_176 {X : Xt} {n : Nat} {h : HP} {a0 : Nat} {x1 : Int} {x2 : Int} {tl0 : Int} {fs1 : List Value} (hc : Cx X cX7_digest RX7 3 12 278) {K : KT} (hr : CxR X (some .long) K) (e1 : At h n a0 (.inl (7, fs1))) (z1 : fs1.length = 24)
    (P : spec_X7_mix [.ref a0, .long (i6 tl0)] n h (kc X 0 0 176 [(0, .ref a0), (1, .int (i3 x1)), (2, .int (i3 x2))] [] n)) :
    Ok X 0 0 176 [(0, .ref a0), (1, .int (i3 x1)), (2, .int (i3 x2))] [.long (i6 tl0), .ref a0] n h := by
  exact ok_callV (pc := 176) (a := a0) (cb := 0) (sb := 0) (st := []) hc [.long (i6 tl0)] cv_X7_271 sp_X7_mix (by decide) dX7_digest_176 rfl e1.1 e1.2 rfl rfl rfl (Nat.le_of_ble_eq_true rfl) P

set_option maxHeartbeats 4000000 in
set_option maxRecDepth 100000 in
theorem sX7_digest_179 {X : Xt} {n : Nat} {h : HP} {a0 : Nat} {x1 : Int} {x2 : Int} {fs1 : List Value} {iv2 : Int} (hc : Cx X cX7_digest RX7 3 12 278) {K : KT} (hr : CxR X (some .long) K) (e1 : At h n a0 (.inl (7, fs1))) (z1 : fs1.length = 24) (v1_7 : fs1[7]? = some (.int (i3 iv2)))
    (P : (R3 iv2) ∧ spec_X7_mix [.ref a0, .long (i6 iv2)] n h (kc X 0 0 185 [(0, .ref a0), (1, .int (i3 x1)), (2, .int (i3 x2))] [] n)) :
    Ok X 0 0 179 [(0, .ref a0), (1, .int (i3 x1)), (2, .int (i3 x2))] [] n h := by
  refine ok_aload_n (pc := 179) hc dX7_digest_179 rfl 0 rfl ?_
  refine ok_aload_n (pc := 180) hc dX7_digest_180 rfl 0 rfl ?_
  refine ok_get (pc := 181) hc fl_X7_166 dX7_digest_181 e1.1 e1.2 v1_7 ?_
  obtain ⟨r3, P⟩ := P
  refine zk_i2l (pc := 184) hc dX7_digest_184 r3 ?_
  exact ok_callV (pc := 185) (a := a0) (cb := 0) (sb := 0) (st := []) hc [.long (i6 iv2)] cv_X7_271 sp_X7_mix (by decide) dX7_digest_185 rfl e1.1 e1.2 rfl rfl rfl (Nat.le_of_ble_eq_true rfl) P

set_option maxHeartbeats 4000000 in
set_option maxRecDepth 100000 in
theorem sX7_digest_188 {X : Xt} {n : Nat} {h : HP} {a0 : Nat} {x1 : Int} {x2 : Int} (hc : Cx X cX7_digest RX7 3 12 278) {K : KT} (hr : CxR X (some .long) K) 
    (P : Ok X 0 0 190 [(0, .ref a0), (1, .int (i3 x1)), (2, .int (i3 0))] [] n h) :
    Ok X 0 0 188 [(0, .ref a0), (1, .int (i3 x1)), (2, .int (i3 x2))] [] n h := by
  refine ok_iconst (pc := 188) hc (v := i3 0) dX7_digest_188 (by decide) ?_
  refine ok_istore_n (pc := 189) hc (lv' := [(2, .int (i3 0)), (0, .ref a0), (1, .int (i3 x1))]) dX7_digest_189 rfl (by decide) rfl ?_
  refine ok_lv [1, 2, 0] rfl ?_
  exact P

set_option maxHeartbeats 4000000 in
set_option maxRecDepth 100000 in
theorem sX7_digest_190 {X : Xt} {n : Nat} {h : HP} {a0 : Nat} {x1 : Int} {x2 : Int} {fs1 : List Value} {iv2 : Int} {jv5 : Int} {q6 : Nat} {len7 : Nat} {f7 : Nat → Int} (hc : Cx X cX7_digest RX7 3 12 278) {K : KT} (hr : CxR X (some .long) K) (e1 : At h n a0 (.inl (7, fs1))) (z1 : fs1.length = 24) (v1_7 : fs1[7]? = some (.int (i3 iv2))) (v1_23 : fs1[23]? = some (.long (i6 jv5))) (v1_8 : fs1[8]? = some (.ref q6)) (e7 : At h n q6 (ai len7 f7))
    (P : (R3 x2) ∧ (R3 iv2) ∧ (iv2 ≤ x2 → K (.inl (some (.long (i6 jv5)))) n h) ∧ (¬ iv2 ≤ x2 → (Ix x2 len7) ∧ (R3 (f7 (x2 : Int).toNat)) ∧ spec_X7_mix [.ref a0, .long (i6 (f7 (x2 : Int).toNat))] n h (kc X 0 0 206 [(0, .ref a0), (1, .int (i3 x1)), (2, .int (i3 x2))] [] n))) :
    Ok X 0 0 190 [(0, .ref a0), (1, .int (i3 x1)), (2, .int (i3 x2))] [] n h := by
  refine ok_iload_n (pc := 190) hc dX7_digest_190 rfl 2 rfl ?_
  refine ok_aload_n (pc := 191) hc dX7_digest_191 rfl 0 rfl ?_
  refine ok_get (pc := 192) hc fl_X7_166 dX7_digest_192 e1.1 e1.2 v1_7 ?_
  obtain ⟨r3, P⟩ := P
  obtain ⟨r4, P⟩ := P
  refine zk_icmp_ge (pc := 195) (tgt := 215) hc dX7_digest_195 (by decide) r3 r4 (fun c => ?_) (fun c => ?_)
  · have P := P.1 c
    refine ok_aload_n (pc := 215) hc dX7_digest_215 rfl 0 rfl ?_
    refine ok_get (pc := 216) hc fl_X7_266 dX7_digest_216 e1.1 e1.2 v1_23 ?_
    exact ok_lret (st := []) (pc := 219) hc hr dX7_digest_219 P
  · have P := P.2 c
    refine ok_aload_n (pc := 198) hc dX7_digest_198 rfl 0 rfl ?_
    refine ok_aload_n (pc := 199) hc dX7_digest_199 rfl 0 rfl ?_
    refine ok_get (pc := 200) hc fl_X7_22 dX7_digest_200 e1.1 e1.2 v1_8 ?_
    refine ok_iload_n (pc := 203) hc dX7_digest_203 rfl 2 rfl ?_
    obtain ⟨r, P⟩ := P
    refine zk_iald (pc := 204) hc dX7_digest_204 e7.1 e7.2 r ?_
    obtain ⟨r8, P⟩ := P
    refine zk_i2l (pc := 205) hc dX7_digest_205 r8 ?_
    exact ok_callV (pc := 206) (a := a0) (cb := 0) (sb := 0) (st := []) hc [.long (i6 (f7 (x2 : Int).toNat))] cv_X7_271 sp_X7_mix (by decide) dX7_digest_206 rfl e1.1 e1.2 rfl rfl rfl (Nat.le_of_ble_eq_true rfl) P

set_option maxHeartbeats 4000000 in
set_option maxRecDepth 100000 in
theorem sX7_digest_209 {X : Xt} {n : Nat} {h : HP} {a0 : Nat} {x1 : Int} {x2 : Int} (hc : Cx X cX7_digest RX7 3 12 278) {K : KT} (hr : CxR X (some .long) K) 
    (P : Ok X 0 0 190 [(0, .ref a0), (1, .int (i3 x1)), (2, .int (i3 (x2 + 1)))] [] n h) :
    Ok X 0 0 209 [(0, .ref a0), (1, .int (i3 x1)), (2, .int (i3 x2))] [] n h := by
  refine zk_iinc (pc := 209) hc (q := 2) (x := x2) (lv' := [(2, .int (i3 (x2 + 1))), (0, .ref a0), (1, .int (i3 x1))]) dX7_digest_209 rfl (by decide) rfl ?_
  refine ok_goto (pc := 212) (tgt := 190) hc dX7_digest_212 (by decide) ?_
  refine ok_lv [1, 2, 0] rfl ?_
  exact P

def spec_X7_digest (args : List Value) (n : Nat) (h : HP) (K : KT) : Prop := ∃ (q : Dsk) (t : Int), args = [.ref 128] ∧ MdA h n q t ∧ ∀ h', MdA h' n q 0 → Fr h h' 128 138 → K (.inl (some (.long (i6 (opDig q))))) n h'
theorem sp_X7_digest : Sp yX7_digest cX7_digest 3 (some .long) 12 278 0 0 spec_X7_digest := by
  refine sp_intro (by decide) (by rintro args n h K ⟨q, t, rfl, -⟩; exact Nat.le_of_ble_eq_true rfl) ?_
  rintro X args n h K hc hr ⟨q, t, rfl, ⟨I0, F0, hM0, hF0, -, hGd, hO⟩, kk⟩
  have hG := hGd.1
  have h3 := hG.1.2.1
  have h27 := ref_27 hG
  have hpc := pow_c (nA q.1.1)
  have hl8 : q.2.1.length ≤ 8 := hF0.2.1.1.1
  have hl12 : q.1.1.length ≤ 12 := hG.1.1
  have hl60 : q.2.2.2.2.length ≤ 60 := hF0.2.2.2.1.1
  -- the text
  have h190 : ∀ (j i : Nat) (x y : Int) (x1 : Int) (hh : HP), i + j = q.2.2.2.2.length → DgI h hh n q x y → mixS (fun i => q.2.2.2.2.getD i 0) j i x = opDig q → Ok X 0 0 190 [(0, .ref 128), (1, .int (i3 x1)), (2, .int (i3 i))] [] n hh := by
    intro j
    induction j with
    | zero =>
      intro i x y x1 hh hi ⟨I, F, hM, h23, hF, hz, h16, hf⟩ e
      have ex : x = opDig q := e
      have k := kk hh ⟨I, F, hM, hF, hz, hGd, hO⟩ hf
      rw [← ex, ← h23] at k
      have h7 := hF.2.2.2.2
      exact sX7_digest_190 hc hr hM.o rfl rfl rfl rfl hM.b ⟨R3_s (by omega), by rw [h7]; exact R3_s (by omega), fun _ => k, fun z => absurd (by rw [h7]; omega) z⟩
    | succ j ih =>
      intro i x y x1 hh hi hd e
      obtain ⟨I, F, hM, h23, hF, hz, h16, hf⟩ := id hd
      have h7 := hF.2.2.2.2
      have hb := hF.2.2.2.1.2 i (by omega)
      have e2 : mixS (fun i => q.2.2.2.2.getD i 0) j (i + 1) (31 * x + q.2.2.2.2.getD i 0) = opDig q := e
      rw [List.getD_eq_getElem?_getD, hb.1] at e2
      refine sX7_digest_190 hc hr hM.o rfl rfl rfl rfl hM.b ⟨R3_s (by omega), by rw [h7]; exact R3_s (by omega), fun z => absurd z (by rw [h7]; omega), fun _ => ⟨⟨by omega, by omega, by omega⟩, ?_, ?_⟩⟩
      · rw [Int.toNat_natCast]
        exact R3_s (by omega)
      · rw [Int.toNat_natCast]
        exact ⟨h, q, x, y, F 5 i, rfl, hd, fun h' hd' => ⟨rfl, sX7_digest_209 hc hr (ih (i + 1) _ y x1 h' (by omega) hd' e2)⟩⟩
  -- the mean
  have h168 : ∀ (x y x1 x2 : Int) (hh : HP), DgI h hh n q x y → x = digB q → Ok X 0 0 168 [(0, .ref 128), (1, .int (i3 x1)), (2, .int (i3 x2))] [] n hh := by
    intro x y x1 x2 hh ⟨I, F, hM, h23, hF, hz, h16, hf⟩ e
    refine sX7_digest_168 hc hr hM.o rfl ⟨I, F, q, rfl, hM, hF.1, hG, hO.1, fun h1 I1 F1 hM1 hI1 hF1 f1 => ⟨rfl, ?_⟩⟩
    have hd1 := DgI.rd h23 hF hz hf hM1 hI1.R hF1 f1
    refine sX7_digest_173 (ta1 := 128) hc hr ⟨meanD q, _, _, rfl, meanD_gd hG hO.1, ⟨rfl, ?_⟩⟩
    refine sX7_digest_176 hc hr hM1.o rfl ⟨h, q, x, _, bitsI (meanD q), rfl, hd1, fun h2 hd2 => ⟨rfl, ?_⟩⟩
    obtain ⟨I2, F2, hM2, h232, hF2, hz2, h162, hf2⟩ := id hd2
    have h7 := hF2.2.2.2.2
    refine sX7_digest_179 hc hr hM2.o rfl rfl ?_
    rw [h7]
    refine ⟨R3_s (by omega), h, q, _, _, q.2.2.2.2.length, rfl, hd2, fun h3 hd3 => ⟨rfl, sX7_digest_188 hc hr (h190 q.2.2.2.2.length 0 _ _ x1 h3 (by omega) hd3 ?_)⟩⟩
    rw [e]
    rfl
  -- the cases
  have h138 : ∀ (j c : Nat) (x y : Int) (hh : HP), c + j = 3 ^ nA q.1.1 → DgI h hh n q x y → mixW q j c x = digB q → Ok X 0 0 138 [(0, .ref 128), (1, .int (i3 ((3 : Int) ^ nA q.1.1))), (2, .int (i3 c))] [] n hh := by
    intro j
    induction j with
    | zero =>
      intro c x y hh hcj hd e
      obtain ⟨I, F, hM, h23, hF, hz, h16, hf⟩ := id hd
      have : c = 3 ^ nA q.1.1 := by omega
      subst this
      exact sX7_digest_138 hc hr hM.o rfl ⟨R3_s (by omega), R3_s (by omega), fun _ => h168 x y _ _ hh hd e, fun z => absurd (by omega) z⟩
    | succ j ih =>
      intro c x y hh hcj hd e
      obtain ⟨I, F, hM, h23, hF, hz, h16, hf⟩ := id hd
      have e2 : mixW q j (c + 1) (31 * (31 * x + (jud q.1 c).1) + (jud q.1 c).2) = digB q := e
      have jr := jud_r q.1 c
      have jr2 := jud_r2 q.1 c h3
      refine sX7_digest_138 hc hr hM.o rfl ⟨R3_s (by omega), R3_s (by omega), fun z => absurd z (by omega), fun _ => ⟨I, F, q.1, c, rfl, hM, hF.1, hG, by omega, fun h1 I1 F1 hM1 hI1 h161 hF1 f1 => ⟨rfl, ?_⟩⟩⟩
      have hd1 := DgI.rd h23 hF hz hf hM1 hI1 hF1 f1
      rw [h161] at hd1
      refine sX7_digest_149 hc hr hM1.o rfl ⟨R3_s (by omega), h, q, x, _, (jud q.1 c).1, rfl, hd1, fun h2 hd2 => ⟨rfl, ?_⟩⟩
      obtain ⟨I2, F2, hM2, h232, hF2, hz2, h162, hf2⟩ := id hd2
      refine sX7_digest_153 hc hr hM2.o rfl rfl ?_
      rw [h162]
      exact ⟨R3_s (by omega), h, q, _, _, (jud q.1 c).2, rfl, hd2, fun h3 hd3 => ⟨rfl, sX7_digest_162 hc hr (ih (c + 1) _ _ h3 (by omega) hd3 e2)⟩⟩
  -- the amplifiers
  have h103 : ∀ (j i : Nat) (x y : Int) (hh : HP), i + j = 3 * nA q.1.1 → DgI h hh n q x y → mixS (fun i => unL (opAmp q ((i : Int) / 3) ((i : Int) % 3))) j i x = mixA q (nA q.1.1) 0 (mixV q 7 0 (mixP q q.1.1.length 0 (digA q))) → Ok X 0 0 103 [(0, .ref 128), (1, .int (i3 (nA q.1.1 : Int))), (2, .int (i3 i))] [] n hh := by
    intro j
    induction j with
    | zero =>
      intro i x y hh hi hd e
      obtain ⟨I, F, hM, h23, hF, hz, h16, hf⟩ := id hd
      have ex : x = mixA q (nA q.1.1) 0 (mixV q 7 0 (mixP q q.1.1.length 0 (digA q))) := e
      refine sX7_digest_103 hc hr hM.o rfl ⟨R3_s (by omega), R3_s (by omega), fun _ => sX7_digest_131 hc hr hM.o rfl rfl hM.z hF.1.1 ?_, fun z => absurd (by omega) z⟩
      exact h138 (3 ^ nA q.1.1) 0 x y hh (by omega) hd (by rw [ex]; rfl)
    | succ j ih =>
      intro i x y hh hi hd e
      obtain ⟨I, F, hM, h23, hF, hz, h16, hf⟩ := id hd
      have e2 : mixS (fun i => unL (opAmp q ((i : Int) / 3) ((i : Int) % 3))) j (i + 1) (31 * x + unL (opAmp q ((i : Int) / 3) ((i : Int) % 3))) = mixA q (nA q.1.1) 0 (mixV q 7 0 (mixP q q.1.1.length 0 (digA q))) := e
      have ha : 0 ≤ (i : Int) / 3 ∧ (i : Int) / 3 < nA q.1.1 := by omega
      have eu := amp_un (q := q) ha (w := (i : Int) % 3) (by omega)
      have hri := ampIx_le q.1.1 ((i : Int) / 3).toNat
      have hrs := st_r (c := q.1.2.2.1) (a := ((i : Int) / 3).toNat)
      have hr3 : R3 (ampV q.1 ((i : Int) / 3) ((i : Int) % 3)) := by
        unfold ampV
        split
        · exact R3_s (by omega)
        · split
          · exact R3_s (by omega)
          · unfold sgnV
            split
            · exact R3_0
            · exact R3_cmp
      refine sX7_digest_103 hc hr hM.o rfl ⟨R3_s (by omega), R3_s (by omega), fun z => absurd z (by omega), fun _ => ⟨⟨⟨by omega, by omega⟩, by omega, by omega⟩, ⟨⟨by omega, by omega⟩, by omega, by omega⟩, I, F, q.1, (i : Int) / 3, (i : Int) % 3, rfl, hM, hF.1, hG, hO.1, ha, R3_s (by omega), fun h1 I1 F1 hM1 hI1 hF1 f1 => ⟨rfl, ?_⟩⟩⟩
      have hd1 := DgI.rd h23 hF hz hf hM1 hI1.R hF1 f1
      refine sX7_digest_121 hc hr hM1.o rfl ⟨hr3, h, q, x, _, _, rfl, hd1, fun h2 hd2 => ⟨rfl, sX7_digest_125 hc hr (ih (i + 1) _ _ h2 (by omega) hd2 ?_)⟩⟩
      rw [← eu]
      exact e2
  -- the voltages
  have h70 : ∀ (j i : Nat) (x y : Int) (hh : HP), i + j = 14 → DgI h hh n q x y → mixS (fun i => unL (opVolt q ((i : Int) / 2) ((i : Int) % 2))) j i x = mixV q 7 0 (mixP q q.1.1.length 0 (digA q)) → Ok X 0 0 70 [(0, .ref 128), (1, .int (i3 i))] [] n hh := by
    intro j
    induction j with
    | zero =>
      intro i x y hh hi hd e
      obtain ⟨I, F, hM, h23, hF, hz, h16, hf⟩ := id hd
      have ex : x = mixV q 7 0 (mixP q q.1.1.length 0 (digA q)) := e
      refine sX7_digest_70 hc hr hM.o rfl ⟨R3_s (by omega), fun _ => sX7_digest_96 hc hr hM.o rfl rfl hM.z hF.1.1 ?_, fun z => absurd (by omega) z⟩
      exact h103 (3 * nA q.1.1) 0 x y hh (by omega) hd (by rw [ex]; exact mix_A q (nA q.1.1) 0 _)
    | succ j ih =>
      intro i x y hh hi hd e
      obtain ⟨I, F, hM, h23, hF, hz, h16, hf⟩ := id hd
      have e2 : mixS (fun i => unL (opVolt q ((i : Int) / 2) ((i : Int) % 2))) j (i + 1) (31 * x + unL (opVolt q ((i : Int) / 2) ((i : Int) % 2))) = mixV q 7 0 (mixP q q.1.1.length 0 (digA q)) := e
      have eu := volt_now (q := q) (k := (i : Int) / 2) (w := (i : Int) % 2) (by omega) (by omega)
      refine sX7_digest_70 hc hr hM.o rfl ⟨R3_s (by omega), fun z => absurd z (by omega), fun _ => ⟨⟨⟨by omega, by omega⟩, by omega, by omega⟩, ⟨⟨by omega, by omega⟩, by omega, by omega⟩, I, F, q.1, (i : Int) / 2, (i : Int) % 2, rfl, hM, hF.1, hG, by omega, R3_s (by omega), fun h1 I1 F1 hM1 hI1 hF1 f1 => ⟨rfl, ?_⟩⟩⟩
      have hd1 := DgI.rd h23 hF hz hf hM1 hI1.R hF1 f1
      refine sX7_digest_87 hc hr hM1.o rfl ⟨h, q, x, _, _, rfl, hd1, fun h2 hd2 => ⟨rfl, sX7_digest_90 hc hr (ih (i + 1) _ _ h2 (by omega) hd2 ?_)⟩⟩
      rw [← eu]
      exact e2
  -- the parts
  have h38 : ∀ (j i : Nat) (x y : Int) (hh : HP), i + j = 4 * q.1.1.length → DgI h hh n q x y → mixS (fun i => unL (opPart q ((i : Int) / 4) ((i : Int) % 4))) j i x = mixP q q.1.1.length 0 (digA q) → Ok X 0 0 38 [(0, .ref 128), (1, .int (i3 i))] [] n hh := by
    intro j
    induction j with
    | zero =>
      intro i x y hh hi hd e
      obtain ⟨I, F, hM, h23, hF, hz, h16, hf⟩ := id hd
      have e48 : F 1 (48 : Int).toNat = q.1.1.length := hF.1.1.1
      have ex : x = mixP q q.1.1.length 0 (digA q) := e
      refine sX7_digest_38 hc hr hM.o rfl rfl hM.z ?_
      rw [e48]
      refine ⟨⟨by decide, by decide, by decide⟩, R3_s (by omega), R3_s (by omega), fun _ => sX7_digest_68 hc hr ?_, fun z => absurd (by omega) z⟩
      exact h70 14 0 x y hh rfl hd (by rw [ex]; exact mix_V q 7 0 _)
    | succ j ih =>
      intro i x y hh hi hd e
      obtain ⟨I, F, hM, h23, hF, hz, h16, hf⟩ := id hd
      have e48 : F 1 (48 : Int).toNat = q.1.1.length := hF.1.1.1
      have e2 : mixS (fun i => unL (opPart q ((i : Int) / 4) ((i : Int) % 4))) j (i + 1) (31 * x + unL (opPart q ((i : Int) / 4) ((i : Int) % 4))) = mixP q q.1.1.length 0 (digA q) := e
      have eu := part_un (q := q) hF.1.1 (i := i) (by omega)
      rw [← eu.1] at e2
      refine sX7_digest_38 hc hr hM.o rfl rfl hM.z ?_
      rw [e48, Int.toNat_natCast]
      exact ⟨⟨by decide, by decide, by decide⟩, R3_s (by omega), R3_s (by omega), fun z => absurd z (by omega), fun _ => ⟨⟨by omega, by omega, by omega⟩, eu.2, h, q, x, y, F 1 i, rfl, hd, fun h2 hd2 => ⟨rfl, sX7_digest_62 hc hr (ih (i + 1) _ _ h2 (by omega) hd2 e2)⟩⟩⟩
  -- the counts
  have h14 : ∀ (j i : Nat) (x y : Int) (hh : HP), i + j = 10 → DgI h hh n q x y → mixS (fun w => unL (opCount q w)) j i x = digA q → Ok X 0 0 14 [(0, .ref 128), (1, .int (i3 i))] [] n hh := by
    intro j
    induction j with
    | zero =>
      intro i x y hh hi hd e
      obtain ⟨I, F, hM, h23, hF, hz, h16, hf⟩ := id hd
      have ex : x = digA q := e
      refine sX7_digest_14 hc hr hM.o rfl ⟨R3_s (by omega), fun _ => sX7_digest_36 hc hr ?_, fun z => absurd (by omega) z⟩
      exact h38 (4 * q.1.1.length) 0 x y hh (by omega) hd (by rw [ex]; exact mix_P q q.1.1.length 0 _)
    | succ j ih =>
      intro i x y hh hi hd e
      obtain ⟨I, F, hM, h23, hF, hz, h16, hf⟩ := id hd
      have e2 : mixS (fun w => unL (opCount q w)) j (i + 1) (31 * x + unL (opCount q i)) = digA q := e
      refine sX7_digest_14 hc hr hM.o rfl ⟨R3_s (by omega), fun z => absurd z (by omega), fun _ => ⟨I, F, q, i, rfl, hM, hF, hG, by omega, fun h1 I1 F1 hM1 hI1 hF1 f1 => ⟨rfl, ?_⟩⟩⟩
      have hd1 := DgI.rd h23 hF hz hf hM1 hI1 hF1 f1
      rw [rv_un]
      exact sX7_digest_26 hc hr hM1.o rfl ⟨opCount_r hGd hl8 i, h, q, x, _, _, rfl, hd1, fun h2 hd2 => ⟨rfl, sX7_digest_30 hc hr (ih (i + 1) _ _ h2 (by omega) hd2 e2)⟩⟩
  refine sX7_digest_0 hc hr hM0.o rfl (h14 10 0 2081 (I0 16) _ rfl ⟨va_up (va_up I0 0 0) 23 2081, F0, ?_, up_self, hF0.kt (fun k hk => ?_) (fun _ _ => rfl), rfl, rfl, (Fr.rf.up (by omega)).up (by omega)⟩ rfl)
  · exact (hM0.uo (va_up I0 0 0)).uo (va_up (va_up I0 0 0) 23 2081)
  · rw [up_ne (by omega), up_ne (by omega)]
