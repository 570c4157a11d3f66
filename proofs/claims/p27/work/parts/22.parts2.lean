/-! part 22: class Parts: removeAt, masks of nodes, what may be added -/
theorem msk1 : ∀ m < 128, ∀ k < 7, 0 ≤ bor (m : Nat) (bshl 1 (k : Nat)) ∧ bor (m : Nat) (bshl 1 (k : Nat)) < 128 ∧ ∀ j < 7, bcon (bor (m : Nat) (bshl 1 (k : Nat))) (j : Nat) = if j = k then 1 else bcon (m : Nat) (j : Nat) := by decide +kernel
theorem msk0 : ∀ j < 7, bcon 0 (j : Nat) = 0 := by decide +kernel
theorem mskg : ∀ m < 128, 0 ≤ band (m : Nat) (-2) ∧ band (m : Nat) (-2) < 128 ∧ ∀ j < 7, bcon (band (m : Nat) (-2)) (j : Nat) = if j = 0 then 0 else bcon (m : Nat) (j : Nat) := by decide +kernel
theorem mskc : ∀ m < 128, ∀ q < 128, 0 ≤ band (m : Nat) (bxor (q : Nat) (-1)) ∧ band (m : Nat) (bxor (q : Nat) (-1)) < 128 := by decide +kernel
/-- a mask of nodes -/
def Mk (m : Int) : Prop := 0 ≤ m ∧ m < 128
theorem Mk.or {m k : Int} (h : Mk m) (hk : 0 ≤ k ∧ k ≤ 6) : Mk (bor m (bshl 1 k)) := by
  obtain ⟨a, rfl⟩ : ∃ a : Nat, m = a := ⟨m.toNat, by have := h.1; omega⟩
  obtain ⟨b, rfl⟩ : ∃ b : Nat, k = b := ⟨k.toNat, by omega⟩
  have := msk1 a (by have := h.2; omega) b (by omega)
  exact ⟨this.1, this.2.1⟩
theorem Mk.con {m k j : Int} (h : Mk m) (hk : 0 ≤ k ∧ k ≤ 6) (hj : 0 ≤ j ∧ j ≤ 6) : bcon (bor m (bshl 1 k)) j = if j = k then 1 else bcon m j := by
  obtain ⟨a, rfl⟩ : ∃ a : Nat, m = a := ⟨m.toNat, by have := h.1; omega⟩
  obtain ⟨b, rfl⟩ : ∃ b : Nat, k = b := ⟨k.toNat, by omega⟩
  obtain ⟨c, rfl⟩ : ∃ c : Nat, j = c := ⟨j.toNat, by omega⟩
  have := (msk1 a (by have := h.2; omega) b (by omega)).2.2 c (by omega)
  rw [this]
  by_cases e : c = b
  · rw [if_pos e, if_pos (by omega)]
  · rw [if_neg e, if_neg (by omega)]
theorem Mk.zero {j : Int} (hj : 0 ≤ j ∧ j ≤ 6) : bcon 0 j = 0 := by
  obtain ⟨c, rfl⟩ : ∃ c : Nat, j = c := ⟨j.toNat, by omega⟩
  exact msk0 c (by omega)
theorem Mk.gnd {m : Int} (h : Mk m) : Mk (band m (-2)) := by
  obtain ⟨a, rfl⟩ : ∃ a : Nat, m = a := ⟨m.toNat, by have := h.1; omega⟩
  have := mskg a (by have := h.2; omega)
  exact ⟨this.1, this.2.1⟩
theorem Mk.gndc {m j : Int} (h : Mk m) (hj : 0 ≤ j ∧ j ≤ 6) : bcon (band m (-2)) j = if j = 0 then 0 else bcon m j := by
  obtain ⟨a, rfl⟩ : ∃ a : Nat, m = a := ⟨m.toNat, by have := h.1; omega⟩
  obtain ⟨c, rfl⟩ : ∃ c : Nat, j = c := ⟨j.toNat, by omega⟩
  rw [(mskg a (by have := h.2; omega)).2.2 c (by omega)]
  by_cases e : c = 0
  · rw [if_pos e, if_pos (by omega)]
  · rw [if_neg e, if_neg (by omega)]
theorem bcon01 (x y : Int) : bcon x y = 0 ∨ bcon x y = 1 := by unfold bcon; split <;> simp
/-- the nodes that a part is at -/
def um1 (m : Int) (p : Part) : Int := if p.1 = 2 then bor (bor (bor m (bshl 1 p.2.1)) (bshl 1 p.2.2.1)) (bshl 1 p.2.2.2) else if p.1 = 1 then bor m (bshl 1 p.2.1) else bor (bor m (bshl 1 p.2.1)) (bshl 1 p.2.2.1)
def usedM (ps : List Part) : Int := band (ps.foldl um1 0) (-2)
def drv (p : Part) : Int := if p.1 = 1 then p.2.1 else if p.1 = 2 then p.2.2.2 else -1
def dm1 (m : Int) (p : Part) : Int := if p.1 = 0 then m else bor m (bshl 1 (drv p))
def drivenM (ps : List Part) : Int := ps.foldl dm1 0
theorem PW.drv {p : Part} (h : PW p) (h0 : p.1 ≠ 0) : 0 ≤ drv p ∧ drv p ≤ 6 := by
  unfold PW at h
  unfold _root_.Jvm.Pilot.@@N@@.drv
  by_cases e : p.1 = 1
  · rw [if_pos e]; omega
  · rw [if_neg e, if_pos (by omega)]; omega
theorem Mk.um1 {m : Int} {p : Part} (h : Mk m) (hp : PW p) : Mk (um1 m p) := by
  unfold PW at hp
  unfold _root_.Jvm.Pilot.@@N@@.um1
  by_cases e2 : p.1 = 2
  · rw [if_pos e2]
    exact ((h.or (by omega)).or (by omega)).or (by omega)
  · rw [if_neg e2]
    by_cases e1 : p.1 = 1
    · rw [if_pos e1]
      exact h.or (by omega)
    · rw [if_neg e1]
      exact (h.or (by omega)).or (by omega)
theorem Mk.dm1 {m : Int} {p : Part} (h : Mk m) (hp : PW p) : Mk (dm1 m p) := by
  unfold _root_.Jvm.Pilot.@@N@@.dm1
  by_cases e : p.1 = 0
  · rw [if_pos e]
    exact h
  · rw [if_neg e]
    exact h.or (hp.drv e)
theorem Mk.uf {ps : List Part} (hw : ∀ p ∈ ps, PW p) : ∀ m : Int, Mk m → Mk (ps.foldl _root_.Jvm.Pilot.@@N@@.um1 m) := by
  induction ps with
  | nil => exact fun m h => h
  | cons p ps ih => exact fun m h => ih (fun q hq => hw q (List.mem_cons_of_mem _ hq)) _ (h.um1 (hw p List.mem_cons_self))
theorem Mk.df {ps : List Part} (hw : ∀ p ∈ ps, PW p) : ∀ m : Int, Mk m → Mk (ps.foldl _root_.Jvm.Pilot.@@N@@.dm1 m) := by
  induction ps with
  | nil => exact fun m h => h
  | cons p ps ih => exact fun m h => ih (fun q hq => hw q (List.mem_cons_of_mem _ hq)) _ (h.dm1 (hw p List.mem_cons_self))
theorem Mk0 : Mk 0 := ⟨by decide, by decide⟩
theorem take_mem {α : Type} {ps : List α} {P : α → Prop} (h : ∀ p ∈ ps, P p) (i : Nat) : ∀ p ∈ ps.take i, P p := fun p hp => h p (List.mem_of_mem_take hp)
/-- the parts' cells, as they are -/
def PtB (h : HP) (n a cap : Nat) (k f s t : Nat → Int) (z : Int) : Prop := At h n a (.inl (2, [.ref (a + 1), .ref (a + 2), .ref (a + 3), .ref (a + 4), .int (i3 z)])) ∧ At h n (a + 1) (ai cap k) ∧ At h n (a + 2) (ai cap f) ∧ At h n (a + 3) (ai cap s) ∧ At h n (a + 4) (ai cap t)
def sh (k : Nat → Int) (m p : Nat) : Nat → Int := fun i => if m ≤ i ∧ i + 1 < p then k (i + 1) else k i
theorem sh0 (k : Nat → Int) (m : Nat) : sh k m (m + 1) = k := by
  funext i
  unfold sh
  rw [if_neg (by omega)]
theorem sh1 (k : Nat → Int) {m p : Nat} (h : m < p) : va_up (sh k m p) (p - 1) (sh k m p p) = sh k m (p + 1) := by
  funext i
  unfold sh va_up
  by_cases e : i = p - 1
  · subst e
    rw [if_pos rfl, if_neg (by omega), if_pos (by omega)]
    congr 1
    omega
  · rw [if_neg e]
    show (if m ≤ i ∧ i + 1 < p then k (i + 1) else k i) = _
    by_cases e2 : m ≤ i ∧ i + 1 < p
    · rw [if_pos e2, if_pos (by omega)]
    · rw [if_neg e2, if_neg (by omega)]
set_option maxHeartbeats 4000000 in
set_option maxRecDepth 100000 in
theorem sX2_removeAt_0 {X : Xt} {n : Nat} {h : HP} {a0 : Nat} {x1 : Int} (hc : Cx X cX2_removeAt RX2 3 0 0) {K : KT} (hr : CxR X none K) 
    (P : Ok X 0 0 4 [(0, .ref a0), (1, .int (i3 x1)), (2, .int (i3 (x1 + 1)))] [] n h) :
    Ok X 0 0 0 [(0, .ref a0), (1, .int (i3 x1))] [] n h := by
  refine ok_iload_n (pc := 0) hc dX2_removeAt_0 rfl 1 rfl ?_
  refine ok_iconst (pc := 1) hc (v := i3 1) dX2_removeAt_1 (by decide) ?_
  refine zk_iadd (pc := 2) hc dX2_removeAt_2 ?_
  refine ok_istore_n (pc := 3) hc (lv' := [(2, .int (i3 (x1 + 1))), (0, .ref a0), (1, .int (i3 x1))]) dX2_removeAt_3 rfl (by decide) rfl ?_
  refine ok_lv [1, 2, 0] rfl ?_
  exact P

set_option maxHeartbeats 4000000 in
set_option maxRecDepth 100000 in
theorem sX2_removeAt_4 {X : Xt} {n : Nat} {h : HP} {a0 : Nat} {x1 : Int} {x2 : Int} {fs1 : List Value} {iv2 : Int} {q5 : Nat} {len6 : Nat} {f6 : Nat → Int} {q7 : Nat} {len8 : Nat} {f8 : Nat → Int} {q10 : Nat} {len11 : Nat} {f11 : Nat → Int} {q14 : Nat} {len15 : Nat} {f15 : Nat → Int} (hc : Cx X cX2_removeAt RX2 3 0 0) {K : KT} (hr : CxR X none K) (e1 : At h n a0 (.inl (2, fs1))) (z1 : fs1.length = 5) (v1_4 : fs1[4]? = some (.int (i3 iv2))) (v1_0 : fs1[0]? = some (.ref q5)) (e6 : At h n q5 (ai len6 f6)) (v1_1 : fs1[1]? = some (.ref q7)) (e8 : At h n q7 (ai len8 f8)) (ne9 : q7 ≠ q5) (v1_2 : fs1[2]? = some (.ref q10)) (e11 : At h n q10 (ai len11 f11)) (ne12 : q10 ≠ q5) (ne13 : q10 ≠ q7) (v1_3 : fs1[3]? = some (.ref q14)) (e15 : At h n q14 (ai len15 f15)) (ne16 : q14 ≠ q5) (ne17 : q14 ≠ q7) (ne18 : q14 ≠ q10)
    (P : (R3 x2) ∧ (R3 iv2) ∧ (iv2 ≤ x2 → K (.inl none) n (va_up h a0 (.inl (2, (fs1.set 4 (.int (i3 (iv2 - 1)))))))) ∧ (¬ iv2 ≤ x2 → (Ix x2 len6) ∧ (Ix (x2 - 1) len6) ∧ (Ix x2 len8) ∧ (Ix (x2 - 1) len8) ∧ (Ix x2 len11) ∧ (Ix (x2 - 1) len11) ∧ (Ix x2 len15) ∧ (Ix (x2 - 1) len15) ∧ Ok X 0 0 4 [(0, .ref a0), (1, .int (i3 x1)), (2, .int (i3 (x2 + 1)))] [] n (va_up (va_up (va_up (va_up h q5 (ai len6 (va_up f6 ((x2 - 1) : Int).toNat (f6 (x2 : Int).toNat)))) q7 (ai len8 (va_up f8 ((x2 - 1) : Int).toNat (f8 (x2 : Int).toNat)))) q10 (ai len11 (va_up f11 ((x2 - 1) : Int).toNat (f11 (x2 : Int).toNat)))) q14 (ai len15 (va_up f15 ((x2 - 1) : Int).toNat (f15 (x2 : Int).toNat)))))) :
    Ok X 0 0 4 [(0, .ref a0), (1, .int (i3 x1)), (2, .int (i3 x2))] [] n h := by
  refine ok_iload_n (pc := 4) hc dX2_removeAt_4 rfl 2 rfl ?_
  refine ok_aload_n (pc := 5) hc dX2_removeAt_5 rfl 0 rfl ?_
  refine ok_get (pc := 6) hc fl_X2_24 dX2_removeAt_6 e1.1 e1.2 v1_4 ?_
  obtain ⟨r3, P⟩ := P
  obtain ⟨r4, P⟩ := P
  refine zk_icmp_ge (pc := 9) (tgt := 74) hc dX2_removeAt_9 (by decide) r3 r4 (fun c => ?_) (fun c => ?_)
  · have P := P.1 c
    refine ok_aload_n (pc := 74) hc dX2_removeAt_74 rfl 0 rfl ?_
    refine ok_dup (pc := 75) hc dX2_removeAt_75 rfl ?_
    refine ok_get (pc := 76) hc fl_X2_24 dX2_removeAt_76 e1.1 e1.2 v1_4 ?_
    refine ok_iconst (pc := 79) hc (v := i3 1) dX2_removeAt_79 (by decide) ?_
    refine zk_isub (pc := 80) hc dX2_removeAt_80 ?_
    refine ok_put (pc := 81) hc fl_X2_24 dX2_removeAt_81 e1.1 e1.2 (by simp [List.length_set, z1]) (fun _ => rfl) (fun _ => rfl) ?_
    exact ok_vret (st := []) (pc := 84) hc hr dX2_removeAt_84 P
  · have P := P.2 c
    refine ok_aload_n (pc := 12) hc dX2_removeAt_12 rfl 0 rfl ?_
    refine ok_get (pc := 13) hc fl_X2_9 dX2_removeAt_13 e1.1 e1.2 v1_0 ?_
    refine ok_iload_n (pc := 16) hc dX2_removeAt_16 rfl 2 rfl ?_
    refine ok_iconst (pc := 17) hc (v := i3 1) dX2_removeAt_17 (by decide) ?_
    refine zk_isub (pc := 18) hc dX2_removeAt_18 ?_
    refine ok_aload_n (pc := 19) hc dX2_removeAt_19 rfl 0 rfl ?_
    refine ok_get (pc := 20) hc fl_X2_9 dX2_removeAt_20 e1.1 e1.2 v1_0 ?_
    refine ok_iload_n (pc := 23) hc dX2_removeAt_23 rfl 2 rfl ?_
    obtain ⟨r, P⟩ := P
    refine zk_iald (pc := 24) hc dX2_removeAt_24 e6.1 e6.2 r ?_
    obtain ⟨r, P⟩ := P
    refine zk_iast (pc := 25) hc dX2_removeAt_25 e6.1 e6.2 r ?_
    refine ok_aload_n (pc := 26) hc dX2_removeAt_26 rfl 0 rfl ?_
    refine ok_get (pc := 27) hc fl_X2_15 dX2_removeAt_27 e1.1 ((up_ne (ne_oa e1.2 e6.2)).trans e1.2) v1_1 ?_
    refine ok_iload_n (pc := 30) hc dX2_removeAt_30 rfl 2 rfl ?_
    refine ok_iconst (pc := 31) hc (v := i3 1) dX2_removeAt_31 (by decide) ?_
    refine zk_isub (pc := 32) hc dX2_removeAt_32 ?_
    refine ok_aload_n (pc := 33) hc dX2_removeAt_33 rfl 0 rfl ?_
    refine ok_get (pc := 34) hc fl_X2_15 dX2_removeAt_34 e1.1 ((up_ne (ne_oa e1.2 e6.2)).trans e1.2) v1_1 ?_
    refine ok_iload_n (pc := 37) hc dX2_removeAt_37 rfl 2 rfl ?_
    obtain ⟨r, P⟩ := P
    refine zk_iald (pc := 38) hc dX2_removeAt_38 e8.1 ((up_ne ne9).trans e8.2) r ?_
    obtain ⟨r, P⟩ := P
    refine zk_iast (pc := 39) hc dX2_removeAt_39 e8.1 ((up_ne ne9).trans e8.2) r ?_
    refine ok_aload_n (pc := 40) hc dX2_removeAt_40 rfl 0 rfl ?_
    refine ok_get (pc := 41) hc fl_X2_18 dX2_removeAt_41 e1.1 ((up_ne (ne_oa e1.2 e8.2)).trans ((up_ne (ne_oa e1.2 e6.2)).trans e1.2)) v1_2 ?_
    refine ok_iload_n (pc := 44) hc dX2_removeAt_44 rfl 2 rfl ?_
    refine ok_iconst (pc := 45) hc (v := i3 1) dX2_removeAt_45 (by decide) ?_
    refine zk_isub (pc := 46) hc dX2_removeAt_46 ?_
    refine ok_aload_n (pc := 47) hc dX2_removeAt_47 rfl 0 rfl ?_
    refine ok_get (pc := 48) hc fl_X2_18 dX2_removeAt_48 e1.1 ((up_ne (ne_oa e1.2 e8.2)).trans ((up_ne (ne_oa e1.2 e6.2)).trans e1.2)) v1_2 ?_
    refine ok_iload_n (pc := 51) hc dX2_removeAt_51 rfl 2 rfl ?_
    obtain ⟨r, P⟩ := P
    refine zk_iald (pc := 52) hc dX2_removeAt_52 e11.1 ((up_ne ne13).trans ((up_ne ne12).trans e11.2)) r ?_
    obtain ⟨r, P⟩ := P
    refine zk_iast (pc := 53) hc dX2_removeAt_53 e11.1 ((up_ne ne13).trans ((up_ne ne12).trans e11.2)) r ?_
    refine ok_aload_n (pc := 54) hc dX2_removeAt_54 rfl 0 rfl ?_
    refine ok_get (pc := 55) hc fl_X2_21 dX2_removeAt_55 e1.1 ((up_ne (ne_oa e1.2 e11.2)).trans ((up_ne (ne_oa e1.2 e8.2)).trans ((up_ne (ne_oa e1.2 e6.2)).trans e1.2))) v1_3 ?_
    refine ok_iload_n (pc := 58) hc dX2_removeAt_58 rfl 2 rfl ?_
    refine ok_iconst (pc := 59) hc (v := i3 1) dX2_removeAt_59 (by decide) ?_
    refine zk_isub (pc := 60) hc dX2_removeAt_60 ?_
    refine ok_aload_n (pc := 61) hc dX2_removeAt_61 rfl 0 rfl ?_
    refine ok_get (pc := 62) hc fl_X2_21 dX2_removeAt_62 e1.1 ((up_ne (ne_oa e1.2 e11.2)).trans ((up_ne (ne_oa e1.2 e8.2)).trans ((up_ne (ne_oa e1.2 e6.2)).trans e1.2))) v1_3 ?_
    refine ok_iload_n (pc := 65) hc dX2_removeAt_65 rfl 2 rfl ?_
    obtain ⟨r, P⟩ := P
    refine zk_iald (pc := 66) hc dX2_removeAt_66 e15.1 ((up_ne ne18).trans ((up_ne ne17).trans ((up_ne ne16).trans e15.2))) r ?_
    obtain ⟨r, P⟩ := P
    refine zk_iast (pc := 67) hc dX2_removeAt_67 e15.1 ((up_ne ne18).trans ((up_ne ne17).trans ((up_ne ne16).trans e15.2))) r ?_
    refine zk_iinc (pc := 68) hc (q := 2) (x := x2) (lv' := [(2, .int (i3 (x2 + 1))), (0, .ref a0), (1, .int (i3 x1))]) dX2_removeAt_68 rfl (by decide) rfl ?_
    refine ok_goto (pc := 71) (tgt := 4) hc dX2_removeAt_71 (by decide) ?_
    refine ok_lv [1, 2, 0] rfl ?_
    exact P

def spec_X2_removeAt (args : List Value) (n : Nat) (h : HP) (K : KT) : Prop := ∃ (a cap m : Nat) (ps : List Part), args = [.ref a, .int (i3 m)] ∧ PtA h n a cap ps ∧ m < ps.length ∧ ∀ h', PtA h' n a cap (ps.eraseIdx m) → Fr h h' a (a + 4) → K (.inl none) n h'
theorem sp_X2_removeAt : Sp yX2_removeAt cX2_removeAt 3 none 0 0 0 0 spec_X2_removeAt := by
  refine sp_intro (by decide) (by rintro args n h K ⟨a, cap, m, ps, rfl, -⟩; exact Nat.le_of_ble_eq_true rfl) ?_
  rintro X args n h K hc hr ⟨a, cap, m, ps, rfl, ⟨k, f, s, t, E, E1, E2, E3, E4, hv, hw, hl, hcap⟩, hm, kk⟩
  have L : ∀ (j p : Nat) (h1 : HP), p + j = ps.length → m < p → PtB h1 n a cap (sh k m p) (sh f m p) (sh s m p) (sh t m p) ps.length → Fr h h1 a (a + 4) → Ok X 0 0 4 [(0, .ref a), (1, .int (i3 m)), (2, .int (i3 p))] [] n h1 := by
    intro j
    induction j with
    | zero =>
      intro p h1 hp hmp ⟨F0, F1, F2, F3, F4⟩ hF
      have : p = ps.length := by omega
      subst this
      have hlen : (ps.eraseIdx m).length = ps.length - 1 := List.length_eraseIdx_of_lt hm
      refine sX2_removeAt_4 hc hr F0 rfl rfl rfl F1 rfl F2 (by omega) rfl F3 (by omega) (by omega) rfl F4 (by omega) (by omega) (by omega) ⟨R3_s (by omega), R3_s (by omega), fun _ => ?_, fun c => absurd (Int.le_refl _) c⟩
      refine kk _ ⟨_, _, _, _, ?_, F1.up (by omega), F2.up (by omega), F3.up (by omega), F4.up (by omega), fun i hi => ?_, fun q hq => hw q (List.mem_of_mem_eraseIdx hq), by omega, hcap⟩ (hF.up (by omega))
      · refine ⟨F0.1, up_self.trans ?_⟩
        rw [hlen, show ((ps.length - 1 : Nat) : Int) = (ps.length : Int) - 1 by omega]
        rfl
      · rw [List.getElem?_eraseIdx]
        unfold sh
        by_cases e : i < m
        · rw [if_pos e, if_neg (by omega), if_neg (by omega), if_neg (by omega), if_neg (by omega)]
          exact hv i (by omega)
        · rw [if_neg e, if_pos (by omega), if_pos (by omega), if_pos (by omega), if_pos (by omega)]
          exact hv (i + 1) (by omega)
    | succ j ih =>
      intro p h1 hp hmp ⟨F0, F1, F2, F3, F4⟩ hF
      have ih := ih (p + 1) (va_up (va_up (va_up (va_up h1 (a + 1) (ai cap (va_up (sh k m p) (p - 1) (sh k m p p)))) (a + 2) (ai cap (va_up (sh f m p) (p - 1) (sh f m p p)))) (a + 3) (ai cap (va_up (sh s m p) (p - 1) (sh s m p p)))) (a + 4) (ai cap (va_up (sh t m p) (p - 1) (sh t m p p)))) (by omega) (by omega)
      rw [sh1 k hmp, sh1 f hmp, sh1 s hmp, sh1 t hmp] at ih
      have ih := ih ⟨(((F0.up (by omega)).up (by omega)).up (by omega)).up (by omega), ((F1.it.up (by omega)).up (by omega)).up (by omega), (((F2.up (by omega)).it).up (by omega)).up (by omega), (((F3.up (by omega)).up (by omega)).it).up (by omega), (((F4.up (by omega)).up (by omega)).up (by omega)).it⟩ ((((hF.up (by omega)).up (by omega)).up (by omega)).up (by omega))
      rw [← sh1 k hmp, ← sh1 f hmp, ← sh1 s hmp, ← sh1 t hmp] at ih
      refine sX2_removeAt_4 hc hr F0 rfl rfl rfl F1 rfl F2 (by omega) rfl F3 (by omega) (by omega) rfl F4 (by omega) (by omega) (by omega) ⟨R3_s (by omega), R3_s (by omega), fun c => absurd c (by omega), fun _ => ⟨⟨by omega, by omega, by omega⟩, ⟨by omega, by omega, by omega⟩, ⟨by omega, by omega, by omega⟩, ⟨by omega, by omega, by omega⟩, ⟨by omega, by omega, by omega⟩, ⟨by omega, by omega, by omega⟩, ⟨by omega, by omega, by omega⟩, ⟨by omega, by omega, by omega⟩, ?_⟩⟩
      rw [show ((p : Int) - 1).toNat = p - 1 by omega, Int.toNat_natCast]
      exact ih
  refine sX2_removeAt_0 hc hr (L (ps.length - (m + 1)) (m + 1) h (by omega) (by omega) ⟨?_, ?_, ?_, ?_, ?_⟩ Fr.rf)
  · exact E
  all_goals rw [sh0]; assumption
