/-! part 99h: the law's wrappers of the class's methods -/
theorem DkA.out {h h' : HP} {n lo hi : Nat} {q : Dsk} (p : DkA h n q) (f : Fr h h' lo hi) (d : 127 < lo) : DkA h' n q := by
  obtain ⟨h0, hN, ⟨T, hT⟩, hI, hH, hM, hG⟩ := p
  exact ⟨h0.fr f (by omega), hN.fr f (by omega), ⟨T, hT.fr f (by omega)⟩, hI.fr f (by omega), hH.fr f (by omega), hM.fr f (by omega), hG⟩
def hh_L_load : List (Nat × Nat × Nat × Nat) := [(0, 8, 11, 13), (0, 8, 14, 15)]
set_option maxHeartbeats 4000000 in
set_option maxRecDepth 100000 in
theorem sL_load_0 {X : Xt} {n : Nat} {h : HP} {a0 : Nat} {a1 : Nat} {fs1 : List Value} (hc : Cx X cL_load RL 3 7 158) {K : KT} (hr : CxW X hh_L_load K) (e1 : At h n a0 (.inl (6, fs1))) (z1 : fs1.length = 6)
    (P : spec_X6_load [.ref a0] n h (kc X 0 0 3 [(0, .ref a0), (1, .ref a1)] [.int (i3 0), .ref a1] n)) :
    Ok X 1 6 0 [(0, .ref a0), (1, .ref a1)] [] n h := by
  refine ok_aload_n (pc := 0) hc dL_load_0 rfl 1 rfl ?_
  refine ok_iconst (pc := 1) hc (v := i3 0) dL_load_1 (by decide) ?_
  refine ok_aload_n (pc := 2) hc dL_load_2 rfl 0 rfl ?_
  exact ok_callV (pc := 3) (a := a0) (cb := 0) (sb := 0) (st := [.int (i3 0), .ref a1]) hc [] cv_L_7 sp_X6_load (by decide) dL_load_3 rfl e1.1 e1.2 rfl rfl rfl (Nat.le_of_ble_eq_true rfl) P
set_option maxHeartbeats 4000000 in
set_option maxRecDepth 100000 in
theorem sL_load_6 {X : Xt} {n : Nat} {h : HP} {a0 : Nat} {a1 : Nat} {t0 : Int} {t1 : Int} {ta2 : Nat} {len2 : Nat} {f2 : Nat → Int} (hc : Cx X cL_load RL 3 7 158) {K : KT} (hr : CxW X hh_L_load K) (e2 : At h n ta2 (al len2 f2))
    (P : (R3 t0) ∧ (Ix t1 len2) ∧ K (.inl (some (.int (i3 0)))) n (va_up h ta2 (al len2 (va_up f2 (t1 : Int).toNat t0)))) :
    Ok X 0 0 6 [(0, .ref a0), (1, .ref a1)] [.int (i3 t0), .int (i3 t1), .ref ta2] n h := by
  obtain ⟨r1, P⟩ := P
  refine zk_i2l (pc := 6) hc dL_load_6 r1 ?_
  obtain ⟨r, P⟩ := P
  refine zk_last (pc := 7) hc dL_load_7 e2.1 e2.2 r ?_
  refine ok_goto (pc := 8) (tgt := 17) hc dL_load_8 (by decide) ?_
  refine ok_iconst (pc := 17) hc (v := i3 0) dL_load_17 (by decide) ?_
  exact ok_iretW (st := []) (pc := 18) hc hr dL_load_18 P
theorem err_L_load {q : Dsk} {E : String} (h : (opLoad q).2 = .inr E) : E = eIA ∨ E = eIS := by
  unfold opLoad at h
  (repeat' split at h) <;> first | (cases h; done) | (have e9 := Sum.inr.inj h; subst e9; first | exact rfl | exact Or.inl rfl | exact Or.inr rfl | exact Or.inr (Or.inl rfl) | exact Or.inr (Or.inr rfl))
def spec_L_load (args : List Value) (n : Nat) (h : HP) (K : KT) : Prop := ∃ (q : Dsk) (o : Nat) (f : Nat → Int), args = [.ref 0, .ref o] ∧ DkA h n q ∧ At h n o (al 1 f) ∧ 127 < o ∧ ∀ (h' : HP) (g : Nat → Int), DkA h' n (opLoad q).1 → At h' n o (al 1 g) → (∀ z, (opLoad q).2 = .inl z → g 0 = (i3 z).toInt) → (∀ x, 127 < x → x ≠ o → h' x = h x) → K (.inl (some (.int (i3 (cdL [eIA, eIS] ((opLoad q).2)))))) n h'
theorem sp_L_load : SpW yL_load cL_load 3 hh_L_load 7 158 1 6 spec_L_load := by
  refine sp_introW (by decide) (by rintro args n h K ⟨q, o, f, rfl, -⟩; exact Nat.le_of_ble_eq_true rfl) ?_
  rintro X args n h K hc hr ⟨q, o, f, rfl, hq, ho, h127, kk⟩
  refine sL_load_0 hc hr hq.1 rfl ⟨q, rfl, hq, fun h1 hq1 f1 => ?_⟩
  have ho1 : At h1 n o (al 1 f) := ho.fr f1 (by omega)
  cases ea : (opLoad q).2 with
  | inl z =>
    refine ⟨rfl, ?_⟩
    show Ok X 0 0 6 [(0, .ref 0), (1, .ref o)] [.int (i3 z), .int (i3 0), .ref o] n h1
    rw [← i3_T (i3 z)]
    refine sL_load_6 hc hr ho1 ⟨R3_T _, ⟨by decide, by decide, by decide⟩, ?_⟩
    have k := kk (va_up h1 o (al 1 (va_up f 0 (i3 z).toInt))) (va_up f 0 (i3 z).toInt) (hq1.out (Fr.rf.up (c := o) (lo := o) (hi := o) (by omega)) h127) ho1.it (fun z9 e9 => by rw [up_self]; rw [ea] at e9; rw [Sum.inl.inj e9]) (fun x hx hx2 => (up_ne hx2).trans (f1 x (by omega)))
    rw [ea] at k
    exact k
  | inr E =>
    have k := kk h1 f hq1 ho1 (fun z9 e9 => by rw [ea] at e9; cases e9) (fun x hx _ => f1 x (by omega))
    have hE := err_L_load ea
    rcases hE with e9 | e9 <;> subst e9
    · rw [ea, cd_1 eIA _] at k
      exact ⟨rfl, okT_catch hc hr [] ⟨0, 8, 11, 13⟩ [⟨0, 8, 14, 15⟩] rfl (fun z hz => absurd hz List.not_mem_nil) rfl (by decide) (in_all (i := 719) (by decide +kernel) rfl) (by decide) ⟨2, 1, 1, Or.inl ⟨2, dL_load_11, rfl, rfl⟩, by decide, dL_load_12, by decide, dL_load_13⟩ k⟩
    · rw [ea, cd_2 _ (a := eIA) (by decide)] at k
      exact ⟨rfl, okT_catch hc hr [⟨0, 8, 11, 13⟩] ⟨0, 8, 14, 15⟩ [] rfl (fun z hz => by
        rw [List.mem_singleton] at hz
        subst hz
        exact ⟨by decide, eIA, (in_all (i := 719) (by decide +kernel) rfl), by decide⟩) rfl (by decide) (in_all (i := 720) (by decide +kernel) rfl) (by decide) ⟨2, 2, 1, Or.inl ⟨2, dL_load_14, rfl, rfl⟩, by decide, dL_load_15, by decide, dL_load_16⟩ k⟩
def hh_L_setValue : List (Nat × Nat × Nat × Nat) := [(0, 10, 13, 21), (0, 10, 17, 15), (0, 10, 21, 13)]
set_option maxHeartbeats 4000000 in
set_option maxRecDepth 100000 in
theorem sL_setValue_0 {X : Xt} {n : Nat} {h : HP} {a0 : Nat} {x1 : Int} {x2 : Int} {a3 : Nat} {fs1 : List Value} (hc : Cx X cL_setValue RL 5 9 161) {K : KT} (hr : CxW X hh_L_setValue K) (e1 : At h n a0 (.inl (6, fs1))) (z1 : fs1.length = 6)
    (P : spec_X6_setValue [.ref a0, .int (i3 x1), .int (i3 x2)] n h (kc X 0 0 5 [(0, .ref a0), (1, .int (i3 x1)), (2, .int (i3 x2)), (3, .ref a3)] [.int (i3 0), .ref a3] n)) :
    Ok X 2 12 0 [(0, .ref a0), (1, .int (i3 x1)), (2, .int (i3 x2)), (3, .ref a3)] [] n h := by
  refine ok_aload_n (pc := 0) hc dL_setValue_0 rfl 3 rfl ?_
  refine ok_iconst (pc := 1) hc (v := i3 0) dL_setValue_1 (by decide) ?_
  refine ok_aload_n (pc := 2) hc dL_setValue_2 rfl 0 rfl ?_
  refine ok_iload_n (pc := 3) hc dL_setValue_3 rfl 1 rfl ?_
  refine ok_iload_n (pc := 4) hc dL_setValue_4 rfl 2 rfl ?_
  exact ok_callV (pc := 5) (a := a0) (cb := 0) (sb := 0) (st := [.int (i3 0), .ref a3]) hc [.int (i3 x1), .int (i3 x2)] cv_L_17 sp_X6_setValue (by decide) dL_setValue_5 rfl e1.1 e1.2 rfl rfl rfl (Nat.le_of_ble_eq_true rfl) P
set_option maxHeartbeats 4000000 in
set_option maxRecDepth 100000 in
theorem sL_setValue_8 {X : Xt} {n : Nat} {h : HP} {a0 : Nat} {x1 : Int} {x2 : Int} {a3 : Nat} {t0 : Int} {t1 : Int} {ta2 : Nat} {len2 : Nat} {f2 : Nat → Int} (hc : Cx X cL_setValue RL 5 9 161) {K : KT} (hr : CxW X hh_L_setValue K) (e2 : At h n ta2 (al len2 f2))
    (P : (R3 t0) ∧ (Ix t1 len2) ∧ K (.inl (some (.int (i3 0)))) n (va_up h ta2 (al len2 (va_up f2 (t1 : Int).toNat t0)))) :
    Ok X 0 0 8 [(0, .ref a0), (1, .int (i3 x1)), (2, .int (i3 x2)), (3, .ref a3)] [.int (i3 t0), .int (i3 t1), .ref ta2] n h := by
  obtain ⟨r1, P⟩ := P
  refine zk_i2l (pc := 8) hc dL_setValue_8 r1 ?_
  obtain ⟨r, P⟩ := P
  refine zk_last (pc := 9) hc dL_setValue_9 e2.1 e2.2 r ?_
  refine ok_goto (pc := 10) (tgt := 25) hc dL_setValue_10 (by decide) ?_
  refine ok_iconst (pc := 25) hc (v := i3 0) dL_setValue_25 (by decide) ?_
  exact ok_iretW (st := []) (pc := 26) hc hr dL_setValue_26 P
theorem err_L_setValue {q : Dsk} {x v : Int} {E : String} (h : (opValue q x v).2 = .inr E) : E = eIO ∨ E = eIS ∨ E = eIA := by
  unfold opValue at h
  (repeat' split at h) <;> first | (cases h; done) | (have e9 := Sum.inr.inj h; subst e9; first | exact rfl | exact Or.inl rfl | exact Or.inr rfl | exact Or.inr (Or.inl rfl) | exact Or.inr (Or.inr rfl))
def spec_L_setValue (args : List Value) (n : Nat) (h : HP) (K : KT) : Prop := ∃ (q : Dsk) (o : Nat) (f : Nat → Int) (x v : Int), args = [.ref 0, .int (i3 x), .int (i3 v), .ref o] ∧ R3 x ∧ R3 v ∧ DkA h n q ∧ At h n o (al 1 f) ∧ 127 < o ∧ ∀ (h' : HP) (g : Nat → Int), DkA h' n (opValue q x v).1 → At h' n o (al 1 g) → (∀ z, (opValue q x v).2 = .inl z → g 0 = (i3 z).toInt) → (∀ x, 127 < x → x ≠ o → h' x = h x) → K (.inl (some (.int (i3 (cdL [eIO, eIS, eIA] ((opValue q x v).2)))))) n h'
theorem sp_L_setValue : SpW yL_setValue cL_setValue 5 hh_L_setValue 9 161 2 12 spec_L_setValue := by
  refine sp_introW (by decide) (by rintro args n h K ⟨q, o, f, x, v, rfl, -⟩; exact Nat.le_of_ble_eq_true rfl) ?_
  rintro X args n h K hc hr ⟨q, o, f, x, v, rfl, rx, rv, hq, ho, h127, kk⟩
  refine sL_setValue_0 hc hr hq.1 rfl ⟨q, x, v, rfl, rx, rv, hq, fun h1 hq1 f1 => ?_⟩
  have ho1 : At h1 n o (al 1 f) := ho.fr f1 (by omega)
  cases ea : (opValue q x v).2 with
  | inl z =>
    refine ⟨rfl, ?_⟩
    show Ok X 0 0 8 [(0, .ref 0), (1, .int (i3 x)), (2, .int (i3 v)), (3, .ref o)] [.int (i3 z), .int (i3 0), .ref o] n h1
    rw [← i3_T (i3 z)]
    refine sL_setValue_8 hc hr ho1 ⟨R3_T _, ⟨by decide, by decide, by decide⟩, ?_⟩
    have k := kk (va_up h1 o (al 1 (va_up f 0 (i3 z).toInt))) (va_up f 0 (i3 z).toInt) (hq1.out (Fr.rf.up (c := o) (lo := o) (hi := o) (by omega)) h127) ho1.it (fun z9 e9 => by rw [up_self]; rw [ea] at e9; rw [Sum.inl.inj e9]) (fun x hx hx2 => (up_ne hx2).trans (f1 x (by omega)))
    rw [ea] at k
    exact k
  | inr E =>
    have k := kk h1 f hq1 ho1 (fun z9 e9 => by rw [ea] at e9; cases e9) (fun x hx _ => f1 x (by omega))
    have hE := err_L_setValue ea
    rcases hE with e9 | e9 | e9 <;> subst e9
    · rw [ea, cd_1 eIO _] at k
      exact ⟨rfl, okT_catch hc hr [] ⟨0, 10, 13, 21⟩ [⟨0, 10, 17, 15⟩, ⟨0, 10, 21, 13⟩] rfl (fun z hz => absurd hz List.not_mem_nil) rfl (by decide) (in_all (i := 769) (by decide +kernel) rfl) (by decide) ⟨4, 1, 2, Or.inr ⟨dL_setValue_13, rfl⟩, by decide, dL_setValue_15, by decide, dL_setValue_16⟩ k⟩
    · rw [ea, cd_2 _ (a := eIO) (by decide)] at k
      exact ⟨rfl, okT_catch hc hr [⟨0, 10, 13, 21⟩] ⟨0, 10, 17, 15⟩ [⟨0, 10, 21, 13⟩] rfl (fun z hz => by
        rw [List.mem_singleton] at hz
        subst hz
        exact ⟨by decide, eIO, (in_all (i := 769) (by decide +kernel) rfl), by decide⟩) rfl (by decide) (in_all (i := 720) (by decide +kernel) rfl) (by decide) ⟨4, 2, 2, Or.inr ⟨dL_setValue_17, rfl⟩, by decide, dL_setValue_19, by decide, dL_setValue_20⟩ k⟩
    · rw [ea, cd_3 _ (a := eIO) (b := eIS) (by decide) (by decide)] at k
      exact ⟨rfl, okT_catch hc hr [⟨0, 10, 13, 21⟩, ⟨0, 10, 17, 15⟩] ⟨0, 10, 21, 13⟩ [] rfl (fun z hz => by
        simp only [List.mem_cons, List.not_mem_nil, or_false] at hz
        rcases hz with e9 | e9
        · subst e9
          exact ⟨by decide, eIO, (in_all (i := 769) (by decide +kernel) rfl), by decide⟩
        · subst e9
          exact ⟨by decide, eIS, (in_all (i := 720) (by decide +kernel) rfl), by decide⟩) rfl (by decide) (in_all (i := 719) (by decide +kernel) rfl) (by decide) ⟨4, 3, 2, Or.inr ⟨dL_setValue_21, rfl⟩, by decide, dL_setValue_23, by decide, dL_setValue_24⟩ k⟩
def hh_L_setRail : List (Nat × Nat × Nat × Nat) := [(0, 9, 12, 13)]
set_option maxHeartbeats 4000000 in
set_option maxRecDepth 100000 in
theorem sL_setRail_0 {X : Xt} {n : Nat} {h : HP} {a0 : Nat} {x1 : Int} {a2 : Nat} {fs1 : List Value} (hc : Cx X cL_setRail RL 4 7 160) {K : KT} (hr : CxW X hh_L_setRail K) (e1 : At h n a0 (.inl (6, fs1))) (z1 : fs1.length = 6)
    (P : spec_X6_setRail [.ref a0, .int (i3 x1)] n h (kc X 0 0 4 [(0, .ref a0), (1, .int (i3 x1)), (2, .ref a2)] [.int (i3 0), .ref a2] n)) :
    Ok X 1 6 0 [(0, .ref a0), (1, .int (i3 x1)), (2, .ref a2)] [] n h := by
  refine ok_aload_n (pc := 0) hc dL_setRail_0 rfl 2 rfl ?_
  refine ok_iconst (pc := 1) hc (v := i3 0) dL_setRail_1 (by decide) ?_
  refine ok_aload_n (pc := 2) hc dL_setRail_2 rfl 0 rfl ?_
  refine ok_iload_n (pc := 3) hc dL_setRail_3 rfl 1 rfl ?_
  exact ok_callV (pc := 4) (a := a0) (cb := 0) (sb := 0) (st := [.int (i3 0), .ref a2]) hc [.int (i3 x1)] cv_L_23 sp_X6_setRail (by decide) dL_setRail_4 rfl e1.1 e1.2 rfl rfl rfl (Nat.le_of_ble_eq_true rfl) P
set_option maxHeartbeats 4000000 in
set_option maxRecDepth 100000 in
theorem sL_setRail_7 {X : Xt} {n : Nat} {h : HP} {a0 : Nat} {x1 : Int} {a2 : Nat} {t0 : Int} {t1 : Int} {ta2 : Nat} {len2 : Nat} {f2 : Nat → Int} (hc : Cx X cL_setRail RL 4 7 160) {K : KT} (hr : CxW X hh_L_setRail K) (e2 : At h n ta2 (al len2 f2))
    (P : (R3 t0) ∧ (Ix t1 len2) ∧ K (.inl (some (.int (i3 0)))) n (va_up h ta2 (al len2 (va_up f2 (t1 : Int).toNat t0)))) :
    Ok X 0 0 7 [(0, .ref a0), (1, .int (i3 x1)), (2, .ref a2)] [.int (i3 t0), .int (i3 t1), .ref ta2] n h := by
  obtain ⟨r1, P⟩ := P
  refine zk_i2l (pc := 7) hc dL_setRail_7 r1 ?_
  obtain ⟨r, P⟩ := P
  refine zk_last (pc := 8) hc dL_setRail_8 e2.1 e2.2 r ?_
  refine ok_goto (pc := 9) (tgt := 15) hc dL_setRail_9 (by decide) ?_
  refine ok_iconst (pc := 15) hc (v := i3 0) dL_setRail_15 (by decide) ?_
  exact ok_iretW (st := []) (pc := 16) hc hr dL_setRail_16 P
theorem err_L_setRail {q : Dsk} {x : Int} {E : String} (h : (opRail q x).2 = .inr E) : E = eIA := by
  unfold opRail at h
  (repeat' split at h) <;> first | (cases h; done) | (have e9 := Sum.inr.inj h; subst e9; first | exact rfl | exact Or.inl rfl | exact Or.inr rfl | exact Or.inr (Or.inl rfl) | exact Or.inr (Or.inr rfl))
def spec_L_setRail (args : List Value) (n : Nat) (h : HP) (K : KT) : Prop := ∃ (q : Dsk) (o : Nat) (f : Nat → Int) (x : Int), args = [.ref 0, .int (i3 x), .ref o] ∧ R3 x ∧ DkA h n q ∧ At h n o (al 1 f) ∧ 127 < o ∧ ∀ (h' : HP) (g : Nat → Int), DkA h' n (opRail q x).1 → At h' n o (al 1 g) → (∀ z, (opRail q x).2 = .inl z → g 0 = (i3 z).toInt) → (∀ x, 127 < x → x ≠ o → h' x = h x) → K (.inl (some (.int (i3 (cdL [eIA] ((opRail q x).2)))))) n h'
theorem sp_L_setRail : SpW yL_setRail cL_setRail 4 hh_L_setRail 7 160 1 6 spec_L_setRail := by
  refine sp_introW (by decide) (by rintro args n h K ⟨q, o, f, x, rfl, -⟩; exact Nat.le_of_ble_eq_true rfl) ?_
  rintro X args n h K hc hr ⟨q, o, f, x, rfl, rx, hq, ho, h127, kk⟩
  refine sL_setRail_0 hc hr hq.1 rfl ⟨q, x, rfl, rx, hq, fun h1 hq1 f1 => ?_⟩
  have ho1 : At h1 n o (al 1 f) := ho.fr f1 (by omega)
  cases ea : (opRail q x).2 with
  | inl z =>
    refine ⟨rfl, ?_⟩
    show Ok X 0 0 7 [(0, .ref 0), (1, .int (i3 x)), (2, .ref o)] [.int (i3 z), .int (i3 0), .ref o] n h1
    rw [← i3_T (i3 z)]
    refine sL_setRail_7 hc hr ho1 ⟨R3_T _, ⟨by decide, by decide, by decide⟩, ?_⟩
    have k := kk (va_up h1 o (al 1 (va_up f 0 (i3 z).toInt))) (va_up f 0 (i3 z).toInt) (hq1.out (Fr.rf.up (c := o) (lo := o) (hi := o) (by omega)) h127) ho1.it (fun z9 e9 => by rw [up_self]; rw [ea] at e9; rw [Sum.inl.inj e9]) (fun x hx hx2 => (up_ne hx2).trans (f1 x (by omega)))
    rw [ea] at k
    exact k
  | inr E =>
    have k := kk h1 f hq1 ho1 (fun z9 e9 => by rw [ea] at e9; cases e9) (fun x hx _ => f1 x (by omega))
    have hE := err_L_setRail ea
    subst hE
    · rw [ea, cd_1 eIA _] at k
      exact ⟨rfl, okT_catch hc hr [] ⟨0, 9, 12, 13⟩ [] rfl (fun z hz => absurd hz List.not_mem_nil) rfl (by decide) (in_all (i := 719) (by decide +kernel) rfl) (by decide) ⟨3, 1, 1, Or.inl ⟨3, dL_setRail_12, rfl, rfl⟩, by decide, dL_setRail_13, by decide, dL_setRail_14⟩ k⟩
def hh_L_drop : List (Nat × Nat × Nat × Nat) := [(0, 9, 12, 21)]
set_option maxHeartbeats 4000000 in
set_option maxRecDepth 100000 in
theorem sL_drop_0 {X : Xt} {n : Nat} {h : HP} {a0 : Nat} {x1 : Int} {a2 : Nat} {fs1 : List Value} (hc : Cx X cL_drop RL 4 8 159) {K : KT} (hr : CxW X hh_L_drop K) (e1 : At h n a0 (.inl (6, fs1))) (z1 : fs1.length = 6)
    (P : spec_X6_drop [.ref a0, .int (i3 x1)] n h (kc X 0 0 4 [(0, .ref a0), (1, .int (i3 x1)), (2, .ref a2)] [.int (i3 0), .ref a2] n)) :
    Ok X 1 6 0 [(0, .ref a0), (1, .int (i3 x1)), (2, .ref a2)] [] n h := by
  refine ok_aload_n (pc := 0) hc dL_drop_0 rfl 2 rfl ?_
  refine ok_iconst (pc := 1) hc (v := i3 0) dL_drop_1 (by decide) ?_
  refine ok_aload_n (pc := 2) hc dL_drop_2 rfl 0 rfl ?_
  refine ok_iload_n (pc := 3) hc dL_drop_3 rfl 1 rfl ?_
  exact ok_callV (pc := 4) (a := a0) (cb := 0) (sb := 0) (st := [.int (i3 0), .ref a2]) hc [.int (i3 x1)] cv_L_27 sp_X6_drop (by decide) dL_drop_4 rfl e1.1 e1.2 rfl rfl rfl (Nat.le_of_ble_eq_true rfl) P
set_option maxHeartbeats 4000000 in
set_option maxRecDepth 100000 in
theorem sL_drop_7 {X : Xt} {n : Nat} {h : HP} {a0 : Nat} {x1 : Int} {a2 : Nat} {t0 : Int} {t1 : Int} {ta2 : Nat} {len2 : Nat} {f2 : Nat → Int} (hc : Cx X cL_drop RL 4 8 159) {K : KT} (hr : CxW X hh_L_drop K) (e2 : At h n ta2 (al len2 f2))
    (P : (R3 t0) ∧ (Ix t1 len2) ∧ K (.inl (some (.int (i3 0)))) n (va_up h ta2 (al len2 (va_up f2 (t1 : Int).toNat t0)))) :
    Ok X 0 0 7 [(0, .ref a0), (1, .int (i3 x1)), (2, .ref a2)] [.int (i3 t0), .int (i3 t1), .ref ta2] n h := by
  obtain ⟨r1, P⟩ := P
  refine zk_i2l (pc := 7) hc dL_drop_7 r1 ?_
  obtain ⟨r, P⟩ := P
  refine zk_last (pc := 8) hc dL_drop_8 e2.1 e2.2 r ?_
  refine ok_goto (pc := 9) (tgt := 15) hc dL_drop_9 (by decide) ?_
  refine ok_iconst (pc := 15) hc (v := i3 0) dL_drop_15 (by decide) ?_
  exact ok_iretW (st := []) (pc := 16) hc hr dL_drop_16 P
theorem err_L_drop {q : Dsk} {x : Int} {E : String} (h : (opDrop q x).2 = .inr E) : E = eIO := by
  unfold opDrop at h
  (repeat' split at h) <;> first | (cases h; done) | (have e9 := Sum.inr.inj h; subst e9; first | exact rfl | exact Or.inl rfl | exact Or.inr rfl | exact Or.inr (Or.inl rfl) | exact Or.inr (Or.inr rfl))
def spec_L_drop (args : List Value) (n : Nat) (h : HP) (K : KT) : Prop := ∃ (q : Dsk) (o : Nat) (f : Nat → Int) (x : Int), args = [.ref 0, .int (i3 x), .ref o] ∧ R3 x ∧ DkA h n q ∧ At h n o (al 1 f) ∧ 127 < o ∧ ∀ (h' : HP) (g : Nat → Int), DkA h' n (opDrop q x).1 → At h' n o (al 1 g) → (∀ z, (opDrop q x).2 = .inl z → g 0 = (i3 z).toInt) → (∀ x, 127 < x → x ≠ o → h' x = h x) → K (.inl (some (.int (i3 (cdL [eIO] ((opDrop q x).2)))))) n h'
theorem sp_L_drop : SpW yL_drop cL_drop 4 hh_L_drop 8 159 1 6 spec_L_drop := by
  refine sp_introW (by decide) (by rintro args n h K ⟨q, o, f, x, rfl, -⟩; exact Nat.le_of_ble_eq_true rfl) ?_
  rintro X args n h K hc hr ⟨q, o, f, x, rfl, rx, hq, ho, h127, kk⟩
  refine sL_drop_0 hc hr hq.1 rfl ⟨q, x, rfl, rx, hq, fun h1 hq1 f1 => ?_⟩
  have ho1 : At h1 n o (al 1 f) := ho.fr f1 (by omega)
  cases ea : (opDrop q x).2 with
  | inl z =>
    refine ⟨rfl, ?_⟩
    show Ok X 0 0 7 [(0, .ref 0), (1, .int (i3 x)), (2, .ref o)] [.int (i3 z), .int (i3 0), .ref o] n h1
    rw [← i3_T (i3 z)]
    refine sL_drop_7 hc hr ho1 ⟨R3_T _, ⟨by decide, by decide, by decide⟩, ?_⟩
    have k := kk (va_up h1 o (al 1 (va_up f 0 (i3 z).toInt))) (va_up f 0 (i3 z).toInt) (hq1.out (Fr.rf.up (c := o) (lo := o) (hi := o) (by omega)) h127) ho1.it (fun z9 e9 => by rw [up_self]; rw [ea] at e9; rw [Sum.inl.inj e9]) (fun x hx hx2 => (up_ne hx2).trans (f1 x (by omega)))
    rw [ea] at k
    exact k
  | inr E =>
    have k := kk h1 f hq1 ho1 (fun z9 e9 => by rw [ea] at e9; cases e9) (fun x hx _ => f1 x (by omega))
    have hE := err_L_drop ea
    subst hE
    · rw [ea, cd_1 eIO _] at k
      exact ⟨rfl, okT_catch hc hr [] ⟨0, 9, 12, 21⟩ [] rfl (fun z hz => absurd hz List.not_mem_nil) rfl (by decide) (in_all (i := 769) (by decide +kernel) rfl) (by decide) ⟨3, 1, 1, Or.inl ⟨3, dL_drop_12, rfl, rfl⟩, by decide, dL_drop_13, by decide, dL_drop_14⟩ k⟩
def hh_L_sweep : List (Nat × Nat × Nat × Nat) := [(0, 10, 13, 21), (0, 10, 17, 15), (0, 10, 21, 13)]
set_option maxHeartbeats 4000000 in
set_option maxRecDepth 100000 in
theorem sL_sweep_0 {X : Xt} {n : Nat} {h : HP} {a0 : Nat} {x1 : Int} {x2 : Int} {a3 : Nat} {fs1 : List Value} (hc : Cx X cL_sweep RL 5 9 166) {K : KT} (hr : CxW X hh_L_sweep K) (e1 : At h n a0 (.inl (6, fs1))) (z1 : fs1.length = 6)
    (P : spec_X6_sweep [.ref a0, .int (i3 x1), .int (i3 x2)] n h (kc X 0 0 5 [(0, .ref a0), (1, .int (i3 x1)), (2, .int (i3 x2)), (3, .ref a3)] [.int (i3 0), .ref a3] n)) :
    Ok X 3 18 0 [(0, .ref a0), (1, .int (i3 x1)), (2, .int (i3 x2)), (3, .ref a3)] [] n h := by
  refine ok_aload_n (pc := 0) hc dL_sweep_0 rfl 3 rfl ?_
  refine ok_iconst (pc := 1) hc (v := i3 0) dL_sweep_1 (by decide) ?_
  refine ok_aload_n (pc := 2) hc dL_sweep_2 rfl 0 rfl ?_
  refine ok_iload_n (pc := 3) hc dL_sweep_3 rfl 1 rfl ?_
  refine ok_iload_n (pc := 4) hc dL_sweep_4 rfl 2 rfl ?_
  exact ok_callV (pc := 5) (a := a0) (cb := 0) (sb := 0) (st := [.int (i3 0), .ref a3]) hc [.int (i3 x1), .int (i3 x2)] cv_L_30 sp_X6_sweep (by decide) dL_sweep_5 rfl e1.1 e1.2 rfl rfl rfl (Nat.le_of_ble_eq_true rfl) P
set_option maxHeartbeats 4000000 in
set_option maxRecDepth 100000 in
theorem sL_sweep_8 {X : Xt} {n : Nat} {h : HP} {a0 : Nat} {x1 : Int} {x2 : Int} {a3 : Nat} {t0 : Int} {t1 : Int} {ta2 : Nat} {len2 : Nat} {f2 : Nat → Int} (hc : Cx X cL_sweep RL 5 9 166) {K : KT} (hr : CxW X hh_L_sweep K) (e2 : At h n ta2 (al len2 f2))
    (P : (R3 t0) ∧ (Ix t1 len2) ∧ K (.inl (some (.int (i3 0)))) n (va_up h ta2 (al len2 (va_up f2 (t1 : Int).toNat t0)))) :
    Ok X 0 0 8 [(0, .ref a0), (1, .int (i3 x1)), (2, .int (i3 x2)), (3, .ref a3)] [.int (i3 t0), .int (i3 t1), .ref ta2] n h := by
  obtain ⟨r1, P⟩ := P
  refine zk_i2l (pc := 8) hc dL_sweep_8 r1 ?_
  obtain ⟨r, P⟩ := P
  refine zk_last (pc := 9) hc dL_sweep_9 e2.1 e2.2 r ?_
  refine ok_goto (pc := 10) (tgt := 25) hc dL_sweep_10 (by decide) ?_
  refine ok_iconst (pc := 25) hc (v := i3 0) dL_sweep_25 (by decide) ?_
  exact ok_iretW (st := []) (pc := 26) hc hr dL_sweep_26 P
theorem err_L_sweep {q : Dsk} {x v : Int} {E : String} (h : (opSweep q x v).2 = .inr E) : E = eIO ∨ E = eIS ∨ E = eIA := by
  unfold opSweep at h
  (repeat' split at h) <;> first | (cases h; done) | (have e9 := Sum.inr.inj h; subst e9; first | exact rfl | exact Or.inl rfl | exact Or.inr rfl | exact Or.inr (Or.inl rfl) | exact Or.inr (Or.inr rfl))
def spec_L_sweep (args : List Value) (n : Nat) (h : HP) (K : KT) : Prop := ∃ (q : Dsk) (o : Nat) (f : Nat → Int) (x v : Int), args = [.ref 0, .int (i3 x), .int (i3 v), .ref o] ∧ R3 x ∧ R3 v ∧ DkA h n q ∧ At h n o (al 1 f) ∧ 127 < o ∧ ∀ (h' : HP) (g : Nat → Int), DkA h' n (opSweep q x v).1 → At h' n o (al 1 g) → (∀ z, (opSweep q x v).2 = .inl z → g 0 = (i3 z).toInt) → (∀ x, 127 < x → x ≠ o → h' x = h x) → K (.inl (some (.int (i3 (cdL [eIO, eIS, eIA] ((opSweep q x v).2)))))) n h'
theorem sp_L_sweep : SpW yL_sweep cL_sweep 5 hh_L_sweep 9 166 3 18 spec_L_sweep := by
  refine sp_introW (by decide) (by rintro args n h K ⟨q, o, f, x, v, rfl, -⟩; exact Nat.le_of_ble_eq_true rfl) ?_
  rintro X args n h K hc hr ⟨q, o, f, x, v, rfl, rx, rv, hq, ho, h127, kk⟩
  refine sL_sweep_0 hc hr hq.1 rfl ⟨q, x, v, rfl, rx, rv, hq, fun h1 hq1 f1 => ?_⟩
  have ho1 : At h1 n o (al 1 f) := ho.fr f1 (by omega)
  cases ea : (opSweep q x v).2 with
  | inl z =>
    refine ⟨rfl, ?_⟩
    show Ok X 0 0 8 [(0, .ref 0), (1, .int (i3 x)), (2, .int (i3 v)), (3, .ref o)] [.int (i3 z), .int (i3 0), .ref o] n h1
    rw [← i3_T (i3 z)]
    refine sL_sweep_8 hc hr ho1 ⟨R3_T _, ⟨by decide, by decide, by decide⟩, ?_⟩
    have k := kk (va_up h1 o (al 1 (va_up f 0 (i3 z).toInt))) (va_up f 0 (i3 z).toInt) (hq1.out (Fr.rf.up (c := o) (lo := o) (hi := o) (by omega)) h127) ho1.it (fun z9 e9 => by rw [up_self]; rw [ea] at e9; rw [Sum.inl.inj e9]) (fun x hx hx2 => (up_ne hx2).trans (f1 x (by omega)))
    rw [ea] at k
    exact k
  | inr E =>
    have k := kk h1 f hq1 ho1 (fun z9 e9 => by rw [ea] at e9; cases e9) (fun x hx _ => f1 x (by omega))
    have hE := err_L_sweep ea
    rcases hE with e9 | e9 | e9 <;> subst e9
    · rw [ea, cd_1 eIO _] at k
      exact ⟨rfl, okT_catch hc hr [] ⟨0, 10, 13, 21⟩ [⟨0, 10, 17, 15⟩, ⟨0, 10, 21, 13⟩] rfl (fun z hz => absurd hz List.not_mem_nil) rfl (by decide) (in_all (i := 769) (by decide +kernel) rfl) (by decide) ⟨4, 1, 2, Or.inr ⟨dL_sweep_13, rfl⟩, by decide, dL_sweep_15, by decide, dL_sweep_16⟩ k⟩
    · rw [ea, cd_2 _ (a := eIO) (by decide)] at k
      exact ⟨rfl, okT_catch hc hr [⟨0, 10, 13, 21⟩] ⟨0, 10, 17, 15⟩ [⟨0, 10, 21, 13⟩] rfl (fun z hz => by
        rw [List.mem_singleton] at hz
        subst hz
        exact ⟨by decide, eIO, (in_all (i := 769) (by decide +kernel) rfl), by decide⟩) rfl (by decide) (in_all (i := 720) (by decide +kernel) rfl) (by decide) ⟨4, 2, 2, Or.inr ⟨dL_sweep_17, rfl⟩, by decide, dL_sweep_19, by decide, dL_sweep_20⟩ k⟩
    · rw [ea, cd_3 _ (a := eIO) (b := eIS) (by decide) (by decide)] at k
      exact ⟨rfl, okT_catch hc hr [⟨0, 10, 13, 21⟩, ⟨0, 10, 17, 15⟩] ⟨0, 10, 21, 13⟩ [] rfl (fun z hz => by
        simp only [List.mem_cons, List.not_mem_nil, or_false] at hz
        rcases hz with e9 | e9
        · subst e9
          exact ⟨by decide, eIO, (in_all (i := 769) (by decide +kernel) rfl), by decide⟩
        · subst e9
          exact ⟨by decide, eIS, (in_all (i := 720) (by decide +kernel) rfl), by decide⟩) rfl (by decide) (in_all (i := 719) (by decide +kernel) rfl) (by decide) ⟨4, 3, 2, Or.inr ⟨dL_sweep_21, rfl⟩, by decide, dL_sweep_23, by decide, dL_sweep_24⟩ k⟩
def hh_L_undo : List (Nat × Nat × Nat × Nat) := [(0, 8, 11, 15)]
set_option maxHeartbeats 4000000 in
set_option maxRecDepth 100000 in
theorem sL_undo_0 {X : Xt} {n : Nat} {h : HP} {a0 : Nat} {a1 : Nat} {fs1 : List Value} (hc : Cx X cL_undo RL 3 7 159) {K : KT} (hr : CxW X hh_L_undo K) (e1 : At h n a0 (.inl (6, fs1))) (z1 : fs1.length = 6)
    (P : spec_X6_undo [.ref a0] n h (kc X 0 0 3 [(0, .ref a0), (1, .ref a1)] [.int (i3 0), .ref a1] n)) :
    Ok X 1 6 0 [(0, .ref a0), (1, .ref a1)] [] n h := by
  refine ok_aload_n (pc := 0) hc dL_undo_0 rfl 1 rfl ?_
  refine ok_iconst (pc := 1) hc (v := i3 0) dL_undo_1 (by decide) ?_
  refine ok_aload_n (pc := 2) hc dL_undo_2 rfl 0 rfl ?_
  exact ok_callV (pc := 3) (a := a0) (cb := 0) (sb := 0) (st := [.int (i3 0), .ref a1]) hc [] cv_L_33 sp_X6_undo (by decide) dL_undo_3 rfl e1.1 e1.2 rfl rfl rfl (Nat.le_of_ble_eq_true rfl) P
set_option maxHeartbeats 4000000 in
set_option maxRecDepth 100000 in
theorem sL_undo_6 {X : Xt} {n : Nat} {h : HP} {a0 : Nat} {a1 : Nat} {t0 : Int} {t1 : Int} {ta2 : Nat} {len2 : Nat} {f2 : Nat → Int} (hc : Cx X cL_undo RL 3 7 159) {K : KT} (hr : CxW X hh_L_undo K) (e2 : At h n ta2 (al len2 f2))
    (P : (R3 t0) ∧ (Ix t1 len2) ∧ K (.inl (some (.int (i3 0)))) n (va_up h ta2 (al len2 (va_up f2 (t1 : Int).toNat t0)))) :
    Ok X 0 0 6 [(0, .ref a0), (1, .ref a1)] [.int (i3 t0), .int (i3 t1), .ref ta2] n h := by
  obtain ⟨r1, P⟩ := P
  refine zk_i2l (pc := 6) hc dL_undo_6 r1 ?_
  obtain ⟨r, P⟩ := P
  refine zk_last (pc := 7) hc dL_undo_7 e2.1 e2.2 r ?_
  refine ok_goto (pc := 8) (tgt := 14) hc dL_undo_8 (by decide) ?_
  refine ok_iconst (pc := 14) hc (v := i3 0) dL_undo_14 (by decide) ?_
  exact ok_iretW (st := []) (pc := 15) hc hr dL_undo_15 P
theorem err_L_undo {q : Dsk} {E : String} (h : (opUndo q).2 = .inr E) : E = eIS := by
  unfold opUndo at h
  (repeat' split at h) <;> first | (cases h; done) | (have e9 := Sum.inr.inj h; subst e9; first | exact rfl | exact Or.inl rfl | exact Or.inr rfl | exact Or.inr (Or.inl rfl) | exact Or.inr (Or.inr rfl))
def spec_L_undo (args : List Value) (n : Nat) (h : HP) (K : KT) : Prop := ∃ (q : Dsk) (o : Nat) (f : Nat → Int), args = [.ref 0, .ref o] ∧ DkA h n q ∧ At h n o (al 1 f) ∧ 127 < o ∧ ∀ (h' : HP) (g : Nat → Int), DkA h' n (opUndo q).1 → At h' n o (al 1 g) → (∀ z, (opUndo q).2 = .inl z → g 0 = (i3 z).toInt) → (∀ x, 127 < x → x ≠ o → h' x = h x) → K (.inl (some (.int (i3 (cdL [eIS] ((opUndo q).2)))))) n h'
theorem sp_L_undo : SpW yL_undo cL_undo 3 hh_L_undo 7 159 1 6 spec_L_undo := by
  refine sp_introW (by decide) (by rintro args n h K ⟨q, o, f, rfl, -⟩; exact Nat.le_of_ble_eq_true rfl) ?_
  rintro X args n h K hc hr ⟨q, o, f, rfl, hq, ho, h127, kk⟩
  refine sL_undo_0 hc hr hq.1 rfl ⟨q, rfl, hq, fun h1 hq1 f1 => ?_⟩
  have ho1 : At h1 n o (al 1 f) := ho.fr f1 (by omega)
  cases ea : (opUndo q).2 with
  | inl z =>
    refine ⟨rfl, ?_⟩
    show Ok X 0 0 6 [(0, .ref 0), (1, .ref o)] [.int (i3 z), .int (i3 0), .ref o] n h1
    rw [← i3_T (i3 z)]
    refine sL_undo_6 hc hr ho1 ⟨R3_T _, ⟨by decide, by decide, by decide⟩, ?_⟩
    have k := kk (va_up h1 o (al 1 (va_up f 0 (i3 z).toInt))) (va_up f 0 (i3 z).toInt) (hq1.out (Fr.rf.up (c := o) (lo := o) (hi := o) (by omega)) h127) ho1.it (fun z9 e9 => by rw [up_self]; rw [ea] at e9; rw [Sum.inl.inj e9]) (fun x hx hx2 => (up_ne hx2).trans (f1 x (by omega)))
    rw [ea] at k
    exact k
  | inr E =>
    have k := kk h1 f hq1 ho1 (fun z9 e9 => by rw [ea] at e9; cases e9) (fun x hx _ => f1 x (by omega))
    have hE := err_L_undo ea
    subst hE
    · rw [ea, cd_1 eIS _] at k
      exact ⟨rfl, okT_catch hc hr [] ⟨0, 8, 11, 15⟩ [] rfl (fun z hz => absurd hz List.not_mem_nil) rfl (by decide) (in_all (i := 720) (by decide +kernel) rfl) (by decide) ⟨2, 1, 1, Or.inl ⟨2, dL_undo_11, rfl, rfl⟩, by decide, dL_undo_12, by decide, dL_undo_13⟩ k⟩
def hh_L_keep : List (Nat × Nat × Nat × Nat) := [(0, 9, 12, 21)]
set_option maxHeartbeats 4000000 in
set_option maxRecDepth 100000 in
theorem sL_keep_0 {X : Xt} {n : Nat} {h : HP} {a0 : Nat} {x1 : Int} {a2 : Nat} {fs1 : List Value} (hc : Cx X cL_keep RL 4 8 132) {K : KT} (hr : CxW X hh_L_keep K) (e1 : At h n a0 (.inl (6, fs1))) (z1 : fs1.length = 6)
    (P : spec_X6_keep [.ref a0, .int (i3 x1)] n h (kc X 0 0 4 [(0, .ref a0), (1, .int (i3 x1)), (2, .ref a2)] [.int (i3 0), .ref a2] n)) :
    Ok X 1 6 0 [(0, .ref a0), (1, .int (i3 x1)), (2, .ref a2)] [] n h := by
  refine ok_aload_n (pc := 0) hc dL_keep_0 rfl 2 rfl ?_
  refine ok_iconst (pc := 1) hc (v := i3 0) dL_keep_1 (by decide) ?_
  refine ok_aload_n (pc := 2) hc dL_keep_2 rfl 0 rfl ?_
  refine ok_iload_n (pc := 3) hc dL_keep_3 rfl 1 rfl ?_
  exact ok_callV (pc := 4) (a := a0) (cb := 0) (sb := 0) (st := [.int (i3 0), .ref a2]) hc [.int (i3 x1)] cv_L_36 sp_X6_keep (by decide) dL_keep_4 rfl e1.1 e1.2 rfl rfl rfl (Nat.le_of_ble_eq_true rfl) P
set_option maxHeartbeats 4000000 in
set_option maxRecDepth 100000 in
theorem sL_keep_7 {X : Xt} {n : Nat} {h : HP} {a0 : Nat} {x1 : Int} {a2 : Nat} {t0 : Int} {t1 : Int} {ta2 : Nat} {len2 : Nat} {f2 : Nat → Int} (hc : Cx X cL_keep RL 4 8 132) {K : KT} (hr : CxW X hh_L_keep K) (e2 : At h n ta2 (al len2 f2))
    (P : (R3 t0) ∧ (Ix t1 len2) ∧ K (.inl (some (.int (i3 0)))) n (va_up h ta2 (al len2 (va_up f2 (t1 : Int).toNat t0)))) :
    Ok X 0 0 7 [(0, .ref a0), (1, .int (i3 x1)), (2, .ref a2)] [.int (i3 t0), .int (i3 t1), .ref ta2] n h := by
  obtain ⟨r1, P⟩ := P
  refine zk_i2l (pc := 7) hc dL_keep_7 r1 ?_
  obtain ⟨r, P⟩ := P
  refine zk_last (pc := 8) hc dL_keep_8 e2.1 e2.2 r ?_
  refine ok_goto (pc := 9) (tgt := 15) hc dL_keep_9 (by decide) ?_
  refine ok_iconst (pc := 15) hc (v := i3 0) dL_keep_15 (by decide) ?_
  exact ok_iretW (st := []) (pc := 16) hc hr dL_keep_16 P
theorem err_L_keep {q : Dsk} {x : Int} {E : String} (h : (opKeep q x).2 = .inr E) : E = eIO := by
  unfold opKeep at h
  (repeat' split at h) <;> first | (cases h; done) | (have e9 := Sum.inr.inj h; subst e9; first | exact rfl | exact Or.inl rfl | exact Or.inr rfl | exact Or.inr (Or.inl rfl) | exact Or.inr (Or.inr rfl))
def spec_L_keep (args : List Value) (n : Nat) (h : HP) (K : KT) : Prop := ∃ (q : Dsk) (o : Nat) (f : Nat → Int) (x : Int), args = [.ref 0, .int (i3 x), .ref o] ∧ R3 x ∧ DkA h n q ∧ At h n o (al 1 f) ∧ 127 < o ∧ ∀ (h' : HP) (g : Nat → Int), DkA h' n (opKeep q x).1 → At h' n o (al 1 g) → (∀ z, (opKeep q x).2 = .inl z → g 0 = (i3 z).toInt) → (∀ x, 127 < x → x ≠ o → h' x = h x) → K (.inl (some (.int (i3 (cdL [eIO] ((opKeep q x).2)))))) n h'
theorem sp_L_keep : SpW yL_keep cL_keep 4 hh_L_keep 8 132 1 6 spec_L_keep := by
  refine sp_introW (by decide) (by rintro args n h K ⟨q, o, f, x, rfl, -⟩; exact Nat.le_of_ble_eq_true rfl) ?_
  rintro X args n h K hc hr ⟨q, o, f, x, rfl, rx, hq, ho, h127, kk⟩
  refine sL_keep_0 hc hr hq.1 rfl ⟨q, x, rfl, rx, hq, fun h1 hq1 f1 => ?_⟩
  have ho1 : At h1 n o (al 1 f) := ho.fr f1 (by omega)
  cases ea : (opKeep q x).2 with
  | inl z =>
    refine ⟨rfl, ?_⟩
    show Ok X 0 0 7 [(0, .ref 0), (1, .int (i3 x)), (2, .ref o)] [.int (i3 z), .int (i3 0), .ref o] n h1
    rw [← i3_T (i3 z)]
    refine sL_keep_7 hc hr ho1 ⟨R3_T _, ⟨by decide, by decide, by decide⟩, ?_⟩
    have k := kk (va_up h1 o (al 1 (va_up f 0 (i3 z).toInt))) (va_up f 0 (i3 z).toInt) (hq1.out (Fr.rf.up (c := o) (lo := o) (hi := o) (by omega)) h127) ho1.it (fun z9 e9 => by rw [up_self]; rw [ea] at e9; rw [Sum.inl.inj e9]) (fun x hx hx2 => (up_ne hx2).trans (f1 x (by omega)))
    rw [ea] at k
    exact k
  | inr E =>
    have k := kk h1 f hq1 ho1 (fun z9 e9 => by rw [ea] at e9; cases e9) (fun x hx _ => f1 x (by omega))
    have hE := err_L_keep ea
    subst hE
    · rw [ea, cd_1 eIO _] at k
      exact ⟨rfl, okT_catch hc hr [] ⟨0, 9, 12, 21⟩ [] rfl (fun z hz => absurd hz List.not_mem_nil) rfl (by decide) (in_all (i := 769) (by decide +kernel) rfl) (by decide) ⟨3, 1, 1, Or.inl ⟨3, dL_keep_12, rfl, rfl⟩, by decide, dL_keep_13, by decide, dL_keep_14⟩ k⟩
def hh_L_back : List (Nat × Nat × Nat × Nat) := [(0, 9, 12, 21), (0, 9, 15, 15)]
set_option maxHeartbeats 4000000 in
set_option maxRecDepth 100000 in
theorem sL_back_0 {X : Xt} {n : Nat} {h : HP} {a0 : Nat} {x1 : Int} {a2 : Nat} {fs1 : List Value} (hc : Cx X cL_back RL 4 8 160) {K : KT} (hr : CxW X hh_L_back K) (e1 : At h n a0 (.inl (6, fs1))) (z1 : fs1.length = 6)
    (P : spec_X6_back [.ref a0, .int (i3 x1)] n h (kc X 0 0 4 [(0, .ref a0), (1, .int (i3 x1)), (2, .ref a2)] [.int (i3 0), .ref a2] n)) :
    Ok X 2 12 0 [(0, .ref a0), (1, .int (i3 x1)), (2, .ref a2)] [] n h := by
  refine ok_aload_n (pc := 0) hc dL_back_0 rfl 2 rfl ?_
  refine ok_iconst (pc := 1) hc (v := i3 0) dL_back_1 (by decide) ?_
  refine ok_aload_n (pc := 2) hc dL_back_2 rfl 0 rfl ?_
  refine ok_iload_n (pc := 3) hc dL_back_3 rfl 1 rfl ?_
  exact ok_callV (pc := 4) (a := a0) (cb := 0) (sb := 0) (st := [.int (i3 0), .ref a2]) hc [.int (i3 x1)] cv_L_39 sp_X6_back (by decide) dL_back_4 rfl e1.1 e1.2 rfl rfl rfl (Nat.le_of_ble_eq_true rfl) P
set_option maxHeartbeats 4000000 in
set_option maxRecDepth 100000 in
theorem sL_back_7 {X : Xt} {n : Nat} {h : HP} {a0 : Nat} {x1 : Int} {a2 : Nat} {t0 : Int} {t1 : Int} {ta2 : Nat} {len2 : Nat} {f2 : Nat → Int} (hc : Cx X cL_back RL 4 8 160) {K : KT} (hr : CxW X hh_L_back K) (e2 : At h n ta2 (al len2 f2))
    (P : (R3 t0) ∧ (Ix t1 len2) ∧ K (.inl (some (.int (i3 0)))) n (va_up h ta2 (al len2 (va_up f2 (t1 : Int).toNat t0)))) :
    Ok X 0 0 7 [(0, .ref a0), (1, .int (i3 x1)), (2, .ref a2)] [.int (i3 t0), .int (i3 t1), .ref ta2] n h := by
  obtain ⟨r1, P⟩ := P
  refine zk_i2l (pc := 7) hc dL_back_7 r1 ?_
  obtain ⟨r, P⟩ := P
  refine zk_last (pc := 8) hc dL_back_8 e2.1 e2.2 r ?_
  refine ok_goto (pc := 9) (tgt := 18) hc dL_back_9 (by decide) ?_
  refine ok_iconst (pc := 18) hc (v := i3 0) dL_back_18 (by decide) ?_
  exact ok_iretW (st := []) (pc := 19) hc hr dL_back_19 P
theorem err_L_back {q : Dsk} {x : Int} {E : String} (h : (opBack q x).2 = .inr E) : E = eIO ∨ E = eIS := by
  unfold opBack at h
  (repeat' split at h) <;> first | (cases h; done) | (have e9 := Sum.inr.inj h; subst e9; first | exact rfl | exact Or.inl rfl | exact Or.inr rfl | exact Or.inr (Or.inl rfl) | exact Or.inr (Or.inr rfl))
def spec_L_back (args : List Value) (n : Nat) (h : HP) (K : KT) : Prop := ∃ (q : Dsk) (o : Nat) (f : Nat → Int) (x : Int), args = [.ref 0, .int (i3 x), .ref o] ∧ R3 x ∧ DkA h n q ∧ At h n o (al 1 f) ∧ 127 < o ∧ ∀ (h' : HP) (g : Nat → Int), DkA h' n (opBack q x).1 → At h' n o (al 1 g) → (∀ z, (opBack q x).2 = .inl z → g 0 = (i3 z).toInt) → (∀ x, 127 < x → x ≠ o → h' x = h x) → K (.inl (some (.int (i3 (cdL [eIO, eIS] ((opBack q x).2)))))) n h'
theorem sp_L_back : SpW yL_back cL_back 4 hh_L_back 8 160 2 12 spec_L_back := by
  refine sp_introW (by decide) (by rintro args n h K ⟨q, o, f, x, rfl, -⟩; exact Nat.le_of_ble_eq_true rfl) ?_
  rintro X args n h K hc hr ⟨q, o, f, x, rfl, rx, hq, ho, h127, kk⟩
  refine sL_back_0 hc hr hq.1 rfl ⟨q, x, rfl, rx, hq, fun h1 hq1 f1 => ?_⟩
  have ho1 : At h1 n o (al 1 f) := ho.fr f1 (by omega)
  cases ea : (opBack q x).2 with
  | inl z =>
    refine ⟨rfl, ?_⟩
    show Ok X 0 0 7 [(0, .ref 0), (1, .int (i3 x)), (2, .ref o)] [.int (i3 z), .int (i3 0), .ref o] n h1
    rw [← i3_T (i3 z)]
    refine sL_back_7 hc hr ho1 ⟨R3_T _, ⟨by decide, by decide, by decide⟩, ?_⟩
    have k := kk (va_up h1 o (al 1 (va_up f 0 (i3 z).toInt))) (va_up f 0 (i3 z).toInt) (hq1.out (Fr.rf.up (c := o) (lo := o) (hi := o) (by omega)) h127) ho1.it (fun z9 e9 => by rw [up_self]; rw [ea] at e9; rw [Sum.inl.inj e9]) (fun x hx hx2 => (up_ne hx2).trans (f1 x (by omega)))
    rw [ea] at k
    exact k
  | inr E =>
    have k := kk h1 f hq1 ho1 (fun z9 e9 => by rw [ea] at e9; cases e9) (fun x hx _ => f1 x (by omega))
    have hE := err_L_back ea
    rcases hE with e9 | e9 <;> subst e9
    · rw [ea, cd_1 eIO _] at k
      exact ⟨rfl, okT_catch hc hr [] ⟨0, 9, 12, 21⟩ [⟨0, 9, 15, 15⟩] rfl (fun z hz => absurd hz List.not_mem_nil) rfl (by decide) (in_all (i := 769) (by decide +kernel) rfl) (by decide) ⟨3, 1, 1, Or.inl ⟨3, dL_back_12, rfl, rfl⟩, by decide, dL_back_13, by decide, dL_back_14⟩ k⟩
    · rw [ea, cd_2 _ (a := eIO) (by decide)] at k
      exact ⟨rfl, okT_catch hc hr [⟨0, 9, 12, 21⟩] ⟨0, 9, 15, 15⟩ [] rfl (fun z hz => by
        rw [List.mem_singleton] at hz
        subst hz
        exact ⟨by decide, eIO, (in_all (i := 769) (by decide +kernel) rfl), by decide⟩) rfl (by decide) (in_all (i := 720) (by decide +kernel) rfl) (by decide) ⟨3, 2, 1, Or.inl ⟨3, dL_back_15, rfl, rfl⟩, by decide, dL_back_16, by decide, dL_back_17⟩ k⟩
def hh_L_append : List (Nat × Nat × Nat × Nat) := [(0, 9, 12, 13), (0, 9, 15, 15)]
set_option maxHeartbeats 4000000 in
set_option maxRecDepth 100000 in
theorem sL_append_0 {X : Xt} {n : Nat} {h : HP} {a0 : Nat} {x1 : Int} {a2 : Nat} {fs1 : List Value} (hc : Cx X cL_append RL 4 7 111) {K : KT} (hr : CxW X hh_L_append K) (e1 : At h n a0 (.inl (6, fs1))) (z1 : fs1.length = 6)
    (P : spec_X6_append [.ref a0, .int (i3 x1)] n h (kc X 0 0 4 [(0, .ref a0), (1, .int (i3 x1)), (2, .ref a2)] [.int (i3 0), .ref a2] n)) :
    Ok X 1 6 0 [(0, .ref a0), (1, .int (i3 x1)), (2, .ref a2)] [] n h := by
  refine ok_aload_n (pc := 0) hc dL_append_0 rfl 2 rfl ?_
  refine ok_iconst (pc := 1) hc (v := i3 0) dL_append_1 (by decide) ?_
  refine ok_aload_n (pc := 2) hc dL_append_2 rfl 0 rfl ?_
  refine ok_iload_n (pc := 3) hc dL_append_3 rfl 1 rfl ?_
  exact ok_callV (pc := 4) (a := a0) (cb := 0) (sb := 0) (st := [.int (i3 0), .ref a2]) hc [.int (i3 x1)] cv_L_42 sp_X6_append (by decide) dL_append_4 rfl e1.1 e1.2 rfl rfl rfl (Nat.le_of_ble_eq_true rfl) P
set_option maxHeartbeats 4000000 in
set_option maxRecDepth 100000 in
theorem sL_append_7 {X : Xt} {n : Nat} {h : HP} {a0 : Nat} {x1 : Int} {a2 : Nat} {t0 : Int} {t1 : Int} {ta2 : Nat} {len2 : Nat} {f2 : Nat → Int} (hc : Cx X cL_append RL 4 7 111) {K : KT} (hr : CxW X hh_L_append K) (e2 : At h n ta2 (al len2 f2))
    (P : (R3 t0) ∧ (Ix t1 len2) ∧ K (.inl (some (.int (i3 0)))) n (va_up h ta2 (al len2 (va_up f2 (t1 : Int).toNat t0)))) :
    Ok X 0 0 7 [(0, .ref a0), (1, .int (i3 x1)), (2, .ref a2)] [.int (i3 t0), .int (i3 t1), .ref ta2] n h := by
  obtain ⟨r1, P⟩ := P
  refine zk_i2l (pc := 7) hc dL_append_7 r1 ?_
  obtain ⟨r, P⟩ := P
  refine zk_last (pc := 8) hc dL_append_8 e2.1 e2.2 r ?_
  refine ok_goto (pc := 9) (tgt := 18) hc dL_append_9 (by decide) ?_
  refine ok_iconst (pc := 18) hc (v := i3 0) dL_append_18 (by decide) ?_
  exact ok_iretW (st := []) (pc := 19) hc hr dL_append_19 P
theorem err_L_append {q : Dsk} {x : Int} {E : String} (h : (opAppend q x).2 = .inr E) : E = eIA ∨ E = eIS := by
  unfold opAppend at h
  (repeat' split at h) <;> first | (cases h; done) | (have e9 := Sum.inr.inj h; subst e9; first | exact rfl | exact Or.inl rfl | exact Or.inr rfl | exact Or.inr (Or.inl rfl) | exact Or.inr (Or.inr rfl))
def spec_L_append (args : List Value) (n : Nat) (h : HP) (K : KT) : Prop := ∃ (q : Dsk) (o : Nat) (f : Nat → Int) (x : Int), args = [.ref 0, .int (i3 x), .ref o] ∧ R3 x ∧ DkA h n q ∧ At h n o (al 1 f) ∧ 127 < o ∧ ∀ (h' : HP) (g : Nat → Int), DkA h' n (opAppend q x).1 → At h' n o (al 1 g) → (∀ z, (opAppend q x).2 = .inl z → g 0 = (i3 z).toInt) → (∀ x, 127 < x → x ≠ o → h' x = h x) → K (.inl (some (.int (i3 (cdL [eIA, eIS] ((opAppend q x).2)))))) n h'
theorem sp_L_append : SpW yL_append cL_append 4 hh_L_append 7 111 1 6 spec_L_append := by
  refine sp_introW (by decide) (by rintro args n h K ⟨q, o, f, x, rfl, -⟩; exact Nat.le_of_ble_eq_true rfl) ?_
  rintro X args n h K hc hr ⟨q, o, f, x, rfl, rx, hq, ho, h127, kk⟩
  refine sL_append_0 hc hr hq.1 rfl ⟨q, x, rfl, rx, hq, fun h1 hq1 f1 => ?_⟩
  have ho1 : At h1 n o (al 1 f) := ho.fr f1 (by omega)
  cases ea : (opAppend q x).2 with
  | inl z =>
    refine ⟨rfl, ?_⟩
    show Ok X 0 0 7 [(0, .ref 0), (1, .int (i3 x)), (2, .ref o)] [.int (i3 z), .int (i3 0), .ref o] n h1
    rw [← i3_T (i3 z)]
    refine sL_append_7 hc hr ho1 ⟨R3_T _, ⟨by decide, by decide, by decide⟩, ?_⟩
    have k := kk (va_up h1 o (al 1 (va_up f 0 (i3 z).toInt))) (va_up f 0 (i3 z).toInt) (hq1.out (Fr.rf.up (c := o) (lo := o) (hi := o) (by omega)) h127) ho1.it (fun z9 e9 => by rw [up_self]; rw [ea] at e9; rw [Sum.inl.inj e9]) (fun x hx hx2 => (up_ne hx2).trans (f1 x (by omega)))
    rw [ea] at k
    exact k
  | inr E =>
    have k := kk h1 f hq1 ho1 (fun z9 e9 => by rw [ea] at e9; cases e9) (fun x hx _ => f1 x (by omega))
    have hE := err_L_append ea
    rcases hE with e9 | e9 <;> subst e9
    · rw [ea, cd_1 eIA _] at k
      exact ⟨rfl, okT_catch hc hr [] ⟨0, 9, 12, 13⟩ [⟨0, 9, 15, 15⟩] rfl (fun z hz => absurd hz List.not_mem_nil) rfl (by decide) (in_all (i := 719) (by decide +kernel) rfl) (by decide) ⟨3, 1, 1, Or.inl ⟨3, dL_append_12, rfl, rfl⟩, by decide, dL_append_13, by decide, dL_append_14⟩ k⟩
    · rw [ea, cd_2 _ (a := eIA) (by decide)] at k
      exact ⟨rfl, okT_catch hc hr [⟨0, 9, 12, 13⟩] ⟨0, 9, 15, 15⟩ [] rfl (fun z hz => by
        rw [List.mem_singleton] at hz
        subst hz
        exact ⟨by decide, eIA, (in_all (i := 719) (by decide +kernel) rfl), by decide⟩) rfl (by decide) (in_all (i := 720) (by decide +kernel) rfl) (by decide) ⟨3, 2, 1, Or.inl ⟨3, dL_append_15, rfl, rfl⟩, by decide, dL_append_16, by decide, dL_append_17⟩ k⟩
def hh_L_voltage : List (Nat × Nat × Nat × Nat) := [(0, 9, 12, 21), (0, 9, 16, 13)]
set_option maxHeartbeats 4000000 in
set_option maxRecDepth 100000 in
theorem sL_voltage_0 {X : Xt} {n : Nat} {h : HP} {a0 : Nat} {x1 : Int} {x2 : Int} {a3 : Nat} {fs1 : List Value} (hc : Cx X cL_voltage RL 5 8 132) {K : KT} (hr : CxW X hh_L_voltage K) (e1 : At h n a0 (.inl (6, fs1))) (z1 : fs1.length = 6)
    (P : spec_X6_voltage [.ref a0, .int (i3 x1), .int (i3 x2)] n h (kc X 0 0 5 [(0, .ref a0), (1, .int (i3 x1)), (2, .int (i3 x2)), (3, .ref a3)] [.int (i3 0), .ref a3] n)) :
    Ok X 2 12 0 [(0, .ref a0), (1, .int (i3 x1)), (2, .int (i3 x2)), (3, .ref a3)] [] n h := by
  refine ok_aload_n (pc := 0) hc dL_voltage_0 rfl 3 rfl ?_
  refine ok_iconst (pc := 1) hc (v := i3 0) dL_voltage_1 (by decide) ?_
  refine ok_aload_n (pc := 2) hc dL_voltage_2 rfl 0 rfl ?_
  refine ok_iload_n (pc := 3) hc dL_voltage_3 rfl 1 rfl ?_
  refine ok_iload_n (pc := 4) hc dL_voltage_4 rfl 2 rfl ?_
  exact ok_callV (pc := 5) (a := a0) (cb := 0) (sb := 0) (st := [.int (i3 0), .ref a3]) hc [.int (i3 x1), .int (i3 x2)] cv_L_45 sp_X6_voltage (by decide) dL_voltage_5 rfl e1.1 e1.2 rfl rfl rfl (Nat.le_of_ble_eq_true rfl) P
set_option maxHeartbeats 4000000 in
set_option maxRecDepth 100000 in
theorem sL_voltage_8 {X : Xt} {n : Nat} {h : HP} {a0 : Nat} {x1 : Int} {x2 : Int} {a3 : Nat} {tl0 : Int} {t1 : Int} {ta2 : Nat} {len1 : Nat} {f1 : Nat → Int} (hc : Cx X cL_voltage RL 5 8 132) {K : KT} (hr : CxW X hh_L_voltage K) (e1 : At h n ta2 (al len1 f1))
    (P : (Ix t1 len1) ∧ K (.inl (some (.int (i3 0)))) n (va_up h ta2 (al len1 (va_up f1 (t1 : Int).toNat tl0)))) :
    Ok X 0 0 8 [(0, .ref a0), (1, .int (i3 x1)), (2, .int (i3 x2)), (3, .ref a3)] [.long (i6 tl0), .int (i3 t1), .ref ta2] n h := by
  obtain ⟨r, P⟩ := P
  refine zk_last (pc := 8) hc dL_voltage_8 e1.1 e1.2 r ?_
  refine ok_goto (pc := 9) (tgt := 20) hc dL_voltage_9 (by decide) ?_
  refine ok_iconst (pc := 20) hc (v := i3 0) dL_voltage_20 (by decide) ?_
  exact ok_iretW (st := []) (pc := 21) hc hr dL_voltage_21 P
theorem err_L_voltage {q : Dsk} {k w : Int} {E : String} (h : opVolt q k w = .inr E) : E = eIO ∨ E = eIA := by
  unfold opVolt at h
  (repeat' split at h) <;> first | (cases h; done) | (have e9 := Sum.inr.inj h; subst e9; first | exact rfl | exact Or.inl rfl | exact Or.inr rfl | exact Or.inr (Or.inl rfl) | exact Or.inr (Or.inr rfl))
def spec_L_voltage (args : List Value) (n : Nat) (h : HP) (K : KT) : Prop := ∃ (q : Dsk) (o : Nat) (f : Nat → Int) (k w : Int), args = [.ref 0, .int (i3 k), .int (i3 w), .ref o] ∧ R3 k ∧ R3 w ∧ DkA h n q ∧ At h n o (al 1 f) ∧ 127 < o ∧ ∀ (h' : HP) (g : Nat → Int), DkA h' n q → At h' n o (al 1 g) → (∀ z, opVolt q k w = .inl z → g 0 = (i6 z).toInt) → (∀ x, 127 < x → x ≠ o → h' x = h x) → K (.inl (some (.int (i3 (cdL [eIO, eIA] (opVolt q k w)))))) n h'
theorem sp_L_voltage : SpW yL_voltage cL_voltage 5 hh_L_voltage 8 132 2 12 spec_L_voltage := by
  refine sp_introW (by decide) (by rintro args n h K ⟨q, o, f, k, w, rfl, -⟩; exact Nat.le_of_ble_eq_true rfl) ?_
  rintro X args n h K hc hr ⟨q, o, f, k, w, rfl, rk, rw, hq, ho, h127, kk⟩
  refine sL_voltage_0 hc hr hq.1 rfl ⟨q, k, w, rfl, rk, rw, hq, fun h1 hq1 f1 => ?_⟩
  have ho1 : At h1 n o (al 1 f) := ho.fr f1 (by omega)
  cases ea : opVolt q k w with
  | inl z =>
    refine ⟨rfl, ?_⟩
    show Ok X 0 0 8 [(0, .ref 0), (1, .int (i3 k)), (2, .int (i3 w)), (3, .ref o)] [.long (i6 z), .int (i3 0), .ref o] n h1
    rw [← i6_T (i6 z)]
    refine sL_voltage_8 hc hr ho1 ⟨⟨by decide, by decide, by decide⟩, ?_⟩
    have k := kk (va_up h1 o (al 1 (va_up f 0 (i6 z).toInt))) (va_up f 0 (i6 z).toInt) (hq1.out (Fr.rf.up (c := o) (lo := o) (hi := o) (by omega)) h127) ho1.it (fun z9 e9 => by rw [up_self]; rw [ea] at e9; rw [Sum.inl.inj e9]) (fun x hx hx2 => (up_ne hx2).trans (f1 x (by omega)))
    rw [ea] at k
    exact k
  | inr E =>
    have k := kk h1 f hq1 ho1 (fun z9 e9 => by rw [ea] at e9; cases e9) (fun x hx _ => f1 x (by omega))
    have hE := err_L_voltage ea
    rcases hE with e9 | e9 <;> subst e9
    · rw [ea, cd_1 eIO _] at k
      exact ⟨rfl, okT_catch hc hr [] ⟨0, 9, 12, 21⟩ [⟨0, 9, 16, 13⟩] rfl (fun z hz => absurd hz List.not_mem_nil) rfl (by decide) (in_all (i := 769) (by decide +kernel) rfl) (by decide) ⟨4, 1, 2, Or.inr ⟨dL_voltage_12, rfl⟩, by decide, dL_voltage_14, by decide, dL_voltage_15⟩ k⟩
    · rw [ea, cd_2 _ (a := eIO) (by decide)] at k
      exact ⟨rfl, okT_catch hc hr [⟨0, 9, 12, 21⟩] ⟨0, 9, 16, 13⟩ [] rfl (fun z hz => by
        rw [List.mem_singleton] at hz
        subst hz
        exact ⟨by decide, eIO, (in_all (i := 769) (by decide +kernel) rfl), by decide⟩) rfl (by decide) (in_all (i := 719) (by decide +kernel) rfl) (by decide) ⟨4, 2, 2, Or.inr ⟨dL_voltage_16, rfl⟩, by decide, dL_voltage_18, by decide, dL_voltage_19⟩ k⟩
def hh_L_current : List (Nat × Nat × Nat × Nat) := [(0, 9, 12, 21), (0, 9, 16, 15), (0, 9, 20, 13)]
set_option maxHeartbeats 4000000 in
set_option maxRecDepth 100000 in
theorem sL_current_0 {X : Xt} {n : Nat} {h : HP} {a0 : Nat} {x1 : Int} {x2 : Int} {a3 : Nat} {fs1 : List Value} (hc : Cx X cL_current RL 5 8 136) {K : KT} (hr : CxW X hh_L_current K) (e1 : At h n a0 (.inl (6, fs1))) (z1 : fs1.length = 6)
    (P : spec_X6_current [.ref a0, .int (i3 x1), .int (i3 x2)] n h (kc X 0 0 5 [(0, .ref a0), (1, .int (i3 x1)), (2, .int (i3 x2)), (3, .ref a3)] [.int (i3 0), .ref a3] n)) :
    Ok X 3 18 0 [(0, .ref a0), (1, .int (i3 x1)), (2, .int (i3 x2)), (3, .ref a3)] [] n h := by
  refine ok_aload_n (pc := 0) hc dL_current_0 rfl 3 rfl ?_
  refine ok_iconst (pc := 1) hc (v := i3 0) dL_current_1 (by decide) ?_
  refine ok_aload_n (pc := 2) hc dL_current_2 rfl 0 rfl ?_
  refine ok_iload_n (pc := 3) hc dL_current_3 rfl 1 rfl ?_
  refine ok_iload_n (pc := 4) hc dL_current_4 rfl 2 rfl ?_
  exact ok_callV (pc := 5) (a := a0) (cb := 0) (sb := 0) (st := [.int (i3 0), .ref a3]) hc [.int (i3 x1), .int (i3 x2)] cv_L_49 sp_X6_current (by decide) dL_current_5 rfl e1.1 e1.2 rfl rfl rfl (Nat.le_of_ble_eq_true rfl) P
set_option maxHeartbeats 4000000 in
set_option maxRecDepth 100000 in
theorem sL_current_8 {X : Xt} {n : Nat} {h : HP} {a0 : Nat} {x1 : Int} {x2 : Int} {a3 : Nat} {tl0 : Int} {t1 : Int} {ta2 : Nat} {len1 : Nat} {f1 : Nat → Int} (hc : Cx X cL_current RL 5 8 136) {K : KT} (hr : CxW X hh_L_current K) (e1 : At h n ta2 (al len1 f1))
    (P : (Ix t1 len1) ∧ K (.inl (some (.int (i3 0)))) n (va_up h ta2 (al len1 (va_up f1 (t1 : Int).toNat tl0)))) :
    Ok X 0 0 8 [(0, .ref a0), (1, .int (i3 x1)), (2, .int (i3 x2)), (3, .ref a3)] [.long (i6 tl0), .int (i3 t1), .ref ta2] n h := by
  obtain ⟨r, P⟩ := P
  refine zk_last (pc := 8) hc dL_current_8 e1.1 e1.2 r ?_
  refine ok_goto (pc := 9) (tgt := 24) hc dL_current_9 (by decide) ?_
  refine ok_iconst (pc := 24) hc (v := i3 0) dL_current_24 (by decide) ?_
  exact ok_iretW (st := []) (pc := 25) hc hr dL_current_25 P
theorem err_L_current {q : Dsk} {x w : Int} {E : String} (h : opCurr q x w = .inr E) : E = eIO ∨ E = eIS ∨ E = eIA := by
  unfold opCurr at h
  (repeat' split at h) <;> first | (cases h; done) | (have e9 := Sum.inr.inj h; subst e9; first | exact rfl | exact Or.inl rfl | exact Or.inr rfl | exact Or.inr (Or.inl rfl) | exact Or.inr (Or.inr rfl))
def spec_L_current (args : List Value) (n : Nat) (h : HP) (K : KT) : Prop := ∃ (q : Dsk) (o : Nat) (f : Nat → Int) (x w : Int), args = [.ref 0, .int (i3 x), .int (i3 w), .ref o] ∧ R3 x ∧ R3 w ∧ DkA h n q ∧ At h n o (al 1 f) ∧ 127 < o ∧ ∀ (h' : HP) (g : Nat → Int), DkA h' n q → At h' n o (al 1 g) → (∀ z, opCurr q x w = .inl z → g 0 = (i6 z).toInt) → (∀ x, 127 < x → x ≠ o → h' x = h x) → K (.inl (some (.int (i3 (cdL [eIO, eIS, eIA] (opCurr q x w)))))) n h'
theorem sp_L_current : SpW yL_current cL_current 5 hh_L_current 8 136 3 18 spec_L_current := by
  refine sp_introW (by decide) (by rintro args n h K ⟨q, o, f, x, w, rfl, -⟩; exact Nat.le_of_ble_eq_true rfl) ?_
  rintro X args n h K hc hr ⟨q, o, f, x, w, rfl, rx, rw, hq, ho, h127, kk⟩
  refine sL_current_0 hc hr hq.1 rfl ⟨q, x, w, rfl, rx, rw, hq, fun h1 hq1 f1 => ?_⟩
  have ho1 : At h1 n o (al 1 f) := ho.fr f1 (by omega)
  cases ea : opCurr q x w with
  | inl z =>
    refine ⟨rfl, ?_⟩
    show Ok X 0 0 8 [(0, .ref 0), (1, .int (i3 x)), (2, .int (i3 w)), (3, .ref o)] [.long (i6 z), .int (i3 0), .ref o] n h1
    rw [← i6_T (i6 z)]
    refine sL_current_8 hc hr ho1 ⟨⟨by decide, by decide, by decide⟩, ?_⟩
    have k := kk (va_up h1 o (al 1 (va_up f 0 (i6 z).toInt))) (va_up f 0 (i6 z).toInt) (hq1.out (Fr.rf.up (c := o) (lo := o) (hi := o) (by omega)) h127) ho1.it (fun z9 e9 => by rw [up_self]; rw [ea] at e9; rw [Sum.inl.inj e9]) (fun x hx hx2 => (up_ne hx2).trans (f1 x (by omega)))
    rw [ea] at k
    exact k
  | inr E =>
    have k := kk h1 f hq1 ho1 (fun z9 e9 => by rw [ea] at e9; cases e9) (fun x hx _ => f1 x (by omega))
    have hE := err_L_current ea
    rcases hE with e9 | e9 | e9 <;> subst e9
    · rw [ea, cd_1 eIO _] at k
      exact ⟨rfl, okT_catch hc hr [] ⟨0, 9, 12, 21⟩ [⟨0, 9, 16, 15⟩, ⟨0, 9, 20, 13⟩] rfl (fun z hz => absurd hz List.not_mem_nil) rfl (by decide) (in_all (i := 769) (by decide +kernel) rfl) (by decide) ⟨4, 1, 2, Or.inr ⟨dL_current_12, rfl⟩, by decide, dL_current_14, by decide, dL_current_15⟩ k⟩
    · rw [ea, cd_2 _ (a := eIO) (by decide)] at k
      exact ⟨rfl, okT_catch hc hr [⟨0, 9, 12, 21⟩] ⟨0, 9, 16, 15⟩ [⟨0, 9, 20, 13⟩] rfl (fun z hz => by
        rw [List.mem_singleton] at hz
        subst hz
        exact ⟨by decide, eIO, (in_all (i := 769) (by decide +kernel) rfl), by decide⟩) rfl (by decide) (in_all (i := 720) (by decide +kernel) rfl) (by decide) ⟨4, 2, 2, Or.inr ⟨dL_current_16, rfl⟩, by decide, dL_current_18, by decide, dL_current_19⟩ k⟩
    · rw [ea, cd_3 _ (a := eIO) (b := eIS) (by decide) (by decide)] at k
      exact ⟨rfl, okT_catch hc hr [⟨0, 9, 12, 21⟩, ⟨0, 9, 16, 15⟩] ⟨0, 9, 20, 13⟩ [] rfl (fun z hz => by
        simp only [List.mem_cons, List.not_mem_nil, or_false] at hz
        rcases hz with e9 | e9
        · subst e9
          exact ⟨by decide, eIO, (in_all (i := 769) (by decide +kernel) rfl), by decide⟩
        · subst e9
          exact ⟨by decide, eIS, (in_all (i := 720) (by decide +kernel) rfl), by decide⟩) rfl (by decide) (in_all (i := 719) (by decide +kernel) rfl) (by decide) ⟨4, 3, 2, Or.inr ⟨dL_current_20, rfl⟩, by decide, dL_current_22, by decide, dL_current_23⟩ k⟩
def hh_L_amplifier : List (Nat × Nat × Nat × Nat) := [(0, 10, 13, 21), (0, 10, 17, 13)]
set_option maxHeartbeats 4000000 in
set_option maxRecDepth 100000 in
theorem sL_amplifier_0 {X : Xt} {n : Nat} {h : HP} {a0 : Nat} {x1 : Int} {x2 : Int} {a3 : Nat} {fs1 : List Value} (hc : Cx X cL_amplifier RL 5 7 112) {K : KT} (hr : CxW X hh_L_amplifier K) (e1 : At h n a0 (.inl (6, fs1))) (z1 : fs1.length = 6)
    (P : spec_X6_amplifier [.ref a0, .int (i3 x1), .int (i3 x2)] n h (kc X 0 0 5 [(0, .ref a0), (1, .int (i3 x1)), (2, .int (i3 x2)), (3, .ref a3)] [.int (i3 0), .ref a3] n)) :
    Ok X 1 6 0 [(0, .ref a0), (1, .int (i3 x1)), (2, .int (i3 x2)), (3, .ref a3)] [] n h := by
  refine ok_aload_n (pc := 0) hc dL_amplifier_0 rfl 3 rfl ?_
  refine ok_iconst (pc := 1) hc (v := i3 0) dL_amplifier_1 (by decide) ?_
  refine ok_aload_n (pc := 2) hc dL_amplifier_2 rfl 0 rfl ?_
  refine ok_iload_n (pc := 3) hc dL_amplifier_3 rfl 1 rfl ?_
  refine ok_iload_n (pc := 4) hc dL_amplifier_4 rfl 2 rfl ?_
  exact ok_callV (pc := 5) (a := a0) (cb := 0) (sb := 0) (st := [.int (i3 0), .ref a3]) hc [.int (i3 x1), .int (i3 x2)] cv_L_52 sp_X6_amplifier (by decide) dL_amplifier_5 rfl e1.1 e1.2 rfl rfl rfl (Nat.le_of_ble_eq_true rfl) P
set_option maxHeartbeats 4000000 in
set_option maxRecDepth 100000 in
theorem sL_amplifier_8 {X : Xt} {n : Nat} {h : HP} {a0 : Nat} {x1 : Int} {x2 : Int} {a3 : Nat} {t0 : Int} {t1 : Int} {ta2 : Nat} {len2 : Nat} {f2 : Nat → Int} (hc : Cx X cL_amplifier RL 5 7 112) {K : KT} (hr : CxW X hh_L_amplifier K) (e2 : At h n ta2 (al len2 f2))
    (P : (R3 t0) ∧ (Ix t1 len2) ∧ K (.inl (some (.int (i3 0)))) n (va_up h ta2 (al len2 (va_up f2 (t1 : Int).toNat t0)))) :
    Ok X 0 0 8 [(0, .ref a0), (1, .int (i3 x1)), (2, .int (i3 x2)), (3, .ref a3)] [.int (i3 t0), .int (i3 t1), .ref ta2] n h := by
  obtain ⟨r1, P⟩ := P
  refine zk_i2l (pc := 8) hc dL_amplifier_8 r1 ?_
  obtain ⟨r, P⟩ := P
  refine zk_last (pc := 9) hc dL_amplifier_9 e2.1 e2.2 r ?_
  refine ok_goto (pc := 10) (tgt := 21) hc dL_amplifier_10 (by decide) ?_
  refine ok_iconst (pc := 21) hc (v := i3 0) dL_amplifier_21 (by decide) ?_
  exact ok_iretW (st := []) (pc := 22) hc hr dL_amplifier_22 P
theorem err_L_amplifier {q : Dsk} {a w : Int} {E : String} (h : opAmp q a w = .inr E) : E = eIO ∨ E = eIA := by
  unfold opAmp at h
  (repeat' split at h) <;> first | (cases h; done) | (have e9 := Sum.inr.inj h; subst e9; first | exact rfl | exact Or.inl rfl | exact Or.inr rfl | exact Or.inr (Or.inl rfl) | exact Or.inr (Or.inr rfl))
def spec_L_amplifier (args : List Value) (n : Nat) (h : HP) (K : KT) : Prop := ∃ (q : Dsk) (o : Nat) (f : Nat → Int) (a w : Int), args = [.ref 0, .int (i3 a), .int (i3 w), .ref o] ∧ R3 a ∧ R3 w ∧ DkA h n q ∧ At h n o (al 1 f) ∧ 127 < o ∧ ∀ (h' : HP) (g : Nat → Int), DkA h' n q → At h' n o (al 1 g) → (∀ z, opAmp q a w = .inl z → g 0 = (i3 z).toInt) → (∀ x, 127 < x → x ≠ o → h' x = h x) → K (.inl (some (.int (i3 (cdL [eIO, eIA] (opAmp q a w)))))) n h'
theorem sp_L_amplifier : SpW yL_amplifier cL_amplifier 5 hh_L_amplifier 7 112 1 6 spec_L_amplifier := by
  refine sp_introW (by decide) (by rintro args n h K ⟨q, o, f, a, w, rfl, -⟩; exact Nat.le_of_ble_eq_true rfl) ?_
  rintro X args n h K hc hr ⟨q, o, f, a, w, rfl, ra, rw, hq, ho, h127, kk⟩
  refine sL_amplifier_0 hc hr hq.1 rfl ⟨q, a, w, rfl, ra, rw, hq, fun h1 hq1 f1 => ?_⟩
  have ho1 : At h1 n o (al 1 f) := ho.fr f1 (by omega)
  cases ea : opAmp q a w with
  | inl z =>
    refine ⟨rfl, ?_⟩
    show Ok X 0 0 8 [(0, .ref 0), (1, .int (i3 a)), (2, .int (i3 w)), (3, .ref o)] [.int (i3 z), .int (i3 0), .ref o] n h1
    rw [← i3_T (i3 z)]
    refine sL_amplifier_8 hc hr ho1 ⟨R3_T _, ⟨by decide, by decide, by decide⟩, ?_⟩
    have k := kk (va_up h1 o (al 1 (va_up f 0 (i3 z).toInt))) (va_up f 0 (i3 z).toInt) (hq1.out (Fr.rf.up (c := o) (lo := o) (hi := o) (by omega)) h127) ho1.it (fun z9 e9 => by rw [up_self]; rw [ea] at e9; rw [Sum.inl.inj e9]) (fun x hx hx2 => (up_ne hx2).trans (f1 x (by omega)))
    rw [ea] at k
    exact k
  | inr E =>
    have k := kk h1 f hq1 ho1 (fun z9 e9 => by rw [ea] at e9; cases e9) (fun x hx _ => f1 x (by omega))
    have hE := err_L_amplifier ea
    rcases hE with e9 | e9 <;> subst e9
    · rw [ea, cd_1 eIO _] at k
      exact ⟨rfl, okT_catch hc hr [] ⟨0, 10, 13, 21⟩ [⟨0, 10, 17, 13⟩] rfl (fun z hz => absurd hz List.not_mem_nil) rfl (by decide) (in_all (i := 769) (by decide +kernel) rfl) (by decide) ⟨4, 1, 2, Or.inr ⟨dL_amplifier_13, rfl⟩, by decide, dL_amplifier_15, by decide, dL_amplifier_16⟩ k⟩
    · rw [ea, cd_2 _ (a := eIO) (by decide)] at k
      exact ⟨rfl, okT_catch hc hr [⟨0, 10, 13, 21⟩] ⟨0, 10, 17, 13⟩ [] rfl (fun z hz => by
        rw [List.mem_singleton] at hz
        subst hz
        exact ⟨by decide, eIO, (in_all (i := 769) (by decide +kernel) rfl), by decide⟩) rfl (by decide) (in_all (i := 719) (by decide +kernel) rfl) (by decide) ⟨4, 2, 2, Or.inr ⟨dL_amplifier_17, rfl⟩, by decide, dL_amplifier_19, by decide, dL_amplifier_20⟩ k⟩
def hh_L_why : List (Nat × Nat × Nat × Nat) := [(0, 9, 12, 21)]
set_option maxHeartbeats 4000000 in
set_option maxRecDepth 100000 in
theorem sL_why_0 {X : Xt} {n : Nat} {h : HP} {a0 : Nat} {x1 : Int} {a2 : Nat} {fs1 : List Value} (hc : Cx X cL_why RL 4 8 132) {K : KT} (hr : CxW X hh_L_why K) (e1 : At h n a0 (.inl (6, fs1))) (z1 : fs1.length = 6)
    (P : spec_X6_why [.ref a0, .int (i3 x1)] n h (kc X 0 0 4 [(0, .ref a0), (1, .int (i3 x1)), (2, .ref a2)] [.int (i3 0), .ref a2] n)) :
    Ok X 1 6 0 [(0, .ref a0), (1, .int (i3 x1)), (2, .ref a2)] [] n h := by
  refine ok_aload_n (pc := 0) hc dL_why_0 rfl 2 rfl ?_
  refine ok_iconst (pc := 1) hc (v := i3 0) dL_why_1 (by decide) ?_
  refine ok_aload_n (pc := 2) hc dL_why_2 rfl 0 rfl ?_
  refine ok_iload_n (pc := 3) hc dL_why_3 rfl 1 rfl ?_
  exact ok_callV (pc := 4) (a := a0) (cb := 0) (sb := 0) (st := [.int (i3 0), .ref a2]) hc [.int (i3 x1)] cv_L_55 sp_X6_why (by decide) dL_why_4 rfl e1.1 e1.2 rfl rfl rfl (Nat.le_of_ble_eq_true rfl) P
set_option maxHeartbeats 4000000 in
set_option maxRecDepth 100000 in
theorem sL_why_7 {X : Xt} {n : Nat} {h : HP} {a0 : Nat} {x1 : Int} {a2 : Nat} {t0 : Int} {t1 : Int} {ta2 : Nat} {len2 : Nat} {f2 : Nat → Int} (hc : Cx X cL_why RL 4 8 132) {K : KT} (hr : CxW X hh_L_why K) (e2 : At h n ta2 (al len2 f2))
    (P : (R3 t0) ∧ (Ix t1 len2) ∧ K (.inl (some (.int (i3 0)))) n (va_up h ta2 (al len2 (va_up f2 (t1 : Int).toNat t0)))) :
    Ok X 0 0 7 [(0, .ref a0), (1, .int (i3 x1)), (2, .ref a2)] [.int (i3 t0), .int (i3 t1), .ref ta2] n h := by
  obtain ⟨r1, P⟩ := P
  refine zk_i2l (pc := 7) hc dL_why_7 r1 ?_
  obtain ⟨r, P⟩ := P
  refine zk_last (pc := 8) hc dL_why_8 e2.1 e2.2 r ?_
  refine ok_goto (pc := 9) (tgt := 15) hc dL_why_9 (by decide) ?_
  refine ok_iconst (pc := 15) hc (v := i3 0) dL_why_15 (by decide) ?_
  exact ok_iretW (st := []) (pc := 16) hc hr dL_why_16 P
theorem err_L_why {q : Dsk} {c : Int} {E : String} (h : opWhy q c = .inr E) : E = eIO := by
  unfold opWhy at h
  (repeat' split at h) <;> first | (cases h; done) | (have e9 := Sum.inr.inj h; subst e9; first | exact rfl | exact Or.inl rfl | exact Or.inr rfl | exact Or.inr (Or.inl rfl) | exact Or.inr (Or.inr rfl))
def spec_L_why (args : List Value) (n : Nat) (h : HP) (K : KT) : Prop := ∃ (q : Dsk) (o : Nat) (f : Nat → Int) (c : Int), args = [.ref 0, .int (i3 c), .ref o] ∧ R3 c ∧ DkA h n q ∧ At h n o (al 1 f) ∧ 127 < o ∧ ∀ (h' : HP) (g : Nat → Int), DkA h' n q → At h' n o (al 1 g) → (∀ z, opWhy q c = .inl z → g 0 = (i3 z).toInt) → (∀ x, 127 < x → x ≠ o → h' x = h x) → K (.inl (some (.int (i3 (cdL [eIO] (opWhy q c)))))) n h'
theorem sp_L_why : SpW yL_why cL_why 4 hh_L_why 8 132 1 6 spec_L_why := by
  refine sp_introW (by decide) (by rintro args n h K ⟨q, o, f, c, rfl, -⟩; exact Nat.le_of_ble_eq_true rfl) ?_
  rintro X args n h K hc hr ⟨q, o, f, c, rfl, rc, hq, ho, h127, kk⟩
  refine sL_why_0 hc hr hq.1 rfl ⟨q, c, rfl, rc, hq, fun h1 hq1 f1 => ?_⟩
  have ho1 : At h1 n o (al 1 f) := ho.fr f1 (by omega)
  cases ea : opWhy q c with
  | inl z =>
    refine ⟨rfl, ?_⟩
    show Ok X 0 0 7 [(0, .ref 0), (1, .int (i3 c)), (2, .ref o)] [.int (i3 z), .int (i3 0), .ref o] n h1
    rw [← i3_T (i3 z)]
    refine sL_why_7 hc hr ho1 ⟨R3_T _, ⟨by decide, by decide, by decide⟩, ?_⟩
    have k := kk (va_up h1 o (al 1 (va_up f 0 (i3 z).toInt))) (va_up f 0 (i3 z).toInt) (hq1.out (Fr.rf.up (c := o) (lo := o) (hi := o) (by omega)) h127) ho1.it (fun z9 e9 => by rw [up_self]; rw [ea] at e9; rw [Sum.inl.inj e9]) (fun x hx hx2 => (up_ne hx2).trans (f1 x (by omega)))
    rw [ea] at k
    exact k
  | inr E =>
    have k := kk h1 f hq1 ho1 (fun z9 e9 => by rw [ea] at e9; cases e9) (fun x hx _ => f1 x (by omega))
    have hE := err_L_why ea
    subst hE
    · rw [ea, cd_1 eIO _] at k
      exact ⟨rfl, okT_catch hc hr [] ⟨0, 9, 12, 21⟩ [] rfl (fun z hz => absurd hz List.not_mem_nil) rfl (by decide) (in_all (i := 769) (by decide +kernel) rfl) (by decide) ⟨3, 1, 1, Or.inl ⟨3, dL_why_12, rfl, rfl⟩, by decide, dL_why_13, by decide, dL_why_14⟩ k⟩
def hh_L_concerned : List (Nat × Nat × Nat × Nat) := [(0, 9, 12, 21)]
set_option maxHeartbeats 4000000 in
set_option maxRecDepth 100000 in
theorem sL_concerned_0 {X : Xt} {n : Nat} {h : HP} {a0 : Nat} {x1 : Int} {a2 : Nat} {fs1 : List Value} (hc : Cx X cL_concerned RL 4 8 132) {K : KT} (hr : CxW X hh_L_concerned K) (e1 : At h n a0 (.inl (6, fs1))) (z1 : fs1.length = 6)
    (P : spec_X6_concerned [.ref a0, .int (i3 x1)] n h (kc X 0 0 4 [(0, .ref a0), (1, .int (i3 x1)), (2, .ref a2)] [.int (i3 0), .ref a2] n)) :
    Ok X 1 6 0 [(0, .ref a0), (1, .int (i3 x1)), (2, .ref a2)] [] n h := by
  refine ok_aload_n (pc := 0) hc dL_concerned_0 rfl 2 rfl ?_
  refine ok_iconst (pc := 1) hc (v := i3 0) dL_concerned_1 (by decide) ?_
  refine ok_aload_n (pc := 2) hc dL_concerned_2 rfl 0 rfl ?_
  refine ok_iload_n (pc := 3) hc dL_concerned_3 rfl 1 rfl ?_
  exact ok_callV (pc := 4) (a := a0) (cb := 0) (sb := 0) (st := [.int (i3 0), .ref a2]) hc [.int (i3 x1)] cv_L_58 sp_X6_concerned (by decide) dL_concerned_4 rfl e1.1 e1.2 rfl rfl rfl (Nat.le_of_ble_eq_true rfl) P
set_option maxHeartbeats 4000000 in
set_option maxRecDepth 100000 in
theorem sL_concerned_7 {X : Xt} {n : Nat} {h : HP} {a0 : Nat} {x1 : Int} {a2 : Nat} {t0 : Int} {t1 : Int} {ta2 : Nat} {len2 : Nat} {f2 : Nat → Int} (hc : Cx X cL_concerned RL 4 8 132) {K : KT} (hr : CxW X hh_L_concerned K) (e2 : At h n ta2 (al len2 f2))
    (P : (R3 t0) ∧ (Ix t1 len2) ∧ K (.inl (some (.int (i3 0)))) n (va_up h ta2 (al len2 (va_up f2 (t1 : Int).toNat t0)))) :
    Ok X 0 0 7 [(0, .ref a0), (1, .int (i3 x1)), (2, .ref a2)] [.int (i3 t0), .int (i3 t1), .ref ta2] n h := by
  obtain ⟨r1, P⟩ := P
  refine zk_i2l (pc := 7) hc dL_concerned_7 r1 ?_
  obtain ⟨r, P⟩ := P
  refine zk_last (pc := 8) hc dL_concerned_8 e2.1 e2.2 r ?_
  refine ok_goto (pc := 9) (tgt := 15) hc dL_concerned_9 (by decide) ?_
  refine ok_iconst (pc := 15) hc (v := i3 0) dL_concerned_15 (by decide) ?_
  exact ok_iretW (st := []) (pc := 16) hc hr dL_concerned_16 P
theorem err_L_concerned {q : Dsk} {c : Int} {E : String} (h : opConc q c = .inr E) : E = eIO := by
  unfold opConc at h
  (repeat' split at h) <;> first | (cases h; done) | (have e9 := Sum.inr.inj h; subst e9; first | exact rfl | exact Or.inl rfl | exact Or.inr rfl | exact Or.inr (Or.inl rfl) | exact Or.inr (Or.inr rfl))
def spec_L_concerned (args : List Value) (n : Nat) (h : HP) (K : KT) : Prop := ∃ (q : Dsk) (o : Nat) (f : Nat → Int) (c : Int), args = [.ref 0, .int (i3 c), .ref o] ∧ R3 c ∧ DkA h n q ∧ At h n o (al 1 f) ∧ 127 < o ∧ ∀ (h' : HP) (g : Nat → Int), DkA h' n q → At h' n o (al 1 g) → (∀ z, opConc q c = .inl z → g 0 = (i3 z).toInt) → (∀ x, 127 < x → x ≠ o → h' x = h x) → K (.inl (some (.int (i3 (cdL [eIO] (opConc q c)))))) n h'
theorem sp_L_concerned : SpW yL_concerned cL_concerned 4 hh_L_concerned 8 132 1 6 spec_L_concerned := by
  refine sp_introW (by decide) (by rintro args n h K ⟨q, o, f, c, rfl, -⟩; exact Nat.le_of_ble_eq_true rfl) ?_
  rintro X args n h K hc hr ⟨q, o, f, c, rfl, rc, hq, ho, h127, kk⟩
  refine sL_concerned_0 hc hr hq.1 rfl ⟨q, c, rfl, rc, hq, fun h1 hq1 f1 => ?_⟩
  have ho1 : At h1 n o (al 1 f) := ho.fr f1 (by omega)
  cases ea : opConc q c with
  | inl z =>
    refine ⟨rfl, ?_⟩
    show Ok X 0 0 7 [(0, .ref 0), (1, .int (i3 c)), (2, .ref o)] [.int (i3 z), .int (i3 0), .ref o] n h1
    rw [← i3_T (i3 z)]
    refine sL_concerned_7 hc hr ho1 ⟨R3_T _, ⟨by decide, by decide, by decide⟩, ?_⟩
    have k := kk (va_up h1 o (al 1 (va_up f 0 (i3 z).toInt))) (va_up f 0 (i3 z).toInt) (hq1.out (Fr.rf.up (c := o) (lo := o) (hi := o) (by omega)) h127) ho1.it (fun z9 e9 => by rw [up_self]; rw [ea] at e9; rw [Sum.inl.inj e9]) (fun x hx hx2 => (up_ne hx2).trans (f1 x (by omega)))
    rw [ea] at k
    exact k
  | inr E =>
    have k := kk h1 f hq1 ho1 (fun z9 e9 => by rw [ea] at e9; cases e9) (fun x hx _ => f1 x (by omega))
    have hE := err_L_concerned ea
    subst hE
    · rw [ea, cd_1 eIO _] at k
      exact ⟨rfl, okT_catch hc hr [] ⟨0, 9, 12, 21⟩ [] rfl (fun z hz => absurd hz List.not_mem_nil) rfl (by decide) (in_all (i := 769) (by decide +kernel) rfl) (by decide) ⟨3, 1, 1, Or.inl ⟨3, dL_concerned_12, rfl, rfl⟩, by decide, dL_concerned_13, by decide, dL_concerned_14⟩ k⟩
def hh_L_inCase : List (Nat × Nat × Nat × Nat) := [(0, 11, 14, 21), (0, 11, 18, 13)]
set_option maxHeartbeats 4000000 in
set_option maxRecDepth 100000 in
theorem sL_inCase_0 {X : Xt} {n : Nat} {h : HP} {a0 : Nat} {x1 : Int} {x2 : Int} {x3 : Int} {a4 : Nat} {fs1 : List Value} (hc : Cx X cL_inCase RL 6 8 134) {K : KT} (hr : CxW X hh_L_inCase K) (e1 : At h n a0 (.inl (6, fs1))) (z1 : fs1.length = 6)
    (P : spec_X6_inCase [.ref a0, .int (i3 x1), .int (i3 x2), .int (i3 x3)] n h (kc X 0 0 7 [(0, .ref a0), (1, .int (i3 x1)), (2, .int (i3 x2)), (3, .int (i3 x3)), (4, .ref a4)] [.int (i3 0), .ref a4] n)) :
    Ok X 3 18 0 [(0, .ref a0), (1, .int (i3 x1)), (2, .int (i3 x2)), (3, .int (i3 x3)), (4, .ref a4)] [] n h := by
  refine ok_aload (pc := 0) hc dL_inCase_0 4 rfl ?_
  refine ok_iconst (pc := 2) hc (v := i3 0) dL_inCase_2 (by decide) ?_
  refine ok_aload_n (pc := 3) hc dL_inCase_3 rfl 0 rfl ?_
  refine ok_iload_n (pc := 4) hc dL_inCase_4 rfl 1 rfl ?_
  refine ok_iload_n (pc := 5) hc dL_inCase_5 rfl 2 rfl ?_
  refine ok_iload_n (pc := 6) hc dL_inCase_6 rfl 3 rfl ?_
  exact ok_callV (pc := 7) (a := a0) (cb := 0) (sb := 0) (st := [.int (i3 0), .ref a4]) hc [.int (i3 x1), .int (i3 x2), .int (i3 x3)] cv_L_61 sp_X6_inCase (by decide) dL_inCase_7 rfl e1.1 e1.2 rfl rfl rfl (Nat.le_of_ble_eq_true rfl) P
set_option maxHeartbeats 4000000 in
set_option maxRecDepth 100000 in
theorem sL_inCase_10 {X : Xt} {n : Nat} {h : HP} {a0 : Nat} {x1 : Int} {x2 : Int} {x3 : Int} {a4 : Nat} {tl0 : Int} {t1 : Int} {ta2 : Nat} {len1 : Nat} {f1 : Nat → Int} (hc : Cx X cL_inCase RL 6 8 134) {K : KT} (hr : CxW X hh_L_inCase K) (e1 : At h n ta2 (al len1 f1))
    (P : (Ix t1 len1) ∧ K (.inl (some (.int (i3 0)))) n (va_up h ta2 (al len1 (va_up f1 (t1 : Int).toNat tl0)))) :
    Ok X 0 0 10 [(0, .ref a0), (1, .int (i3 x1)), (2, .int (i3 x2)), (3, .int (i3 x3)), (4, .ref a4)] [.long (i6 tl0), .int (i3 t1), .ref ta2] n h := by
  obtain ⟨r, P⟩ := P
  refine zk_last (pc := 10) hc dL_inCase_10 e1.1 e1.2 r ?_
  refine ok_goto (pc := 11) (tgt := 22) hc dL_inCase_11 (by decide) ?_
  refine ok_iconst (pc := 22) hc (v := i3 0) dL_inCase_22 (by decide) ?_
  exact ok_iretW (st := []) (pc := 23) hc hr dL_inCase_23 P
theorem err_L_inCase {q : Dsk} {c k w : Int} {E : String} (h : opCase q c k w = .inr E) : E = eIO ∨ E = eIA := by
  unfold opCase at h
  (repeat' split at h) <;> first | (cases h; done) | (have e9 := Sum.inr.inj h; subst e9; first | exact rfl | exact Or.inl rfl | exact Or.inr rfl | exact Or.inr (Or.inl rfl) | exact Or.inr (Or.inr rfl))
def spec_L_inCase (args : List Value) (n : Nat) (h : HP) (K : KT) : Prop := ∃ (q : Dsk) (o : Nat) (f : Nat → Int) (c k w : Int), args = [.ref 0, .int (i3 c), .int (i3 k), .int (i3 w), .ref o] ∧ R3 c ∧ R3 k ∧ R3 w ∧ DkA h n q ∧ At h n o (al 1 f) ∧ 127 < o ∧ ∀ (h' : HP) (g : Nat → Int), DkA h' n q → At h' n o (al 1 g) → (∀ z, opCase q c k w = .inl z → g 0 = (i6 z).toInt) → (∀ x, 127 < x → x ≠ o → h' x = h x) → K (.inl (some (.int (i3 (cdL [eIO, eIA] (opCase q c k w)))))) n h'
theorem sp_L_inCase : SpW yL_inCase cL_inCase 6 hh_L_inCase 8 134 3 18 spec_L_inCase := by
  refine sp_introW (by decide) (by rintro args n h K ⟨q, o, f, c, k, w, rfl, -⟩; exact Nat.le_of_ble_eq_true rfl) ?_
  rintro X args n h K hc hr ⟨q, o, f, c, k, w, rfl, rc, rk, rw, hq, ho, h127, kk⟩
  refine sL_inCase_0 hc hr hq.1 rfl ⟨q, c, k, w, rfl, rc, rk, rw, hq, fun h1 hq1 f1 => ?_⟩
  have ho1 : At h1 n o (al 1 f) := ho.fr f1 (by omega)
  cases ea : opCase q c k w with
  | inl z =>
    refine ⟨rfl, ?_⟩
    show Ok X 0 0 10 [(0, .ref 0), (1, .int (i3 c)), (2, .int (i3 k)), (3, .int (i3 w)), (4, .ref o)] [.long (i6 z), .int (i3 0), .ref o] n h1
    rw [← i6_T (i6 z)]
    refine sL_inCase_10 hc hr ho1 ⟨⟨by decide, by decide, by decide⟩, ?_⟩
    have k := kk (va_up h1 o (al 1 (va_up f 0 (i6 z).toInt))) (va_up f 0 (i6 z).toInt) (hq1.out (Fr.rf.up (c := o) (lo := o) (hi := o) (by omega)) h127) ho1.it (fun z9 e9 => by rw [up_self]; rw [ea] at e9; rw [Sum.inl.inj e9]) (fun x hx hx2 => (up_ne hx2).trans (f1 x (by omega)))
    rw [ea] at k
    exact k
  | inr E =>
    have k := kk h1 f hq1 ho1 (fun z9 e9 => by rw [ea] at e9; cases e9) (fun x hx _ => f1 x (by omega))
    have hE := err_L_inCase ea
    rcases hE with e9 | e9 <;> subst e9
    · rw [ea, cd_1 eIO _] at k
      exact ⟨rfl, okT_catch hc hr [] ⟨0, 11, 14, 21⟩ [⟨0, 11, 18, 13⟩] rfl (fun z hz => absurd hz List.not_mem_nil) rfl (by decide) (in_all (i := 769) (by decide +kernel) rfl) (by decide) ⟨5, 1, 2, Or.inr ⟨dL_inCase_14, rfl⟩, by decide, dL_inCase_16, by decide, dL_inCase_17⟩ k⟩
    · rw [ea, cd_2 _ (a := eIO) (by decide)] at k
      exact ⟨rfl, okT_catch hc hr [⟨0, 11, 14, 21⟩] ⟨0, 11, 18, 13⟩ [] rfl (fun z hz => by
        rw [List.mem_singleton] at hz
        subst hz
        exact ⟨by decide, eIO, (in_all (i := 769) (by decide +kernel) rfl), by decide⟩) rfl (by decide) (in_all (i := 719) (by decide +kernel) rfl) (by decide) ⟨5, 2, 2, Or.inr ⟨dL_inCase_18, rfl⟩, by decide, dL_inCase_20, by decide, dL_inCase_21⟩ k⟩
def hh_L_trip : List (Nat × Nat × Nat × Nat) := [(0, 10, 13, 21), (0, 10, 17, 15)]
set_option maxHeartbeats 4000000 in
set_option maxRecDepth 100000 in
theorem sL_trip_0 {X : Xt} {n : Nat} {h : HP} {a0 : Nat} {x1 : Int} {x2 : Int} {a3 : Nat} {fs1 : List Value} (hc : Cx X cL_trip RL 5 9 165) {K : KT} (hr : CxW X hh_L_trip K) (e1 : At h n a0 (.inl (6, fs1))) (z1 : fs1.length = 6)
    (P : spec_X6_trip [.ref a0, .int (i3 x1), .int (i3 x2)] n h (kc X 0 0 5 [(0, .ref a0), (1, .int (i3 x1)), (2, .int (i3 x2)), (3, .ref a3)] [.int (i3 0), .ref a3] n)) :
    Ok X 2 12 0 [(0, .ref a0), (1, .int (i3 x1)), (2, .int (i3 x2)), (3, .ref a3)] [] n h := by
  refine ok_aload_n (pc := 0) hc dL_trip_0 rfl 3 rfl ?_
  refine ok_iconst (pc := 1) hc (v := i3 0) dL_trip_1 (by decide) ?_
  refine ok_aload_n (pc := 2) hc dL_trip_2 rfl 0 rfl ?_
  refine ok_iload_n (pc := 3) hc dL_trip_3 rfl 1 rfl ?_
  refine ok_iload_n (pc := 4) hc dL_trip_4 rfl 2 rfl ?_
  exact ok_callV (pc := 5) (a := a0) (cb := 0) (sb := 0) (st := [.int (i3 0), .ref a3]) hc [.int (i3 x1), .int (i3 x2)] cv_L_65 sp_X6_trip (by decide) dL_trip_5 rfl e1.1 e1.2 rfl rfl rfl (Nat.le_of_ble_eq_true rfl) P
set_option maxHeartbeats 4000000 in
set_option maxRecDepth 100000 in
theorem sL_trip_8 {X : Xt} {n : Nat} {h : HP} {a0 : Nat} {x1 : Int} {x2 : Int} {a3 : Nat} {t0 : Int} {t1 : Int} {ta2 : Nat} {len2 : Nat} {f2 : Nat → Int} (hc : Cx X cL_trip RL 5 9 165) {K : KT} (hr : CxW X hh_L_trip K) (e2 : At h n ta2 (al len2 f2))
    (P : (R3 t0) ∧ (Ix t1 len2) ∧ K (.inl (some (.int (i3 0)))) n (va_up h ta2 (al len2 (va_up f2 (t1 : Int).toNat t0)))) :
    Ok X 0 0 8 [(0, .ref a0), (1, .int (i3 x1)), (2, .int (i3 x2)), (3, .ref a3)] [.int (i3 t0), .int (i3 t1), .ref ta2] n h := by
  obtain ⟨r1, P⟩ := P
  refine zk_i2l (pc := 8) hc dL_trip_8 r1 ?_
  obtain ⟨r, P⟩ := P
  refine zk_last (pc := 9) hc dL_trip_9 e2.1 e2.2 r ?_
  refine ok_goto (pc := 10) (tgt := 21) hc dL_trip_10 (by decide) ?_
  refine ok_iconst (pc := 21) hc (v := i3 0) dL_trip_21 (by decide) ?_
  exact ok_iretW (st := []) (pc := 22) hc hr dL_trip_22 P
theorem err_L_trip {q : Dsk} {x y : Int} {E : String} (h : opTrip q x y = .inr E) : E = eIO ∨ E = eIS := by
  unfold opTrip at h
  (repeat' split at h) <;> first | (cases h; done) | (have e9 := Sum.inr.inj h; subst e9; first | exact rfl | exact Or.inl rfl | exact Or.inr rfl | exact Or.inr (Or.inl rfl) | exact Or.inr (Or.inr rfl))
def spec_L_trip (args : List Value) (n : Nat) (h : HP) (K : KT) : Prop := ∃ (q : Dsk) (o : Nat) (f : Nat → Int) (x y : Int), args = [.ref 0, .int (i3 x), .int (i3 y), .ref o] ∧ R3 x ∧ R3 y ∧ DkA h n q ∧ At h n o (al 1 f) ∧ 127 < o ∧ ∀ (h' : HP) (g : Nat → Int), DkA h' n q → At h' n o (al 1 g) → (∀ z, opTrip q x y = .inl z → g 0 = (i3 z).toInt) → (∀ x, 127 < x → x ≠ o → h' x = h x) → K (.inl (some (.int (i3 (cdL [eIO, eIS] (opTrip q x y)))))) n h'
theorem sp_L_trip : SpW yL_trip cL_trip 5 hh_L_trip 9 165 2 12 spec_L_trip := by
  refine sp_introW (by decide) (by rintro args n h K ⟨q, o, f, x, y, rfl, -⟩; exact Nat.le_of_ble_eq_true rfl) ?_
  rintro X args n h K hc hr ⟨q, o, f, x, y, rfl, rx, ry, hq, ho, h127, kk⟩
  refine sL_trip_0 hc hr hq.1 rfl ⟨q, x, y, rfl, rx, ry, hq, fun h1 hq1 f1 => ?_⟩
  have ho1 : At h1 n o (al 1 f) := ho.fr f1 (by omega)
  cases ea : opTrip q x y with
  | inl z =>
    refine ⟨rfl, ?_⟩
    show Ok X 0 0 8 [(0, .ref 0), (1, .int (i3 x)), (2, .int (i3 y)), (3, .ref o)] [.int (i3 z), .int (i3 0), .ref o] n h1
    rw [← i3_T (i3 z)]
    refine sL_trip_8 hc hr ho1 ⟨R3_T _, ⟨by decide, by decide, by decide⟩, ?_⟩
    have k := kk (va_up h1 o (al 1 (va_up f 0 (i3 z).toInt))) (va_up f 0 (i3 z).toInt) (hq1.out (Fr.rf.up (c := o) (lo := o) (hi := o) (by omega)) h127) ho1.it (fun z9 e9 => by rw [up_self]; rw [ea] at e9; rw [Sum.inl.inj e9]) (fun x hx hx2 => (up_ne hx2).trans (f1 x (by omega)))
    rw [ea] at k
    exact k
  | inr E =>
    have k := kk h1 f hq1 ho1 (fun z9 e9 => by rw [ea] at e9; cases e9) (fun x hx _ => f1 x (by omega))
    have hE := err_L_trip ea
    rcases hE with e9 | e9 <;> subst e9
    · rw [ea, cd_1 eIO _] at k
      exact ⟨rfl, okT_catch hc hr [] ⟨0, 10, 13, 21⟩ [⟨0, 10, 17, 15⟩] rfl (fun z hz => absurd hz List.not_mem_nil) rfl (by decide) (in_all (i := 769) (by decide +kernel) rfl) (by decide) ⟨4, 1, 2, Or.inr ⟨dL_trip_13, rfl⟩, by decide, dL_trip_15, by decide, dL_trip_16⟩ k⟩
    · rw [ea, cd_2 _ (a := eIO) (by decide)] at k
      exact ⟨rfl, okT_catch hc hr [⟨0, 10, 13, 21⟩] ⟨0, 10, 17, 15⟩ [] rfl (fun z hz => by
        rw [List.mem_singleton] at hz
        subst hz
        exact ⟨by decide, eIO, (in_all (i := 769) (by decide +kernel) rfl), by decide⟩) rfl (by decide) (in_all (i := 720) (by decide +kernel) rfl) (by decide) ⟨4, 2, 2, Or.inr ⟨dL_trip_17, rfl⟩, by decide, dL_trip_19, by decide, dL_trip_20⟩ k⟩
def hh_L_ifValue : List (Nat × Nat × Nat × Nat) := [(0, 10, 13, 21), (0, 10, 17, 15), (0, 10, 21, 13)]
set_option maxHeartbeats 4000000 in
set_option maxRecDepth 100000 in
theorem sL_ifValue_0 {X : Xt} {n : Nat} {h : HP} {a0 : Nat} {x1 : Int} {x2 : Int} {a3 : Nat} {fs1 : List Value} (hc : Cx X cL_ifValue RL 5 9 160) {K : KT} (hr : CxW X hh_L_ifValue K) (e1 : At h n a0 (.inl (6, fs1))) (z1 : fs1.length = 6)
    (P : spec_X6_ifValue [.ref a0, .int (i3 x1), .int (i3 x2)] n h (kc X 0 0 5 [(0, .ref a0), (1, .int (i3 x1)), (2, .int (i3 x2)), (3, .ref a3)] [.int (i3 0), .ref a3] n)) :
    Ok X 2 12 0 [(0, .ref a0), (1, .int (i3 x1)), (2, .int (i3 x2)), (3, .ref a3)] [] n h := by
  refine ok_aload_n (pc := 0) hc dL_ifValue_0 rfl 3 rfl ?_
  refine ok_iconst (pc := 1) hc (v := i3 0) dL_ifValue_1 (by decide) ?_
  refine ok_aload_n (pc := 2) hc dL_ifValue_2 rfl 0 rfl ?_
  refine ok_iload_n (pc := 3) hc dL_ifValue_3 rfl 1 rfl ?_
  refine ok_iload_n (pc := 4) hc dL_ifValue_4 rfl 2 rfl ?_
  exact ok_callV (pc := 5) (a := a0) (cb := 0) (sb := 0) (st := [.int (i3 0), .ref a3]) hc [.int (i3 x1), .int (i3 x2)] cv_L_69 sp_X6_ifValue (by decide) dL_ifValue_5 rfl e1.1 e1.2 rfl rfl rfl (Nat.le_of_ble_eq_true rfl) P
set_option maxHeartbeats 4000000 in
set_option maxRecDepth 100000 in
theorem sL_ifValue_8 {X : Xt} {n : Nat} {h : HP} {a0 : Nat} {x1 : Int} {x2 : Int} {a3 : Nat} {t0 : Int} {t1 : Int} {ta2 : Nat} {len2 : Nat} {f2 : Nat → Int} (hc : Cx X cL_ifValue RL 5 9 160) {K : KT} (hr : CxW X hh_L_ifValue K) (e2 : At h n ta2 (al len2 f2))
    (P : (R3 t0) ∧ (Ix t1 len2) ∧ K (.inl (some (.int (i3 0)))) n (va_up h ta2 (al len2 (va_up f2 (t1 : Int).toNat t0)))) :
    Ok X 0 0 8 [(0, .ref a0), (1, .int (i3 x1)), (2, .int (i3 x2)), (3, .ref a3)] [.int (i3 t0), .int (i3 t1), .ref ta2] n h := by
  obtain ⟨r1, P⟩ := P
  refine zk_i2l (pc := 8) hc dL_ifValue_8 r1 ?_
  obtain ⟨r, P⟩ := P
  refine zk_last (pc := 9) hc dL_ifValue_9 e2.1 e2.2 r ?_
  refine ok_goto (pc := 10) (tgt := 25) hc dL_ifValue_10 (by decide) ?_
  refine ok_iconst (pc := 25) hc (v := i3 0) dL_ifValue_25 (by decide) ?_
  exact ok_iretW (st := []) (pc := 26) hc hr dL_ifValue_26 P
theorem err_L_ifValue {q : Dsk} {x v : Int} {E : String} (h : opIf q x v = .inr E) : E = eIO ∨ E = eIS ∨ E = eIA := by
  unfold opIf at h
  (repeat' split at h) <;> first | (cases h; done) | (have e9 := Sum.inr.inj h; subst e9; first | exact rfl | exact Or.inl rfl | exact Or.inr rfl | exact Or.inr (Or.inl rfl) | exact Or.inr (Or.inr rfl))
def spec_L_ifValue (args : List Value) (n : Nat) (h : HP) (K : KT) : Prop := ∃ (q : Dsk) (o : Nat) (f : Nat → Int) (x v : Int), args = [.ref 0, .int (i3 x), .int (i3 v), .ref o] ∧ R3 x ∧ R3 v ∧ DkA h n q ∧ At h n o (al 1 f) ∧ 127 < o ∧ ∀ (h' : HP) (g : Nat → Int), DkA h' n q → At h' n o (al 1 g) → (∀ z, opIf q x v = .inl z → g 0 = (i3 z).toInt) → (∀ x, 127 < x → x ≠ o → h' x = h x) → K (.inl (some (.int (i3 (cdL [eIO, eIS, eIA] (opIf q x v)))))) n h'
theorem sp_L_ifValue : SpW yL_ifValue cL_ifValue 5 hh_L_ifValue 9 160 2 12 spec_L_ifValue := by
  refine sp_introW (by decide) (by rintro args n h K ⟨q, o, f, x, v, rfl, -⟩; exact Nat.le_of_ble_eq_true rfl) ?_
  rintro X args n h K hc hr ⟨q, o, f, x, v, rfl, rx, rv, hq, ho, h127, kk⟩
  refine sL_ifValue_0 hc hr hq.1 rfl ⟨q, x, v, rfl, rx, rv, hq, fun h1 hq1 f1 => ?_⟩
  have ho1 : At h1 n o (al 1 f) := ho.fr f1 (by omega)
  cases ea : opIf q x v with
  | inl z =>
    refine ⟨rfl, ?_⟩
    show Ok X 0 0 8 [(0, .ref 0), (1, .int (i3 x)), (2, .int (i3 v)), (3, .ref o)] [.int (i3 z), .int (i3 0), .ref o] n h1
    rw [← i3_T (i3 z)]
    refine sL_ifValue_8 hc hr ho1 ⟨R3_T _, ⟨by decide, by decide, by decide⟩, ?_⟩
    have k := kk (va_up h1 o (al 1 (va_up f 0 (i3 z).toInt))) (va_up f 0 (i3 z).toInt) (hq1.out (Fr.rf.up (c := o) (lo := o) (hi := o) (by omega)) h127) ho1.it (fun z9 e9 => by rw [up_self]; rw [ea] at e9; rw [Sum.inl.inj e9]) (fun x hx hx2 => (up_ne hx2).trans (f1 x (by omega)))
    rw [ea] at k
    exact k
  | inr E =>
    have k := kk h1 f hq1 ho1 (fun z9 e9 => by rw [ea] at e9; cases e9) (fun x hx _ => f1 x (by omega))
    have hE := err_L_ifValue ea
    rcases hE with e9 | e9 | e9 <;> subst e9
    · rw [ea, cd_1 eIO _] at k
      exact ⟨rfl, okT_catch hc hr [] ⟨0, 10, 13, 21⟩ [⟨0, 10, 17, 15⟩, ⟨0, 10, 21, 13⟩] rfl (fun z hz => absurd hz List.not_mem_nil) rfl (by decide) (in_all (i := 769) (by decide +kernel) rfl) (by decide) ⟨4, 1, 2, Or.inr ⟨dL_ifValue_13, rfl⟩, by decide, dL_ifValue_15, by decide, dL_ifValue_16⟩ k⟩
    · rw [ea, cd_2 _ (a := eIO) (by decide)] at k
      exact ⟨rfl, okT_catch hc hr [⟨0, 10, 13, 21⟩] ⟨0, 10, 17, 15⟩ [⟨0, 10, 21, 13⟩] rfl (fun z hz => by
        rw [List.mem_singleton] at hz
        subst hz
        exact ⟨by decide, eIO, (in_all (i := 769) (by decide +kernel) rfl), by decide⟩) rfl (by decide) (in_all (i := 720) (by decide +kernel) rfl) (by decide) ⟨4, 2, 2, Or.inr ⟨dL_ifValue_17, rfl⟩, by decide, dL_ifValue_19, by decide, dL_ifValue_20⟩ k⟩
    · rw [ea, cd_3 _ (a := eIO) (b := eIS) (by decide) (by decide)] at k
      exact ⟨rfl, okT_catch hc hr [⟨0, 10, 13, 21⟩, ⟨0, 10, 17, 15⟩] ⟨0, 10, 21, 13⟩ [] rfl (fun z hz => by
        simp only [List.mem_cons, List.not_mem_nil, or_false] at hz
        rcases hz with e9 | e9
        · subst e9
          exact ⟨by decide, eIO, (in_all (i := 769) (by decide +kernel) rfl), by decide⟩
        · subst e9
          exact ⟨by decide, eIS, (in_all (i := 720) (by decide +kernel) rfl), by decide⟩) rfl (by decide) (in_all (i := 719) (by decide +kernel) rfl) (by decide) ⟨4, 3, 2, Or.inr ⟨dL_ifValue_21, rfl⟩, by decide, dL_ifValue_23, by decide, dL_ifValue_24⟩ k⟩
def hh_L_part : List (Nat × Nat × Nat × Nat) := [(0, 10, 13, 21), (0, 10, 17, 13)]
set_option maxHeartbeats 4000000 in
set_option maxRecDepth 100000 in
theorem sL_part_0 {X : Xt} {n : Nat} {h : HP} {a0 : Nat} {x1 : Int} {x2 : Int} {a3 : Nat} {fs1 : List Value} (hc : Cx X cL_part RL 5 8 133) {K : KT} (hr : CxW X hh_L_part K) (e1 : At h n a0 (.inl (6, fs1))) (z1 : fs1.length = 6)
    (P : spec_X6_part [.ref a0, .int (i3 x1), .int (i3 x2)] n h (kc X 0 0 5 [(0, .ref a0), (1, .int (i3 x1)), (2, .int (i3 x2)), (3, .ref a3)] [.int (i3 0), .ref a3] n)) :
    Ok X 2 12 0 [(0, .ref a0), (1, .int (i3 x1)), (2, .int (i3 x2)), (3, .ref a3)] [] n h := by
  refine ok_aload_n (pc := 0) hc dL_part_0 rfl 3 rfl ?_
  refine ok_iconst (pc := 1) hc (v := i3 0) dL_part_1 (by decide) ?_
  refine ok_aload_n (pc := 2) hc dL_part_2 rfl 0 rfl ?_
  refine ok_iload_n (pc := 3) hc dL_part_3 rfl 1 rfl ?_
  refine ok_iload_n (pc := 4) hc dL_part_4 rfl 2 rfl ?_
  exact ok_callV (pc := 5) (a := a0) (cb := 0) (sb := 0) (st := [.int (i3 0), .ref a3]) hc [.int (i3 x1), .int (i3 x2)] cv_L_72 sp_X6_part (by decide) dL_part_5 rfl e1.1 e1.2 rfl rfl rfl (Nat.le_of_ble_eq_true rfl) P
set_option maxHeartbeats 4000000 in
set_option maxRecDepth 100000 in
theorem sL_part_8 {X : Xt} {n : Nat} {h : HP} {a0 : Nat} {x1 : Int} {x2 : Int} {a3 : Nat} {t0 : Int} {t1 : Int} {ta2 : Nat} {len2 : Nat} {f2 : Nat → Int} (hc : Cx X cL_part RL 5 8 133) {K : KT} (hr : CxW X hh_L_part K) (e2 : At h n ta2 (al len2 f2))
    (P : (R3 t0) ∧ (Ix t1 len2) ∧ K (.inl (some (.int (i3 0)))) n (va_up h ta2 (al len2 (va_up f2 (t1 : Int).toNat t0)))) :
    Ok X 0 0 8 [(0, .ref a0), (1, .int (i3 x1)), (2, .int (i3 x2)), (3, .ref a3)] [.int (i3 t0), .int (i3 t1), .ref ta2] n h := by
  obtain ⟨r1, P⟩ := P
  refine zk_i2l (pc := 8) hc dL_part_8 r1 ?_
  obtain ⟨r, P⟩ := P
  refine zk_last (pc := 9) hc dL_part_9 e2.1 e2.2 r ?_
  refine ok_goto (pc := 10) (tgt := 21) hc dL_part_10 (by decide) ?_
  refine ok_iconst (pc := 21) hc (v := i3 0) dL_part_21 (by decide) ?_
  exact ok_iretW (st := []) (pc := 22) hc hr dL_part_22 P
theorem err_L_part {q : Dsk} {x w : Int} {E : String} (h : opPart q x w = .inr E) : E = eIO ∨ E = eIA := by
  unfold opPart at h
  (repeat' split at h) <;> first | (cases h; done) | (have e9 := Sum.inr.inj h; subst e9; first | exact rfl | exact Or.inl rfl | exact Or.inr rfl | exact Or.inr (Or.inl rfl) | exact Or.inr (Or.inr rfl))
def spec_L_part (args : List Value) (n : Nat) (h : HP) (K : KT) : Prop := ∃ (q : Dsk) (o : Nat) (f : Nat → Int) (x w : Int), args = [.ref 0, .int (i3 x), .int (i3 w), .ref o] ∧ R3 x ∧ R3 w ∧ DkA h n q ∧ At h n o (al 1 f) ∧ 127 < o ∧ ∀ (h' : HP) (g : Nat → Int), DkA h' n q → At h' n o (al 1 g) → (∀ z, opPart q x w = .inl z → g 0 = (i3 z).toInt) → (∀ x, 127 < x → x ≠ o → h' x = h x) → K (.inl (some (.int (i3 (cdL [eIO, eIA] (opPart q x w)))))) n h'
theorem sp_L_part : SpW yL_part cL_part 5 hh_L_part 8 133 2 12 spec_L_part := by
  refine sp_introW (by decide) (by rintro args n h K ⟨q, o, f, x, w, rfl, -⟩; exact Nat.le_of_ble_eq_true rfl) ?_
  rintro X args n h K hc hr ⟨q, o, f, x, w, rfl, rx, rw, hq, ho, h127, kk⟩
  refine sL_part_0 hc hr hq.1 rfl ⟨q, x, w, rfl, rx, rw, hq, ?_⟩
  have f1 : Fr h h 0 127 := Fr.rf
  have hq1 := hq
  have ho1 : At h n o (al 1 f) := ho.fr f1 (by omega)
  cases ea : opPart q x w with
  | inl z =>
    refine ⟨rfl, ?_⟩
    show Ok X 0 0 8 [(0, .ref 0), (1, .int (i3 x)), (2, .int (i3 w)), (3, .ref o)] [.int (i3 z), .int (i3 0), .ref o] n h
    rw [← i3_T (i3 z)]
    refine sL_part_8 hc hr ho1 ⟨R3_T _, ⟨by decide, by decide, by decide⟩, ?_⟩
    have k := kk (va_up h o (al 1 (va_up f 0 (i3 z).toInt))) (va_up f 0 (i3 z).toInt) (hq1.out (Fr.rf.up (c := o) (lo := o) (hi := o) (by omega)) h127) ho1.it (fun z9 e9 => by rw [up_self]; rw [ea] at e9; rw [Sum.inl.inj e9]) (fun x hx hx2 => (up_ne hx2).trans (f1 x (by omega)))
    rw [ea] at k
    exact k
  | inr E =>
    have k := kk h f hq1 ho1 (fun z9 e9 => by rw [ea] at e9; cases e9) (fun x hx _ => f1 x (by omega))
    have hE := err_L_part ea
    rcases hE with e9 | e9 <;> subst e9
    · rw [ea, cd_1 eIO _] at k
      exact ⟨rfl, okT_catch hc hr [] ⟨0, 10, 13, 21⟩ [⟨0, 10, 17, 13⟩] rfl (fun z hz => absurd hz List.not_mem_nil) rfl (by decide) (in_all (i := 769) (by decide +kernel) rfl) (by decide) ⟨4, 1, 2, Or.inr ⟨dL_part_13, rfl⟩, by decide, dL_part_15, by decide, dL_part_16⟩ k⟩
    · rw [ea, cd_2 _ (a := eIO) (by decide)] at k
      exact ⟨rfl, okT_catch hc hr [⟨0, 10, 13, 21⟩] ⟨0, 10, 17, 13⟩ [] rfl (fun z hz => by
        rw [List.mem_singleton] at hz
        subst hz
        exact ⟨by decide, eIO, (in_all (i := 769) (by decide +kernel) rfl), by decide⟩) rfl (by decide) (in_all (i := 719) (by decide +kernel) rfl) (by decide) ⟨4, 2, 2, Or.inr ⟨dL_part_17, rfl⟩, by decide, dL_part_19, by decide, dL_part_20⟩ k⟩
def hh_L_count : List (Nat × Nat × Nat × Nat) := [(0, 9, 12, 13)]
set_option maxHeartbeats 4000000 in
set_option maxRecDepth 100000 in
theorem sL_count_0 {X : Xt} {n : Nat} {h : HP} {a0 : Nat} {x1 : Int} {a2 : Nat} {fs1 : List Value} (hc : Cx X cL_count RL 4 7 136) {K : KT} (hr : CxW X hh_L_count K) (e1 : At h n a0 (.inl (6, fs1))) (z1 : fs1.length = 6)
    (P : spec_X6_count [.ref a0, .int (i3 x1)] n h (kc X 0 0 4 [(0, .ref a0), (1, .int (i3 x1)), (2, .ref a2)] [.int (i3 0), .ref a2] n)) :
    Ok X 1 6 0 [(0, .ref a0), (1, .int (i3 x1)), (2, .ref a2)] [] n h := by
  refine ok_aload_n (pc := 0) hc dL_count_0 rfl 2 rfl ?_
  refine ok_iconst (pc := 1) hc (v := i3 0) dL_count_1 (by decide) ?_
  refine ok_aload_n (pc := 2) hc dL_count_2 rfl 0 rfl ?_
  refine ok_iload_n (pc := 3) hc dL_count_3 rfl 1 rfl ?_
  exact ok_callV (pc := 4) (a := a0) (cb := 0) (sb := 0) (st := [.int (i3 0), .ref a2]) hc [.int (i3 x1)] cv_L_75 sp_X6_count (by decide) dL_count_4 rfl e1.1 e1.2 rfl rfl rfl (Nat.le_of_ble_eq_true rfl) P
set_option maxHeartbeats 4000000 in
set_option maxRecDepth 100000 in
theorem sL_count_7 {X : Xt} {n : Nat} {h : HP} {a0 : Nat} {x1 : Int} {a2 : Nat} {t0 : Int} {t1 : Int} {ta2 : Nat} {len2 : Nat} {f2 : Nat → Int} (hc : Cx X cL_count RL 4 7 136) {K : KT} (hr : CxW X hh_L_count K) (e2 : At h n ta2 (al len2 f2))
    (P : (R3 t0) ∧ (Ix t1 len2) ∧ K (.inl (some (.int (i3 0)))) n (va_up h ta2 (al len2 (va_up f2 (t1 : Int).toNat t0)))) :
    Ok X 0 0 7 [(0, .ref a0), (1, .int (i3 x1)), (2, .ref a2)] [.int (i3 t0), .int (i3 t1), .ref ta2] n h := by
  obtain ⟨r1, P⟩ := P
  refine zk_i2l (pc := 7) hc dL_count_7 r1 ?_
  obtain ⟨r, P⟩ := P
  refine zk_last (pc := 8) hc dL_count_8 e2.1 e2.2 r ?_
  refine ok_goto (pc := 9) (tgt := 15) hc dL_count_9 (by decide) ?_
  refine ok_iconst (pc := 15) hc (v := i3 0) dL_count_15 (by decide) ?_
  exact ok_iretW (st := []) (pc := 16) hc hr dL_count_16 P
theorem err_L_count {q : Dsk} {w : Int} {E : String} (h : opCount q w = .inr E) : E = eIA := by
  unfold opCount at h
  (repeat' split at h) <;> first | (cases h; done) | (have e9 := Sum.inr.inj h; subst e9; first | exact rfl | exact Or.inl rfl | exact Or.inr rfl | exact Or.inr (Or.inl rfl) | exact Or.inr (Or.inr rfl))
def spec_L_count (args : List Value) (n : Nat) (h : HP) (K : KT) : Prop := ∃ (q : Dsk) (o : Nat) (f : Nat → Int) (w : Int), args = [.ref 0, .int (i3 w), .ref o] ∧ R3 w ∧ DkA h n q ∧ At h n o (al 1 f) ∧ 127 < o ∧ ∀ (h' : HP) (g : Nat → Int), DkA h' n q → At h' n o (al 1 g) → (∀ z, opCount q w = .inl z → g 0 = (i3 z).toInt) → (∀ x, 127 < x → x ≠ o → h' x = h x) → K (.inl (some (.int (i3 (cdL [eIA] (opCount q w)))))) n h'
theorem sp_L_count : SpW yL_count cL_count 4 hh_L_count 7 136 1 6 spec_L_count := by
  refine sp_introW (by decide) (by rintro args n h K ⟨q, o, f, w, rfl, -⟩; exact Nat.le_of_ble_eq_true rfl) ?_
  rintro X args n h K hc hr ⟨q, o, f, w, rfl, rw, hq, ho, h127, kk⟩
  refine sL_count_0 hc hr hq.1 rfl ⟨q, w, rfl, rw, hq, fun h1 hq1 f1 => ?_⟩
  have ho1 : At h1 n o (al 1 f) := ho.fr f1 (by omega)
  cases ea : opCount q w with
  | inl z =>
    refine ⟨rfl, ?_⟩
    show Ok X 0 0 7 [(0, .ref 0), (1, .int (i3 w)), (2, .ref o)] [.int (i3 z), .int (i3 0), .ref o] n h1
    rw [← i3_T (i3 z)]
    refine sL_count_7 hc hr ho1 ⟨R3_T _, ⟨by decide, by decide, by decide⟩, ?_⟩
    have k := kk (va_up h1 o (al 1 (va_up f 0 (i3 z).toInt))) (va_up f 0 (i3 z).toInt) (hq1.out (Fr.rf.up (c := o) (lo := o) (hi := o) (by omega)) h127) ho1.it (fun z9 e9 => by rw [up_self]; rw [ea] at e9; rw [Sum.inl.inj e9]) (fun x hx hx2 => (up_ne hx2).trans (f1 x (by omega)))
    rw [ea] at k
    exact k
  | inr E =>
    have k := kk h1 f hq1 ho1 (fun z9 e9 => by rw [ea] at e9; cases e9) (fun x hx _ => f1 x (by omega))
    have hE := err_L_count ea
    subst hE
    · rw [ea, cd_1 eIA _] at k
      exact ⟨rfl, okT_catch hc hr [] ⟨0, 9, 12, 13⟩ [] rfl (fun z hz => absurd hz List.not_mem_nil) rfl (by decide) (in_all (i := 719) (by decide +kernel) rfl) (by decide) ⟨3, 1, 1, Or.inl ⟨3, dL_count_12, rfl, rfl⟩, by decide, dL_count_13, by decide, dL_count_14⟩ k⟩
theorem cw_L_86 : CW RL 86 yL_load cL_load 3 hh_L_load 2 := ⟨(in_all (i := 716) (by decide +kernel) rfl), (in_all (i := 717) (by decide +kernel) rfl), (in_all (i := 83) (by decide +kernel) rfl), (in_all (i := 718) (by decide +kernel) rfl), ⟨by decide +kernel, by decide +kernel⟩, by decide +kernel⟩
theorem cw_L_95 : CW RL 95 yL_setValue cL_setValue 5 hh_L_setValue 4 := ⟨(in_all (i := 766) (by decide +kernel) rfl), (in_all (i := 767) (by decide +kernel) rfl), (in_all (i := 83) (by decide +kernel) rfl), (in_all (i := 768) (by decide +kernel) rfl), ⟨by decide +kernel, by decide +kernel⟩, by decide +kernel⟩
theorem cw_L_99 : CW RL 99 yL_setRail cL_setRail 4 hh_L_setRail 3 := ⟨(in_all (i := 783) (by decide +kernel) rfl), (in_all (i := 784) (by decide +kernel) rfl), (in_all (i := 83) (by decide +kernel) rfl), (in_all (i := 785) (by decide +kernel) rfl), ⟨by decide +kernel, by decide +kernel⟩, by decide +kernel⟩
theorem cw_L_103 : CW RL 103 yL_drop cL_drop 4 hh_L_drop 3 := ⟨(in_all (i := 791) (by decide +kernel) rfl), (in_all (i := 792) (by decide +kernel) rfl), (in_all (i := 83) (by decide +kernel) rfl), (in_all (i := 793) (by decide +kernel) rfl), ⟨by decide +kernel, by decide +kernel⟩, by decide +kernel⟩
theorem cw_L_106 : CW RL 106 yL_sweep cL_sweep 5 hh_L_sweep 4 := ⟨(in_all (i := 808) (by decide +kernel) rfl), (in_all (i := 809) (by decide +kernel) rfl), (in_all (i := 83) (by decide +kernel) rfl), (in_all (i := 810) (by decide +kernel) rfl), ⟨by decide +kernel, by decide +kernel⟩, by decide +kernel⟩
theorem cw_L_109 : CW RL 109 yL_undo cL_undo 3 hh_L_undo 2 := ⟨(in_all (i := 824) (by decide +kernel) rfl), (in_all (i := 825) (by decide +kernel) rfl), (in_all (i := 83) (by decide +kernel) rfl), (in_all (i := 826) (by decide +kernel) rfl), ⟨by decide +kernel, by decide +kernel⟩, by decide +kernel⟩
theorem cw_L_112 : CW RL 112 yL_keep cL_keep 4 hh_L_keep 3 := ⟨(in_all (i := 842) (by decide +kernel) rfl), (in_all (i := 843) (by decide +kernel) rfl), (in_all (i := 83) (by decide +kernel) rfl), (in_all (i := 844) (by decide +kernel) rfl), ⟨by decide +kernel, by decide +kernel⟩, by decide +kernel⟩
theorem cw_L_115 : CW RL 115 yL_back cL_back 4 hh_L_back 3 := ⟨(in_all (i := 855) (by decide +kernel) rfl), (in_all (i := 856) (by decide +kernel) rfl), (in_all (i := 83) (by decide +kernel) rfl), (in_all (i := 857) (by decide +kernel) rfl), ⟨by decide +kernel, by decide +kernel⟩, by decide +kernel⟩
theorem cw_L_118 : CW RL 118 yL_append cL_append 4 hh_L_append 3 := ⟨(in_all (i := 863) (by decide +kernel) rfl), (in_all (i := 864) (by decide +kernel) rfl), (in_all (i := 83) (by decide +kernel) rfl), (in_all (i := 865) (by decide +kernel) rfl), ⟨by decide +kernel, by decide +kernel⟩, by decide +kernel⟩
theorem cw_L_129 : CW RL 129 yL_voltage cL_voltage 5 hh_L_voltage 4 := ⟨(in_all (i := 872) (by decide +kernel) rfl), (in_all (i := 873) (by decide +kernel) rfl), (in_all (i := 83) (by decide +kernel) rfl), (in_all (i := 874) (by decide +kernel) rfl), ⟨by decide +kernel, by decide +kernel⟩, by decide +kernel⟩
theorem cw_L_132 : CW RL 132 yL_current cL_current 5 hh_L_current 4 := ⟨(in_all (i := 876) (by decide +kernel) rfl), (in_all (i := 877) (by decide +kernel) rfl), (in_all (i := 83) (by decide +kernel) rfl), (in_all (i := 878) (by decide +kernel) rfl), ⟨by decide +kernel, by decide +kernel⟩, by decide +kernel⟩
theorem cw_L_135 : CW RL 135 yL_amplifier cL_amplifier 5 hh_L_amplifier 4 := ⟨(in_all (i := 888) (by decide +kernel) rfl), (in_all (i := 889) (by decide +kernel) rfl), (in_all (i := 83) (by decide +kernel) rfl), (in_all (i := 890) (by decide +kernel) rfl), ⟨by decide +kernel, by decide +kernel⟩, by decide +kernel⟩
theorem cw_L_138 : CW RL 138 yL_why cL_why 4 hh_L_why 3 := ⟨(in_all (i := 892) (by decide +kernel) rfl), (in_all (i := 893) (by decide +kernel) rfl), (in_all (i := 83) (by decide +kernel) rfl), (in_all (i := 894) (by decide +kernel) rfl), ⟨by decide +kernel, by decide +kernel⟩, by decide +kernel⟩
theorem cw_L_141 : CW RL 141 yL_concerned cL_concerned 4 hh_L_concerned 3 := ⟨(in_all (i := 896) (by decide +kernel) rfl), (in_all (i := 897) (by decide +kernel) rfl), (in_all (i := 83) (by decide +kernel) rfl), (in_all (i := 898) (by decide +kernel) rfl), ⟨by decide +kernel, by decide +kernel⟩, by decide +kernel⟩
theorem cw_L_144 : CW RL 144 yL_inCase cL_inCase 6 hh_L_inCase 5 := ⟨(in_all (i := 900) (by decide +kernel) rfl), (in_all (i := 901) (by decide +kernel) rfl), (in_all (i := 83) (by decide +kernel) rfl), (in_all (i := 902) (by decide +kernel) rfl), ⟨by decide +kernel, by decide +kernel⟩, by decide +kernel⟩
theorem cw_L_148 : CW RL 148 yL_trip cL_trip 5 hh_L_trip 4 := ⟨(in_all (i := 907) (by decide +kernel) rfl), (in_all (i := 908) (by decide +kernel) rfl), (in_all (i := 83) (by decide +kernel) rfl), (in_all (i := 909) (by decide +kernel) rfl), ⟨by decide +kernel, by decide +kernel⟩, by decide +kernel⟩
theorem cw_L_152 : CW RL 152 yL_ifValue cL_ifValue 5 hh_L_ifValue 4 := ⟨(in_all (i := 914) (by decide +kernel) rfl), (in_all (i := 915) (by decide +kernel) rfl), (in_all (i := 83) (by decide +kernel) rfl), (in_all (i := 916) (by decide +kernel) rfl), ⟨by decide +kernel, by decide +kernel⟩, by decide +kernel⟩
theorem cw_L_155 : CW RL 155 yL_part cL_part 5 hh_L_part 4 := ⟨(in_all (i := 921) (by decide +kernel) rfl), (in_all (i := 922) (by decide +kernel) rfl), (in_all (i := 83) (by decide +kernel) rfl), (in_all (i := 923) (by decide +kernel) rfl), ⟨by decide +kernel, by decide +kernel⟩, by decide +kernel⟩
theorem cw_L_158 : CW RL 158 yL_count cL_count 4 hh_L_count 3 := ⟨(in_all (i := 925) (by decide +kernel) rfl), (in_all (i := 926) (by decide +kernel) rfl), (in_all (i := 83) (by decide +kernel) rfl), (in_all (i := 927) (by decide +kernel) rfl), ⟨by decide +kernel, by decide +kernel⟩, by decide +kernel⟩
