/-! part a21: the constructors: TextReader, Bench, History -/
def RdI (h : HP) (a : Nat) : Prop := h a = .inl (5, [.ref (a + 1), .ref (a + 2), .int (i3 0), .int (i3 0), .ref (a + 7), .int (i3 0), .int (i3 0), .int (i3 0), .int (i3 0)]) ∧ h (a + 1) = ac 60 (fun _ => 0) ∧ PtI h (a + 2) 15 ∧ h (a + 7) = ai 3 (fun _ => 0)
theorem RdI.pt {h h' : HP} {a : Nat} (p : RdI h a) (e : ∀ i, a ≤ i ∧ i ≤ a + 7 → h' i = h i) : RdI h' a := ⟨(e _ (by omega)).trans p.1, (e _ (by omega)).trans p.2.1, p.2.2.1.pt (fun i hi => e i (by omega)), (e _ (by omega)).trans p.2.2.2⟩
def spec_X5_init (args : List Value) (n : Nat) (h : HP) (K : KT) : Prop := ∃ (a : Nat), args = [.ref a] ∧ n = a + 1 ∧ a + 8 < SA ∧ h a = .inl (5, [.null, .null, .int (i3 0), .int (i3 0), .null, .int (i3 0), .int (i3 0), .int (i3 0), .int (i3 0)]) ∧ Cl h n ∧ ∀ h', Fr h h' a (a + 7) → RdI h' a → Cl h' (a + 8) → K (.inl none) (a + 8) h'
theorem sp_X5_init : Sp yX5_init cX5_init 1 none 2 41 7 130 spec_X5_init := by
  refine sp_introI (by decide) rfl (by rintro args n h K ⟨a, rfl, -⟩; exact Nat.le_of_ble_eq_true rfl) ?_
  rintro X args n h K hNm hc hr ⟨a, rfl, rfl, hb, o0, c0, kk⟩
  refine ok_aload_n (pc := 0) hc dX5_init_0 rfl 0 rfl ?_
  refine ok_objI (pc := 1) hc dX5_init_1 oi_X5 oi_i oi_c (by decide) (Nat.le_of_ble_eq_true rfl) (Nat.le_of_ble_eq_true rfl) ?_
  refine ok_aload_n (pc := 4) hc dX5_init_4 rfl 0 rfl ?_
  refine ok_bipush (pc := 5) (v := i3 60) hc dX5_init_5 (by decide) ?_
  refine ok_newC (pc := 7) (len := 60) hc dX5_init_7 ac_char (by omega) c0 (ClV.r (by omega) ClV.z) (ClV.r (by omega) ClV.z) (by omega) ?_
  have c1 := c0.new (e := ac 60 (fun _ => 0)) (fun _ z => False.elim z)
  refine ok_putF (pc := 9) (fs := [.null, .null, .int (i3 0), .int (i3 0), .null, .int (i3 0), .int (i3 0), .int (i3 0), .int (i3 0)]) hc hNm fl_X5_9 ⟨_, _, rfl⟩ dX5_init_9 (by omega) (by simp (disch := omega) only [up_at, up_ne, mnH_old]; first | done | rfl | exact o0) (Nat.le_of_ble_eq_true rfl) (fun _ => rfl) (fun _ => rfl) ?_
  have c2 := c1.set (a := a) (e := .inl (5, [.ref (a + 1), .null, .int (i3 0), .int (i3 0), .null, .int (i3 0), .int (i3 0), .int (i3 0), .int (i3 0)])) (fun j z => ((ClV.r (by omega) (ClV.i (fun j z => by cases z) (ClV.i (fun j z => by cases z) (ClV.i (fun j z => by cases z) (ClV.i (fun j z => by cases z) (ClV.i (fun j z => by cases z) (ClV.i (fun j z => by cases z) (ClV.i (fun j z => by cases z) (ClV.i (fun j z => by cases z) ClV.z))))))))) : ClV [.ref (a + 1), .null, .int (i3 0), .int (i3 0), .null, .int (i3 0), .int (i3 0), .int (i3 0), .int (i3 0)] (a + 1 + 1)) j z)
  refine ok_aload_n (pc := 12) hc dX5_init_12 rfl 0 rfl ?_
  refine ok_new (pc := 13) (N := 5) hc nw_X5_15 dX5_init_13 (fun j z => by simp at z) c2 (ClV.r (by omega) ClV.z) (ClV.r (by omega) ClV.z) (by omega) ?_
  have c3 := c2.new (e := .inl (2, [.null, .null, .null, .null, .int (i3 0)])) (fun j z => ((ClV.i (fun j z => by cases z) (ClV.i (fun j z => by cases z) (ClV.i (fun j z => by cases z) (ClV.i (fun j z => by cases z) (ClV.i (fun j z => by cases z) ClV.z))))) : ClV [.null, .null, .null, .null, .int (i3 0)] (a + 1 + 1 + 1)) j z)
  refine ok_dup (pc := 16) hc dX5_init_16 rfl ?_
  refine ok_bipush (pc := 17) (v := i3 15) hc dX5_init_17 (by decide) ?_
  refine ok_callI (pc := 19) (a := a + 1 + 1) (st := [.ref (a + 1 + 1), .ref (a)]) hc [.int (i3 15)] ci_X5_17 sp_X2_init (by decide) dX5_init_19 rfl (hcb := rfl) (hsb := rfl) rfl (Nat.le_of_ble_eq_true rfl) (ClV.r (by omega) ClV.z) (ClV.r (by omega) (ClV.r (by omega) ClV.z)) ⟨a + 1 + 1, 15, rfl, rfl, by omega, by omega, by simp (disch := omega) only [up_at, up_ne, mnH_old], c3, fun h1 f1 p1 c4 => ⟨by omega, ?_⟩⟩
  have o1 : h1 a = .inl (5, [.ref (a + 1), .null, .int (i3 0), .int (i3 0), .null, .int (i3 0), .int (i3 0), .int (i3 0), .int (i3 0)]) := (f1 a (by omega)).trans (by simp (disch := omega) only [up_at, up_ne, mnH_old]; first | done | rfl | exact rfl)
  refine ok_putF (pc := 22) (fs := [.ref (a + 1), .null, .int (i3 0), .int (i3 0), .null, .int (i3 0), .int (i3 0), .int (i3 0), .int (i3 0)]) hc hNm fl_X5_20 ⟨_, _, rfl⟩ dX5_init_22 (by omega) o1 (Nat.le_of_ble_eq_true rfl) (fun _ => rfl) (fun _ => rfl) ?_
  have c5 := c4.set (a := a) (e := .inl (5, [.ref (a + 1), .ref (a + 1 + 1), .int (i3 0), .int (i3 0), .null, .int (i3 0), .int (i3 0), .int (i3 0), .int (i3 0)])) (fun j z => ((ClV.r (by omega) (ClV.r (by omega) (ClV.i (fun j z => by cases z) (ClV.i (fun j z => by cases z) (ClV.i (fun j z => by cases z) (ClV.i (fun j z => by cases z) (ClV.i (fun j z => by cases z) (ClV.i (fun j z => by cases z) (ClV.i (fun j z => by cases z) ClV.z))))))))) : ClV [.ref (a + 1), .ref (a + 1 + 1), .int (i3 0), .int (i3 0), .null, .int (i3 0), .int (i3 0), .int (i3 0), .int (i3 0)] (a + 1 + 1 + 5)) j z)
  refine ok_aload_n (pc := 25) hc dX5_init_25 rfl 0 rfl ?_
  refine ok_iconst (pc := 26) (v := i3 3) hc dX5_init_26 (by decide) ?_
  refine ok_newI (pc := 27) (len := 3) hc dX5_init_27 ac_int (by omega) c5 (ClV.r (by omega) ClV.z) (ClV.r (by omega) ClV.z) (by omega) ?_
  have c6 := c5.new (e := ai 3 (fun _ => 0)) (fun _ z => False.elim z)
  refine ok_putF (pc := 29) (fs := [.ref (a + 1), .ref (a + 1 + 1), .int (i3 0), .int (i3 0), .null, .int (i3 0), .int (i3 0), .int (i3 0), .int (i3 0)]) hc hNm fl_X5_24 ⟨_, _, rfl⟩ dX5_init_29 (by omega) (by simp (disch := omega) only [up_at, up_ne, mnH_old]; first | done | rfl | exact rfl) (Nat.le_of_ble_eq_true rfl) (fun _ => rfl) (fun _ => rfl) ?_
  have c7 := c6.set (a := a) (e := .inl (5, [.ref (a + 1), .ref (a + 1 + 1), .int (i3 0), .int (i3 0), .ref (a + 1 + 1 + 5), .int (i3 0), .int (i3 0), .int (i3 0), .int (i3 0)])) (fun j z => ((ClV.r (by omega) (ClV.r (by omega) (ClV.i (fun j z => by cases z) (ClV.i (fun j z => by cases z) (ClV.r (by omega) (ClV.i (fun j z => by cases z) (ClV.i (fun j z => by cases z) (ClV.i (fun j z => by cases z) (ClV.i (fun j z => by cases z) ClV.z))))))))) : ClV [.ref (a + 1), .ref (a + 1 + 1), .int (i3 0), .int (i3 0), .ref (a + 1 + 1 + 5), .int (i3 0), .int (i3 0), .int (i3 0), .int (i3 0)] (a + 1 + 1 + 5 + 1)) j z)
  refine ok_vret (st := []) (pc := 32) hc hr dX5_init_32 ?_
  have e8 : a + 1 + 1 + 5 + 1 = a + 8 := by omega
  rw [e8] at c7 ⊢
  refine kk _ (fun i hi => by simp (disch := omega) only [up_ne]; rw [f1 i (by omega)]; simp (disch := omega) only [up_ne]) ⟨by simp (disch := omega) only [up_at, up_ne] <;> rfl, ?_, p1.pt (fun i hi => by simp (disch := omega) only [up_ne]), by simp (disch := omega) only [up_at, up_ne]⟩ c7
  simp (disch := omega) only [up_ne]
  rw [f1 _ (by omega)]
  simp (disch := omega) only [up_at, up_ne]
def BnI (h : HP) (a : Nat) : Prop := h a = .inl (0, [.ref (a + 1), .ref (a + 7), .int (i3 0), .ref (a + 8), .ref (a + 27), .int (i3 0), .int (i3 0), .int (i3 0)]) ∧ StI h (a + 1) ∧ h (a + 7) = ai 3 (fun _ => 0) ∧ RpI h (a + 8) ∧ h (a + 27) = al 7 (fun _ => 0)
theorem BnI.pt {h h' : HP} {a : Nat} (p : BnI h a) (e : ∀ i, a ≤ i ∧ i ≤ a + 27 → h' i = h i) : BnI h' a := ⟨(e _ (by omega)).trans p.1, p.2.1.pt (fun i hi => e i (by omega)), (e _ (by omega)).trans p.2.2.1, p.2.2.2.1.pt (fun i hi => e i (by omega)), (e _ (by omega)).trans p.2.2.2.2⟩
def spec_X0_init (args : List Value) (n : Nat) (h : HP) (K : KT) : Prop := ∃ (a : Nat), args = [.ref a] ∧ n = a + 1 ∧ a + 28 < SA ∧ h a = .inl (0, [.null, .null, .int (i3 0), .null, .null, .int (i3 0), .int (i3 0), .int (i3 0)]) ∧ Cl h n ∧ ∀ h', Fr h h' a (a + 27) → BnI h' a → Cl h' (a + 28) → K (.inl none) (a + 28) h'
theorem sp_X0_init : Sp yX0_init cX0_init 1 none 3 61 27 700 spec_X0_init := by
  refine sp_introI (by decide) rfl (by rintro args n h K ⟨a, rfl, -⟩; exact Nat.le_of_ble_eq_true rfl) ?_
  rintro X args n h K hNm hc hr ⟨a, rfl, rfl, hb, o0, c0, kk⟩
  refine ok_aload_n (pc := 0) hc dX0_init_0 rfl 0 rfl ?_
  refine ok_objI (pc := 1) hc dX0_init_1 oi_X0 oi_i oi_c (by decide) (Nat.le_of_ble_eq_true rfl) (Nat.le_of_ble_eq_true rfl) ?_
  refine ok_aload_n (pc := 4) hc dX0_init_4 rfl 0 rfl ?_
  refine ok_new (pc := 5) (N := 4) hc nw_X0_9 dX0_init_5 (fun j z => by simp at z) c0 (ClV.r (by omega) ClV.z) (ClV.r (by omega) ClV.z) (by omega) ?_
  have c1 := c0.new (e := .inl (4, [.null, .int (i3 0), .int (i3 0), .int (i3 0)])) (fun j z => ((ClV.i (fun j z => by cases z) (ClV.i (fun j z => by cases z) (ClV.i (fun j z => by cases z) (ClV.i (fun j z => by cases z) ClV.z)))) : ClV [.null, .int (i3 0), .int (i3 0), .int (i3 0)] (a + 1 + 1)) j z)
  refine ok_dup (pc := 8) hc dX0_init_8 rfl ?_
  refine ok_callI (pc := 9) (a := a + 1) (st := [.ref (a + 1), .ref (a)]) hc [] ci_X0_11 sp_X4_init (by decide) dX0_init_9 rfl (hcb := rfl) (hsb := rfl) rfl (Nat.le_of_ble_eq_true rfl) (ClV.r (by omega) ClV.z) (ClV.r (by omega) (ClV.r (by omega) ClV.z)) ⟨a + 1, rfl, rfl, by omega, by simp (disch := omega) only [up_at, up_ne, mnH_old], c1, fun h1 f1 p1 c2 => ⟨by omega, ?_⟩⟩
  have o1 : h1 a = .inl (0, [.null, .null, .int (i3 0), .null, .null, .int (i3 0), .int (i3 0), .int (i3 0)]) := (f1 a (by omega)).trans (by simp (disch := omega) only [up_at, up_ne, mnH_old]; first | done | rfl | exact o0)
  refine ok_putF (pc := 12) (fs := [.null, .null, .int (i3 0), .null, .null, .int (i3 0), .int (i3 0), .int (i3 0)]) hc hNm fl_X0_12 ⟨_, _, rfl⟩ dX0_init_12 (by omega) o1 (Nat.le_of_ble_eq_true rfl) (fun _ => rfl) (fun _ => rfl) ?_
  have c3 := c2.set (a := a) (e := .inl (0, [.ref (a + 1), .null, .int (i3 0), .null, .null, .int (i3 0), .int (i3 0), .int (i3 0)])) (fun j z => ((ClV.r (by omega) (ClV.i (fun j z => by cases z) (ClV.i (fun j z => by cases z) (ClV.i (fun j z => by cases z) (ClV.i (fun j z => by cases z) (ClV.i (fun j z => by cases z) (ClV.i (fun j z => by cases z) (ClV.i (fun j z => by cases z) ClV.z)))))))) : ClV [.ref (a + 1), .null, .int (i3 0), .null, .null, .int (i3 0), .int (i3 0), .int (i3 0)] (a + 1 + 6)) j z)
  refine ok_aload_n (pc := 15) hc dX0_init_15 rfl 0 rfl ?_
  refine ok_iconst (pc := 16) (v := i3 3) hc dX0_init_16 (by decide) ?_
  refine ok_newI (pc := 17) (len := 3) hc dX0_init_17 ac_int (by omega) c3 (ClV.r (by omega) ClV.z) (ClV.r (by omega) ClV.z) (by omega) ?_
  have c4 := c3.new (e := ai 3 (fun _ => 0)) (fun _ z => False.elim z)
  refine ok_putF (pc := 19) (fs := [.ref (a + 1), .null, .int (i3 0), .null, .null, .int (i3 0), .int (i3 0), .int (i3 0)]) hc hNm fl_X0_18 ⟨_, _, rfl⟩ dX0_init_19 (by omega) (by simp (disch := omega) only [up_at, up_ne, mnH_old]; first | done | rfl | exact rfl) (Nat.le_of_ble_eq_true rfl) (fun _ => rfl) (fun _ => rfl) ?_
  have c5 := c4.set (a := a) (e := .inl (0, [.ref (a + 1), .ref (a + 1 + 6), .int (i3 0), .null, .null, .int (i3 0), .int (i3 0), .int (i3 0)])) (fun j z => ((ClV.r (by omega) (ClV.r (by omega) (ClV.i (fun j z => by cases z) (ClV.i (fun j z => by cases z) (ClV.i (fun j z => by cases z) (ClV.i (fun j z => by cases z) (ClV.i (fun j z => by cases z) (ClV.i (fun j z => by cases z) ClV.z)))))))) : ClV [.ref (a + 1), .ref (a + 1 + 6), .int (i3 0), .null, .null, .int (i3 0), .int (i3 0), .int (i3 0)] (a + 1 + 6 + 1)) j z)
  refine ok_aload_n (pc := 22) hc dX0_init_22 rfl 0 rfl ?_
  refine ok_new (pc := 23) (N := 3) hc nw_X0_22 dX0_init_23 (fun j z => by simp at z) c5 (ClV.r (by omega) ClV.z) (ClV.r (by omega) ClV.z) (by omega) ?_
  have c6 := c5.new (e := .inl (3, [.null, .null, .null])) (fun j z => ((ClV.i (fun j z => by cases z) (ClV.i (fun j z => by cases z) (ClV.i (fun j z => by cases z) ClV.z))) : ClV [.null, .null, .null] (a + 1 + 6 + 1 + 1)) j z)
  refine ok_dup (pc := 26) hc dX0_init_26 rfl ?_
  refine ok_callI (pc := 27) (a := a + 1 + 6 + 1) (st := [.ref (a + 1 + 6 + 1), .ref (a)]) hc [] ci_X0_24 sp_X3_init (by decide) dX0_init_27 rfl (hcb := rfl) (hsb := rfl) rfl (Nat.le_of_ble_eq_true rfl) (ClV.r (by omega) ClV.z) (ClV.r (by omega) (ClV.r (by omega) ClV.z)) ⟨a + 1 + 6 + 1, rfl, rfl, by omega, by simp (disch := omega) only [up_at, up_ne, mnH_old], c6, fun h2 f2 p2 c7 => ⟨by omega, ?_⟩⟩
  have o2 : h2 a = .inl (0, [.ref (a + 1), .ref (a + 1 + 6), .int (i3 0), .null, .null, .int (i3 0), .int (i3 0), .int (i3 0)]) := (f2 a (by omega)).trans (by simp (disch := omega) only [up_at, up_ne, mnH_old]; first | done | rfl | exact rfl)
  refine ok_putF (pc := 30) (fs := [.ref (a + 1), .ref (a + 1 + 6), .int (i3 0), .null, .null, .int (i3 0), .int (i3 0), .int (i3 0)]) hc hNm fl_X0_25 ⟨_, _, rfl⟩ dX0_init_30 (by omega) o2 (Nat.le_of_ble_eq_true rfl) (fun _ => rfl) (fun _ => rfl) ?_
  have c8 := c7.set (a := a) (e := .inl (0, [.ref (a + 1), .ref (a + 1 + 6), .int (i3 0), .ref (a + 1 + 6 + 1), .null, .int (i3 0), .int (i3 0), .int (i3 0)])) (fun j z => ((ClV.r (by omega) (ClV.r (by omega) (ClV.i (fun j z => by cases z) (ClV.r (by omega) (ClV.i (fun j z => by cases z) (ClV.i (fun j z => by cases z) (ClV.i (fun j z => by cases z) (ClV.i (fun j z => by cases z) ClV.z)))))))) : ClV [.ref (a + 1), .ref (a + 1 + 6), .int (i3 0), .ref (a + 1 + 6 + 1), .null, .int (i3 0), .int (i3 0), .int (i3 0)] (a + 1 + 6 + 1 + 19)) j z)
  refine ok_aload_n (pc := 33) hc dX0_init_33 rfl 0 rfl ?_
  refine ok_bipush (pc := 34) (v := i3 7) hc dX0_init_34 (by decide) ?_
  refine ok_newJ (pc := 36) (len := 7) hc dX0_init_36 ac_long (by omega) c8 (ClV.r (by omega) ClV.z) (ClV.r (by omega) ClV.z) (by omega) ?_
  have c9 := c8.new (e := al 7 (fun _ => 0)) (fun _ z => False.elim z)
  refine ok_putF (pc := 38) (fs := [.ref (a + 1), .ref (a + 1 + 6), .int (i3 0), .ref (a + 1 + 6 + 1), .null, .int (i3 0), .int (i3 0), .int (i3 0)]) hc hNm fl_X0_29 ⟨_, _, rfl⟩ dX0_init_38 (by omega) (by simp (disch := omega) only [up_at, up_ne, mnH_old]; first | done | rfl | exact rfl) (Nat.le_of_ble_eq_true rfl) (fun _ => rfl) (fun _ => rfl) ?_
  have c10 := c9.set (a := a) (e := .inl (0, [.ref (a + 1), .ref (a + 1 + 6), .int (i3 0), .ref (a + 1 + 6 + 1), .ref (a + 1 + 6 + 1 + 19), .int (i3 0), .int (i3 0), .int (i3 0)])) (fun j z => ((ClV.r (by omega) (ClV.r (by omega) (ClV.i (fun j z => by cases z) (ClV.r (by omega) (ClV.r (by omega) (ClV.i (fun j z => by cases z) (ClV.i (fun j z => by cases z) (ClV.i (fun j z => by cases z) ClV.z)))))))) : ClV [.ref (a + 1), .ref (a + 1 + 6), .int (i3 0), .ref (a + 1 + 6 + 1), .ref (a + 1 + 6 + 1 + 19), .int (i3 0), .int (i3 0), .int (i3 0)] (a + 1 + 6 + 1 + 19 + 1)) j z)
  refine ok_vret (st := []) (pc := 41) hc hr dX0_init_41 ?_
  have e28 : a + 1 + 6 + 1 + 19 + 1 = a + 28 := by omega
  rw [e28] at c10 ⊢
  refine kk _ (fun i hi => by simp (disch := omega) only [up_ne]; rw [f2 i (by omega)]; simp (disch := omega) only [up_ne]; rw [f1 i (by omega)]; simp (disch := omega) only [up_ne]) ⟨by simp (disch := omega) only [up_at, up_ne] <;> rfl, p1.pt (fun i hi => by simp (disch := omega) only [up_ne]; rw [f2 i (by omega)]; simp (disch := omega) only [up_ne]), ?_, p2.pt (fun i hi => by simp (disch := omega) only [up_ne]), by simp (disch := omega) only [up_at, up_ne]⟩ c10
  simp (disch := omega) only [up_ne]
  rw [f2 _ (by omega)]
  simp (disch := omega) only [up_at, up_ne]
