/-! part a20: the constructors: Parts, State, Replies, TextReader, Bench -/
theorem nw_X6_7 : NW RX6 7 0 8 [.null, .null, .int (i3 0), .null, .null, .int (i3 0), .int (i3 0), .int (i3 0)] := ⟨RX0, TX0, tyX0, rfl, lay_X0, tyX0_ok, (in_all (i := 55) (by decide +kernel) rfl), (in_all (i := 56) (by decide +kernel) rfl), (in_all (i := 31) (by decide +kernel) rfl), fun j hj => by
  rcases (show j = 0 ∨ j = 1 ∨ j = 2 ∨ j = 3 ∨ j = 4 ∨ j = 5 ∨ j = 6 ∨ j = 7 by omega) with e | e | e | e | e | e | e | e <;> subst e <;> rfl⟩
theorem nw_X6_19 : NW RX6 19 5 9 [.null, .null, .int (i3 0), .int (i3 0), .null, .int (i3 0), .int (i3 0), .int (i3 0), .int (i3 0)] := ⟨RX5, TX5, tyX5, rfl, lay_X5, tyX5_ok, (in_all (i := 180) (by decide +kernel) rfl), (in_all (i := 181) (by decide +kernel) rfl), (in_all (i := 35) (by decide +kernel) rfl), fun j hj => by
  rcases (show j = 0 ∨ j = 1 ∨ j = 2 ∨ j = 3 ∨ j = 4 ∨ j = 5 ∨ j = 6 ∨ j = 7 ∨ j = 8 by omega) with e | e | e | e | e | e | e | e | e <;> subst e <;> rfl⟩
theorem nw_X6_26 : NW RX6 26 1 3 [.null, .int (i3 0), .int (i3 0)] := ⟨RX1, TX1, tyX1, rfl, lay_X1, tyX1_ok, (in_all (i := 220) (by decide +kernel) rfl), (in_all (i := 221) (by decide +kernel) rfl), (in_all (i := 36) (by decide +kernel) rfl), fun j hj => by
  rcases (show j = 0 ∨ j = 1 ∨ j = 2 by omega) with e | e | e <;> subst e <;> rfl⟩
theorem nw_X6_33 : NW RX6 33 4 4 [.null, .int (i3 0), .int (i3 0), .int (i3 0)] := ⟨RX4, TX4, tyX4, rfl, lay_X4, tyX4_ok, (in_all (i := 240) (by decide +kernel) rfl), (in_all (i := 62) (by decide +kernel) rfl), (in_all (i := 32) (by decide +kernel) rfl), fun j hj => by
  rcases (show j = 0 ∨ j = 1 ∨ j = 2 ∨ j = 3 by omega) with e | e | e | e <;> subst e <;> rfl⟩
theorem nw_X0_9 : NW RX0 9 4 4 [.null, .int (i3 0), .int (i3 0), .int (i3 0)] := ⟨RX4, TX4, tyX4, rfl, lay_X4, tyX4_ok, (in_all (i := 61) (by decide +kernel) rfl), (in_all (i := 62) (by decide +kernel) rfl), (in_all (i := 32) (by decide +kernel) rfl), fun j hj => by
  rcases (show j = 0 ∨ j = 1 ∨ j = 2 ∨ j = 3 by omega) with e | e | e | e <;> subst e <;> rfl⟩
theorem nw_X0_22 : NW RX0 22 3 3 [.null, .null, .null] := ⟨RX3, TX3, tyX3, rfl, lay_X3, tyX3_ok, (in_all (i := 129) (by decide +kernel) rfl), (in_all (i := 130) (by decide +kernel) rfl), (in_all (i := 34) (by decide +kernel) rfl), fun j hj => by
  rcases (show j = 0 ∨ j = 1 ∨ j = 2 by omega) with e | e | e <;> subst e <;> rfl⟩
theorem nw_X1_9 : NW RX1 9 4 4 [.null, .int (i3 0), .int (i3 0), .int (i3 0)] := ⟨RX4, TX4, tyX4, rfl, lay_X4, tyX4_ok, (in_all (i := 226) (by decide +kernel) rfl), (in_all (i := 62) (by decide +kernel) rfl), (in_all (i := 32) (by decide +kernel) rfl), fun j hj => by
  rcases (show j = 0 ∨ j = 1 ∨ j = 2 ∨ j = 3 by omega) with e | e | e | e <;> subst e <;> rfl⟩
theorem nw_X4_9 : NW RX4 9 2 5 [.null, .null, .null, .null, .int (i3 0)] := ⟨RX2, TX2, tyX2, rfl, lay_X2, tyX2_ok, (in_all (i := 67) (by decide +kernel) rfl), (in_all (i := 68) (by decide +kernel) rfl), (in_all (i := 33) (by decide +kernel) rfl), fun j hj => by
  rcases (show j = 0 ∨ j = 1 ∨ j = 2 ∨ j = 3 ∨ j = 4 by omega) with e | e | e | e | e <;> subst e <;> rfl⟩
theorem nw_X5_15 : NW RX5 15 2 5 [.null, .null, .null, .null, .int (i3 0)] := ⟨RX2, TX2, tyX2, rfl, lay_X2, tyX2_ok, (in_all (i := 186) (by decide +kernel) rfl), (in_all (i := 68) (by decide +kernel) rfl), (in_all (i := 33) (by decide +kernel) rfl), fun j hj => by
  rcases (show j = 0 ∨ j = 1 ∨ j = 2 ∨ j = 3 ∨ j = 4 by omega) with e | e | e | e | e <;> subst e <;> rfl⟩
theorem nw_L_65 : NW RL 65 6 6 [.null, .null, .null, .null, .null, .int (i3 0)] := ⟨RX6, TX6, tyX6, rfl, lay_X6, tyX6_ok, (in_all (i := 47) (by decide +kernel) rfl), (in_all (i := 48) (by decide +kernel) rfl), (in_all (i := 30) (by decide +kernel) rfl), fun j hj => by
  rcases (show j = 0 ∨ j = 1 ∨ j = 2 ∨ j = 3 ∨ j = 4 ∨ j = 5 by omega) with e | e | e | e | e | e <;> subst e <;> rfl⟩
theorem oi_X6 : Cond.methodLink RX6 1 Lib.objectInit ∈ lw_all := (in_all (i := 52) (by decide +kernel) rfl)
theorem ci_X6_9 : CI RX6 9 yX0_init cX0_init 1 0 := ⟨(in_all (i := 57) (by decide +kernel) rfl), (in_all (i := 58) (by decide +kernel) rfl), (in_all (i := 31) (by decide +kernel) rfl), (in_all (i := 59) (by decide +kernel) rfl), rfl, ⟨by decide +kernel, by decide +kernel⟩, by decide +kernel⟩
theorem ci_X6_21 : CI RX6 21 yX5_init cX5_init 1 0 := ⟨(in_all (i := 182) (by decide +kernel) rfl), (in_all (i := 183) (by decide +kernel) rfl), (in_all (i := 35) (by decide +kernel) rfl), (in_all (i := 184) (by decide +kernel) rfl), rfl, ⟨by decide +kernel, by decide +kernel⟩, by decide +kernel⟩
theorem ci_X6_28 : CI RX6 28 yX1_init cX1_init 2 0 := ⟨(in_all (i := 222) (by decide +kernel) rfl), (in_all (i := 223) (by decide +kernel) rfl), (in_all (i := 36) (by decide +kernel) rfl), (in_all (i := 224) (by decide +kernel) rfl), rfl, ⟨by decide +kernel, by decide +kernel⟩, by decide +kernel⟩
theorem ci_X6_39 : CI RX6 39 yX4_init cX4_init 1 0 := ⟨(in_all (i := 241) (by decide +kernel) rfl), (in_all (i := 64) (by decide +kernel) rfl), (in_all (i := 32) (by decide +kernel) rfl), (in_all (i := 65) (by decide +kernel) rfl), rfl, ⟨by decide +kernel, by decide +kernel⟩, by decide +kernel⟩
theorem oi_X0 : Cond.methodLink RX0 3 Lib.objectInit ∈ lw_all := (in_all (i := 60) (by decide +kernel) rfl)
theorem ci_X0_11 : CI RX0 11 yX4_init cX4_init 1 0 := ⟨(in_all (i := 63) (by decide +kernel) rfl), (in_all (i := 64) (by decide +kernel) rfl), (in_all (i := 32) (by decide +kernel) rfl), (in_all (i := 65) (by decide +kernel) rfl), rfl, ⟨by decide +kernel, by decide +kernel⟩, by decide +kernel⟩
theorem ci_X0_24 : CI RX0 24 yX3_init cX3_init 1 0 := ⟨(in_all (i := 131) (by decide +kernel) rfl), (in_all (i := 132) (by decide +kernel) rfl), (in_all (i := 34) (by decide +kernel) rfl), (in_all (i := 133) (by decide +kernel) rfl), rfl, ⟨by decide +kernel, by decide +kernel⟩, by decide +kernel⟩
theorem oi_X1 : Cond.methodLink RX1 3 Lib.objectInit ∈ lw_all := (in_all (i := 225) (by decide +kernel) rfl)
theorem ci_X1_17 : CI RX1 17 yX4_init cX4_init 1 0 := ⟨(in_all (i := 228) (by decide +kernel) rfl), (in_all (i := 64) (by decide +kernel) rfl), (in_all (i := 32) (by decide +kernel) rfl), (in_all (i := 65) (by decide +kernel) rfl), rfl, ⟨by decide +kernel, by decide +kernel⟩, by decide +kernel⟩
theorem oi_X2 : Cond.methodLink RX2 3 Lib.objectInit ∈ lw_all := (in_all (i := 72) (by decide +kernel) rfl)
theorem oi_X3 : Cond.methodLink RX3 3 Lib.objectInit ∈ lw_all := (in_all (i := 134) (by decide +kernel) rfl)
theorem oi_X4 : Cond.methodLink RX4 3 Lib.objectInit ∈ lw_all := (in_all (i := 66) (by decide +kernel) rfl)
theorem ci_X4_11 : CI RX4 11 yX2_init cX2_init 2 1 := ⟨(in_all (i := 69) (by decide +kernel) rfl), (in_all (i := 70) (by decide +kernel) rfl), (in_all (i := 33) (by decide +kernel) rfl), (in_all (i := 71) (by decide +kernel) rfl), rfl, ⟨by decide +kernel, by decide +kernel⟩, by decide +kernel⟩
theorem oi_X5 : Cond.methodLink RX5 3 Lib.objectInit ∈ lw_all := (in_all (i := 185) (by decide +kernel) rfl)
theorem ci_X5_17 : CI RX5 17 yX2_init cX2_init 2 1 := ⟨(in_all (i := 187) (by decide +kernel) rfl), (in_all (i := 70) (by decide +kernel) rfl), (in_all (i := 33) (by decide +kernel) rfl), (in_all (i := 71) (by decide +kernel) rfl), rfl, ⟨by decide +kernel, by decide +kernel⟩, by decide +kernel⟩
theorem ci_L_159 : CI RL 159 yX6_init cX6_init 2 0 := ⟨(in_all (i := 49) (by decide +kernel) rfl), (in_all (i := 50) (by decide +kernel) rfl), (in_all (i := 30) (by decide +kernel) rfl), (in_all (i := 51) (by decide +kernel) rfl), rfl, ⟨by decide +kernel, by decide +kernel⟩, by decide +kernel⟩
theorem oi_i : Cond.instanceMethod Lib.objectInit ∈ lw_all := (in_all (i := 53) (by decide +kernel) rfl)
theorem oi_c : Cond.code Lib.objectInit ⟨#[0xb1]⟩ 1 none ∈ lw_all := (in_all (i := 54) (by decide +kernel) rfl)
theorem cl_mna : Cond.classLink RX3 15 "[[J" ∈ lw_all := (in_all (i := 135) (by decide +kernel) rfl)
theorem ac_int : Cond.arrayClass .int ∈ lw_all := (in_all (i := 107) (by decide +kernel) rfl)
theorem ac_long : Cond.arrayClass .long ∈ lw_all := (in_all (i := 149) (by decide +kernel) rfl)
theorem ac_char : Cond.arrayClass .char ∈ lw_all := (in_all (i := 219) (by decide +kernel) rfl)
theorem ClV.z {n : Nat} : ClV [] n := fun j hj => absurd hj List.not_mem_nil
theorem ClV.r {a n : Nat} {vs : List Value} (h : a < n) (t : ClV vs n) : ClV (.ref a :: vs) n := fun j hj => by
  rcases List.mem_cons.mp hj with e | e
  · have e2 : j = a := Value.ref.inj e
    exact Or.inl (by rw [e2]; exact h)
  · exact t j e
theorem ClV.i {v : Value} {n : Nat} {vs : List Value} (h : ∀ j, v ≠ .ref j) (t : ClV vs n) : ClV (v :: vs) n := fun j hj => by
  rcases List.mem_cons.mp hj with e | e
  · exact absurd e.symm (h j)
  · exact t j e
theorem Cl.new {h : HP} {n : Nat} {e : AE} (c : Cl h n) (he : ∀ j, Rf e j → j < n + 1 ∨ SA ≤ j) : Cl (va_up h n e) (n + 1) := fun i hi j hj => by
  by_cases z : i = n
  · subst z
    rw [up_self] at hj
    exact he j hj
  · rw [up_ne z] at hj
    have := c i (by omega) j hj
    omega
theorem Cl.set {h : HP} {n a : Nat} {e : AE} (c : Cl h n) (he : ∀ j, Rf e j → j < n ∨ SA ≤ j) : Cl (va_up h a e) n := fun i hi j hj => by
  by_cases z : i = a
  · subst z
    rw [up_self] at hj
    exact he j hj
  · rw [up_ne z] at hj
    exact c i hi j hj
theorem mnH_old {h : HP} {n N K i : Nat} (hi : i < n) : mnH h n N K i = h i := by
  unfold mnH
  rw [if_neg (by omega), if_neg (by omega)]
theorem mnH_at {h : HP} {n N K i : Nat} (hi : i = n) : mnH h n N K i = .inr (4, N, .inr (.inr (fun j => if j < N then some (n + 1 + j) else none))) := if_pos hi
theorem mnH_row {h : HP} {n N K i : Nat} (h1 : n < i) (h2 : i ≤ n + N) : mnH h n N K i = al K (fun _ => 0) := by
  unfold mnH
  rw [if_neg (by omega), if_pos ⟨h1, h2⟩]
theorem Cl.mna {h : HP} {n N K : Nat} (c : Cl h n) : Cl (mnH h n N K) (n + 1 + N) := fun i hi j hj => by
  by_cases z : i = n
  · rw [mnH_at z] at hj
    obtain ⟨k, hk⟩ := hj
    have hk : (if k < N then some (n + 1 + k) else none) = some j := hk
    by_cases y : k < N
    · rw [if_pos y] at hk
      have := Option.some.inj hk
      omega
    · rw [if_neg y] at hk
      cases hk
  · by_cases y : n < i
    · rw [mnH_row y (by omega)] at hj
      exact False.elim hj
    · rw [mnH_old (by omega)] at hj
      have := c i (by omega) j hj
      omega
theorem up_at {α : Type} {f : Nat → α} {k i : Nat} {v : α} (h : i = k) : va_up f k v i = v := by rw [h, up_self]
/-- what a constructor leaves: Parts at a -/
def PtI (h : HP) (a cap : Nat) : Prop := h a = .inl (2, [.ref (a + 1), .ref (a + 2), .ref (a + 3), .ref (a + 4), .int (i3 0)]) ∧ h (a + 1) = ai cap (fun _ => 0) ∧ h (a + 2) = ai cap (fun _ => 0) ∧ h (a + 3) = ai cap (fun _ => 0) ∧ h (a + 4) = ai cap (fun _ => 0)
theorem PtI.pt {h h' : HP} {a cap : Nat} (p : PtI h a cap) (e : ∀ i, a ≤ i ∧ i ≤ a + 4 → h' i = h i) : PtI h' a cap := ⟨(e _ (by omega)).trans p.1, (e _ (by omega)).trans p.2.1, (e _ (by omega)).trans p.2.2.1, (e _ (by omega)).trans p.2.2.2.1, (e _ (by omega)).trans p.2.2.2.2⟩
def spec_X2_init (args : List Value) (n : Nat) (h : HP) (K : KT) : Prop := ∃ (a cap : Nat), args = [.ref a, .int (i3 (cap : Int))] ∧ n = a + 1 ∧ a + 5 < SA ∧ cap ≤ 15 ∧ h a = .inl (2, [.null, .null, .null, .null, .int (i3 0)]) ∧ Cl h n ∧ ∀ h', Fr h h' a (a + 4) → PtI h' a cap → Cl h' (a + 5) → K (.inl none) (a + 5) h'
theorem sp_X2_init : Sp yX2_init cX2_init 2 none 1 20 4 60 spec_X2_init := by
  refine sp_introI (by decide) rfl (by rintro args n h K ⟨a, cap, rfl, -⟩; exact Nat.le_of_ble_eq_true rfl) ?_
  rintro X args n h K hNm hc hr ⟨a, cap, rfl, rfl, hb, hcap, o0, c0, kk⟩
  refine Ok.up (cb := 4) (sb := 0 + cap + cap + cap + cap) ?_ (by omega) (by omega)
  refine ok_aload_n (pc := 0) hc dX2_init_0 rfl 0 rfl ?_
  refine ok_objI (pc := 1) hc dX2_init_1 oi_X2 oi_i oi_c (by decide) (Nat.le_of_ble_eq_true rfl) (Nat.le_of_ble_eq_true rfl) ?_
  refine ok_aload_n (pc := 4) hc dX2_init_4 rfl 0 rfl ?_
  refine ok_iload_n (pc := 5) hc dX2_init_5 rfl 1 rfl ?_
  refine ok_newI (pc := 6) (len := cap) hc dX2_init_6 ac_int (by omega) c0 (ClV.r (by omega) (ClV.i (fun j z => by cases z) ClV.z)) (ClV.r (by omega) ClV.z) (by omega) ?_
  have c1 := c0.new (e := ai cap (fun _ => 0)) (fun _ z => False.elim z)
  refine ok_putF (pc := 8) (fs := [.null, .null, .null, .null, .int (i3 0)]) hc hNm fl_X2_9 ⟨_, _, rfl⟩ dX2_init_8 (by omega) (by simp (disch := omega) only [up_at, up_ne, mnH_old]; first | done | rfl | exact o0) (Nat.le_of_ble_eq_true rfl) (fun _ => rfl) (fun _ => rfl) ?_
  have c2 := c1.set (a := a) (e := .inl (2, [.ref (a + 1), .null, .null, .null, .int (i3 0)])) (fun j z => ((ClV.r (by omega) (ClV.i (fun j z => by cases z) (ClV.i (fun j z => by cases z) (ClV.i (fun j z => by cases z) (ClV.i (fun j z => by cases z) ClV.z))))) : ClV [.ref (a + 1), .null, .null, .null, .int (i3 0)] (a + 1 + 1)) j z)
  refine ok_aload_n (pc := 11) hc dX2_init_11 rfl 0 rfl ?_
  refine ok_iload_n (pc := 12) hc dX2_init_12 rfl 1 rfl ?_
  refine ok_newI (pc := 13) (len := cap) hc dX2_init_13 ac_int (by omega) c2 (ClV.r (by omega) (ClV.i (fun j z => by cases z) ClV.z)) (ClV.r (by omega) ClV.z) (by omega) ?_
  have c3 := c2.new (e := ai cap (fun _ => 0)) (fun _ z => False.elim z)
  refine ok_putF (pc := 15) (fs := [.ref (a + 1), .null, .null, .null, .int (i3 0)]) hc hNm fl_X2_15 ⟨_, _, rfl⟩ dX2_init_15 (by omega) (by simp (disch := omega) only [up_at, up_ne, mnH_old]; first | done | rfl | exact rfl) (Nat.le_of_ble_eq_true rfl) (fun _ => rfl) (fun _ => rfl) ?_
  have c4 := c3.set (a := a) (e := .inl (2, [.ref (a + 1), .ref (a + 1 + 1), .null, .null, .int (i3 0)])) (fun j z => ((ClV.r (by omega) (ClV.r (by omega) (ClV.i (fun j z => by cases z) (ClV.i (fun j z => by cases z) (ClV.i (fun j z => by cases z) ClV.z))))) : ClV [.ref (a + 1), .ref (a + 1 + 1), .null, .null, .int (i3 0)] (a + 1 + 1 + 1)) j z)
  refine ok_aload_n (pc := 18) hc dX2_init_18 rfl 0 rfl ?_
  refine ok_iload_n (pc := 19) hc dX2_init_19 rfl 1 rfl ?_
  refine ok_newI (pc := 20) (len := cap) hc dX2_init_20 ac_int (by omega) c4 (ClV.r (by omega) (ClV.i (fun j z => by cases z) ClV.z)) (ClV.r (by omega) ClV.z) (by omega) ?_
  have c5 := c4.new (e := ai cap (fun _ => 0)) (fun _ z => False.elim z)
  refine ok_putF (pc := 22) (fs := [.ref (a + 1), .ref (a + 1 + 1), .null, .null, .int (i3 0)]) hc hNm fl_X2_18 ⟨_, _, rfl⟩ dX2_init_22 (by omega) (by simp (disch := omega) only [up_at, up_ne, mnH_old]; first | done | rfl | exact rfl) (Nat.le_of_ble_eq_true rfl) (fun _ => rfl) (fun _ => rfl) ?_
  have c6 := c5.set (a := a) (e := .inl (2, [.ref (a + 1), .ref (a + 1 + 1), .ref (a + 1 + 1 + 1), .null, .int (i3 0)])) (fun j z => ((ClV.r (by omega) (ClV.r (by omega) (ClV.r (by omega) (ClV.i (fun j z => by cases z) (ClV.i (fun j z => by cases z) ClV.z))))) : ClV [.ref (a + 1), .ref (a + 1 + 1), .ref (a + 1 + 1 + 1), .null, .int (i3 0)] (a + 1 + 1 + 1 + 1)) j z)
  refine ok_aload_n (pc := 25) hc dX2_init_25 rfl 0 rfl ?_
  refine ok_iload_n (pc := 26) hc dX2_init_26 rfl 1 rfl ?_
  refine ok_newI (pc := 27) (len := cap) hc dX2_init_27 ac_int (by omega) c6 (ClV.r (by omega) (ClV.i (fun j z => by cases z) ClV.z)) (ClV.r (by omega) ClV.z) (by omega) ?_
  have c7 := c6.new (e := ai cap (fun _ => 0)) (fun _ z => False.elim z)
  refine ok_putF (pc := 29) (fs := [.ref (a + 1), .ref (a + 1 + 1), .ref (a + 1 + 1 + 1), .null, .int (i3 0)]) hc hNm fl_X2_21 ⟨_, _, rfl⟩ dX2_init_29 (by omega) (by simp (disch := omega) only [up_at, up_ne, mnH_old]; first | done | rfl | exact rfl) (Nat.le_of_ble_eq_true rfl) (fun _ => rfl) (fun _ => rfl) ?_
  have c8 := c7.set (a := a) (e := .inl (2, [.ref (a + 1), .ref (a + 1 + 1), .ref (a + 1 + 1 + 1), .ref (a + 1 + 1 + 1 + 1), .int (i3 0)])) (fun j z => ((ClV.r (by omega) (ClV.r (by omega) (ClV.r (by omega) (ClV.r (by omega) (ClV.i (fun j z => by cases z) ClV.z))))) : ClV [.ref (a + 1), .ref (a + 1 + 1), .ref (a + 1 + 1 + 1), .ref (a + 1 + 1 + 1 + 1), .int (i3 0)] (a + 1 + 1 + 1 + 1 + 1)) j z)
  refine ok_vret (st := []) (pc := 32) hc hr dX2_init_32 ?_
  exact kk _ (fun i hi => by simp (disch := omega) only [up_ne]) ⟨by simp (disch := omega) only [up_at, up_ne] <;> rfl, by simp (disch := omega) only [up_at, up_ne], by simp (disch := omega) only [up_at, up_ne], by simp (disch := omega) only [up_at, up_ne], by simp (disch := omega) only [up_at, up_ne]⟩ c8
def StI (h : HP) (a : Nat) : Prop := h a = .inl (4, [.ref (a + 1), .int (i3 150), .int (i3 0), .int (i3 1)]) ∧ PtI h (a + 1) 12
theorem StI.pt {h h' : HP} {a : Nat} (p : StI h a) (e : ∀ i, a ≤ i ∧ i ≤ a + 5 → h' i = h i) : StI h' a := ⟨(e _ (by omega)).trans p.1, p.2.pt (fun i hi => e i (by omega))⟩
def spec_X4_init (args : List Value) (n : Nat) (h : HP) (K : KT) : Prop := ∃ (a : Nat), args = [.ref a] ∧ n = a + 1 ∧ a + 6 < SA ∧ h a = .inl (4, [.null, .int (i3 0), .int (i3 0), .int (i3 0)]) ∧ Cl h n ∧ ∀ h', Fr h h' a (a + 5) → StI h' a → Cl h' (a + 6) → K (.inl none) (a + 6) h'
theorem sp_X4_init : Sp yX4_init cX4_init 1 none 2 41 5 65 spec_X4_init := by
  refine sp_introI (by decide) rfl (by rintro args n h K ⟨a, rfl, -⟩; exact Nat.le_of_ble_eq_true rfl) ?_
  rintro X args n h K hNm hc hr ⟨a, rfl, rfl, hb, o0, c0, kk⟩
  refine ok_aload_n (pc := 0) hc dX4_init_0 rfl 0 rfl ?_
  refine ok_objI (pc := 1) hc dX4_init_1 oi_X4 oi_i oi_c (by decide) (Nat.le_of_ble_eq_true rfl) (Nat.le_of_ble_eq_true rfl) ?_
  refine ok_aload_n (pc := 4) hc dX4_init_4 rfl 0 rfl ?_
  refine ok_new (pc := 5) (N := 5) hc nw_X4_9 dX4_init_5 (fun j z => by simp at z) c0 (ClV.r (by omega) ClV.z) (ClV.r (by omega) ClV.z) (by omega) ?_
  have c1 := c0.new (e := .inl (2, [.null, .null, .null, .null, .int (i3 0)])) (fun j z => ((ClV.i (fun j z => by cases z) (ClV.i (fun j z => by cases z) (ClV.i (fun j z => by cases z) (ClV.i (fun j z => by cases z) (ClV.i (fun j z => by cases z) ClV.z))))) : ClV [.null, .null, .null, .null, .int (i3 0)] (a + 1 + 1)) j z)
  refine ok_dup (pc := 8) hc dX4_init_8 rfl ?_
  refine ok_bipush (pc := 9) (v := i3 12) hc dX4_init_9 (by decide) ?_
  refine ok_callI (pc := 11) (a := a + 1) (st := [.ref (a + 1), .ref (a)]) hc [.int (i3 12)] ci_X4_11 sp_X2_init (by decide) dX4_init_11 rfl (hcb := rfl) (hsb := rfl) rfl (Nat.le_of_ble_eq_true rfl) (ClV.r (by omega) ClV.z) (ClV.r (by omega) (ClV.r (by omega) ClV.z)) ⟨a + 1, 12, rfl, rfl, by omega, by omega, by simp (disch := omega) only [up_at, up_ne, mnH_old], c1, fun h1 f1 p1 c2 => ⟨by omega, ?_⟩⟩
  have o1 : h1 a = .inl (4, [.null, .int (i3 0), .int (i3 0), .int (i3 0)]) := (f1 a (by omega)).trans (by simp (disch := omega) only [up_at, up_ne, mnH_old]; first | done | rfl | exact o0)
  refine ok_putF (pc := 14) (fs := [.null, .int (i3 0), .int (i3 0), .int (i3 0)]) hc hNm fl_X4_14 ⟨_, _, rfl⟩ dX4_init_14 (by omega) o1 (Nat.le_of_ble_eq_true rfl) (fun _ => rfl) (fun _ => rfl) ?_
  have c3 := c2.set (a := a) (e := .inl (4, [.ref (a + 1), .int (i3 0), .int (i3 0), .int (i3 0)])) (fun j z => ((ClV.r (by omega) (ClV.i (fun j z => by cases z) (ClV.i (fun j z => by cases z) (ClV.i (fun j z => by cases z) ClV.z)))) : ClV [.ref (a + 1), .int (i3 0), .int (i3 0), .int (i3 0)] (a + 1 + 5)) j z)
  refine ok_aload_n (pc := 17) hc dX4_init_17 rfl 0 rfl ?_
  refine ok_sipush (pc := 18) (v := i3 150) hc dX4_init_18 (by decide) ?_
  refine ok_put (pc := 21) (fs := [.ref (a + 1), .int (i3 0), .int (i3 0), .int (i3 0)]) hc fl_X4_20 dX4_init_21 (by omega) (by simp (disch := omega) only [up_at, up_ne, mnH_old]; first | done | rfl | exact rfl) (Nat.le_of_ble_eq_true rfl) (fun _ => rfl) (fun _ => rfl) ?_
  have c4 := c3.set (a := a) (e := .inl (4, [.ref (a + 1), .int (i3 150), .int (i3 0), .int (i3 0)])) (fun j z => ((ClV.r (by omega) (ClV.i (fun j z => by cases z) (ClV.i (fun j z => by cases z) (ClV.i (fun j z => by cases z) ClV.z)))) : ClV [.ref (a + 1), .int (i3 150), .int (i3 0), .int (i3 0)] (a + 1 + 5)) j z)
  refine ok_aload_n (pc := 24) hc dX4_init_24 rfl 0 rfl ?_
  refine ok_iconst (pc := 25) (v := i3 1) hc dX4_init_25 (by decide) ?_
  refine ok_put (pc := 26) (fs := [.ref (a + 1), .int (i3 150), .int (i3 0), .int (i3 0)]) hc fl_X4_24 dX4_init_26 (by omega) (by simp (disch := omega) only [up_at, up_ne, mnH_old]; first | done | rfl | exact rfl) (Nat.le_of_ble_eq_true rfl) (fun _ => nar_z (by decide)) (fun _ => fit_zz (by decide)) ?_
  have c5 := c4.set (a := a) (e := .inl (4, [.ref (a + 1), .int (i3 150), .int (i3 0), .int (i3 1)])) (fun j z => ((ClV.r (by omega) (ClV.i (fun j z => by cases z) (ClV.i (fun j z => by cases z) (ClV.i (fun j z => by cases z) ClV.z)))) : ClV [.ref (a + 1), .int (i3 150), .int (i3 0), .int (i3 1)] (a + 1 + 5)) j z)
  refine ok_vret (st := []) (pc := 29) hc hr dX4_init_29 ?_
  have e6 : a + 1 + 5 = a + 6 := by omega
  rw [e6] at c5 ⊢
  exact kk _ (fun i hi => by simp (disch := omega) only [up_ne]; rw [f1 i (by omega)]; simp (disch := omega) only [up_ne]) ⟨by simp (disch := omega) only [up_at, up_ne] <;> rfl, p1.pt (fun i hi => by simp (disch := omega) only [up_ne])⟩ c5
def RpI (h : HP) (a : Nat) : Prop := h a = .inl (3, [.ref (a + 1), .ref (a + 2), .ref (a + 11)]) ∧ h (a + 1) = al 8 (fun _ => 0) ∧ h (a + 2) = .inr (4, 8, .inr (.inr (fun j => if j < 8 then some (a + 3 + j) else none))) ∧ (∀ i, a + 3 ≤ i ∧ i ≤ a + 10 → h i = al 49 (fun _ => 0)) ∧ h (a + 11) = .inr (4, 7, .inr (.inr (fun j => if j < 7 then some (a + 12 + j) else none))) ∧ ∀ i, a + 12 ≤ i ∧ i ≤ a + 18 → h i = al 14 (fun _ => 0)
theorem RpI.pt {h h' : HP} {a : Nat} (p : RpI h a) (e : ∀ i, a ≤ i ∧ i ≤ a + 18 → h' i = h i) : RpI h' a := ⟨(e _ (by omega)).trans p.1, (e _ (by omega)).trans p.2.1, (e _ (by omega)).trans p.2.2.1, fun i hi => (e i (by omega)).trans (p.2.2.2.1 i hi), (e _ (by omega)).trans p.2.2.2.2.1, fun i hi => (e i (by omega)).trans (p.2.2.2.2.2 i hi)⟩
def spec_X3_init (args : List Value) (n : Nat) (h : HP) (K : KT) : Prop := ∃ (a : Nat), args = [.ref a] ∧ n = a + 1 ∧ a + 19 < SA ∧ h a = .inl (3, [.null, .null, .null]) ∧ Cl h n ∧ ∀ h', Fr h h' a (a + 18) → RpI h' a → Cl h' (a + 19) → K (.inl none) (a + 19) h'
theorem sp_X3_init : Sp yX3_init cX3_init 1 none 1 20 18 605 spec_X3_init := by
  refine sp_introI (by decide) rfl (by rintro args n h K ⟨a, rfl, -⟩; exact Nat.le_of_ble_eq_true rfl) ?_
  rintro X args n h K hNm hc hr ⟨a, rfl, rfl, hb, o0, c0, kk⟩
  refine ok_aload_n (pc := 0) hc dX3_init_0 rfl 0 rfl ?_
  refine ok_objI (pc := 1) hc dX3_init_1 oi_X3 oi_i oi_c (by decide) (Nat.le_of_ble_eq_true rfl) (Nat.le_of_ble_eq_true rfl) ?_
  refine ok_aload_n (pc := 4) hc dX3_init_4 rfl 0 rfl ?_
  refine ok_bipush (pc := 5) (v := i3 8) hc dX3_init_5 (by decide) ?_
  refine ok_newJ (pc := 7) (len := 8) hc dX3_init_7 ac_long (by omega) c0 (ClV.r (by omega) ClV.z) (ClV.r (by omega) ClV.z) (by omega) ?_
  have c1 := c0.new (e := al 8 (fun _ => 0)) (fun _ z => False.elim z)
  refine ok_putF (pc := 9) (fs := [.null, .null, .null]) hc hNm fl_X3_9 ⟨_, _, rfl⟩ dX3_init_9 (by omega) (by simp (disch := omega) only [up_at, up_ne, mnH_old]; first | done | rfl | exact o0) (Nat.le_of_ble_eq_true rfl) (fun _ => rfl) (fun _ => rfl) ?_
  have c2 := c1.set (a := a) (e := .inl (3, [.ref (a + 1), .null, .null])) (fun j z => ((ClV.r (by omega) (ClV.i (fun j z => by cases z) (ClV.i (fun j z => by cases z) ClV.z))) : ClV [.ref (a + 1), .null, .null] (a + 1 + 1)) j z)
  refine ok_aload_n (pc := 12) hc dX3_init_12 rfl 0 rfl ?_
  refine ok_bipush (pc := 13) (v := i3 8) hc dX3_init_13 (by decide) ?_
  refine ok_bipush (pc := 15) (v := i3 49) hc dX3_init_15 (by decide) ?_
  refine ok_mna (pc := 17) (N := 8) (K := 49) hc dX3_init_17 cl_mna ac_long (by omega) (by omega) c2 (ClV.r (by omega) ClV.z) (ClV.r (by omega) ClV.z) (by omega) ?_
  have c3 := c2.mna (N := 8) (K := 49)
  refine ok_putF (pc := 21) (fs := [.ref (a + 1), .null, .null]) hc hNm fl_X3_17 ⟨_, _, rfl⟩ dX3_init_21 (by omega) (by simp (disch := omega) only [up_at, up_ne, mnH_old]; first | done | rfl | exact rfl) (Nat.le_of_ble_eq_true rfl) (fun _ => rfl) (fun _ => rfl) ?_
  have c4 := c3.set (a := a) (e := .inl (3, [.ref (a + 1), .ref (a + 1 + 1), .null])) (fun j z => ((ClV.r (by omega) (ClV.r (by omega) (ClV.i (fun j z => by cases z) ClV.z))) : ClV [.ref (a + 1), .ref (a + 1 + 1), .null] (a + 1 + 1 + 1 + 8)) j z)
  refine ok_aload_n (pc := 24) hc dX3_init_24 rfl 0 rfl ?_
  refine ok_bipush (pc := 25) (v := i3 7) hc dX3_init_25 (by decide) ?_
  refine ok_bipush (pc := 27) (v := i3 14) hc dX3_init_27 (by decide) ?_
  refine ok_mna (pc := 29) (N := 7) (K := 14) hc dX3_init_29 cl_mna ac_long (by omega) (by omega) c4 (ClV.r (by omega) ClV.z) (ClV.r (by omega) ClV.z) (by omega) ?_
  have c5 := c4.mna (N := 7) (K := 14)
  refine ok_putF (pc := 33) (fs := [.ref (a + 1), .ref (a + 1 + 1), .null]) hc hNm fl_X3_20 ⟨_, _, rfl⟩ dX3_init_33 (by omega) (by simp (disch := omega) only [up_at, up_ne, mnH_old]; first | done | rfl | exact rfl) (Nat.le_of_ble_eq_true rfl) (fun _ => rfl) (fun _ => rfl) ?_
  have c6 := c5.set (a := a) (e := .inl (3, [.ref (a + 1), .ref (a + 1 + 1), .ref (a + 1 + 1 + 1 + 8)])) (fun j z => ((ClV.r (by omega) (ClV.r (by omega) (ClV.r (by omega) ClV.z))) : ClV [.ref (a + 1), .ref (a + 1 + 1), .ref (a + 1 + 1 + 1 + 8)] (a + 1 + 1 + 1 + 8 + 1 + 7)) j z)
  refine ok_vret (st := []) (pc := 36) hc hr dX3_init_36 ?_
  have e19 : a + 1 + 1 + 1 + 8 + 1 + 7 = a + 19 := by omega
  rw [e19] at c6 ⊢
  refine kk _ (fun i hi => ?_) ⟨by simp (disch := omega) only [up_at, up_ne] <;> rfl, by simp (disch := omega) only [up_at, up_ne, mnH_old], by simp (disch := omega) only [up_at, up_ne, mnH_old, mnH_at], fun i hi => by simp (disch := omega) only [up_ne, mnH_old, mnH_row], ?_, fun i hi => by simp (disch := omega) only [up_ne, mnH_row]⟩ c6
  · rcases hi with hi | hi
    · simp (disch := omega) only [up_ne, mnH_old]
    · have e1 : ∀ (g : HP) (n N K : Nat), n + N < i → mnH g n N K i = g i := fun g n N K hn => by
        unfold mnH
        rw [if_neg (by omega), if_neg (by omega)]
      simp (disch := omega) only [up_ne, e1]
  · simp (disch := omega) only [up_ne, mnH_at]
