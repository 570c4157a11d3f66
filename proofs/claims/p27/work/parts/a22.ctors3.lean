/-! part a22: the constructors: History, the reference -/
def HsI (h : HP) (a : Nat) : Prop := h a = .inl (1, [.ref (a + 1), .int (i3 0), .int (i3 0)]) ∧ h (a + 1) = .inr (3, 8, .inr (.inr (fun j => if j < 8 then some (a + 2 + 6 * j) else none))) ∧ ∀ j, j < 8 → StI h (a + 2 + 6 * j)
theorem HsI.pt {h h' : HP} {a : Nat} (p : HsI h a) (e : ∀ i, a ≤ i ∧ i ≤ a + 49 → h' i = h i) : HsI h' a := ⟨(e _ (by omega)).trans p.1, (e _ (by omega)).trans p.2.1, fun j hj => (p.2.2 j hj).pt (fun i hi => e i (by omega))⟩
theorem fun_up {b : Nat} (i : Nat) : va_up (fun j => if j < i then some (b + 6 * j) else none) i (some (b + 6 * i)) = fun j => if j < i + 1 then some (b + 6 * j) else (none : Option Nat) := funext fun j => by
  by_cases e : j = i
  · subst e
    rw [up_self, if_pos (by omega)]
  · rw [up_ne e]
    by_cases y : j < i
    · rw [if_pos y, if_pos (by omega)]
    · rw [if_neg y, if_neg (by omega)]
def spec_X1_init (args : List Value) (n : Nat) (h : HP) (K : KT) : Prop := ∃ (a : Nat), args = [.ref a] ∧ n = a + 1 ∧ a + 50 < SA ∧ h a = .inl (1, [.null, .int (i3 0), .int (i3 0)]) ∧ Cl h n ∧ ∀ h', Fr h h' a (a + 49) → HsI h' a → Cl h' (a + 50) → K (.inl none) (a + 50) h'
theorem sp_X1_init : Sp yX1_init cX1_init 2 none 3 61 49 600 spec_X1_init := by
  refine sp_introI (by decide) rfl (by rintro args n h K ⟨a, rfl, -⟩; exact Nat.le_of_ble_eq_true rfl) ?_
  rintro X args n h K hNm hc hr ⟨a, rfl, rfl, hb, o0, c0, kk⟩
  have L : ∀ (f i : Nat) (hh : HP), i + f = 8 → hh a = .inl (1, [.ref (a + 1), .int (i3 0), .int (i3 0)]) → hh (a + 1) = .inr (3, 8, .inr (.inr (fun j => if j < i then some (a + 2 + 6 * j) else none))) → (∀ j, j < i → StI hh (a + 2 + 6 * j)) → Cl hh (a + 2 + 6 * i) → Fr h hh a (a + 49) → Ok X (6 * f) (69 * f) 15 [(0, .ref a), (1, .int (i3 i))] [] (a + 2 + 6 * i) hh := by
    intro f
    induction f with
    | zero =>
      intro i hh hi h1 h2 h3 hcl hf
      have : i = 8 := by omega
      subst this
      refine ok_iload_n (pc := 15) hc dX1_init_15 rfl 1 rfl ?_
      refine ok_bipush (pc := 16) (v := i3 8) hc dX1_init_16 (by decide) ?_
      refine zk_icmp_ge (pc := 18) (tgt := 40) hc dX1_init_18 (by decide) (R3_s (by omega)) (R3_s (by omega)) (fun _ => ?_) (fun c => absurd (by omega) c)
      exact ok_vret (st := []) (pc := 40) hc hr dX1_init_40 (kk hh hf ⟨h1, h2, h3⟩ hcl)
    | succ f ih =>
      intro i hh hi h1 h2 h3 hcl hf
      have e1 : 6 * (f + 1) = 6 * f + 5 + 1 := by omega
      have e2 : 69 * (f + 1) = 69 * f + 65 + 4 := by omega
      rw [e1, e2]
      refine ok_iload_n (pc := 15) hc dX1_init_15 rfl 1 rfl ?_
      refine ok_bipush (pc := 16) (v := i3 8) hc dX1_init_16 (by decide) ?_
      refine zk_icmp_ge (pc := 18) (tgt := 40) hc dX1_init_18 (by decide) (R3_s (by omega)) (R3_s (by omega)) (fun c => absurd c (by omega)) (fun _ => ?_)
      refine ok_aload_n (pc := 21) hc dX1_init_21 rfl 0 rfl ?_
      refine ok_get (pc := 22) hc fl_X1_11 dX1_init_22 (by omega) h1 rfl ?_
      refine ok_iload_n (pc := 25) hc dX1_init_25 rfl 1 rfl ?_
      refine ok_new (pc := 26) (N := 4) hc nw_X1_9 dX1_init_26 (fun j z => by simp at z) hcl (ClV.r (by omega) (ClV.i (fun j z => by cases z) ClV.z)) (ClV.i (fun j z => by cases z) (ClV.r (by omega) ClV.z)) (by omega) ?_
      have c1 := hcl.new (e := .inl (4, [.null, .int (i3 0), .int (i3 0), .int (i3 0)])) (fun j z => (ClV.i (fun j z => by cases z) (ClV.i (fun j z => by cases z) (ClV.i (fun j z => by cases z) (ClV.i (fun j z => by cases z) ClV.z))) : ClV [.null, .int (i3 0), .int (i3 0), .int (i3 0)] (a + 2 + 6 * i + 1)) j z)
      refine ok_dup (pc := 29) hc dX1_init_29 rfl ?_
      refine ok_callI (pc := 30) (a := a + 2 + 6 * i) (cb := 6 * f) (sb := 69 * f) (st := [.ref (a + 2 + 6 * i), .int (i3 i), .ref (a + 1)]) hc [] ci_X1_17 sp_X4_init (by decide) dX1_init_30 rfl rfl rfl rfl (Nat.le_of_ble_eq_true rfl) (ClV.r (by omega) (ClV.i (fun j z => by cases z) ClV.z)) (ClV.r (by omega) (ClV.i (fun j z => by cases z) (ClV.r (by omega) ClV.z))) ⟨a + 2 + 6 * i, rfl, rfl, by omega, by simp (disch := omega) only [up_at, up_ne], c1, fun h4 f4 p4 c4 => ⟨by omega, ?_⟩⟩
      have k1 : h4 a = .inl (1, [.ref (a + 1), .int (i3 0), .int (i3 0)]) := (f4 a (by omega)).trans ((up_ne (by omega)).trans h1)
      have k2 : h4 (a + 1) = .inr (3, 8, .inr (.inr (fun j => if j < i then some (a + 2 + 6 * j) else none))) := (f4 (a + 1) (by omega)).trans ((up_ne (by omega)).trans h2)
      refine ok_aastS (pc := 33) hc dX1_init_33 (by omega) k2 (by omega) p4.1 ⟨by omega, by omega, by omega⟩ ?_
      rw [Int.toNat_natCast, fun_up i]
      refine zk_iinc (pc := 34) hc (q := 1) (x := (i : Int)) (lv' := [(1, .int (i3 ((i : Int) + 1))), (0, .ref a)]) dX1_init_34 rfl (by decide) rfl ?_
      refine ok_lv [1, 0] rfl ?_
      refine ok_goto (pc := 37) (tgt := 15) hc dX1_init_37 (by decide) ?_
      have e6 : a + 2 + 6 * i + 6 = a + 2 + 6 * (i + 1) := by omega
      rw [e6] at c4 ⊢
      refine ih (i + 1) _ (by omega) ((up_ne (by omega)).trans k1) up_self (fun j hj => ?_) (c4.set (a := a + 1) (e := .inr (3, 8, .inr (.inr (fun j => if j < i + 1 then some (a + 2 + 6 * j) else none)))) (fun j z => ?_)) (fun x hx => ?_)
      · by_cases y : j = i
        · subst y
          exact p4.pt (fun x hx => up_ne (by omega))
        · exact (h3 j (by omega)).pt (fun x hx => by rw [up_ne (by omega), f4 x (by omega), up_ne (by omega)])
      · obtain ⟨k, hk⟩ := z
        have hk : (if k < i + 1 then some (a + 2 + 6 * k) else none) = some j := hk
        by_cases y : k < i + 1
        · rw [if_pos y] at hk
          have := Option.some.inj hk
          omega
        · rw [if_neg y] at hk
          cases hk
      · rw [up_ne (by omega), f4 x (by omega), up_ne (by omega)]
        exact hf x hx
  refine Ok.up (cb := 6 * 8 + 1) (sb := 69 * 8 + 8) ?_ (by omega) (by omega)
  refine ok_aload_n (pc := 0) hc dX1_init_0 rfl 0 rfl ?_
  refine ok_objI (pc := 1) hc dX1_init_1 oi_X1 oi_i oi_c (by decide) (Nat.le_of_ble_eq_true rfl) (Nat.le_of_ble_eq_true rfl) ?_
  refine ok_aload_n (pc := 4) hc dX1_init_4 rfl 0 rfl ?_
  refine ok_bipush (pc := 5) (v := i3 8) hc dX1_init_5 (by decide) ?_
  refine ok_newS (pc := 7) (len := 8) hc dX1_init_7 (in_all (i := 226) (by decide +kernel) rfl) (by omega) c0 (ClV.r (by omega) ClV.z) (ClV.r (by omega) ClV.z) (by omega) ?_
  have c1 := c0.new (e := .inr (3, 8, .inr (.inr (fun _ => none)))) (fun _ z => by obtain ⟨_, z⟩ := z; cases z)
  refine ok_putF (pc := 10) (fs := [.null, .int (i3 0), .int (i3 0)]) hc hNm fl_X1_11 ⟨_, _, rfl⟩ dX1_init_10 (by omega) (by simp (disch := omega) only [up_at, up_ne, mnH_old]; first | done | rfl | exact o0) (Nat.le_of_ble_eq_true rfl) (fun _ => rfl) (fun _ => rfl) ?_
  have c2 := c1.set (a := a) (e := .inl (1, [.ref (a + 1), .int (i3 0), .int (i3 0)])) (fun j z => ((ClV.r (by omega) (ClV.i (fun j z => by cases z) (ClV.i (fun j z => by cases z) ClV.z))) : ClV [.ref (a + 1), .int (i3 0), .int (i3 0)] (a + 1 + 1)) j z)
  refine ok_iconst (pc := 13) (v := i3 0) hc dX1_init_13 (by decide) ?_
  refine ok_istore_n (pc := 14) hc (lv' := [(1, .int (i3 0)), (0, .ref a)]) dX1_init_14 rfl (by decide) rfl ?_
  refine ok_lv [1, 0] rfl ?_
  exact L 8 0 _ rfl (by simp (disch := omega) only [up_at, up_ne] <;> rfl) (by simp (disch := omega) only [up_at, up_ne]; exact congrArg (fun g => Sum.inr (3, 8, Sum.inr (Sum.inr g))) (funext fun j => (if_neg (Nat.not_lt_zero j)).symm)) (fun j hj => absurd hj (Nat.not_lt_zero j)) c2 (fun x hx => by simp (disch := omega) only [up_ne])
