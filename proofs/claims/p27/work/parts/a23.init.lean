/-! part a23: the constructor of the class; the first state -/
def S0 : Stt := ([], 150, 0, 1)
def q0D : Dsk := (S0, [], (fun _ => S0), 0, [])
theorem jud_0 : (jud S0 0).1 = 0 := by decide +kernel
theorem gd_0 : GdS S0 := ⟨gdP_nil, ⟨(by decide : (10 : Int) ≤ 150), (by decide : (150 : Int) ≤ 200)⟩, ⟨Int.le_refl _, by show (0 : Int) < 3 ^ nA []; rw [nA_nil]; decide⟩, Or.inr rfl⟩
theorem gdD_0 : GdD q0D := ⟨gd_0, fun S h => absurd h List.not_mem_nil, fun _ _ => gd_0, ⟨Int.le_refl _, (by decide : (0 : Int) ≤ 3)⟩⟩
theorem okD_0 : OkD q0D := ⟨fun _ => jud_0, fun S h => absurd h List.not_mem_nil, fun _ _ _ => jud_0⟩
theorem sa139 : 139 < SA := Nat.le_of_ble_eq_true rfl
theorem PtI.a {h : HP} {n a cap : Nat} (p : PtI h a cap) (hn : a + 4 < n) (hc : cap ≤ 15) : PtA h n a cap [] := ⟨_, _, _, _, ⟨by omega, p.1⟩, ⟨by omega, p.2.1⟩, ⟨by omega, p.2.2.1⟩, ⟨by omega, p.2.2.2.1⟩, ⟨by omega, p.2.2.2.2⟩, fun i hi => absurd hi (Nat.not_lt_zero i), fun p hp => absurd hp List.not_mem_nil, Nat.zero_le _, hc⟩
theorem StI.a {h : HP} {n a : Nat} (p : StI h a) (hn : a + 5 < n) : StA h n a S0 := ⟨⟨by omega, p.1⟩, p.2.a (by omega) (by omega), ⟨(by decide : (0 : Int) ≤ 150), (by decide : (150 : Int) ≤ 1000)⟩, ⟨(by decide : (0 : Int) ≤ 0), (by decide : (0 : Int) ≤ 26)⟩, Or.inr rfl⟩
theorem RpI.a {h : HP} {n r : Nat} (p : RpI h r) (hn : r + 18 < n) : RpA h n r (fun _ => 0) (fun _ _ => 0) := ⟨fun _ _ => 0, fun _ => 0, fun j => if j < 8 then some (r + 3 + j) else none, fun _ _ => 0, ⟨fun j => if j < 7 then some (r + 12 + j) else none, id, fun _ _ => 0, ⟨by omega, p.1⟩, ⟨by omega, p.2.2.2.2.1⟩, fun j hj => ⟨if_pos hj, hj⟩, fun i j _ _ e => e, fun i hi => ⟨by show r + 12 + i < n; omega, p.2.2.2.2.2 (r + 12 + i) (by omega)⟩, fun _ _ _ _ => rfl⟩, ⟨by omega, p.2.1⟩, ⟨by omega, p.2.2.1⟩, fun j hj => ⟨if_pos hj, ⟨by omega, p.2.2.2.1 _ (by omega)⟩, rfl, fun _ _ => rfl⟩⟩
theorem BnI.w {h : HP} {n b : Nat} (p : BnI h b) (hn : b + 27 < n) : BnW h n b S0 := ⟨0, fun _ => 0, fun _ => 0, fun _ _ => 0, 0, 0, 0, fun _ => 0, ⟨by omega, p.1⟩, p.2.1.a (by omega), ⟨by omega, p.2.2.1⟩, p.2.2.2.1.a (by omega), ⟨by omega, p.2.2.2.2⟩⟩
/-- the desk before its first settling -/
def DkI (h : HP) (a i : Nat) : Prop := h a = .inl (6, [.ref (a + 1), .ref (a + 29), .ref (a + 57), .ref (a + 65), .ref (a + 115), .int (i3 0)]) ∧ BnI h (a + 1) ∧ BnI h (a + 29) ∧ RdI h (a + 57) ∧ HsI h (a + 65) ∧ h (a + 115) = .inr (3, 2, .inr (.inr (fun j => if j < i then some (a + 116 + 6 * j) else none))) ∧ ∀ j, j < i → StI h (a + 116 + 6 * j)
theorem ini_dk {h h' : HP} (p : DkI h 0 2) (hA : BnA h' 128 1 S0) (f : Fr h h' 1 28) : DkA h' 128 q0D := by
  obtain ⟨p0, -, p2, p3, p4, p5, p6⟩ := p
  have e : ∀ i, 29 ≤ i → h' i = h i := fun i hi => f i (by omega)
  have p2 := p2.pt (h' := h') (fun i hi => e i (by omega))
  have p3 := p3.pt (h' := h') (fun i hi => e i (by omega))
  have p4 := p4.pt (h' := h') (fun i hi => e i (by omega))
  refine ⟨⟨by omega, (f 0 (by omega)).trans p0⟩, hA, ⟨S0, p2.w (by omega)⟩, ⟨fun _ => 0, ⟨Nat.zero_le _, fun j hj => absurd hj (Nat.not_lt_zero j)⟩, (0, 0, 0, 0, 0, (fun _ => 0), []), ⟨by omega, p3.1⟩, ⟨by omega, p3.2.1⟩, ⟨by omega, p3.2.2.2⟩, p3.2.2.1.a (by omega) (by omega)⟩, ⟨0, by omega, Nat.zero_le _, ⟨by omega, p4.1⟩, ⟨by omega, p4.2.1⟩, fun j hj => ⟨S0, ?_⟩, fun i hi => absurd hi (Nat.not_lt_zero i)⟩, ⟨⟨by omega, (e 115 (by omega)).trans p5⟩, fun j hj => ?_⟩, gdD_0⟩
  · have := (p4.2.2 j hj).a (n := 128) (by omega)
    rw [show 0 + 65 + 2 + 6 * j = 67 + 6 * j by omega] at this
    exact this
  · have := ((p6 j hj).pt (h' := h') (fun i hi => e i (by omega))).a (n := 128) (by omega)
    rw [show 0 + 116 + 6 * j = 116 + 6 * j by omega] at this
    exact this
set_option maxHeartbeats 4000000 in
set_option maxRecDepth 100000 in
theorem sX6_init_82 {X : Xt} {n : Nat} {h : HP} {a0 : Nat} {x1 : Int} {fs1 : List Value} {q2 : Nat} {fs3 : List Value} (hc : Cx X cX6_init RX6 2 5 118) {K : KT} (hr : CxR X none K) (e1 : At h n a0 (.inl (6, fs1))) (z1 : fs1.length = 6) (v1_0 : fs1[0]? = some (.ref q2)) (e3 : At h n q2 (.inl (0, fs3))) (z3 : fs3.length = 8)
    (P : spec_X0_solve [.ref q2] n h (kc X 0 0 86 [(0, .ref a0), (1, .int (i3 x1))] [] n)) :
    Ok X 0 0 82 [(0, .ref a0), (1, .int (i3 x1))] [] n h := by
  refine ok_aload_n (pc := 82) hc dX6_init_82 rfl 0 rfl ?_
  refine ok_get (pc := 83) hc fl_X6_10 dX6_init_83 e1.1 e1.2 v1_0 ?_
  exact ok_callV (pc := 86) (a := q2) (cb := 0) (sb := 0) (st := []) hc [] cv_X6_40 sp_X0_solve (by decide) dX6_init_86 rfl e3.1 e3.2 rfl rfl rfl (Nat.le_of_ble_eq_true rfl) P

set_option maxHeartbeats 4000000 in
set_option maxRecDepth 100000 in
theorem sX6_init_89 {X : Xt} {n : Nat} {h : HP} {a0 : Nat} {x1 : Int} (hc : Cx X cX6_init RX6 2 5 118) {K : KT} (hr : CxR X none K) 
    (P : K (.inl none) n h) :
    Ok X 0 0 89 [(0, .ref a0), (1, .int (i3 x1))] [] n h := by
  exact ok_vret (st := []) (pc := 89) hc hr dX6_init_89 P

def spec_X6_init (args : List Value) (n : Nat) (h : HP) (K : KT) : Prop := ∃ (a : Nat), args = [.ref a] ∧ n = a + 1 ∧ a = 0 ∧ h a = .inl (6, [.null, .null, .null, .null, .null, .int (i3 0)]) ∧ Cl h n ∧ ∀ h', DkA h' 128 q0D → K (.inl none) 128 h'
theorem sp_X6_init : Sp yX6_init cX6_init 2 none 5 118 130 4000 spec_X6_init := by
  refine sp_introI (by decide) rfl (by rintro args n h K ⟨a, rfl, -⟩; exact Nat.le_of_ble_eq_true rfl) ?_
  rintro X args n h K hNm hc hr ⟨a, rfl, rfl, ha, o0, c0, kk⟩
  have hsa := sa139
  have L : ∀ (f i : Nat) (hh : HP), i + f = 2 → DkI hh a i → Cl hh (a + 116 + 6 * i) → Ok X (6 * f) (69 * f) 58 [(0, .ref a), (1, .int (i3 i))] [] (a + 116 + 6 * i) hh := by
    intro f
    induction f with
    | zero =>
      intro i hh hi hD hcl
      have : i = 2 := by omega
      subst this
      refine ok_iload_n (pc := 58) hc dX6_init_58 rfl 1 rfl ?_
      refine ok_iconst (pc := 59) (v := i3 2) hc dX6_init_59 (by decide) ?_
      refine zk_icmp_ge (pc := 60) (tgt := 82) hc dX6_init_60 (by decide) (R3_s (by omega)) (R3_s (by omega)) (fun _ => ?_) (fun c => absurd (by omega) c)
      subst ha
      refine sX6_init_82 hc hr ⟨by omega, hD.1⟩ rfl rfl ⟨by omega, hD.2.1.1⟩ rfl ⟨1, S0, rfl, hD.2.1.w (by omega), by decide, fit_of gd_0.1, fun h' hA f' => ⟨rfl, sX6_init_89 hc hr (kk h' (ini_dk hD hA f'))⟩⟩
    | succ f ih =>
      intro i hh hi hD hcl
      obtain ⟨p0, p1, p2, p3, p4, p5, p6⟩ := hD
      have e1 : 6 * (f + 1) = 6 * f + 5 + 1 := by omega
      have e2 : 69 * (f + 1) = 69 * f + 65 + 4 := by omega
      rw [e1, e2]
      refine ok_iload_n (pc := 58) hc dX6_init_58 rfl 1 rfl ?_
      refine ok_iconst (pc := 59) (v := i3 2) hc dX6_init_59 (by decide) ?_
      refine zk_icmp_ge (pc := 60) (tgt := 82) hc dX6_init_60 (by decide) (R3_s (by omega)) (R3_s (by omega)) (fun c => absurd c (by omega)) (fun _ => ?_)
      refine ok_aload_n (pc := 63) hc dX6_init_63 rfl 0 rfl ?_
      refine ok_get (pc := 64) hc fl_X6_35 dX6_init_64 (by omega) p0 rfl ?_
      refine ok_iload_n (pc := 67) hc dX6_init_67 rfl 1 rfl ?_
      refine ok_new (pc := 68) (N := 4) hc nw_X6_33 dX6_init_68 (fun j z => by simp at z) hcl (ClV.r (by omega) (ClV.i (fun j z => by cases z) ClV.z)) (ClV.i (fun j z => by cases z) (ClV.r (by omega) ClV.z)) (by omega) ?_
      have c1 := hcl.new (e := .inl (4, [.null, .int (i3 0), .int (i3 0), .int (i3 0)])) (fun j z => (ClV.i (fun j z => by cases z) (ClV.i (fun j z => by cases z) (ClV.i (fun j z => by cases z) (ClV.i (fun j z => by cases z) ClV.z))) : ClV [.null, .int (i3 0), .int (i3 0), .int (i3 0)] (a + 116 + 6 * i + 1)) j z)
      refine ok_dup (pc := 71) hc dX6_init_71 rfl ?_
      refine ok_callI (pc := 72) (a := a + 116 + 6 * i) (cb := 6 * f) (sb := 69 * f) (st := [.ref (a + 116 + 6 * i), .int (i3 i), .ref (a + 115)]) hc [] ci_X6_39 sp_X4_init (by decide) dX6_init_72 rfl rfl rfl rfl (Nat.le_of_ble_eq_true rfl) (ClV.r (by omega) (ClV.i (fun j z => by cases z) ClV.z)) (ClV.r (by omega) (ClV.i (fun j z => by cases z) (ClV.r (by omega) ClV.z))) ⟨a + 116 + 6 * i, rfl, rfl, by omega, by simp (disch := omega) only [up_at, up_ne], c1, fun h4 f4 q4 c4 => ⟨by omega, ?_⟩⟩
      have k2 : h4 (a + 115) = .inr (3, 2, .inr (.inr (fun j => if j < i then some (a + 116 + 6 * j) else none))) := (f4 (a + 115) (by omega)).trans ((up_ne (by omega)).trans p5)
      have ek : ∀ x, x < a + 116 + 6 * i → x ≠ a + 115 → va_up h4 (a + 115) (.inr (3, 2, .inr (.inr (fun j => if j < i + 1 then some (a + 116 + 6 * j) else none)))) x = hh x := fun x hx hx2 => by rw [up_ne hx2, f4 x (by omega), up_ne (by omega)]
      refine ok_aastS (pc := 75) hc dX6_init_75 (by omega) k2 (by omega) q4.1 ⟨by omega, by omega, by omega⟩ ?_
      rw [Int.toNat_natCast, fun_up i]
      refine zk_iinc (pc := 76) hc (q := 1) (x := (i : Int)) (lv' := [(1, .int (i3 ((i : Int) + 1))), (0, .ref a)]) dX6_init_76 rfl (by decide) rfl ?_
      refine ok_lv [1, 0] rfl ?_
      refine ok_goto (pc := 79) (tgt := 58) hc dX6_init_79 (by decide) ?_
      have e6 : a + 116 + 6 * i + 6 = a + 116 + 6 * (i + 1) := by omega
      rw [e6] at c4 ⊢
      refine ih (i + 1) _ (by omega) ⟨(ek a (by omega) (by omega)).trans p0, p1.pt (fun x hx => ek x (by omega) (by omega)), p2.pt (fun x hx => ek x (by omega) (by omega)), p3.pt (fun x hx => ek x (by omega) (by omega)), p4.pt (fun x hx => ek x (by omega) (by omega)), up_self, fun j hj => ?_⟩ (c4.set (a := a + 115) (e := .inr (3, 2, .inr (.inr (fun j => if j < i + 1 then some (a + 116 + 6 * j) else none)))) (fun j z => ?_))
      · by_cases y : j = i
        · subst y
          exact q4.pt (fun x hx => up_ne (by omega))
        · exact (p6 j (by omega)).pt (fun x hx => ek x (by omega) (by omega))
      · obtain ⟨k, hk⟩ := z
        have hk : (if k < i + 1 then some (a + 116 + 6 * k) else none) = some j := hk
        by_cases y : k < i + 1
        · rw [if_pos y] at hk
          have := Option.some.inj hk
          omega
        · rw [if_neg y] at hk
          cases hk
  refine Ok.up (cb := 6 * 2 + 1 + 49 + 1 + 7 + 1 + 27 + 1 + 27 + 1) (sb := 69 * 2 + 2 + 600 + 3 + 130 + 9 + 700 + 8 + 700 + 8) ?_ (by omega) (by omega)
  refine ok_aload_n (pc := 0) hc dX6_init_0 rfl 0 rfl ?_
  refine ok_objI (pc := 1) hc dX6_init_1 oi_X6 oi_i oi_c (by decide) (Nat.le_of_ble_eq_true rfl) (Nat.le_of_ble_eq_true rfl) ?_
  refine ok_aload_n (pc := 4) hc dX6_init_4 rfl 0 rfl ?_
  refine ok_new (pc := 5) (N := 8) hc nw_X6_7 dX6_init_5 (fun j z => by simp at z) c0 (ClV.r (by omega) ClV.z) (ClV.r (by omega) ClV.z) (by omega) ?_
  have c1 := c0.new (e := .inl (0, [.null, .null, .int (i3 0), .null, .null, .int (i3 0), .int (i3 0), .int (i3 0)])) (fun j z => ((ClV.i (fun j z => by cases z) (ClV.i (fun j z => by cases z) (ClV.i (fun j z => by cases z) (ClV.i (fun j z => by cases z) (ClV.i (fun j z => by cases z) (ClV.i (fun j z => by cases z) (ClV.i (fun j z => by cases z) (ClV.i (fun j z => by cases z) ClV.z)))))))) : ClV [.null, .null, .int (i3 0), .null, .null, .int (i3 0), .int (i3 0), .int (i3 0)] (a + 1 + 1)) j z)
  refine ok_dup (pc := 8) hc dX6_init_8 rfl ?_
  refine ok_callI (pc := 9) (a := a + 1) (st := [.ref (a + 1), .ref (a)]) hc [] ci_X6_9 sp_X0_init (by decide) dX6_init_9 rfl (hcb := rfl) (hsb := rfl) rfl (Nat.le_of_ble_eq_true rfl) (ClV.r (by omega) ClV.z) (ClV.r (by omega) (ClV.r (by omega) ClV.z)) ⟨a + 1, rfl, rfl, by omega, by simp (disch := omega) only [up_at, up_ne, mnH_old], c1, fun h1 f1 p1 c2 => ⟨by omega, ?_⟩⟩
  have o1 : h1 a = .inl (6, [.null, .null, .null, .null, .null, .int (i3 0)]) := (f1 a (by omega)).trans (by simp (disch := omega) only [up_at, up_ne, mnH_old]; first | done | rfl | exact o0)
  refine ok_putF (pc := 12) (fs := [.null, .null, .null, .null, .null, .int (i3 0)]) hc hNm fl_X6_10 ⟨_, _, rfl⟩ dX6_init_12 (by omega) o1 (Nat.le_of_ble_eq_true rfl) (fun _ => rfl) (fun _ => rfl) ?_
  have c3 := c2.set (a := a) (e := .inl (6, [.ref (a + 1), .null, .null, .null, .null, .int (i3 0)])) (fun j z => ((ClV.r (by omega) (ClV.i (fun j z => by cases z) (ClV.i (fun j z => by cases z) (ClV.i (fun j z => by cases z) (ClV.i (fun j z => by cases z) (ClV.i (fun j z => by cases z) ClV.z)))))) : ClV [.ref (a + 1), .null, .null, .null, .null, .int (i3 0)] (a + 1 + 28)) j z)
  refine ok_aload_n (pc := 15) hc dX6_init_15 rfl 0 rfl ?_
  refine ok_new (pc := 16) (N := 8) hc nw_X6_7 dX6_init_16 (fun j z => by simp at z) c3 (ClV.r (by omega) ClV.z) (ClV.r (by omega) ClV.z) (by omega) ?_
  have c4 := c3.new (e := .inl (0, [.null, .null, .int (i3 0), .null, .null, .int (i3 0), .int (i3 0), .int (i3 0)])) (fun j z => ((ClV.i (fun j z => by cases z) (ClV.i (fun j z => by cases z) (ClV.i (fun j z => by cases z) (ClV.i (fun j z => by cases z) (ClV.i (fun j z => by cases z) (ClV.i (fun j z => by cases z) (ClV.i (fun j z => by cases z) (ClV.i (fun j z => by cases z) ClV.z)))))))) : ClV [.null, .null, .int (i3 0), .null, .null, .int (i3 0), .int (i3 0), .int (i3 0)] (a + 1 + 28 + 1)) j z)
  refine ok_dup (pc := 19) hc dX6_init_19 rfl ?_
  refine ok_callI (pc := 20) (a := a + 1 + 28) (st := [.ref (a + 1 + 28), .ref (a)]) hc [] ci_X6_9 sp_X0_init (by decide) dX6_init_20 rfl (hcb := rfl) (hsb := rfl) rfl (Nat.le_of_ble_eq_true rfl) (ClV.r (by omega) ClV.z) (ClV.r (by omega) (ClV.r (by omega) ClV.z)) ⟨a + 1 + 28, rfl, rfl, by omega, by simp (disch := omega) only [up_at, up_ne, mnH_old], c4, fun h2 f2 p2 c5 => ⟨by omega, ?_⟩⟩
  have o2 : h2 a = .inl (6, [.ref (a + 1), .null, .null, .null, .null, .int (i3 0)]) := (f2 a (by omega)).trans (by simp (disch := omega) only [up_at, up_ne, mnH_old]; first | done | rfl | exact rfl)
  refine ok_putF (pc := 23) (fs := [.ref (a + 1), .null, .null, .null, .null, .int (i3 0)]) hc hNm fl_X6_16 ⟨_, _, rfl⟩ dX6_init_23 (by omega) o2 (Nat.le_of_ble_eq_true rfl) (fun _ => rfl) (fun _ => rfl) ?_
  have c6 := c5.set (a := a) (e := .inl (6, [.ref (a + 1), .ref (a + 1 + 28), .null, .null, .null, .int (i3 0)])) (fun j z => ((ClV.r (by omega) (ClV.r (by omega) (ClV.i (fun j z => by cases z) (ClV.i (fun j z => by cases z) (ClV.i (fun j z => by cases z) (ClV.i (fun j z => by cases z) ClV.z)))))) : ClV [.ref (a + 1), .ref (a + 1 + 28), .null, .null, .null, .int (i3 0)] (a + 1 + 28 + 28)) j z)
  refine ok_aload_n (pc := 26) hc dX6_init_26 rfl 0 rfl ?_
  refine ok_new (pc := 27) (N := 9) hc nw_X6_19 dX6_init_27 (fun j z => by simp at z) c6 (ClV.r (by omega) ClV.z) (ClV.r (by omega) ClV.z) (by omega) ?_
  have c7 := c6.new (e := .inl (5, [.null, .null, .int (i3 0), .int (i3 0), .null, .int (i3 0), .int (i3 0), .int (i3 0), .int (i3 0)])) (fun j z => ((ClV.i (fun j z => by cases z) (ClV.i (fun j z => by cases z) (ClV.i (fun j z => by cases z) (ClV.i (fun j z => by cases z) (ClV.i (fun j z => by cases z) (ClV.i (fun j z => by cases z) (ClV.i (fun j z => by cases z) (ClV.i (fun j z => by cases z) (ClV.i (fun j z => by cases z) ClV.z))))))))) : ClV [.null, .null, .int (i3 0), .int (i3 0), .null, .int (i3 0), .int (i3 0), .int (i3 0), .int (i3 0)] (a + 1 + 28 + 28 + 1)) j z)
  refine ok_dup (pc := 30) hc dX6_init_30 rfl ?_
  refine ok_callI (pc := 31) (a := a + 1 + 28 + 28) (st := [.ref (a + 1 + 28 + 28), .ref (a)]) hc [] ci_X6_21 sp_X5_init (by decide) dX6_init_31 rfl (hcb := rfl) (hsb := rfl) rfl (Nat.le_of_ble_eq_true rfl) (ClV.r (by omega) ClV.z) (ClV.r (by omega) (ClV.r (by omega) ClV.z)) ⟨a + 1 + 28 + 28, rfl, rfl, by omega, by simp (disch := omega) only [up_at, up_ne, mnH_old], c7, fun h3 f3 p3 c8 => ⟨by omega, ?_⟩⟩
  have o3 : h3 a = .inl (6, [.ref (a + 1), .ref (a + 1 + 28), .null, .null, .null, .int (i3 0)]) := (f3 a (by omega)).trans (by simp (disch := omega) only [up_at, up_ne, mnH_old]; first | done | rfl | exact rfl)
  refine ok_putF (pc := 34) (fs := [.ref (a + 1), .ref (a + 1 + 28), .null, .null, .null, .int (i3 0)]) hc hNm fl_X6_22 ⟨_, _, rfl⟩ dX6_init_34 (by omega) o3 (Nat.le_of_ble_eq_true rfl) (fun _ => rfl) (fun _ => rfl) ?_
  have c9 := c8.set (a := a) (e := .inl (6, [.ref (a + 1), .ref (a + 1 + 28), .ref (a + 1 + 28 + 28), .null, .null, .int (i3 0)])) (fun j z => ((ClV.r (by omega) (ClV.r (by omega) (ClV.r (by omega) (ClV.i (fun j z => by cases z) (ClV.i (fun j z => by cases z) (ClV.i (fun j z => by cases z) ClV.z)))))) : ClV [.ref (a + 1), .ref (a + 1 + 28), .ref (a + 1 + 28 + 28), .null, .null, .int (i3 0)] (a + 1 + 28 + 28 + 8)) j z)
  refine ok_aload_n (pc := 37) hc dX6_init_37 rfl 0 rfl ?_
  refine ok_new (pc := 38) (N := 3) hc nw_X6_26 dX6_init_38 (fun j z => by simp at z) c9 (ClV.r (by omega) ClV.z) (ClV.r (by omega) ClV.z) (by omega) ?_
  have c10 := c9.new (e := .inl (1, [.null, .int (i3 0), .int (i3 0)])) (fun j z => ((ClV.i (fun j z => by cases z) (ClV.i (fun j z => by cases z) (ClV.i (fun j z => by cases z) ClV.z))) : ClV [.null, .int (i3 0), .int (i3 0)] (a + 1 + 28 + 28 + 8 + 1)) j z)
  refine ok_dup (pc := 41) hc dX6_init_41 rfl ?_
  refine ok_callI (pc := 42) (a := a + 1 + 28 + 28 + 8) (st := [.ref (a + 1 + 28 + 28 + 8), .ref (a)]) hc [] ci_X6_28 sp_X1_init (by decide) dX6_init_42 rfl (hcb := rfl) (hsb := rfl) rfl (Nat.le_of_ble_eq_true rfl) (ClV.r (by omega) ClV.z) (ClV.r (by omega) (ClV.r (by omega) ClV.z)) ⟨a + 1 + 28 + 28 + 8, rfl, rfl, by omega, by simp (disch := omega) only [up_at, up_ne, mnH_old], c10, fun h4 f4 p4 c11 => ⟨by omega, ?_⟩⟩
  have o4 : h4 a = .inl (6, [.ref (a + 1), .ref (a + 1 + 28), .ref (a + 1 + 28 + 28), .null, .null, .int (i3 0)]) := (f4 a (by omega)).trans (by simp (disch := omega) only [up_at, up_ne, mnH_old]; first | done | rfl | exact rfl)
  refine ok_putF (pc := 45) (fs := [.ref (a + 1), .ref (a + 1 + 28), .ref (a + 1 + 28 + 28), .null, .null, .int (i3 0)]) hc hNm fl_X6_29 ⟨_, _, rfl⟩ dX6_init_45 (by omega) o4 (Nat.le_of_ble_eq_true rfl) (fun _ => rfl) (fun _ => rfl) ?_
  have c12 := c11.set (a := a) (e := .inl (6, [.ref (a + 1), .ref (a + 1 + 28), .ref (a + 1 + 28 + 28), .ref (a + 1 + 28 + 28 + 8), .null, .int (i3 0)])) (fun j z => ((ClV.r (by omega) (ClV.r (by omega) (ClV.r (by omega) (ClV.r (by omega) (ClV.i (fun j z => by cases z) (ClV.i (fun j z => by cases z) ClV.z)))))) : ClV [.ref (a + 1), .ref (a + 1 + 28), .ref (a + 1 + 28 + 28), .ref (a + 1 + 28 + 28 + 8), .null, .int (i3 0)] (a + 1 + 28 + 28 + 8 + 50)) j z)
  refine ok_aload_n (pc := 48) hc dX6_init_48 rfl 0 rfl ?_
  refine ok_iconst (pc := 49) (v := i3 2) hc dX6_init_49 (by decide) ?_
  refine ok_newS (pc := 50) (len := 2) hc dX6_init_50 (in_all (i := 240) (by decide +kernel) rfl) (by omega) c12 (ClV.r (by omega) ClV.z) (ClV.r (by omega) ClV.z) (by omega) ?_
  have c13 := c12.new (e := .inr (3, 2, .inr (.inr (fun _ => none)))) (fun _ z => by obtain ⟨_, z⟩ := z; cases z)
  refine ok_putF (pc := 53) (fs := [.ref (a + 1), .ref (a + 1 + 28), .ref (a + 1 + 28 + 28), .ref (a + 1 + 28 + 28 + 8), .null, .int (i3 0)]) hc hNm fl_X6_35 ⟨_, _, rfl⟩ dX6_init_53 (by omega) (by simp (disch := omega) only [up_at, up_ne, mnH_old]; first | done | rfl | exact rfl) (Nat.le_of_ble_eq_true rfl) (fun _ => rfl) (fun _ => rfl) ?_
  have c14 := c13.set (a := a) (e := .inl (6, [.ref (a + 1), .ref (a + 1 + 28), .ref (a + 1 + 28 + 28), .ref (a + 1 + 28 + 28 + 8), .ref (a + 1 + 28 + 28 + 8 + 50), .int (i3 0)])) (fun j z => ((ClV.r (by omega) (ClV.r (by omega) (ClV.r (by omega) (ClV.r (by omega) (ClV.r (by omega) (ClV.i (fun j z => by cases z) ClV.z)))))) : ClV [.ref (a + 1), .ref (a + 1 + 28), .ref (a + 1 + 28 + 28), .ref (a + 1 + 28 + 28 + 8), .ref (a + 1 + 28 + 28 + 8 + 50), .int (i3 0)] (a + 1 + 28 + 28 + 8 + 50 + 1)) j z)
  refine ok_iconst (pc := 56) (v := i3 0) hc dX6_init_56 (by decide) ?_
  refine ok_istore_n (pc := 57) hc (lv' := [(1, .int (i3 0)), (0, .ref a)]) dX6_init_57 rfl (by decide) rfl ?_
  refine ok_lv [1, 0] rfl ?_
  have e116 : a + 1 + 28 + 28 + 8 + 50 + 1 = a + 116 := by omega
  rw [e116] at c14 ⊢
  refine L 2 0 _ rfl ⟨by simp (disch := omega) only [up_at, up_ne] <;> rfl, p1.pt (fun i hi => by simp (disch := omega) only [up_ne]; rw [f4 i (by omega)]; simp (disch := omega) only [up_ne]; rw [f3 i (by omega)]; simp (disch := omega) only [up_ne]; rw [f2 i (by omega)]; simp (disch := omega) only [up_ne]), p2.pt (fun i hi => by simp (disch := omega) only [up_ne]; rw [f4 i (by omega)]; simp (disch := omega) only [up_ne]; rw [f3 i (by omega)]; simp (disch := omega) only [up_ne]), p3.pt (fun i hi => by simp (disch := omega) only [up_ne]; rw [f4 i (by omega)]; simp (disch := omega) only [up_ne]), p4.pt (fun i hi => by simp (disch := omega) only [up_ne]), ?_, fun j hj => absurd hj (Nat.not_lt_zero j)⟩ c14
  simp (disch := omega) only [up_at, up_ne]
  exact congrArg (fun g => Sum.inr (3, 2, Sum.inr (Sum.inr g))) (funext fun j => (if_neg (Nat.not_lt_zero j)).symm)
