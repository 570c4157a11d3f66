/-! part a29: the law's ahead: whole -/
theorem prt_i {ps : List Part} {i : Nat} : prt ps i = ps[i]? := by
  unfold prt
  rw [if_neg (by omega), show (i : Int).toNat = i by omega]
def spec_L_ahead (args : List Value) (n : Nat) (h : HP) (K : KT) : Prop := ∃ (q : Dsk) (x : Int) (d a : Nat) (Fd F : Nat → Int), args = [.ref 0, .int (i3 x), .ref d, .ref a] ∧ DkA h n q ∧ (127 < d ∧ 127 < a) ∧ At h n d (ai 4 Fd) ∧ At h n a (ai 48 F) ∧ DFS Fd q.1 ∧ PaF F q.1.1 ∧ Nb h n ∧ (128 ≤ n ∧ n + 4 < SA) ∧ ∀ h', DkA h' (n + 4) q → (∀ x, 127 < x → x < n → h' x = h x) → Nb h' (n + 4) → K (.inl (some (.int (i3 1)))) (n + 4) h'
set_option maxHeartbeats 16000000 in
theorem sp_L_ahead : Sp yL_ahead cL_ahead 12 (some .boolean) 9 165 8 188 spec_L_ahead := by
  refine sp_intro (by decide) (by rintro args n h K ⟨q, x, d, a, Fd, F, rfl, -⟩; exact Nat.le_of_ble_eq_true rfl) ?_
  rintro X args n h K hc hr ⟨q, x, d, a, Fd, F, rfl, hq, ⟨l1, l2⟩, ed, ea, hD, hP, hB, ⟨hn1, hn2⟩, kk⟩
  have hG := hq.gd.1
  have h12 := hG.1.1
  have c0 := cl_of hn1 hq hB
  refine ok_nz ?_
  have hq0 := hq.nz
  have ed0 : At (nz h) n d (ai 4 Fd) := ed.nz rfl
  have ea0 : At (nz h) n a (ai 48 F) := ea.nz rfl
  have eq0 : ∀ x, 127 < x → x < n → nz h x = h x := fun x a b => nz_same hB a b
  generalize nz h = h0 at c0 hq0 ed0 ea0 eq0
  have hdn := ed.1
  have han := ea.1
  have ci : ∀ {v : Int} {vs : List Value} {m : Nat}, ClV vs m → ClV (.int (i3 v) :: vs) m := fun t => ClV.i (fun j z => by cases z) t
  refine ok_bipush (pc := 0) (v := i3 56) hc dL_ahead_0 (by decide) ?_
  refine ok_newJ (pc := 2) (cb := 7) (sb := 132) (len := 56) hc dL_ahead_2 ac_long (by omega) c0 (ClV.r (by omega) (ci (ClV.r (by omega) (ClV.r (by omega) ClV.z)))) ClV.z (by omega) ?_
  have c1 := c0.new (e := al 56 (fun _ => 0)) (fun _ z => False.elim z)
  refine ok_astore (pc := 4) hc (lv' := [(4, .ref n), (0, .ref 0), (1, .int (i3 x)), (2, .ref d), (3, .ref a)]) dL_ahead_4 (by decide) rfl ?_
  refine ok_bipush (pc := 6) (v := i3 56) hc dL_ahead_6 (by decide) ?_
  refine ok_newJ (pc := 8) (cb := 6) (sb := 76) (len := 56) hc dL_ahead_8 ac_long (by omega) c1 (ClV.r (by omega) (ClV.r (by omega) (ci (ClV.r (by omega) (ClV.r (by omega) ClV.z))))) ClV.z (by omega) ?_
  have c2 := c1.new (e := al 56 (fun _ => 0)) (fun _ z => False.elim z)
  refine ok_astore (pc := 10) hc (lv' := [(5, .ref (n + 1)), (4, .ref n), (0, .ref 0), (1, .int (i3 x)), (2, .ref d), (3, .ref a)]) dL_ahead_10 (by decide) rfl ?_
  refine ok_iconst (pc := 12) (v := i3 4) hc dL_ahead_12 (by decide) ?_
  refine ok_newI (pc := 13) (cb := 5) (sb := 72) (len := 4) hc dL_ahead_13 ac_int (by omega) c2 (ClV.r (by omega) (ClV.r (by omega) (ClV.r (by omega) (ci (ClV.r (by omega) (ClV.r (by omega) ClV.z)))))) ClV.z (by omega) ?_
  have c3 := c2.new (e := ai 4 (fun _ => 0)) (fun _ z => False.elim z)
  refine ok_astore (pc := 15) hc (lv' := [(6, .ref (n + 1 + 1)), (5, .ref (n + 1)), (4, .ref n), (0, .ref 0), (1, .int (i3 x)), (2, .ref d), (3, .ref a)]) dL_ahead_15 (by decide) rfl ?_
  refine ok_bipush (pc := 17) (v := i3 48) hc dL_ahead_17 (by decide) ?_
  refine ok_newI (pc := 19) (cb := 4) (sb := 24) (len := 48) hc dL_ahead_19 ac_int (by omega) c3 (ClV.r (by omega) (ClV.r (by omega) (ClV.r (by omega) (ClV.r (by omega) (ci (ClV.r (by omega) (ClV.r (by omega) ClV.z))))))) ClV.z (by omega) ?_
  refine ok_astore (pc := 21) hc (lv' := [(7, .ref (n + 1 + 1 + 1)), (6, .ref (n + 1 + 1)), (5, .ref (n + 1)), (4, .ref n), (0, .ref 0), (1, .int (i3 x)), (2, .ref d), (3, .ref a)]) dL_ahead_21 (by decide) rfl ?_
  refine ok_lv [4, 5, 6, 7, 3, 2, 1, 0] rfl ?_
  show Ok X 4 24 23 [(0, .ref 0), (1, .int (i3 x)), (2, .ref d), (3, .ref a), (4, .ref n), (5, .ref (n + 1)), (6, .ref (n + 2)), (7, .ref (n + 3))] [] (n + 4) (va_up (va_up (va_up (va_up h0 n (al 56 fun _ => 0)) (n + 1) (al 56 fun _ => 0)) (n + 2) (ai 4 fun _ => 0)) (n + 3) (ai 48 fun _ => 0))
  have hq1 : DkA (va_up (va_up (va_up (va_up h0 n (al 56 fun _ => 0)) (n + 1) (al 56 fun _ => 0)) (n + 2) (ai 4 fun _ => 0)) (n + 3) (ai 48 fun _ => 0)) (n + 4) q := (hq0.out (lo := n) (hi := n + 3) ((((Fr.rf.up (by omega)).up (by omega)).up (by omega)).up (by omega)) (by omega)).mo (by omega)
  have eo : ∀ x, x < n → (va_up (va_up (va_up (va_up h0 n (al 56 fun _ => 0)) (n + 1) (al 56 fun _ => 0)) (n + 2) (ai 4 fun _ => 0)) (n + 3) (ai 48 fun _ => 0)) x = h0 x := fun x hx => by rw [up_ne (by omega), up_ne (by omega), up_ne (by omega), up_ne (by omega)]
  have z1 : At (va_up (va_up (va_up (va_up h0 n (al 56 fun _ => 0)) (n + 1) (al 56 fun _ => 0)) (n + 2) (ai 4 fun _ => 0)) (n + 3) (ai 48 fun _ => 0)) (n + 4) n (al 56 fun _ => 0) := ⟨by omega, by rw [up_ne (by omega), up_ne (by omega), up_ne (by omega), up_self]⟩
  have z2 : At (va_up (va_up (va_up (va_up h0 n (al 56 fun _ => 0)) (n + 1) (al 56 fun _ => 0)) (n + 2) (ai 4 fun _ => 0)) (n + 3) (ai 48 fun _ => 0)) (n + 4) (n + 1) (al 56 fun _ => 0) := ⟨by omega, by rw [up_ne (by omega), up_ne (by omega), up_self]⟩
  have z3 : At (va_up (va_up (va_up (va_up h0 n (al 56 fun _ => 0)) (n + 1) (al 56 fun _ => 0)) (n + 2) (ai 4 fun _ => 0)) (n + 3) (ai 48 fun _ => 0)) (n + 4) (n + 2) (ai 4 fun _ => 0) := ⟨by omega, by rw [up_ne (by omega), up_self]⟩
  have z4 : At (va_up (va_up (va_up (va_up h0 n (al 56 fun _ => 0)) (n + 1) (al 56 fun _ => 0)) (n + 2) (ai 4 fun _ => 0)) (n + 3) (ai 48 fun _ => 0)) (n + 4) (n + 3) (ai 48 fun _ => 0) := ⟨by omega, up_self⟩
  generalize (va_up (va_up (va_up (va_up h0 n (al 56 fun _ => 0)) (n + 1) (al 56 fun _ => 0)) (n + 2) (ai 4 fun _ => 0)) (n + 3) (ai 48 fun _ => 0)) = h1 at hq1 eo z1 z2 z3 z4
  have ed1 : At h1 (n + 4) d (ai 4 Fd) := ⟨by omega, (eo d hdn).trans ed0.2⟩
  have ea1 : At h1 (n + 4) a (ai 48 F) := ⟨by omega, (eo a han).trans ea0.2⟩
  have hw1 : AW h1 n (n + 4) q (fun _ => 0) (fun _ => 0) h1 := ⟨hq1, fun _ _ _ => rfl, ⟨_, z1⟩, ⟨_, z2⟩, z3, z4⟩
  have hT : AC h1 n (n + 4) d a Fd F q := ⟨⟨by omega, ⟨l1, hdn⟩, l2, han⟩, ed1, ea1, hD, hP⟩
  have lb : 127 < n := by omega
  have d0 : Fd (0 : Int).toNat = q.1.1.length := hD.1
  have fin : ∀ hh D G, AW h1 n (n + 4) q D G hh → K (.inl (some (.int (i3 1)))) (n + 4) hh := fun hh D G hw => by
    refine kk hh hw.1 (fun x a b => (hw.2.1 x a b).trans ((eo x b).trans (eq0 x a b))) (fun i a b => ?_)
    by_cases z : i < n
    · rw [hw.2.1 i (by omega) z, eo i z, eq0 i (by omega) z]
      exact hB i a z
    · obtain ⟨_, _, ⟨E, w3⟩, ⟨E', w4⟩, w5, w6⟩ := hw
      rcases (show i = n ∨ i = n + 1 ∨ i = n + 2 ∨ i = n + 3 by omega) with y | y | y | y <;> subst y
      · rw [w3.2]; trivial
      · rw [w4.2]; trivial
      · rw [w5.2]; trivial
      · rw [w6.2]; trivial
  refine sL_ahead_23 hc hr ed1 ?_
  rw [d0]
  refine ⟨⟨by decide, by decide, by decide⟩, R3_s (by omega), fun y => ⟨⟨by decide, by decide, by decide⟩, x, _, rfl, ⟨by omega, by omega⟩, fun z hz0 hzl => ⟨rfl, ?_⟩⟩, fun y => ?_⟩
  rotate_left
  · exact sL_ahead_40 hc hr ea1 ⟨⟨by decide, by decide⟩, fun _ => fin h1 _ _ hw1, fun z => absurd (by decide) z⟩
  obtain ⟨i, rfl⟩ : ∃ i : Nat, z = i := ⟨z.toNat, by omega⟩
  have hil : i < q.1.1.length := by omega
  have hp : q.1.1[i]? = some q.1.1[i] := List.getElem?_eq_getElem hil
  generalize q.1.1[i] = p at hp
  obtain ⟨g0, g1, g2, g3, hi', hl', hpw⟩ := hP.g hp
  have x0 : Ix (4 * (i : Int)) 48 := ⟨by omega, by omega, by omega⟩
  have x3 : Ix (4 * (i : Int) + 3) 48 := ⟨by omega, by omega, by omega⟩
  have rp : R3 p.1 := by rw [← g0]; exact hP.2.2.2 _
  have ri : R3 (i : Int) := R3_s (by omega)
  refine sL_ahead_40 hc hr ea1 ⟨ri, fun z => absurd z (by omega), fun _ => ?_⟩
  rw [g0]
  refine ⟨x0, rp, fun hk2 => ?_, fun _ => fin h1 _ _ hw1⟩
  have hk01 : p.1 = 0 ∨ p.1 = 1 := by
    unfold PW at hpw
    omega
  refine sL_ahead_59 hc hr ?_
  refine ah_1 hc hr hT (fun h2 D2 y9 hw2 hd2 => sL_ahead_83 hc hr (ah_2 hc hr hT (fun h3 G3 y9 hw3 hg3 hr3 => ?_) 48 0 rfl h2 _ hw2 (fun j hj => absurd hj (Nat.not_lt_zero j)) (fun _ => R3_0))) 4 0 rfl h1 _ hw1 (fun j hj => absurd hj (Nat.not_lt_zero j))
  have hDS2 := hD.cong hd2
  have hPS3 := hP.cong hg3 hr3
  -- what comes behind the new value
  have go : ∀ v : Int, PW (valP p v) → stlB p v = true → R3 v → Ok X 4 24 151 [(0, .ref 0), (1, .int (i3 x)), (2, .ref d), (3, .ref a), (4, .ref n), (5, .ref (n + 1)), (6, .ref (n + 2)), (7, .ref (n + 3)), (8, .int (i3 (i : Int))), (9, .int (i3 y9))] [] (n + 4) (va_up h3 (n + 3) (ai 48 (va_up G3 (4 * (i : Int) + 3 : Int).toNat v))) := fun v hv hsv rv => by
    have hw4 := hw3.g (G' := va_up G3 (4 * (i : Int) + 3 : Int).toNat v) lb
    have hP4 := hPS3.set hp hv rv
    have hG4 := hG.val hp hk2 hv
    have g9 : (va_up G3 (4 * (i : Int) + 3 : Int).toNat v) (4 * (i : Int) + 3 : Int).toNat = v := up_self
    generalize hG9 : va_up G3 (4 * (i : Int) + 3 : Int).toNat v = G4 at hw4 hP4 g9
    generalize va_up h3 (n + 3) (ai 48 G4) = h4 at hw4
    obtain ⟨E, ee⟩ := hw4.2.2.1
    obtain ⟨E', ef⟩ := hw4.2.2.2.1
    refine sL_ahead_151 hc hr ⟨n + 2, n + 3, n, n + 1, D2, G4, E, E', (q.1.1.set i (valP p v), q.1.2), rfl, hw4.2.2.2.2.1, hw4.2.2.2.2.2, ee, ef, ⟨by omega, by omega⟩, hDS2.set (List.length_set ..), hP4, hG4, fun E1 E2 D' hD' => ⟨rfl, ?_⟩⟩
    have hw5 := hw4.st (E1 := E1) (E2 := E2) (D' := D') lb
    generalize va_up (va_up (va_up h4 n (al 56 E1)) (n + 1) (al 56 E2)) (n + 2) (ai 4 D') = h5 at hw5
    refine sL_ahead_162 (t0 := if (setS (q.1.1.set i (valP p v), q.1.2)).2.2.1 = q.1.2.2.1 then 0 else 1) (bb := 2) (sb9 := 12) hc hr hw5.2.2.2.2.2 hw5.1.1 rfl ?_
    rw [g9]
    refine ⟨x3, q, i, v, rfl, ri, rv, hw5.1, fun h6 hq6 f6 => ?_⟩
    have hw6 := hw5.fr lb hq6 f6
    have hGs := hG4.set
    have e1 := setS_1 (q.1.1.set i (valP p v), q.1.2)
    have eop : opIf q i v = .inl (if (setS (q.1.1.set i (valP p v), q.1.2)).2.2.2 = 0 then -1 else (setS (q.1.1.set i (valP p v), q.1.2)).2.2.1) := by
      unfold opIf
      rw [prt_i, hp]
      simp only
      rw [if_neg hk2, if_pos hsv, show (i : Int).toNat = i by omega]
    rw [eop]
    have dd2 : D' (2 : Int).toNat = (setS (q.1.1.set i (valP p v), q.1.2)).2.2.1 := hD'.2.2.1
    have dd3 : D' (3 : Int).toNat = (setS (q.1.1.set i (valP p v), q.1.2)).2.2.2 := hD'.2.2.2
    have hnA : nA (setS (q.1.1.set i (valP p v), q.1.2)).1 ≤ 3 := hGs.1.2.1
    have h27 := c27 hnA
    have hpr := hGs.2.2.1
    have hst := hGs.2.2.2
    generalize setS (q.1.1.set i (valP p v), q.1.2) = S6 at *
    have rr2 : R3 S6.2.2.1 := R3_s (by omega)
    -- the trip
    have go2 : p.1 = 1 → Ok X 2 12 210 [(0, .ref 0), (1, .int (i3 x)), (2, .ref d), (3, .ref a), (4, .ref n), (5, .ref (n + 1)), (6, .ref (n + 2)), (7, .ref (n + 3)), (8, .int (i3 (i : Int))), (9, .int (i3 y9))] [] (n + 4) h6 := fun hk1 => by
      have trip : ∀ by9 : Int, by9 = 1 ∨ by9 = -1 → Ok X 2 12 233 [(0, .ref 0), (1, .int (i3 x)), (2, .ref d), (3, .ref a), (4, .ref n), (5, .ref (n + 1)), (6, .ref (n + 2)), (7, .ref (n + 3)), (8, .int (i3 (i : Int))), (9, .int (i3 by9)), (10, .int (i3 (-1))), (11, .int (i3 0))] [] (n + 4) h6 := fun by9 hby => by
        have hsrc := told_src (hG.1.2.2.1 p (List.mem_of_getElem? hp)) hk1
        have rT : R3 (tripL i by9 q.1.2.2.1 (200 - by9 * p.2.2.2).toNat q.1 p.2.2.2) := tripL_r hby _ _ _ (by rcases hby with e | e <;> subst e <;> omega)
        have eT : opTrip q i (if by9 ≤ 0 then 0 else 1) = .inl (tripL i by9 q.1.2.2.1 (200 - by9 * p.2.2.2).toNat q.1 p.2.2.2) := by
          unfold opTrip
          rw [prt_i, hp]
          simp only
          rw [if_pos hk1, show (i : Int).toNat = i by omega]
          rcases hby with e | e <;> subst e <;> rfl
        refine ah_3 hc hr hT (fun h7 D7 y11 hw7 hd7 => ?_) 4 0 rfl h6 _ hw6 (fun j hj => absurd hj (Nat.not_lt_zero j))
        refine sL_ahead_254 hc hr (hw7.at ea1 l2 han) hw7.2.2.2.2.2 ⟨x3, x3, ?_⟩
        rw [g3]
        have hG7 : PaF (va_up G4 (4 * (i : Int) + 3 : Int).toNat p.2.2.2) q.1.1 := by
          refine hP.cong (fun j hj => ?_) (fun j => ?_)
          · by_cases z : j = (4 * (i : Int) + 3 : Int).toNat
            · rw [z, up_self, g3]
            · rw [up_ne z, ← hG9, up_ne z]
              exact hg3 j hj
          · by_cases z : j = (4 * (i : Int) + 3 : Int).toNat
            · rw [z, up_self]
              exact R3_s (by omega)
            · rw [up_ne z, ← hG9, up_ne z]
              exact hr3 j
        have hw8 := hw7.g (G' := va_up G4 (4 * (i : Int) + 3 : Int).toNat p.2.2.2) lb
        generalize va_up G4 (4 * (i : Int) + 3 : Int).toNat p.2.2.2 = G8 at hG7 hw8
        generalize va_up h7 (n + 3) (ai 48 G8) = h8 at hw8
        refine ah_4 hc hr hT hby rT (fun h9 D9 G9 hw9 => ?_) _ q.1 p h8 D7 G8 rfl hw8 hG (hD.cong hd7) hG7 hp hk1 rfl rfl
        have last : ∀ z : Int, z = (if by9 ≤ 0 then 0 else 1) → spec_X6_trip [.ref 0, .int (i3 (i : Int)), .int (i3 z)] (n + 4) h9 (kc X 0 0 372 [(0, .ref 0), (1, .int (i3 x)), (2, .ref d), (3, .ref a), (4, .ref n), (5, .ref (n + 1)), (6, .ref (n + 2)), (7, .ref (n + 3)), (8, .int (i3 (i : Int))), (9, .int (i3 by9)), (10, .int (i3 (tripL i by9 q.1.2.2.1 (200 - by9 * p.2.2.2).toNat q.1 p.2.2.2))), (11, .int (i3 y11))] [] (n + 4)) := fun z hz => by
          subst hz
          refine ⟨q, i, _, rfl, ri, by split <;> exact R3_s (by decide), hw9.1, fun h10 hq10 f10 => ?_⟩
          rw [eT]
          exact ⟨rfl, sL_ahead_375 hc hr ⟨rT, rT, fun z => absurd rfl z, fun _ => fin h10 _ _ (hw9.fr lb hq10 f10)⟩⟩
        refine sL_ahead_359 (bb := 0) (sb9 := 0) hc hr hw9.1.1 rfl ⟨R3_s (by omega), fun z => last 0 (if_pos z).symm, fun z => last 1 (if_neg z).symm⟩
      refine sL_ahead_210 hc hr ⟨_, 2, rfl, ⟨by decide, by decide⟩, fun z hz0 hz2 => ⟨rfl, ?_⟩⟩
      exact sL_ahead_217 hc hr ⟨R3_s (by omega), fun _ => trip (-1) (Or.inr rfl), fun _ => trip 1 (Or.inl rfl)⟩
    by_cases s0 : S6.2.2.2 = 0
    · rw [if_pos s0]
      refine ⟨rfl, sL_ahead_178 (t0 := -1) hc hr hw6.2.2.2.2.1 (hw6.at ea1 l2 han) ?_⟩
      rw [dd3, g0]
      exact ⟨⟨by decide, by decide, by decide⟩, R3_s (by omega), fun _ => ⟨R3_s (by decide), fun _ => ⟨x0, rp, fun z => go2 (by omega), fun _ => fin h6 _ _ hw6⟩, fun z => absurd rfl z⟩, fun z => absurd z (by omega)⟩
    · rw [if_neg s0]
      refine ⟨rfl, sL_ahead_178 (t0 := S6.2.2.1) hc hr hw6.2.2.2.2.1 (hw6.at ea1 l2 han) ?_⟩
      rw [dd3, dd2, g0]
      exact ⟨⟨by decide, by decide, by decide⟩, R3_s (by omega), fun z => absurd (by omega) z, fun _ => ⟨⟨by decide, by decide, by decide⟩, rr2, rr2, fun _ => ⟨x0, rp, fun z => go2 (by omega), fun _ => fin h6 _ _ hw6⟩, fun z => absurd rfl z⟩⟩
  refine sL_ahead_108 hc hr (hw3.at ea1 l2 han) ?_
  rw [g0]
  refine ⟨x0, rp, fun z => ?_, fun z => ?_⟩
  · have hk1 : p.1 = 1 := by omega
    refine ⟨_, 401, rfl, ⟨by decide, by decide⟩, fun w hw0 hw1 => ⟨rfl, ?_⟩⟩
    refine sL_ahead_146 hc hr hw3.2.2.2.2.2 ⟨x3, go (w - 200) (pw_src hpw hk1 ⟨by omega, by omega⟩) ?_ (R3_s (by omega))⟩
    unfold stlB
    rw [if_neg z]
    exact decide_eq_true ⟨by omega, by omega⟩
  · refine ⟨_, 4, rfl, ⟨by decide, by decide⟩, fun w hw0 hw1 => ⟨rfl, ?_⟩⟩
    refine sL_ahead_133 hc hr hw3.2.2.2.2.2 ⟨x3, go (1 + w) (pw_res hpw z ⟨by omega, by omega⟩) ?_ (R3_s (by omega))⟩
    unfold stlB
    rw [if_pos z]
    exact decide_eq_true ⟨by omega, by omega⟩
