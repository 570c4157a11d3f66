/-! part a12: the law's equations are the class's rows -/
/-- a row of the law: the class's, with what is given gathered in its eighth number -/
def RowL (ps : List Part) (m : Nat) (γ : Nat → Int) (r : Nat) : Nat → Int := fun j => if j < 7 then rowsM (m : Nat) ps r j else if j = 7 then la_s (fun g => rowsM (m : Nat) ps r (7 + g) * γ g) 7 else 0
theorem row_c {ps : List Part} (hG : GdP ps) (m : Nat) {r : Nat} (hr : r < 7) : RowC ps (m : Nat) ps.length r (rowsM (m : Nat) ps r) := by
  have := (rows_c hG.2.2.1 (m : Nat) ps.length (Nat.le_refl _)).2 r hr
  rw [List.take_length] at this
  exact this
theorem rowL_1 {ps : List Part} (hG : GdP ps) {m : Nat} {γ : Nat → Int} {r : Nat} (hr : r < 7) (hk : kcB ps r = true) {j : Nat} (hj : j < 8) : RowL ps m γ r j = if j < 7 then kclR ps r j else 0 := by
  have hpw : ∀ p ∈ ps, PW p := fun p hp => (hG.2.2.1 p hp).1
  rcases row_c hG m hr with ⟨q1, q2⟩ | ⟨q1, _⟩ | ⟨q1, _⟩
  · rw [List.take_length] at q2
    unfold RowL
    by_cases c : j < 7
    · rw [if_pos c, if_pos c, q2]
    · rw [if_neg c, if_neg c, if_pos (by omega)]
      refine la_s0 fun g _ => ?_
      rw [q2]
      have : kclR ps r (7 + g) = 0 := kcl_sup (q := 7 + g) (ρ := fun _ => 0) hr (by omega) hpw rfl
      rw [this, Int.zero_mul]
  · rw [hk] at q1
    cases q1
  · rw [hk] at q1
    cases q1
theorem rowL_2 {ps : List Part} (hG : GdP ps) {m : Nat} {γ : Nat → Int} {r : Nat} (hr : r < 7) {a i : Nat} {p : Part} (hA : AmpAt ps a i p) (hb : bcon (m : Nat) a = 0) (hp : p.2.2.2 = r) {j : Nat} (hj : j < 8) : RowL ps m γ r j = if j = p.2.1.toNat then 1 else if j = p.2.2.1.toNat then -1 else 0 := by
  have ht := told_amp (hG.2.2.1 p (List.mem_of_getElem? hA.1)) hA.2.1
  rcases row_c hG m hr with ⟨q1, _⟩ | ⟨q1, a', j', p', q2, q3, q4, q5, q6⟩ | ⟨q1, q2, _⟩
  · rw [out_kc hA hp] at q1
    cases q1
  · obtain ⟨_, _, ep⟩ := amp_out hG hA q3 (hp.trans q5.symm)
    subst ep
    unfold RowL
    rw [q6]
    by_cases c : j < 7
    · rw [if_pos c]
      unfold lb_e lb_d
      grind
    · rw [if_neg c, if_pos (by omega), if_neg (by omega), if_neg (by omega)]
      refine la_s0 fun g _ => ?_
      have e1 : lb_e (some p.2.1.toNat) (some p.2.2.1.toNat) (7 + g) = 0 := by
        unfold lb_e lb_d
        rw [if_neg (fun z => by have := Option.some.inj z; omega), if_neg (fun z => by have := Option.some.inj z; omega)]
        rfl
      rw [e1, Int.zero_mul]
  · exact absurd hp (q2 a i p hA.lt.1 hA hb)
theorem rowL_3 {ps : List Part} (hG : GdP ps) {m : Nat} {γ : Nat → Int} {r : Nat} (hr : r < 7) (hk : kcB ps r = false) (hn : ∀ (a i : Nat) (p : Part), AmpAt ps a i p → bcon (m : Nat) a = 0 → p.2.2.2 ≠ r) {j : Nat} (hj : j < 8) : RowL ps m γ r j = if j = 7 then γ r else if j = r then 1 else 0 := by
  rcases row_c hG m hr with ⟨q1, _⟩ | ⟨q1, a', j', p', q2, q3, q4, q5, q6⟩ | ⟨q1, q2, q3⟩
  · rw [hk] at q1
    cases q1
  · exact absurd q5 (hn a' j' p' q3 q4)
  · unfold RowL
    rw [q3]
    by_cases c : j < 7
    · rw [if_pos c, if_neg (by omega)]
      unfold lb_e lb_d
      grind
    · rw [if_neg c, if_pos (by omega), if_pos (by omega)]
      rw [la_s1 hr (fun j hj q => by
        unfold lb_e lb_d
        grind)]
      unfold lb_e lb_d
      grind
/-- the equations up to a node -/
def EqI (ps : List Part) (m : Nat) (γ : Nat → Int) (node : Nat) (G : Nat → Int) : Prop := (∀ r j, r < node → j < 8 → G (8 * r + j) = RowL ps m γ r j) ∧ ∀ x, 8 * node ≤ x → x < 56 → G x = 0
theorem EqI.s {ps : List Part} {m : Nat} {γ : Nat → Int} {r : Nat} {G G' : Nat → Int} (h : EqI ps m γ r G) (ho : ∀ x, x < 8 * r ∨ 8 * r + 8 ≤ x → G' x = G x) (hj : ∀ j, j < 8 → G' (8 * r + j) = RowL ps m γ r j) : EqI ps m γ (r + 1) G' := by
  refine ⟨fun q j hq hj8 => ?_, fun x hx hx2 => ?_⟩
  · by_cases c : q = r
    · rw [c]
      exact hj j hj8
    · rw [ho _ (by omega)]
      exact h.1 q j (by omega) hj8
  · rw [ho _ (by omega)]
    exact h.2 x (by omega) hx2
theorem EqI.s3 {ps : List Part} (hG : GdP ps) {m : Nat} {γ : Nat → Int} {r : Nat} {G : Nat → Int} (h : EqI ps m γ r G) (hr : r < 7) (hk : kcB ps r = false) (hn : ∀ (a i : Nat) (p : Part), AmpAt ps a i p → bcon (m : Nat) a = 0 → p.2.2.2 ≠ r) {v : Int} (hv : γ r = v) : EqI ps m γ (r + 1) (va_up (va_up G (8 * r + r) 1) (8 * r + 7) v) := by
  refine h.s (fun x hx => ?_) (fun j hj => ?_)
  · rw [up_ne (by omega), up_ne (by omega)]
  · rw [rowL_3 hG hr hk hn hj, hv]
    by_cases c : j = 7
    · rw [if_pos c, c, up_self]
    · rw [if_neg c, up_ne (by omega)]
      by_cases d : j = r
      · rw [if_pos d, d, up_self]
      · rw [if_neg d, up_ne (by omega)]
        exact h.2 _ (by omega) (by omega)
theorem kc_no {ps : List Part} {r : Nat} (h : frF ps r = false) : kcB ps r = false := by
  unfold kcB
  rw [h, Bool.false_and]
theorem at_of_amp {p : Part} {k : Int} (h2 : p.1 = 2) (h : p.2.2.2 = k) : atB p k = true := by
  unfold atB
  rw [decide_eq_true h2, decide_eq_true h]
  simp
theorem at_of_src {p : Part} {k : Int} (h : p.2.1 = k) : atB p k = true := by
  unfold atB
  rw [decide_eq_true h]
  rfl
/-- a node that nothing touches, or the ground -/
theorem nd_0 {ps : List Part} (hG : GdP ps) {c t : Int} {m : Nat} {rail : Int} {γ : Nat → Int} (hM : Mat7 ps c t m (valF ps (offT t) rail) γ) {r : Nat} (hr : r < 7) (h : r = 0 ∨ ps.any (fun p => atB p r) = false) : kcB ps r = false ∧ (∀ (a i : Nat) (p : Part), AmpAt ps a i p → bcon (m : Nat) a = 0 → p.2.2.2 ≠ r) ∧ γ r = 0 := by
  have hf : frF ps r = false := by
    show freeB ps r = false
    unfold freeB
    rcases h with z | z
    · subst z
      rfl
    · rw [z, Bool.and_false, Bool.false_and]
  refine ⟨kc_no hf, fun a i p hA _ e => ?_, ?_⟩
  · have ht := told_amp (hG.2.2.1 p (List.mem_of_getElem? hA.1)) hA.2.1
    rcases h with z | z
    · omega
    · have : ps.any (fun p => atB p r) = true := List.any_eq_true.mpr ⟨p, List.mem_of_getElem? hA.1, at_of_amp hA.2.1 e⟩
      rw [z] at this
      cases this
  · rw [hM.2.1 r hr hf]
    rcases h with z | z
    · exact valF_0 hr (Or.inl z)
    · refine valF_0 hr (Or.inr (Or.inr (Or.inr ?_)))
      refine src_none fun p hp e => ?_
      have : ps.any (fun p => atB p r) = true := List.any_eq_true.mpr ⟨p, hp, at_of_src e.2⟩
      rw [z] at this
      cases this
/-- a node that a source drives -/
theorem nd_1 {ps : List Part} (hG : GdP ps) {c t : Int} (ht0 : -1 ≤ t) {m : Nat} {rail : Int} {γ : Nat → Int} (hM : Mat7 ps c t m (valF ps (offT t) rail) γ) {r : Nat} (hr : r < 7) {j : Nat} {p : Part} (hp : ps[j]? = some p) (h1 : p.1 = 1) (hpr : p.2.1 = r) : kcB ps r = false ∧ (∀ (a i : Nat) (p : Part), AmpAt ps a i p → bcon (m : Nat) a = 0 → p.2.2.2 ≠ r) ∧ γ r = if t < 0 then p.2.2.2 else 0 := by
  have hs := told_src (hG.2.2.1 p (List.mem_of_getElem? hp)) h1
  have hsn : srcI ps r = j := by
    rcases srcI_r ps r with ⟨_, h2⟩ | ⟨j', q, g1, g2, g3, g4⟩
    · exact absurd ⟨h1, hpr⟩ (h2 p (List.mem_of_getElem? hp))
    · by_cases e : j' = j
      · rw [g1, e]
      · have := hG.2.2.2.ne g2 hp e (by omega) (by omega)
        rw [drv_src g3, drv_src h1] at this
        omega
  have hf : frF ps r = false := by
    show freeB ps r = false
    unfold freeB
    rw [decide_eq_false (show ¬ srcI ps r = -1 by omega), Bool.and_false]
  refine ⟨kc_no hf, fun a i q hA _ e => ?_, ?_⟩
  · have hne : i ≠ j := by
      intro e2
      subst e2
      have := Option.some.inj (hA.1.symm.trans hp)
      subst this
      have := hA.2.1
      omega
    have := hG.2.2.2.ne hA.1 hp hne (by have := hA.2.1; omega) (by omega)
    rw [drv_amp hA.2.1, drv_src h1] at this
    omega
  · rw [hM.2.1 r hr hf]
    by_cases c0 : t < 0
    · have et : offT t = 0 := if_pos (by omega)
      rw [if_pos c0, valF_s hr (by omega) (by rw [hf]; decide) et (by omega)]
      unfold srcV
      rw [hsn, pAt_of hp]
    · have et : offT t = 1 := if_neg (by omega)
      rw [if_neg c0, valF_0 hr (Or.inr (Or.inr (Or.inl (by rw [et]; decide))))]
/-- a node that an amplifier drives that isn't linear -/
theorem nd_2 {ps : List Part} (hG : GdP ps) {c t : Int} (ht0 : -1 ≤ t) {m : Nat} {rail : Int} {γ : Nat → Int} (hM : Mat7 ps c t m (valF ps (offT t) rail) γ) {r a j : Nat} {p : Part} (hA : AmpAt ps a j p) (hpr : p.2.2.2 = r) (hz : ¬ (c / 3 ^ a % 3 = 0 ∧ (a : Int) ≠ t)) : kcB ps r = false ∧ (∀ (a i : Nat) (p : Part), AmpAt ps a i p → bcon (m : Nat) a = 0 → p.2.2.2 ≠ r) ∧ γ r = if (a : Int) = t then 1 else if 0 ≤ t then 0 else if c / 3 ^ a % 3 = 1 then rail else -rail := by
  refine ⟨out_kc hA hpr, fun a' i q hA' hb e => ?_, ?_⟩
  · obtain ⟨ea, _, _⟩ := amp_out hG hA hA' (hpr.trans e.symm)
    subst ea
    exact hz ((hM.1 a hA.lt.2).mp hb)
  · have hg := hM.2.2 a j p hA hz
    rw [show p.2.2.2.toNat = r by omega] at hg
    rw [hg]
    have hna : 0 < nA ps := by have := hA.lt.2; omega
    unfold ampX valF
    by_cases e1 : (a : Int) = t
    · rw [if_pos e1, if_pos e1, if_neg (by decide), if_neg (by decide), if_pos rfl, if_pos hna]
    · rw [if_neg e1, if_neg e1]
      by_cases e2 : 0 ≤ t
      · have et : offT t = 1 := if_neg (by omega)
        rw [if_pos e2, et]
        split
        · rw [if_pos rfl, if_neg (fun z => absurd z.1 (by decide))]
        · rw [if_neg (by decide), if_pos rfl, if_neg (fun z => absurd z.1 (by decide))]
      · have et : offT t = 0 := if_pos (by omega)
        rw [if_neg e2, et]
        split
        · rw [if_pos rfl, if_pos ⟨rfl, hna⟩]
        · rw [if_neg (by decide), if_pos rfl, if_pos ⟨rfl, hna⟩]
/-- a node whose currents balance -/
theorem nd_3 {ps : List Part} {r : Nat} (h0 : r ≠ 0) (hu : ps.any (fun p => atB p r) = true) (hp : ∀ p ∈ ps, dvB p r = false) : kcB ps r = true := by
  have s1 : srcI ps r = -1 := src_none fun p hpm e => by
    have := (dvB_1 e.1).mpr e.2
    rw [hp p hpm] at this
    cases this
  have s2 : outF ps r = false := by
    cases z : outF ps r with
    | false => rfl
    | true =>
      obtain ⟨q, hq, hqe⟩ := List.any_eq_true.mp z
      unfold outB at hqe
      rw [Bool.and_eq_true, decide_eq_true_eq, decide_eq_true_eq] at hqe
      have := (dvB_2 hqe.1).mpr hqe.2
      rw [hp q hq] at this
      cases this
  unfold kcB
  show (freeB ps r && !outF ps r) = true
  unfold freeB
  rw [s2, hu, decide_eq_true s1, decide_eq_true (show (0 : Int) < r by omega)]
  rfl
/-- a row of currents, in the making -/
theorem kcl_u {r o : Nat} {g : Int} {G : Nat → Int} {ρ : Nat → Int} (ho : o < 7) (hr : r < 7) (hne : o ≠ r) (h : ∀ j, j < 8 → G (8 * r + j) = if j < 7 then ρ j else 0) : ∀ j, j < 8 → va_up (va_up G (8 * r + r) (G (8 * r + r) + g)) (8 * r + o) (va_up G (8 * r + r) (G (8 * r + r) + g) (8 * r + o) - g) (8 * r + j) = if j < 7 then ((-g) * lb_d (some o) j + (g * lb_d (some r) j + ρ j)) else 0 := by
  intro j hj
  by_cases c : j = o
  · subst c
    rw [up_self, up_ne (by omega), h j hj, if_pos ho, if_pos ho]
    unfold lb_d
    rw [if_pos rfl, if_neg (fun z => hne (Option.some.inj z).symm)]
    omega
  · rw [up_ne (by omega)]
    by_cases d : j = r
    · subst d
      rw [up_self, h j hj, if_pos hr, if_pos hr]
      unfold lb_d
      rw [if_pos rfl, if_neg (fun z => hne (Option.some.inj z))]
      omega
    · rw [up_ne (by omega), h j hj]
      unfold lb_d
      rw [if_neg (fun z => c (Option.some.inj z).symm), if_neg (fun z => d (Option.some.inj z).symm)]
      split <;> omega
set_option maxHeartbeats 4000000 in
set_option maxRecDepth 100000 in
theorem sL_equations_0 {X : Xt} {n : Nat} {h : HP} {x0 : Int} {x1 : Int} {a2 : Nat} {a3 : Nat} {a4 : Nat} (hc : Cx X cL_equations RL 10 3 66) {K : KT} (hr : CxR X none K) 
    (P : Ok X 0 0 3 [(0, .int (i3 x0)), (1, .int (i3 x1)), (2, .ref a2), (3, .ref a3), (4, .ref a4), (5, .int (i3 0))] [] n h) :
    Ok X 0 0 0 [(0, .int (i3 x0)), (1, .int (i3 x1)), (2, .ref a2), (3, .ref a3), (4, .ref a4)] [] n h := by
  refine ok_iconst (pc := 0) hc (v := i3 0) dL_equations_0 (by decide) ?_
  refine ok_istore (pc := 1) hc (lv' := [(5, .int (i3 0)), (0, .int (i3 x0)), (1, .int (i3 x1)), (2, .ref a2), (3, .ref a3), (4, .ref a4)]) dL_equations_1 (by decide) rfl ?_
  refine ok_lv [1, 2, 3, 4, 5, 0] rfl ?_
  exact P

set_option maxHeartbeats 4000000 in
set_option maxRecDepth 100000 in
theorem sL_equations_3 {X : Xt} {n : Nat} {h : HP} {x0 : Int} {x1 : Int} {a2 : Nat} {a3 : Nat} {a4 : Nat} {x5 : Int} {len2 : Nat} {f2 : Nat → Int} (hc : Cx X cL_equations RL 10 3 66) {K : KT} (hr : CxR X none K) (e2 : At h n a4 (al len2 f2))
    (P : (R3 x5) ∧ (56 ≤ x5 → Ok X 0 0 25 [(0, .int (i3 x0)), (1, .int (i3 x1)), (2, .ref a2), (3, .ref a3), (4, .ref a4), (5, .int (i3 0))] [] n h) ∧ (¬ 56 ≤ x5 → (Ix x5 len2) ∧ Ok X 0 0 3 [(0, .int (i3 x0)), (1, .int (i3 x1)), (2, .ref a2), (3, .ref a3), (4, .ref a4), (5, .int (i3 (x5 + 1)))] [] n (va_up h a4 (al len2 (va_up f2 (x5 : Int).toNat 0))))) :
    Ok X 0 0 3 [(0, .int (i3 x0)), (1, .int (i3 x1)), (2, .ref a2), (3, .ref a3), (4, .ref a4), (5, .int (i3 x5))] [] n h := by
  refine ok_iload (pc := 3) hc dL_equations_3 5 rfl ?_
  refine ok_bipush (pc := 5) hc (v := i3 56) dL_equations_5 (by decide) ?_
  obtain ⟨r1, P⟩ := P
  refine zk_icmp_ge (pc := 7) (tgt := 22) hc dL_equations_7 (by decide) r1 ⟨by decide, by decide⟩ (fun c => ?_) (fun c => ?_)
  · have P := P.1 c
    refine ok_iconst (pc := 22) hc (v := i3 0) dL_equations_22 (by decide) ?_
    refine ok_istore (pc := 23) hc (lv' := [(5, .int (i3 0)), (0, .int (i3 x0)), (1, .int (i3 x1)), (2, .ref a2), (3, .ref a3), (4, .ref a4)]) dL_equations_23 (by decide) rfl ?_
    refine ok_lv [1, 2, 3, 4, 5, 0] rfl ?_
    exact P
  · have P := P.2 c
    refine ok_aload (pc := 10) hc dL_equations_10 4 rfl ?_
    refine ok_iload (pc := 12) hc dL_equations_12 5 rfl ?_
    refine ok_lconst (pc := 14) hc (v := i6 0) dL_equations_14 (by decide) ?_
    obtain ⟨r, P⟩ := P
    refine zk_last (pc := 15) hc dL_equations_15 e2.1 e2.2 r ?_
    refine zk_iinc (pc := 16) hc (q := 5) (x := x5) (lv' := [(5, .int (i3 (x5 + 1))), (0, .int (i3 x0)), (1, .int (i3 x1)), (2, .ref a2), (3, .ref a3), (4, .ref a4)]) dL_equations_16 rfl (by decide) rfl ?_
    refine ok_goto (pc := 19) (tgt := 3) hc dL_equations_19 (by decide) ?_
    refine ok_lv [1, 2, 3, 4, 5, 0] rfl ?_
    exact P

set_option maxHeartbeats 4000000 in
set_option maxRecDepth 100000 in
theorem sL_equations_25 {X : Xt} {n : Nat} {h : HP} {x0 : Int} {x1 : Int} {a2 : Nat} {a3 : Nat} {a4 : Nat} {x5 : Int} {f2 : Nat → Int} {ps3 : List Part} {f4 : Nat → Int} (hc : Cx X cL_equations RL 10 3 66) {K : KT} (hr : CxR X none K) (e2 : At h n a3 (ai 48 f2)) (hP3 : PaF f2 ps3) (e4 : At h n a2 (ai 4 f4)) (hD5 : f4 0 = ps3.length)
    (P : (R3 x5) ∧ (7 ≤ x5 → K (.inl none) n h) ∧ (¬ 7 ≤ x5 → (R3 x5) ∧ (R3 x5) ∧ (x5 = 0 → Ok X 0 0 63 [(0, .int (i3 x0)), (1, .int (i3 x1)), (2, .ref a2), (3, .ref a3), (4, .ref a4), (5, .int (i3 x5)), (6, .int (i3 (8 * x5))), (7, .int (i3 (drvI ps3 x5)))] [] n h) ∧ (¬ x5 = 0 → (R3 x5) ∧ ((ps3.any (fun p => atB p x5)) = true → Ok X 0 0 75 [(0, .int (i3 x0)), (1, .int (i3 x1)), (2, .ref a2), (3, .ref a3), (4, .ref a4), (5, .int (i3 x5)), (6, .int (i3 (8 * x5))), (7, .int (i3 (drvI ps3 x5)))] [] n h) ∧ ((ps3.any (fun p => atB p x5)) = false → Ok X 0 0 63 [(0, .int (i3 x0)), (1, .int (i3 x1)), (2, .ref a2), (3, .ref a3), (4, .ref a4), (5, .int (i3 x5)), (6, .int (i3 (8 * x5))), (7, .int (i3 (drvI ps3 x5)))] [] n h)))) :
    Ok X 0 0 25 [(0, .int (i3 x0)), (1, .int (i3 x1)), (2, .ref a2), (3, .ref a3), (4, .ref a4), (5, .int (i3 x5))] [] n h := by
  refine ok_iload (pc := 25) hc dL_equations_25 5 rfl ?_
  refine ok_bipush (pc := 27) hc (v := i3 7) dL_equations_27 (by decide) ?_
  obtain ⟨r1, P⟩ := P
  refine zk_icmp_ge (pc := 29) (tgt := 371) hc dL_equations_29 (by decide) r1 ⟨by decide, by decide⟩ (fun c => ?_) (fun c => ?_)
  · have P := P.1 c
    exact ok_vret (st := []) (pc := 371) hc hr dL_equations_371 P
  · have P := P.2 c
    refine ok_bipush (pc := 32) hc (v := i3 8) dL_equations_32 (by decide) ?_
    refine ok_iload (pc := 34) hc dL_equations_34 5 rfl ?_
    refine zk_imul (pc := 36) hc dL_equations_36 ?_
    refine ok_istore (pc := 37) hc (lv' := [(6, .int (i3 (8 * x5))), (0, .int (i3 x0)), (1, .int (i3 x1)), (2, .ref a2), (3, .ref a3), (4, .ref a4), (5, .int (i3 x5))]) dL_equations_37 (by decide) rfl ?_
    refine ok_iload (pc := 39) hc dL_equations_39 6 rfl ?_
    refine ok_aload_n (pc := 41) hc dL_equations_41 rfl 3 rfl ?_
    refine ok_aload_n (pc := 42) hc dL_equations_42 rfl 4 rfl ?_
    obtain ⟨r0, P⟩ := P
    refine ok_callS (pc := 43) (cb := 0) (sb := 0) (st := []) hc [.int (i3 x5), .ref a2, .ref a3] cs_L_25 sp_L_driver (by decide) dL_equations_43 rfl rfl rfl rfl (Nat.le_of_ble_eq_true rfl) (⟨_, _, _, _, _, _, rfl, ⟨e4.1, e4.2⟩, ⟨e2.1, e2.2⟩, hD5, hP3, r0, rfl, ?_⟩)
    show Ok X 0 0 (43 + 3) [(6, .int (i3 (8 * x5))), (0, .int (i3 x0)), (1, .int (i3 x1)), (2, .ref a2), (3, .ref a3), (4, .ref a4), (5, .int (i3 x5))] [.int (i3 (drvI ps3 x5))] n h
    refine ok_istore (pc := 46) hc (lv' := [(7, .int (i3 (drvI ps3 x5))), (6, .int (i3 (8 * x5))), (0, .int (i3 x0)), (1, .int (i3 x1)), (2, .ref a2), (3, .ref a3), (4, .ref a4), (5, .int (i3 x5))]) dL_equations_46 (by decide) rfl ?_
    refine ok_iload (pc := 48) hc dL_equations_48 7 rfl ?_
    obtain ⟨r6, P⟩ := P
    refine zk_if_eq (pc := 50) (tgt := 63) hc dL_equations_50 (by decide) r6 (fun c => ?_) (fun c => ?_)
    · have P := P.1 c
      refine ok_lv [2, 3, 4, 5, 6, 7, 1, 0] rfl ?_
      exact P
    · have P := P.2 c
      refine ok_iload (pc := 53) hc dL_equations_53 7 rfl ?_
      refine ok_aload_n (pc := 55) hc dL_equations_55 rfl 4 rfl ?_
      refine ok_aload_n (pc := 56) hc dL_equations_56 rfl 5 rfl ?_
      obtain ⟨r0, P⟩ := P
      refine ok_callS (pc := 57) (cb := 0) (sb := 0) (st := []) hc [.int (i3 x5), .ref a2, .ref a3] cs_L_29 sp_L_used (by decide) dL_equations_57 rfl rfl rfl rfl (Nat.le_of_ble_eq_true rfl) (⟨_, _, _, _, _, _, rfl, ⟨e4.1, e4.2⟩, ⟨e2.1, e2.2⟩, hD5, hP3, r0, rfl, ?_⟩)
      show Ok X 0 0 (57 + 3) [(7, .int (i3 (drvI ps3 x5))), (6, .int (i3 (8 * x5))), (0, .int (i3 x0)), (1, .int (i3 x1)), (2, .ref a2), (3, .ref a3), (4, .ref a4), (5, .int (i3 x5))] [.int (i3 (bz (ps3.any (fun p => atB p x5))))] n h
      refine zk_if_ne (pc := 60) (tgt := 75) hc dL_equations_60 (by decide) R3_bz (fun c => ?_) (fun c => ?_)
      · have P := P.1 (bz_1.mp c)
        refine ok_lv [2, 3, 4, 5, 6, 7, 1, 0] rfl ?_
        exact P
      · have P := P.2 (bz_0.mp c)
        refine ok_lv [2, 3, 4, 5, 6, 7, 1, 0] rfl ?_
        exact P

set_option maxHeartbeats 4000000 in
set_option maxRecDepth 100000 in
theorem sL_equations_63 {X : Xt} {n : Nat} {h : HP} {x0 : Int} {x1 : Int} {a2 : Nat} {a3 : Nat} {a4 : Nat} {x5 : Int} {x6 : Int} {x7 : Int} {f1 : Nat → Int} (hc : Cx X cL_equations RL 10 3 66) {K : KT} (hr : CxR X none K) (e1 : At h n a4 (al 56 f1))
    (P : (Ix (x6 + x5) 56) ∧ Ok X 0 0 25 [(0, .int (i3 x0)), (1, .int (i3 x1)), (2, .ref a2), (3, .ref a3), (4, .ref a4), (5, .int (i3 (x5 + 1)))] [] n (va_up h a4 (al 56 (va_up f1 ((x6 + x5) : Int).toNat 1)))) :
    Ok X 0 0 63 [(0, .int (i3 x0)), (1, .int (i3 x1)), (2, .ref a2), (3, .ref a3), (4, .ref a4), (5, .int (i3 x5)), (6, .int (i3 x6)), (7, .int (i3 x7))] [] n h := by
  refine ok_aload (pc := 63) hc dL_equations_63 4 rfl ?_
  refine ok_iload (pc := 65) hc dL_equations_65 6 rfl ?_
  refine ok_iload (pc := 67) hc dL_equations_67 5 rfl ?_
  refine zk_iadd (pc := 69) hc dL_equations_69 ?_
  refine ok_lconst (pc := 70) hc (v := i6 1) dL_equations_70 (by decide) ?_
  obtain ⟨r, P⟩ := P
  refine zk_last (pc := 71) hc dL_equations_71 e1.1 e1.2 r ?_
  refine ok_goto (pc := 72) (tgt := 365) hc dL_equations_72 (by decide) ?_
  refine zk_iinc (pc := 365) hc (q := 5) (x := x5) (lv' := [(5, .int (i3 (x5 + 1))), (0, .int (i3 x0)), (1, .int (i3 x1)), (2, .ref a2), (3, .ref a3), (4, .ref a4), (6, .int (i3 x6)), (7, .int (i3 x7))]) dL_equations_365 rfl (by decide) rfl ?_
  refine ok_goto (pc := 368) (tgt := 25) hc dL_equations_368 (by decide) ?_
  refine ok_lv [1, 2, 3, 4, 5, 0] rfl ?_
  exact P

set_option maxHeartbeats 4000000 in
set_option maxRecDepth 100000 in
theorem sL_equations_75 {X : Xt} {n : Nat} {h : HP} {x0 : Int} {x1 : Int} {a2 : Nat} {a3 : Nat} {a4 : Nat} {x5 : Int} {x6 : Int} {x7 : Int} {f2 : Nat → Int} (hc : Cx X cL_equations RL 10 3 66) {K : KT} (hr : CxR X none K) (e2 : At h n a3 (ai 48 f2))
    (P : (R3 x7) ∧ (x7 < 0 → Ok X 0 0 127 [(0, .int (i3 x0)), (1, .int (i3 x1)), (2, .ref a2), (3, .ref a3), (4, .ref a4), (5, .int (i3 x5)), (6, .int (i3 x6)), (7, .int (i3 x7))] [] n h) ∧ (¬ x7 < 0 → (Ix (4 * x7) 48) ∧ (R3 (f2 (4 * x7 : Int).toNat)) ∧ (¬ (f2 (4 * x7 : Int).toNat) = 1 → Ok X 0 0 127 [(0, .int (i3 x0)), (1, .int (i3 x1)), (2, .ref a2), (3, .ref a3), (4, .ref a4), (5, .int (i3 x5)), (6, .int (i3 x6)), (7, .int (i3 x7))] [] n h) ∧ ((f2 (4 * x7 : Int).toNat) = 1 → Ok X 0 0 90 [(0, .int (i3 x0)), (1, .int (i3 x1)), (2, .ref a2), (3, .ref a3), (4, .ref a4), (5, .int (i3 x5)), (6, .int (i3 x6)), (7, .int (i3 x7))] [] n h))) :
    Ok X 0 0 75 [(0, .int (i3 x0)), (1, .int (i3 x1)), (2, .ref a2), (3, .ref a3), (4, .ref a4), (5, .int (i3 x5)), (6, .int (i3 x6)), (7, .int (i3 x7))] [] n h := by
  refine ok_iload (pc := 75) hc dL_equations_75 7 rfl ?_
  obtain ⟨r1, P⟩ := P
  refine zk_if_lt (pc := 77) (tgt := 127) hc dL_equations_77 (by decide) r1 (fun c => ?_) (fun c => ?_)
  · have P := P.1 c
    exact P
  · have P := P.2 c
    refine ok_iload (pc := 80) hc dL_equations_80 7 rfl ?_
    refine ok_aload_n (pc := 82) hc dL_equations_82 rfl 3 rfl ?_
    obtain ⟨r0, P⟩ := P
    refine ok_callS (pc := 83) (cb := 0) (sb := 0) (st := []) hc [.int (i3 x7), .ref a3] cs_L_8 sp_L_kind (by decide) dL_equations_83 rfl rfl rfl rfl (Nat.le_of_ble_eq_true rfl) (⟨_, _, _, _, rfl, ⟨e2.1, e2.2⟩, r0, rfl, ?_⟩)
    show Ok X 0 0 (83 + 3) [(0, .int (i3 x0)), (1, .int (i3 x1)), (2, .ref a2), (3, .ref a3), (4, .ref a4), (5, .int (i3 x5)), (6, .int (i3 x6)), (7, .int (i3 x7))] [.int (i3 (f2 (4 * x7 : Int).toNat))] n h
    refine ok_iconst (pc := 86) hc (v := i3 1) dL_equations_86 (by decide) ?_
    obtain ⟨r3, P⟩ := P
    refine zk_icmp_ne (pc := 87) (tgt := 127) hc dL_equations_87 (by decide) r3 ⟨by decide, by decide⟩ (fun c => ?_) (fun c => ?_)
    · have P := P.1 c
      exact P
    · have P := P.2 c
      exact P

set_option maxHeartbeats 4000000 in
set_option maxRecDepth 100000 in
theorem sL_equations_90 {X : Xt} {n : Nat} {h : HP} {x0 : Int} {x1 : Int} {a2 : Nat} {a3 : Nat} {a4 : Nat} {x5 : Int} {x6 : Int} {x7 : Int} {f1 : Nat → Int} {f3 : Nat → Int} (hc : Cx X cL_equations RL 10 3 66) {K : KT} (hr : CxR X none K) (e1 : At h n a4 (al 56 f1)) (e3 : At h n a3 (ai 48 f3))
    (P : (Ix (x6 + x5) 56) ∧ (R3 x1) ∧ (0 ≤ x1 → (Ix (x6 + 7) 56) ∧ Ok X 0 0 25 [(0, .int (i3 x0)), (1, .int (i3 x1)), (2, .ref a2), (3, .ref a3), (4, .ref a4), (5, .int (i3 (x5 + 1)))] [] n (va_up (va_up h a4 (al 56 (va_up f1 ((x6 + x5) : Int).toNat 1))) a4 (al 56 (va_up (va_up f1 ((x6 + x5) : Int).toNat 1) ((x6 + 7) : Int).toNat 0)))) ∧ (¬ 0 ≤ x1 → (Ix ((4 * x7) + 3) 48) ∧ (R3 (f3 (((4 * x7) + 3) : Int).toNat)) ∧ (Ix (x6 + 7) 56) ∧ Ok X 0 0 25 [(0, .int (i3 x0)), (1, .int (i3 x1)), (2, .ref a2), (3, .ref a3), (4, .ref a4), (5, .int (i3 (x5 + 1)))] [] n (va_up (va_up h a4 (al 56 (va_up f1 ((x6 + x5) : Int).toNat 1))) a4 (al 56 (va_up (va_up f1 ((x6 + x5) : Int).toNat 1) ((x6 + 7) : Int).toNat (f3 (((4 * x7) + 3) : Int).toNat)))))) :
    Ok X 0 0 90 [(0, .int (i3 x0)), (1, .int (i3 x1)), (2, .ref a2), (3, .ref a3), (4, .ref a4), (5, .int (i3 x5)), (6, .int (i3 x6)), (7, .int (i3 x7))] [] n h := by
  refine ok_aload (pc := 90) hc dL_equations_90 4 rfl ?_
  refine ok_iload (pc := 92) hc dL_equations_92 6 rfl ?_
  refine ok_iload (pc := 94) hc dL_equations_94 5 rfl ?_
  refine zk_iadd (pc := 96) hc dL_equations_96 ?_
  refine ok_lconst (pc := 97) hc (v := i6 1) dL_equations_97 (by decide) ?_
  obtain ⟨r, P⟩ := P
  refine zk_last (pc := 98) hc dL_equations_98 e1.1 e1.2 r ?_
  refine ok_aload (pc := 99) hc dL_equations_99 4 rfl ?_
  refine ok_iload (pc := 101) hc dL_equations_101 6 rfl ?_
  refine ok_bipush (pc := 103) hc (v := i3 7) dL_equations_103 (by decide) ?_
  refine zk_iadd (pc := 105) hc dL_equations_105 ?_
  refine ok_iload_n (pc := 106) hc dL_equations_106 rfl 1 rfl ?_
  obtain ⟨r2, P⟩ := P
  refine zk_if_ge (pc := 107) (tgt := 122) hc dL_equations_107 (by decide) r2 (fun c => ?_) (fun c => ?_)
  · have P := P.1 c
    refine ok_lconst (pc := 122) hc (v := i6 0) dL_equations_122 (by decide) ?_
    obtain ⟨r, P⟩ := P
    refine zk_last (pc := 123) hc dL_equations_123 e1.1 up_self r ?_
    refine ok_goto (pc := 124) (tgt := 365) hc dL_equations_124 (by decide) ?_
    refine zk_iinc (pc := 365) hc (q := 5) (x := x5) (lv' := [(5, .int (i3 (x5 + 1))), (0, .int (i3 x0)), (1, .int (i3 x1)), (2, .ref a2), (3, .ref a3), (4, .ref a4), (6, .int (i3 x6)), (7, .int (i3 x7))]) dL_equations_365 rfl (by decide) rfl ?_
    refine ok_goto (pc := 368) (tgt := 25) hc dL_equations_368 (by decide) ?_
    refine ok_lv [1, 2, 3, 4, 5, 0] rfl ?_
    exact P
  · have P := P.2 c
    refine ok_aload_n (pc := 110) hc dL_equations_110 rfl 3 rfl ?_
    refine ok_iconst (pc := 111) hc (v := i3 4) dL_equations_111 (by decide) ?_
    refine ok_iload (pc := 112) hc dL_equations_112 7 rfl ?_
    refine zk_imul (pc := 114) hc dL_equations_114 ?_
    refine ok_iconst (pc := 115) hc (v := i3 3) dL_equations_115 (by decide) ?_
    refine zk_iadd (pc := 116) hc dL_equations_116 ?_
    obtain ⟨r, P⟩ := P
    refine zk_iald (pc := 117) hc dL_equations_117 e3.1 ((up_ne (ne_aa e3.2 e1.2 (by decide))).trans e3.2) r ?_
    obtain ⟨r4, P⟩ := P
    refine zk_i2l (pc := 118) hc dL_equations_118 r4 ?_
    refine ok_goto (pc := 119) (tgt := 123) hc dL_equations_119 (by decide) ?_
    obtain ⟨r, P⟩ := P
    refine zk_last (pc := 123) hc dL_equations_123 e1.1 up_self r ?_
    refine ok_goto (pc := 124) (tgt := 365) hc dL_equations_124 (by decide) ?_
    refine zk_iinc (pc := 365) hc (q := 5) (x := x5) (lv' := [(5, .int (i3 (x5 + 1))), (0, .int (i3 x0)), (1, .int (i3 x1)), (2, .ref a2), (3, .ref a3), (4, .ref a4), (6, .int (i3 x6)), (7, .int (i3 x7))]) dL_equations_365 rfl (by decide) rfl ?_
    refine ok_goto (pc := 368) (tgt := 25) hc dL_equations_368 (by decide) ?_
    refine ok_lv [1, 2, 3, 4, 5, 0] rfl ?_
    exact P

set_option maxHeartbeats 4000000 in
set_option maxRecDepth 100000 in
theorem sL_equations_127 {X : Xt} {n : Nat} {h : HP} {x0 : Int} {x1 : Int} {a2 : Nat} {a3 : Nat} {a4 : Nat} {x5 : Int} {x6 : Int} {x7 : Int} (hc : Cx X cL_equations RL 10 3 66) {K : KT} (hr : CxR X none K) 
    (P : (R3 x7) ∧ (x7 < 0 → Ok X 0 0 254 [(0, .int (i3 x0)), (1, .int (i3 x1)), (2, .ref a2), (3, .ref a3), (4, .ref a4), (5, .int (i3 x5)), (6, .int (i3 x6)), (7, .int (i3 x7))] [] n h) ∧ (¬ x7 < 0 → Ok X 0 0 132 [(0, .int (i3 x0)), (1, .int (i3 x1)), (2, .ref a2), (3, .ref a3), (4, .ref a4), (5, .int (i3 x5)), (6, .int (i3 x6)), (7, .int (i3 x7))] [] n h)) :
    Ok X 0 0 127 [(0, .int (i3 x0)), (1, .int (i3 x1)), (2, .ref a2), (3, .ref a3), (4, .ref a4), (5, .int (i3 x5)), (6, .int (i3 x6)), (7, .int (i3 x7))] [] n h := by
  refine ok_iload (pc := 127) hc dL_equations_127 7 rfl ?_
  obtain ⟨r1, P⟩ := P
  refine zk_if_lt (pc := 129) (tgt := 254) hc dL_equations_129 (by decide) r1 (fun c => ?_) (fun c => ?_)
  · have P := P.1 c
    exact P
  · have P := P.2 c
    exact P

set_option maxHeartbeats 4000000 in
set_option maxRecDepth 100000 in
theorem sL_equations_132 {X : Xt} {n : Nat} {h : HP} {x0 : Int} {x1 : Int} {a2 : Nat} {a3 : Nat} {a4 : Nat} {x5 : Int} {x6 : Int} {x7 : Int} {f1 : Nat → Int} {ps2 : List Part} (hc : Cx X cL_equations RL 10 3 66) {K : KT} (hr : CxR X none K) (e1 : At h n a3 (ai 48 f1)) (hP2 : PaF f1 ps2)
    (P : (0 ≤ x7 ∧ x7 ≤ ps2.length) ∧ (R3 (nA (ps2.take (x7 : Int).toNat) : Int)) ∧ (R3 x1) ∧ ((nA (ps2.take (x7 : Int).toNat) : Int) = x1 → Ok X 0 0 194 [(0, .int (i3 x0)), (1, .int (i3 x1)), (2, .ref a2), (3, .ref a3), (4, .ref a4), (5, .int (i3 x5)), (6, .int (i3 x6)), (7, .int (i3 x7)), (8, .int (i3 (nA (ps2.take (x7 : Int).toNat) : Int)))] [] n h) ∧ (¬ (nA (ps2.take (x7 : Int).toNat) : Int) = x1 → ((0 ≤ x0 ∧ x0 ≤ 2147483647) ∧ 0 ≤ (nA (ps2.take (x7 : Int).toNat) : Int) ∧ (nA (ps2.take (x7 : Int).toNat) : Int) < 4) ∧ (R3 (x0 / 3 ^ ((nA (ps2.take (x7 : Int).toNat) : Int) : Int).toNat % 3)) ∧ (¬ (x0 / 3 ^ ((nA (ps2.take (x7 : Int).toNat) : Int) : Int).toNat % 3) = 0 → Ok X 0 0 194 [(0, .int (i3 x0)), (1, .int (i3 x1)), (2, .ref a2), (3, .ref a3), (4, .ref a4), (5, .int (i3 x5)), (6, .int (i3 x6)), (7, .int (i3 x7)), (8, .int (i3 (nA (ps2.take (x7 : Int).toNat) : Int)))] [] n h) ∧ ((x0 / 3 ^ ((nA (ps2.take (x7 : Int).toNat) : Int) : Int).toNat % 3) = 0 → Ok X 0 0 155 [(0, .int (i3 x0)), (1, .int (i3 x1)), (2, .ref a2), (3, .ref a3), (4, .ref a4), (5, .int (i3 x5)), (6, .int (i3 x6)), (7, .int (i3 x7)), (8, .int (i3 (nA (ps2.take (x7 : Int).toNat) : Int)))] [] n h))) :
    Ok X 0 0 132 [(0, .int (i3 x0)), (1, .int (i3 x1)), (2, .ref a2), (3, .ref a3), (4, .ref a4), (5, .int (i3 x5)), (6, .int (i3 x6)), (7, .int (i3 x7))] [] n h := by
  refine ok_iload (pc := 132) hc dL_equations_132 7 rfl ?_
  refine ok_aload_n (pc := 134) hc dL_equations_134 rfl 3 rfl ?_
  obtain ⟨r0, P⟩ := P
  refine ok_callS (pc := 135) (cb := 0) (sb := 0) (st := []) hc [.int (i3 x7), .ref a3] cs_L_18 sp_L_amplifiers (by decide) dL_equations_135 rfl rfl rfl rfl (Nat.le_of_ble_eq_true rfl) (⟨(x7 : Int).toNat, _, _, _, (by rw [Int.toNat_of_nonneg r0.1]), ⟨e1.1, e1.2⟩, hP2, (by omega), rfl, ?_⟩)
  show Ok X 0 0 (135 + 3) [(0, .int (i3 x0)), (1, .int (i3 x1)), (2, .ref a2), (3, .ref a3), (4, .ref a4), (5, .int (i3 x5)), (6, .int (i3 x6)), (7, .int (i3 x7))] [.int (i3 (nA (ps2.take (x7 : Int).toNat) : Int))] n h
  refine ok_istore (pc := 138) hc (lv' := [(8, .int (i3 (nA (ps2.take (x7 : Int).toNat) : Int))), (0, .int (i3 x0)), (1, .int (i3 x1)), (2, .ref a2), (3, .ref a3), (4, .ref a4), (5, .int (i3 x5)), (6, .int (i3 x6)), (7, .int (i3 x7))]) dL_equations_138 (by decide) rfl ?_
  refine ok_iload (pc := 140) hc dL_equations_140 0 rfl ?_
  refine ok_iload_n (pc := 142) hc dL_equations_142 rfl 2 rfl ?_
  obtain ⟨r3, P⟩ := P
  obtain ⟨r4, P⟩ := P
  refine zk_icmp_eq (pc := 143) (tgt := 194) hc dL_equations_143 (by decide) r3 r4 (fun c => ?_) (fun c => ?_)
  · have P := P.1 c
    refine ok_lv [1, 2, 3, 4, 5, 6, 7, 8, 0] rfl ?_
    exact P
  · have P := P.2 c
    refine ok_iload_n (pc := 146) hc dL_equations_146 rfl 1 rfl ?_
    refine ok_iload (pc := 147) hc dL_equations_147 0 rfl ?_
    obtain ⟨r0, P⟩ := P
    refine ok_callS (pc := 149) (cb := 0) (sb := 0) (st := []) hc [.int (i3 x0), .int (i3 (nA (ps2.take (x7 : Int).toNat) : Int))] cs_L_33 sp_L_state (by decide) dL_equations_149 rfl rfl rfl rfl (Nat.le_of_ble_eq_true rfl) (⟨_, _, rfl, r0, rfl, ?_⟩)
    show Ok X 0 0 (149 + 3) [(8, .int (i3 (nA (ps2.take (x7 : Int).toNat) : Int))), (0, .int (i3 x0)), (1, .int (i3 x1)), (2, .ref a2), (3, .ref a3), (4, .ref a4), (5, .int (i3 x5)), (6, .int (i3 x6)), (7, .int (i3 x7))] [.int (i3 (x0 / 3 ^ ((nA (ps2.take (x7 : Int).toNat) : Int) : Int).toNat % 3))] n h
    obtain ⟨r5, P⟩ := P
    refine zk_if_ne (pc := 152) (tgt := 194) hc dL_equations_152 (by decide) r5 (fun c => ?_) (fun c => ?_)
    · have P := P.1 c
      refine ok_lv [1, 2, 3, 4, 5, 6, 7, 8, 0] rfl ?_
      exact P
    · have P := P.2 c
      refine ok_lv [1, 2, 3, 4, 5, 6, 7, 8, 0] rfl ?_
      exact P

set_option maxHeartbeats 4000000 in
set_option maxRecDepth 100000 in
theorem sL_equations_155 {X : Xt} {n : Nat} {h : HP} {x0 : Int} {x1 : Int} {a2 : Nat} {a3 : Nat} {a4 : Nat} {x5 : Int} {x6 : Int} {x7 : Int} {x8 : Int} {f1 : Nat → Int} {f2 : Nat → Int} (hc : Cx X cL_equations RL 10 3 66) {K : KT} (hr : CxR X none K) (e1 : At h n a3 (ai 48 f1)) (e2 : At h n a4 (al 56 f2))
    (P : (Ix ((4 * x7) + 1) 48) ∧ (Ix (x6 + (f1 (((4 * x7) + 1) : Int).toNat)) 56) ∧ (Ix (x6 + (f1 (((4 * x7) + 1) : Int).toNat)) 56) ∧ (Ix ((4 * x7) + 2) 48) ∧ (Ix (x6 + (f1 (((4 * x7) + 2) : Int).toNat)) 56) ∧ (Ix (x6 + (f1 (((4 * x7) + 2) : Int).toNat)) 56) ∧ Ok X 0 0 25 [(0, .int (i3 x0)), (1, .int (i3 x1)), (2, .ref a2), (3, .ref a3), (4, .ref a4), (5, .int (i3 (x5 + 1)))] [] n (va_up (va_up h a4 (al 56 (va_up f2 ((x6 + (f1 (((4 * x7) + 1) : Int).toNat)) : Int).toNat ((f2 ((x6 + (f1 (((4 * x7) + 1) : Int).toNat)) : Int).toNat) + 1)))) a4 (al 56 (va_up (va_up f2 ((x6 + (f1 (((4 * x7) + 1) : Int).toNat)) : Int).toNat ((f2 ((x6 + (f1 (((4 * x7) + 1) : Int).toNat)) : Int).toNat) + 1)) ((x6 + (f1 (((4 * x7) + 2) : Int).toNat)) : Int).toNat (((va_up f2 ((x6 + (f1 (((4 * x7) + 1) : Int).toNat)) : Int).toNat ((f2 ((x6 + (f1 (((4 * x7) + 1) : Int).toNat)) : Int).toNat) + 1)) ((x6 + (f1 (((4 * x7) + 2) : Int).toNat)) : Int).toNat) - 1))))) :
    Ok X 0 0 155 [(0, .int (i3 x0)), (1, .int (i3 x1)), (2, .ref a2), (3, .ref a3), (4, .ref a4), (5, .int (i3 x5)), (6, .int (i3 x6)), (7, .int (i3 x7)), (8, .int (i3 x8))] [] n h := by
  refine ok_aload (pc := 155) hc dL_equations_155 4 rfl ?_
  refine ok_iload (pc := 157) hc dL_equations_157 6 rfl ?_
  refine ok_aload_n (pc := 159) hc dL_equations_159 rfl 3 rfl ?_
  refine ok_iconst (pc := 160) hc (v := i3 4) dL_equations_160 (by decide) ?_
  refine ok_iload (pc := 161) hc dL_equations_161 7 rfl ?_
  refine zk_imul (pc := 163) hc dL_equations_163 ?_
  refine ok_iconst (pc := 164) hc (v := i3 1) dL_equations_164 (by decide) ?_
  refine zk_iadd (pc := 165) hc dL_equations_165 ?_
  obtain ⟨r, P⟩ := P
  refine zk_iald (pc := 166) hc dL_equations_166 e1.1 e1.2 r ?_
  refine zk_iadd (pc := 167) hc dL_equations_167 ?_
  refine ok_dup2_11 (pc := 168) hc dL_equations_168 rfl rfl ?_
  obtain ⟨r, P⟩ := P
  refine zk_lald (pc := 169) hc dL_equations_169 e2.1 e2.2 r ?_
  refine ok_lconst (pc := 170) hc (v := i6 1) dL_equations_170 (by decide) ?_
  refine zk_ladd (pc := 171) hc dL_equations_171 ?_
  obtain ⟨r, P⟩ := P
  refine zk_last (pc := 172) hc dL_equations_172 e2.1 e2.2 r ?_
  refine ok_aload (pc := 173) hc dL_equations_173 4 rfl ?_
  refine ok_iload (pc := 175) hc dL_equations_175 6 rfl ?_
  refine ok_aload_n (pc := 177) hc dL_equations_177 rfl 3 rfl ?_
  refine ok_iconst (pc := 178) hc (v := i3 4) dL_equations_178 (by decide) ?_
  refine ok_iload (pc := 179) hc dL_equations_179 7 rfl ?_
  refine zk_imul (pc := 181) hc dL_equations_181 ?_
  refine ok_iconst (pc := 182) hc (v := i3 2) dL_equations_182 (by decide) ?_
  refine zk_iadd (pc := 183) hc dL_equations_183 ?_
  obtain ⟨r, P⟩ := P
  refine zk_iald (pc := 184) hc dL_equations_184 e1.1 ((up_ne (ne_aa e1.2 e2.2 (by decide))).trans e1.2) r ?_
  refine zk_iadd (pc := 185) hc dL_equations_185 ?_
  refine ok_dup2_11 (pc := 186) hc dL_equations_186 rfl rfl ?_
  obtain ⟨r, P⟩ := P
  refine zk_lald (pc := 187) hc dL_equations_187 e2.1 up_self r ?_
  refine ok_lconst (pc := 188) hc (v := i6 1) dL_equations_188 (by decide) ?_
  refine zk_lsub (pc := 189) hc dL_equations_189 ?_
  obtain ⟨r, P⟩ := P
  refine zk_last (pc := 190) hc dL_equations_190 e2.1 up_self r ?_
  refine ok_goto (pc := 191) (tgt := 251) hc dL_equations_191 (by decide) ?_
  refine ok_goto (pc := 251) (tgt := 365) hc dL_equations_251 (by decide) ?_
  refine zk_iinc (pc := 365) hc (q := 5) (x := x5) (lv' := [(5, .int (i3 (x5 + 1))), (0, .int (i3 x0)), (1, .int (i3 x1)), (2, .ref a2), (3, .ref a3), (4, .ref a4), (6, .int (i3 x6)), (7, .int (i3 x7)), (8, .int (i3 x8))]) dL_equations_365 rfl (by decide) rfl ?_
  refine ok_goto (pc := 368) (tgt := 25) hc dL_equations_368 (by decide) ?_
  refine ok_lv [1, 2, 3, 4, 5, 0] rfl ?_
  exact P

set_option maxHeartbeats 4000000 in
set_option maxRecDepth 100000 in
theorem sL_equations_194 {X : Xt} {n : Nat} {h : HP} {x0 : Int} {x1 : Int} {a2 : Nat} {a3 : Nat} {a4 : Nat} {x5 : Int} {x6 : Int} {x7 : Int} {x8 : Int} {f1 : Nat → Int} {f6 : Nat → Int} (hc : Cx X cL_equations RL 10 3 66) {K : KT} (hr : CxR X none K) (e1 : At h n a4 (al 56 f1)) (e6 : At h n a2 (ai 4 f6))
    (P : (Ix (x6 + x5) 56) ∧ (R3 x8) ∧ (R3 x1) ∧ (¬ x8 = x1 → (R3 x1) ∧ (x1 < 0 → ((0 ≤ x0 ∧ x0 ≤ 2147483647) ∧ 0 ≤ x8 ∧ x8 < 4) ∧ (R3 (x0 / 3 ^ (x8 : Int).toNat % 3)) ∧ (¬ (x0 / 3 ^ (x8 : Int).toNat % 3) = 1 → (Ix 1 4) ∧ (R3 (-(f6 (1 : Int).toNat))) ∧ (Ix (x6 + 7) 56) ∧ Ok X 0 0 25 [(0, .int (i3 x0)), (1, .int (i3 x1)), (2, .ref a2), (3, .ref a3), (4, .ref a4), (5, .int (i3 (x5 + 1)))] [] n (va_up (va_up h a4 (al 56 (va_up f1 ((x6 + x5) : Int).toNat 1))) a4 (al 56 (va_up (va_up f1 ((x6 + x5) : Int).toNat 1) ((x6 + 7) : Int).toNat (-(f6 (1 : Int).toNat)))))) ∧ ((x0 / 3 ^ (x8 : Int).toNat % 3) = 1 → (Ix 1 4) ∧ (R3 (f6 (1 : Int).toNat)) ∧ (Ix (x6 + 7) 56) ∧ Ok X 0 0 25 [(0, .int (i3 x0)), (1, .int (i3 x1)), (2, .ref a2), (3, .ref a3), (4, .ref a4), (5, .int (i3 (x5 + 1)))] [] n (va_up (va_up h a4 (al 56 (va_up f1 ((x6 + x5) : Int).toNat 1))) a4 (al 56 (va_up (va_up f1 ((x6 + x5) : Int).toNat 1) ((x6 + 7) : Int).toNat (f6 (1 : Int).toNat)))))) ∧ (¬ x1 < 0 → (Ix (x6 + 7) 56) ∧ Ok X 0 0 25 [(0, .int (i3 x0)), (1, .int (i3 x1)), (2, .ref a2), (3, .ref a3), (4, .ref a4), (5, .int (i3 (x5 + 1)))] [] n (va_up (va_up h a4 (al 56 (va_up f1 ((x6 + x5) : Int).toNat 1))) a4 (al 56 (va_up (va_up f1 ((x6 + x5) : Int).toNat 1) ((x6 + 7) : Int).toNat 0))))) ∧ (x8 = x1 → (Ix (x6 + 7) 56) ∧ Ok X 0 0 25 [(0, .int (i3 x0)), (1, .int (i3 x1)), (2, .ref a2), (3, .ref a3), (4, .ref a4), (5, .int (i3 (x5 + 1)))] [] n (va_up (va_up h a4 (al 56 (va_up f1 ((x6 + x5) : Int).toNat 1))) a4 (al 56 (va_up (va_up f1 ((x6 + x5) : Int).toNat 1) ((x6 + 7) : Int).toNat 1))))) :
    Ok X 0 0 194 [(0, .int (i3 x0)), (1, .int (i3 x1)), (2, .ref a2), (3, .ref a3), (4, .ref a4), (5, .int (i3 x5)), (6, .int (i3 x6)), (7, .int (i3 x7)), (8, .int (i3 x8))] [] n h := by
  refine ok_aload (pc := 194) hc dL_equations_194 4 rfl ?_
  refine ok_iload (pc := 196) hc dL_equations_196 6 rfl ?_
  refine ok_iload (pc := 198) hc dL_equations_198 5 rfl ?_
  refine zk_iadd (pc := 200) hc dL_equations_200 ?_
  refine ok_lconst (pc := 201) hc (v := i6 1) dL_equations_201 (by decide) ?_
  obtain ⟨r, P⟩ := P
  refine zk_last (pc := 202) hc dL_equations_202 e1.1 e1.2 r ?_
  refine ok_aload (pc := 203) hc dL_equations_203 4 rfl ?_
  refine ok_iload (pc := 205) hc dL_equations_205 6 rfl ?_
  refine ok_bipush (pc := 207) hc (v := i3 7) dL_equations_207 (by decide) ?_
  refine zk_iadd (pc := 209) hc dL_equations_209 ?_
  refine ok_iload (pc := 210) hc dL_equations_210 8 rfl ?_
  refine ok_iload_n (pc := 212) hc dL_equations_212 rfl 1 rfl ?_
  obtain ⟨r2, P⟩ := P
  obtain ⟨r3, P⟩ := P
  refine zk_icmp_ne (pc := 213) (tgt := 220) hc dL_equations_213 (by decide) r2 r3 (fun c => ?_) (fun c => ?_)
  · have P := P.1 c
    refine ok_iload_n (pc := 220) hc dL_equations_220 rfl 1 rfl ?_
    obtain ⟨r4, P⟩ := P
    refine zk_if_lt (pc := 221) (tgt := 228) hc dL_equations_221 (by decide) r4 (fun c => ?_) (fun c => ?_)
    · have P := P.1 c
      refine ok_iload_n (pc := 228) hc dL_equations_228 rfl 0 rfl ?_
      refine ok_iload (pc := 229) hc dL_equations_229 8 rfl ?_
      obtain ⟨r0, P⟩ := P
      refine ok_callS (pc := 231) (cb := 0) (sb := 0) (st := [.int (i3 (x6 + 7)), .ref a4]) hc [.int (i3 x0), .int (i3 x8)] cs_L_33 sp_L_state (by decide) dL_equations_231 rfl rfl rfl rfl (Nat.le_of_ble_eq_true rfl) (⟨_, _, rfl, r0, rfl, ?_⟩)
      show Ok X 0 0 (231 + 3) [(0, .int (i3 x0)), (1, .int (i3 x1)), (2, .ref a2), (3, .ref a3), (4, .ref a4), (5, .int (i3 x5)), (6, .int (i3 x6)), (7, .int (i3 x7)), (8, .int (i3 x8))] [.int (i3 (x0 / 3 ^ (x8 : Int).toNat % 3)), .int (i3 (x6 + 7)), .ref a4] n (va_up h a4 (al 56 (va_up f1 ((x6 + x5) : Int).toNat 1)))
      refine ok_iconst (pc := 234) hc (v := i3 1) dL_equations_234 (by decide) ?_
      obtain ⟨r5, P⟩ := P
      refine zk_icmp_ne (pc := 235) (tgt := 245) hc dL_equations_235 (by decide) r5 ⟨by decide, by decide⟩ (fun c => ?_) (fun c => ?_)
      · have P := P.1 c
        refine ok_aload_n (pc := 245) hc dL_equations_245 rfl 2 rfl ?_
        refine ok_iconst (pc := 246) hc (v := i3 1) dL_equations_246 (by decide) ?_
        obtain ⟨r, P⟩ := P
        refine zk_iald (pc := 247) hc dL_equations_247 e6.1 ((up_ne (ne_aa e6.2 e1.2 (by decide))).trans e6.2) r ?_
        refine zk_ineg (pc := 248) hc dL_equations_248 ?_
        obtain ⟨r7, P⟩ := P
        refine zk_i2l (pc := 249) hc dL_equations_249 r7 ?_
        obtain ⟨r, P⟩ := P
        refine zk_last (pc := 250) hc dL_equations_250 e1.1 up_self r ?_
        refine ok_goto (pc := 251) (tgt := 365) hc dL_equations_251 (by decide) ?_
        refine zk_iinc (pc := 365) hc (q := 5) (x := x5) (lv' := [(5, .int (i3 (x5 + 1))), (0, .int (i3 x0)), (1, .int (i3 x1)), (2, .ref a2), (3, .ref a3), (4, .ref a4), (6, .int (i3 x6)), (7, .int (i3 x7)), (8, .int (i3 x8))]) dL_equations_365 rfl (by decide) rfl ?_
        refine ok_goto (pc := 368) (tgt := 25) hc dL_equations_368 (by decide) ?_
        refine ok_lv [1, 2, 3, 4, 5, 0] rfl ?_
        exact P
      · have P := P.2 c
        refine ok_aload_n (pc := 238) hc dL_equations_238 rfl 2 rfl ?_
        refine ok_iconst (pc := 239) hc (v := i3 1) dL_equations_239 (by decide) ?_
        obtain ⟨r, P⟩ := P
        refine zk_iald (pc := 240) hc dL_equations_240 e6.1 ((up_ne (ne_aa e6.2 e1.2 (by decide))).trans e6.2) r ?_
        obtain ⟨r8, P⟩ := P
        refine zk_i2l (pc := 241) hc dL_equations_241 r8 ?_
        refine ok_goto (pc := 242) (tgt := 250) hc dL_equations_242 (by decide) ?_
        obtain ⟨r, P⟩ := P
        refine zk_last (pc := 250) hc dL_equations_250 e1.1 up_self r ?_
        refine ok_goto (pc := 251) (tgt := 365) hc dL_equations_251 (by decide) ?_
        refine zk_iinc (pc := 365) hc (q := 5) (x := x5) (lv' := [(5, .int (i3 (x5 + 1))), (0, .int (i3 x0)), (1, .int (i3 x1)), (2, .ref a2), (3, .ref a3), (4, .ref a4), (6, .int (i3 x6)), (7, .int (i3 x7)), (8, .int (i3 x8))]) dL_equations_365 rfl (by decide) rfl ?_
        refine ok_goto (pc := 368) (tgt := 25) hc dL_equations_368 (by decide) ?_
        refine ok_lv [1, 2, 3, 4, 5, 0] rfl ?_
        exact P
    · have P := P.2 c
      refine ok_lconst (pc := 224) hc (v := i6 0) dL_equations_224 (by decide) ?_
      refine ok_goto (pc := 225) (tgt := 250) hc dL_equations_225 (by decide) ?_
      obtain ⟨r, P⟩ := P
      refine zk_last (pc := 250) hc dL_equations_250 e1.1 up_self r ?_
      refine ok_goto (pc := 251) (tgt := 365) hc dL_equations_251 (by decide) ?_
      refine zk_iinc (pc := 365) hc (q := 5) (x := x5) (lv' := [(5, .int (i3 (x5 + 1))), (0, .int (i3 x0)), (1, .int (i3 x1)), (2, .ref a2), (3, .ref a3), (4, .ref a4), (6, .int (i3 x6)), (7, .int (i3 x7)), (8, .int (i3 x8))]) dL_equations_365 rfl (by decide) rfl ?_
      refine ok_goto (pc := 368) (tgt := 25) hc dL_equations_368 (by decide) ?_
      refine ok_lv [1, 2, 3, 4, 5, 0] rfl ?_
      exact P
  · have P := P.2 c
    refine ok_lconst (pc := 216) hc (v := i6 1) dL_equations_216 (by decide) ?_
    refine ok_goto (pc := 217) (tgt := 250) hc dL_equations_217 (by decide) ?_
    obtain ⟨r, P⟩ := P
    refine zk_last (pc := 250) hc dL_equations_250 e1.1 up_self r ?_
    refine ok_goto (pc := 251) (tgt := 365) hc dL_equations_251 (by decide) ?_
    refine zk_iinc (pc := 365) hc (q := 5) (x := x5) (lv' := [(5, .int (i3 (x5 + 1))), (0, .int (i3 x0)), (1, .int (i3 x1)), (2, .ref a2), (3, .ref a3), (4, .ref a4), (6, .int (i3 x6)), (7, .int (i3 x7)), (8, .int (i3 x8))]) dL_equations_365 rfl (by decide) rfl ?_
    refine ok_goto (pc := 368) (tgt := 25) hc dL_equations_368 (by decide) ?_
    refine ok_lv [1, 2, 3, 4, 5, 0] rfl ?_
    exact P

set_option maxHeartbeats 4000000 in
set_option maxRecDepth 100000 in
theorem sL_equations_254 {X : Xt} {n : Nat} {h : HP} {x0 : Int} {x1 : Int} {a2 : Nat} {a3 : Nat} {a4 : Nat} {x5 : Int} {x6 : Int} {x7 : Int} (hc : Cx X cL_equations RL 10 3 66) {K : KT} (hr : CxR X none K) 
    (P : Ok X 0 0 257 [(0, .int (i3 x0)), (1, .int (i3 x1)), (2, .ref a2), (3, .ref a3), (4, .ref a4), (5, .int (i3 x5)), (6, .int (i3 x6)), (7, .int (i3 x7)), (8, .int (i3 0))] [] n h) :
    Ok X 0 0 254 [(0, .int (i3 x0)), (1, .int (i3 x1)), (2, .ref a2), (3, .ref a3), (4, .ref a4), (5, .int (i3 x5)), (6, .int (i3 x6)), (7, .int (i3 x7))] [] n h := by
  refine ok_iconst (pc := 254) hc (v := i3 0) dL_equations_254 (by decide) ?_
  refine ok_istore (pc := 255) hc (lv' := [(8, .int (i3 0)), (0, .int (i3 x0)), (1, .int (i3 x1)), (2, .ref a2), (3, .ref a3), (4, .ref a4), (5, .int (i3 x5)), (6, .int (i3 x6)), (7, .int (i3 x7))]) dL_equations_255 (by decide) rfl ?_
  refine ok_lv [1, 2, 3, 4, 5, 6, 7, 8, 0] rfl ?_
  exact P

set_option maxHeartbeats 4000000 in
set_option maxRecDepth 100000 in
theorem sL_equations_257 {X : Xt} {n : Nat} {h : HP} {x0 : Int} {x1 : Int} {a2 : Nat} {a3 : Nat} {a4 : Nat} {x5 : Int} {x6 : Int} {x7 : Int} {x8 : Int} {f1 : Nat → Int} {f4 : Nat → Int} {ps6 : List Part} {f9 : Nat → Int} (hc : Cx X cL_equations RL 10 3 66) {K : KT} (hr : CxR X none K) (e1 : At h n a2 (ai 4 f1)) (e4 : At h n a3 (ai 48 f4)) (hP6 : PaF f4 ps6) (e9 : At h n a4 (al 56 f9))
    (P : (Ix 0 4) ∧ (R3 x8) ∧ (R3 (f1 (0 : Int).toNat)) ∧ ((f1 (0 : Int).toNat) ≤ x8 → Ok X 0 0 25 [(0, .int (i3 x0)), (1, .int (i3 x1)), (2, .ref a2), (3, .ref a3), (4, .ref a4), (5, .int (i3 (x5 + 1)))] [] n h) ∧ (¬ (f1 (0 : Int).toNat) ≤ x8 → (Ix (4 * x8) 48) ∧ (R3 (f4 (4 * x8 : Int).toNat)) ∧ (¬ (f4 (4 * x8 : Int).toNat) = 0 → Ok X 0 0 257 [(0, .int (i3 x0)), (1, .int (i3 x1)), (2, .ref a2), (3, .ref a3), (4, .ref a4), (5, .int (i3 x5)), (6, .int (i3 x6)), (7, .int (i3 x7)), (8, .int (i3 (x8 + 1)))] [] n h) ∧ ((f4 (4 * x8 : Int).toNat) = 0 → ((0 ≤ x8 ∧ x8 < ps6.length) ∧ R3 x5) ∧ ((atB (pAt ps6 x8) x5) = false → Ok X 0 0 257 [(0, .int (i3 x0)), (1, .int (i3 x1)), (2, .ref a2), (3, .ref a3), (4, .ref a4), (5, .int (i3 x5)), (6, .int (i3 x6)), (7, .int (i3 x7)), (8, .int (i3 (x8 + 1)))] [] n h) ∧ ((atB (pAt ps6 x8) x5) = true → (Ix ((4 * x8) + 1) 48) ∧ (R3 (f4 (((4 * x8) + 1) : Int).toNat)) ∧ (R3 x5) ∧ (¬ (f4 (((4 * x8) + 1) : Int).toNat) = x5 → (Ix ((4 * x8) + 1) 48) ∧ (Ix (x6 + x5) 56) ∧ (Ix ((4 * x8) + 3) 48) ∧ (R3 (f4 (((4 * x8) + 3) : Int).toNat)) ∧ (Ix (x6 + x5) 56) ∧ (Ix (x6 + (f4 (((4 * x8) + 1) : Int).toNat)) 56) ∧ (Ix ((4 * x8) + 3) 48) ∧ (R3 (f4 (((4 * x8) + 3) : Int).toNat)) ∧ (Ix (x6 + (f4 (((4 * x8) + 1) : Int).toNat)) 56) ∧ Ok X 0 0 257 [(0, .int (i3 x0)), (1, .int (i3 x1)), (2, .ref a2), (3, .ref a3), (4, .ref a4), (5, .int (i3 x5)), (6, .int (i3 x6)), (7, .int (i3 x7)), (8, .int (i3 (x8 + 1)))] [] n (va_up (va_up h a4 (al 56 (va_up f9 ((x6 + x5) : Int).toNat ((f9 ((x6 + x5) : Int).toNat) + (f4 (((4 * x8) + 3) : Int).toNat))))) a4 (al 56 (va_up (va_up f9 ((x6 + x5) : Int).toNat ((f9 ((x6 + x5) : Int).toNat) + (f4 (((4 * x8) + 3) : Int).toNat))) ((x6 + (f4 (((4 * x8) + 1) : Int).toNat)) : Int).toNat (((va_up f9 ((x6 + x5) : Int).toNat ((f9 ((x6 + x5) : Int).toNat) + (f4 (((4 * x8) + 3) : Int).toNat))) ((x6 + (f4 (((4 * x8) + 1) : Int).toNat)) : Int).toNat) - (f4 (((4 * x8) + 3) : Int).toNat)))))) ∧ ((f4 (((4 * x8) + 1) : Int).toNat) = x5 → (Ix ((4 * x8) + 2) 48) ∧ (Ix (x6 + x5) 56) ∧ (Ix ((4 * x8) + 3) 48) ∧ (R3 (f4 (((4 * x8) + 3) : Int).toNat)) ∧ (Ix (x6 + x5) 56) ∧ (Ix (x6 + (f4 (((4 * x8) + 2) : Int).toNat)) 56) ∧ (Ix ((4 * x8) + 3) 48) ∧ (R3 (f4 (((4 * x8) + 3) : Int).toNat)) ∧ (Ix (x6 + (f4 (((4 * x8) + 2) : Int).toNat)) 56) ∧ Ok X 0 0 257 [(0, .int (i3 x0)), (1, .int (i3 x1)), (2, .ref a2), (3, .ref a3), (4, .ref a4), (5, .int (i3 x5)), (6, .int (i3 x6)), (7, .int (i3 x7)), (8, .int (i3 (x8 + 1)))] [] n (va_up (va_up h a4 (al 56 (va_up f9 ((x6 + x5) : Int).toNat ((f9 ((x6 + x5) : Int).toNat) + (f4 (((4 * x8) + 3) : Int).toNat))))) a4 (al 56 (va_up (va_up f9 ((x6 + x5) : Int).toNat ((f9 ((x6 + x5) : Int).toNat) + (f4 (((4 * x8) + 3) : Int).toNat))) ((x6 + (f4 (((4 * x8) + 2) : Int).toNat)) : Int).toNat (((va_up f9 ((x6 + x5) : Int).toNat ((f9 ((x6 + x5) : Int).toNat) + (f4 (((4 * x8) + 3) : Int).toNat))) ((x6 + (f4 (((4 * x8) + 2) : Int).toNat)) : Int).toNat) - (f4 (((4 * x8) + 3) : Int).toNat)))))))))) :
    Ok X 0 0 257 [(0, .int (i3 x0)), (1, .int (i3 x1)), (2, .ref a2), (3, .ref a3), (4, .ref a4), (5, .int (i3 x5)), (6, .int (i3 x6)), (7, .int (i3 x7)), (8, .int (i3 x8))] [] n h := by
  refine ok_iload (pc := 257) hc dL_equations_257 8 rfl ?_
  refine ok_aload_n (pc := 259) hc dL_equations_259 rfl 2 rfl ?_
  refine ok_iconst (pc := 260) hc (v := i3 0) dL_equations_260 (by decide) ?_
  obtain ⟨r, P⟩ := P
  refine zk_iald (pc := 261) hc dL_equations_261 e1.1 e1.2 r ?_
  obtain ⟨r2, P⟩ := P
  obtain ⟨r3, P⟩ := P
  refine zk_icmp_ge (pc := 262) (tgt := 365) hc dL_equations_262 (by decide) r2 r3 (fun c => ?_) (fun c => ?_)
  · have P := P.1 c
    refine zk_iinc (pc := 365) hc (q := 5) (x := x5) (lv' := [(5, .int (i3 (x5 + 1))), (0, .int (i3 x0)), (1, .int (i3 x1)), (2, .ref a2), (3, .ref a3), (4, .ref a4), (6, .int (i3 x6)), (7, .int (i3 x7)), (8, .int (i3 x8))]) dL_equations_365 rfl (by decide) rfl ?_
    refine ok_goto (pc := 368) (tgt := 25) hc dL_equations_368 (by decide) ?_
    refine ok_lv [1, 2, 3, 4, 5, 0] rfl ?_
    exact P
  · have P := P.2 c
    refine ok_iload (pc := 265) hc dL_equations_265 8 rfl ?_
    refine ok_aload_n (pc := 267) hc dL_equations_267 rfl 3 rfl ?_
    obtain ⟨r0, P⟩ := P
    refine ok_callS (pc := 268) (cb := 0) (sb := 0) (st := []) hc [.int (i3 x8), .ref a3] cs_L_8 sp_L_kind (by decide) dL_equations_268 rfl rfl rfl rfl (Nat.le_of_ble_eq_true rfl) (⟨_, _, _, _, rfl, ⟨e4.1, e4.2⟩, r0, rfl, ?_⟩)
    show Ok X 0 0 (268 + 3) [(0, .int (i3 x0)), (1, .int (i3 x1)), (2, .ref a2), (3, .ref a3), (4, .ref a4), (5, .int (i3 x5)), (6, .int (i3 x6)), (7, .int (i3 x7)), (8, .int (i3 x8))] [.int (i3 (f4 (4 * x8 : Int).toNat))] n h
    obtain ⟨r5, P⟩ := P
    refine zk_if_ne (pc := 271) (tgt := 359) hc dL_equations_271 (by decide) r5 (fun c => ?_) (fun c => ?_)
    · have P := P.1 c
      refine zk_iinc (pc := 359) hc (q := 8) (x := x8) (lv' := [(8, .int (i3 (x8 + 1))), (0, .int (i3 x0)), (1, .int (i3 x1)), (2, .ref a2), (3, .ref a3), (4, .ref a4), (5, .int (i3 x5)), (6, .int (i3 x6)), (7, .int (i3 x7))]) dL_equations_359 rfl (by decide) rfl ?_
      refine ok_goto (pc := 362) (tgt := 257) hc dL_equations_362 (by decide) ?_
      refine ok_lv [1, 2, 3, 4, 5, 6, 7, 8, 0] rfl ?_
      exact P
    · have P := P.2 c
      refine ok_iload (pc := 274) hc dL_equations_274 8 rfl ?_
      refine ok_iload (pc := 276) hc dL_equations_276 5 rfl ?_
      refine ok_aload_n (pc := 278) hc dL_equations_278 rfl 3 rfl ?_
      obtain ⟨r0, P⟩ := P
      refine ok_callS (pc := 279) (cb := 0) (sb := 0) (st := []) hc [.int (i3 x8), .int (i3 x5), .ref a3] cs_L_14 sp_L_isAt (by decide) dL_equations_279 rfl rfl rfl rfl (Nat.le_of_ble_eq_true rfl) (⟨_, _, _, (x8 : Int).toNat, pAt ps6 x8, _, (by rw [Int.toNat_of_nonneg r0.1.1]), ⟨e4.1, e4.2⟩, hP6, pAt_some r0.1, r0.2, rfl, ?_⟩)
      show Ok X 0 0 (279 + 3) [(0, .int (i3 x0)), (1, .int (i3 x1)), (2, .ref a2), (3, .ref a3), (4, .ref a4), (5, .int (i3 x5)), (6, .int (i3 x6)), (7, .int (i3 x7)), (8, .int (i3 x8))] [.int (i3 (bz (atB (pAt ps6 x8) x5)))] n h
      refine zk_if_eq (pc := 282) (tgt := 359) hc dL_equations_282 (by decide) R3_bz (fun c => ?_) (fun c => ?_)
      · have P := P.1 (bz_0.mp c)
        refine zk_iinc (pc := 359) hc (q := 8) (x := x8) (lv' := [(8, .int (i3 (x8 + 1))), (0, .int (i3 x0)), (1, .int (i3 x1)), (2, .ref a2), (3, .ref a3), (4, .ref a4), (5, .int (i3 x5)), (6, .int (i3 x6)), (7, .int (i3 x7))]) dL_equations_359 rfl (by decide) rfl ?_
        refine ok_goto (pc := 362) (tgt := 257) hc dL_equations_362 (by decide) ?_
        refine ok_lv [1, 2, 3, 4, 5, 6, 7, 8, 0] rfl ?_
        exact P
      · have P := P.2 (bz_1.mp c)
        refine ok_aload_n (pc := 285) hc dL_equations_285 rfl 3 rfl ?_
        refine ok_iconst (pc := 286) hc (v := i3 4) dL_equations_286 (by decide) ?_
        refine ok_iload (pc := 287) hc dL_equations_287 8 rfl ?_
        refine zk_imul (pc := 289) hc dL_equations_289 ?_
        refine ok_iconst (pc := 290) hc (v := i3 1) dL_equations_290 (by decide) ?_
        refine zk_iadd (pc := 291) hc dL_equations_291 ?_
        obtain ⟨r, P⟩ := P
        refine zk_iald (pc := 292) hc dL_equations_292 e4.1 e4.2 r ?_
        refine ok_iload (pc := 293) hc dL_equations_293 5 rfl ?_
        obtain ⟨r7, P⟩ := P
        obtain ⟨r8, P⟩ := P
        refine zk_icmp_ne (pc := 295) (tgt := 309) hc dL_equations_295 (by decide) r7 r8 (fun c => ?_) (fun c => ?_)
        · have P := P.1 c
          refine ok_aload_n (pc := 309) hc dL_equations_309 rfl 3 rfl ?_
          refine ok_iconst (pc := 310) hc (v := i3 4) dL_equations_310 (by decide) ?_
          refine ok_iload (pc := 311) hc dL_equations_311 8 rfl ?_
          refine zk_imul (pc := 313) hc dL_equations_313 ?_
          refine ok_iconst (pc := 314) hc (v := i3 1) dL_equations_314 (by decide) ?_
          refine zk_iadd (pc := 315) hc dL_equations_315 ?_
          obtain ⟨r, P⟩ := P
          refine zk_iald (pc := 316) hc dL_equations_316 e4.1 e4.2 r ?_
          refine ok_istore (pc := 317) hc (lv' := [(9, .int (i3 (f4 (((4 * x8) + 1) : Int).toNat))), (0, .int (i3 x0)), (1, .int (i3 x1)), (2, .ref a2), (3, .ref a3), (4, .ref a4), (5, .int (i3 x5)), (6, .int (i3 x6)), (7, .int (i3 x7)), (8, .int (i3 x8))]) dL_equations_317 (by decide) rfl ?_
          refine ok_aload (pc := 319) hc dL_equations_319 5 rfl ?_
          refine ok_iload (pc := 321) hc dL_equations_321 7 rfl ?_
          refine ok_iload (pc := 323) hc dL_equations_323 6 rfl ?_
          refine zk_iadd (pc := 325) hc dL_equations_325 ?_
          refine ok_dup2_11 (pc := 326) hc dL_equations_326 rfl rfl ?_
          obtain ⟨r, P⟩ := P
          refine zk_lald (pc := 327) hc dL_equations_327 e9.1 e9.2 r ?_
          refine ok_aload_n (pc := 328) hc dL_equations_328 rfl 4 rfl ?_
          refine ok_iconst (pc := 329) hc (v := i3 4) dL_equations_329 (by decide) ?_
          refine ok_iload (pc := 330) hc dL_equations_330 9 rfl ?_
          refine zk_imul (pc := 332) hc dL_equations_332 ?_
          refine ok_iconst (pc := 333) hc (v := i3 3) dL_equations_333 (by decide) ?_
          refine zk_iadd (pc := 334) hc dL_equations_334 ?_
          obtain ⟨r, P⟩ := P
          refine zk_iald (pc := 335) hc dL_equations_335 e4.1 e4.2 r ?_
          obtain ⟨r10, P⟩ := P
          refine zk_i2l (pc := 336) hc dL_equations_336 r10 ?_
          refine zk_ladd (pc := 337) hc dL_equations_337 ?_
          obtain ⟨r, P⟩ := P
          refine zk_last (pc := 338) hc dL_equations_338 e9.1 e9.2 r ?_
          refine ok_aload (pc := 339) hc dL_equations_339 5 rfl ?_
          refine ok_iload (pc := 341) hc dL_equations_341 7 rfl ?_
          refine ok_iload (pc := 343) hc dL_equations_343 0 rfl ?_
          refine zk_iadd (pc := 345) hc dL_equations_345 ?_
          refine ok_dup2_11 (pc := 346) hc dL_equations_346 rfl rfl ?_
          obtain ⟨r, P⟩ := P
          refine zk_lald (pc := 347) hc dL_equations_347 e9.1 up_self r ?_
          refine ok_aload_n (pc := 348) hc dL_equations_348 rfl 4 rfl ?_
          refine ok_iconst (pc := 349) hc (v := i3 4) dL_equations_349 (by decide) ?_
          refine ok_iload (pc := 350) hc dL_equations_350 9 rfl ?_
          refine zk_imul (pc := 352) hc dL_equations_352 ?_
          refine ok_iconst (pc := 353) hc (v := i3 3) dL_equations_353 (by decide) ?_
          refine zk_iadd (pc := 354) hc dL_equations_354 ?_
          obtain ⟨r, P⟩ := P
          refine zk_iald (pc := 355) hc dL_equations_355 e4.1 ((up_ne (ne_aa e4.2 e9.2 (by decide))).trans e4.2) r ?_
          obtain ⟨r11, P⟩ := P
          refine zk_i2l (pc := 356) hc dL_equations_356 r11 ?_
          refine zk_lsub (pc := 357) hc dL_equations_357 ?_
          obtain ⟨r, P⟩ := P
          refine zk_last (pc := 358) hc dL_equations_358 e9.1 up_self r ?_
          refine zk_iinc (pc := 359) hc (q := 9) (x := x8) (lv' := [(8, .int (i3 (x8 + 1))), (9, .int (i3 (f4 (((4 * x8) + 1) : Int).toNat))), (0, .int (i3 x0)), (1, .int (i3 x1)), (2, .ref a2), (3, .ref a3), (4, .ref a4), (5, .int (i3 x5)), (6, .int (i3 x6)), (7, .int (i3 x7))]) dL_equations_359 rfl (by decide) rfl ?_
          refine ok_goto (pc := 362) (tgt := 257) hc dL_equations_362 (by decide) ?_
          refine ok_lv [2, 3, 4, 5, 6, 7, 8, 9, 0] rfl ?_
          exact P
        · have P := P.2 c
          refine ok_aload_n (pc := 298) hc dL_equations_298 rfl 3 rfl ?_
          refine ok_iconst (pc := 299) hc (v := i3 4) dL_equations_299 (by decide) ?_
          refine ok_iload (pc := 300) hc dL_equations_300 8 rfl ?_
          refine zk_imul (pc := 302) hc dL_equations_302 ?_
          refine ok_iconst (pc := 303) hc (v := i3 2) dL_equations_303 (by decide) ?_
          refine zk_iadd (pc := 304) hc dL_equations_304 ?_
          obtain ⟨r, P⟩ := P
          refine zk_iald (pc := 305) hc dL_equations_305 e4.1 e4.2 r ?_
          refine ok_goto (pc := 306) (tgt := 317) hc dL_equations_306 (by decide) ?_
          refine ok_istore (pc := 317) hc (lv' := [(9, .int (i3 (f4 (((4 * x8) + 2) : Int).toNat))), (0, .int (i3 x0)), (1, .int (i3 x1)), (2, .ref a2), (3, .ref a3), (4, .ref a4), (5, .int (i3 x5)), (6, .int (i3 x6)), (7, .int (i3 x7)), (8, .int (i3 x8))]) dL_equations_317 (by decide) rfl ?_
          refine ok_aload (pc := 319) hc dL_equations_319 5 rfl ?_
          refine ok_iload (pc := 321) hc dL_equations_321 7 rfl ?_
          refine ok_iload (pc := 323) hc dL_equations_323 6 rfl ?_
          refine zk_iadd (pc := 325) hc dL_equations_325 ?_
          refine ok_dup2_11 (pc := 326) hc dL_equations_326 rfl rfl ?_
          obtain ⟨r, P⟩ := P
          refine zk_lald (pc := 327) hc dL_equations_327 e9.1 e9.2 r ?_
          refine ok_aload_n (pc := 328) hc dL_equations_328 rfl 4 rfl ?_
          refine ok_iconst (pc := 329) hc (v := i3 4) dL_equations_329 (by decide) ?_
          refine ok_iload (pc := 330) hc dL_equations_330 9 rfl ?_
          refine zk_imul (pc := 332) hc dL_equations_332 ?_
          refine ok_iconst (pc := 333) hc (v := i3 3) dL_equations_333 (by decide) ?_
          refine zk_iadd (pc := 334) hc dL_equations_334 ?_
          obtain ⟨r, P⟩ := P
          refine zk_iald (pc := 335) hc dL_equations_335 e4.1 e4.2 r ?_
          obtain ⟨r12, P⟩ := P
          refine zk_i2l (pc := 336) hc dL_equations_336 r12 ?_
          refine zk_ladd (pc := 337) hc dL_equations_337 ?_
          obtain ⟨r, P⟩ := P
          refine zk_last (pc := 338) hc dL_equations_338 e9.1 e9.2 r ?_
          refine ok_aload (pc := 339) hc dL_equations_339 5 rfl ?_
          refine ok_iload (pc := 341) hc dL_equations_341 7 rfl ?_
          refine ok_iload (pc := 343) hc dL_equations_343 0 rfl ?_
          refine zk_iadd (pc := 345) hc dL_equations_345 ?_
          refine ok_dup2_11 (pc := 346) hc dL_equations_346 rfl rfl ?_
          obtain ⟨r, P⟩ := P
          refine zk_lald (pc := 347) hc dL_equations_347 e9.1 up_self r ?_
          refine ok_aload_n (pc := 348) hc dL_equations_348 rfl 4 rfl ?_
          refine ok_iconst (pc := 349) hc (v := i3 4) dL_equations_349 (by decide) ?_
          refine ok_iload (pc := 350) hc dL_equations_350 9 rfl ?_
          refine zk_imul (pc := 352) hc dL_equations_352 ?_
          refine ok_iconst (pc := 353) hc (v := i3 3) dL_equations_353 (by decide) ?_
          refine zk_iadd (pc := 354) hc dL_equations_354 ?_
          obtain ⟨r, P⟩ := P
          refine zk_iald (pc := 355) hc dL_equations_355 e4.1 ((up_ne (ne_aa e4.2 e9.2 (by decide))).trans e4.2) r ?_
          obtain ⟨r13, P⟩ := P
          refine zk_i2l (pc := 356) hc dL_equations_356 r13 ?_
          refine zk_lsub (pc := 357) hc dL_equations_357 ?_
          obtain ⟨r, P⟩ := P
          refine zk_last (pc := 358) hc dL_equations_358 e9.1 up_self r ?_
          refine zk_iinc (pc := 359) hc (q := 9) (x := x8) (lv' := [(8, .int (i3 (x8 + 1))), (9, .int (i3 (f4 (((4 * x8) + 2) : Int).toNat))), (0, .int (i3 x0)), (1, .int (i3 x1)), (2, .ref a2), (3, .ref a3), (4, .ref a4), (5, .int (i3 x5)), (6, .int (i3 x6)), (7, .int (i3 x7))]) dL_equations_359 rfl (by decide) rfl ?_
          refine ok_goto (pc := 362) (tgt := 257) hc dL_equations_362 (by decide) ?_
          refine ok_lv [2, 3, 4, 5, 6, 7, 8, 9, 0] rfl ?_
          exact P

theorem EqI.s30 {ps : List Part} (hG : GdP ps) {m : Nat} {γ : Nat → Int} {r : Nat} {G : Nat → Int} (h : EqI ps m γ r G) (hr : r < 7) (hk : kcB ps r = false) (hn : ∀ (a i : Nat) (p : Part), AmpAt ps a i p → bcon (m : Nat) a = 0 → p.2.2.2 ≠ r) (hv : γ r = 0) : EqI ps m γ (r + 1) (va_up G (8 * r + r) 1) := by
  refine h.s (fun x hx => ?_) (fun j hj => ?_)
  · rw [up_ne (by omega)]
  · rw [rowL_3 hG hr hk hn hj, hv]
    by_cases c : j = 7
    · rw [if_pos c, c, up_ne (by omega)]
      exact h.2 _ (by omega) (by omega)
    · rw [if_neg c]
      by_cases d : j = r
      · rw [if_pos d, d, up_self]
      · rw [if_neg d, up_ne (by omega)]
        exact h.2 _ (by omega) (by omega)
theorem EqI.s2 {ps : List Part} (hG : GdP ps) {m : Nat} {γ : Nat → Int} {r : Nat} {G : Nat → Int} (h : EqI ps m γ r G) (hr : r < 7) {a i : Nat} {p : Part} (hA : AmpAt ps a i p) (hb : bcon (m : Nat) a = 0) (hp : p.2.2.2 = r) {u v : Nat} (hu : p.2.1 = u) (hv : p.2.2.1 = v) : EqI ps m γ (r + 1) (va_up (va_up G (8 * r + u) (G (8 * r + u) + 1)) (8 * r + v) (va_up G (8 * r + u) (G (8 * r + u) + 1) (8 * r + v) - 1)) := by
  have ht := told_amp (hG.2.2.1 p (List.mem_of_getElem? hA.1)) hA.2.1
  have hz : ∀ j, j < 8 → G (8 * r + j) = 0 := fun j hj => h.2 _ (by omega) (by omega)
  refine h.s (fun x hx => ?_) (fun j hj => ?_)
  · rw [up_ne (by omega), up_ne (by omega)]
  · rw [rowL_2 hG hr hA hb hp hj, show p.2.1.toNat = u by omega, show p.2.2.1.toNat = v by omega]
    by_cases c : j = v
    · rw [c, up_self, if_neg (by omega), if_pos rfl, up_ne (by omega), hz v (by omega)]
      rfl
    · rw [up_ne (by omega), if_neg c]
      by_cases e : j = u
      · rw [e, up_self, if_pos rfl, hz u (by omega)]
        rfl
      · rw [up_ne (by omega), if_neg e]
        exact hz j hj
def spec_L_equations (args : List Value) (n : Nat) (h : HP) (K : KT) : Prop := ∃ (d a e : Nat) (Fd F Fe : Nat → Int) (ps : List Part) (c t : Int) (m : Nat) (rail : Int) (γ : Nat → Int), args = [.int (i3 c), .int (i3 t), .ref d, .ref a, .ref e] ∧ At h n d (ai 4 Fd) ∧ At h n a (ai 48 F) ∧ At h n e (al 56 Fe) ∧ (Fd 0 = ps.length ∧ Fd 1 = rail ∧ (0 ≤ rail ∧ rail ≤ 200)) ∧ PaF F ps ∧ GdP ps ∧ ((0 ≤ c ∧ c ≤ 26) ∧ -1 ≤ t ∧ t ≤ 3) ∧ Mat7 ps c t m (valF ps (offT t) rail) γ ∧ ∀ G, EqI ps m γ 7 G → K (.inl none) n (va_up h e (al 56 G))
set_option maxHeartbeats 4000000 in
theorem sp_L_equations : Sp yL_equations cL_equations 10 none 3 66 0 0 spec_L_equations := by
  refine sp_intro (by decide) (by rintro args n h K ⟨d, a, e, Fd, F, Fe, ps, c, t, m, rail, γ, rfl, -⟩; exact Nat.le_of_ble_eq_true rfl) ?_
  rintro X args n h K hc hr ⟨d, a, e, Fd, F, Fe, ps, c, t, m, rail, γ, rfl, ed0, ea0, ee0, ⟨hd, hd1, hrl⟩, hP, hG, ⟨hcr, htr⟩, hM, kk⟩
  have hl := hP.1
  have rr := hP.2.2.2
  have hn3 := hG.2.1
  have nde : d ≠ e := ne_aa ed0.2 ee0.2 (by decide)
  have nae : a ≠ e := ne_aa ea0.2 ee0.2 (by decide)
  have ed : ∀ G, At (va_up h e (al 56 G)) n d (ai 4 Fd) := fun G => ed0.up nde
  have ea : ∀ G, At (va_up h e (al 56 G)) n a (ai 48 F) := fun G => ea0.up nae
  have ee : ∀ G, At (va_up h e (al 56 G)) n e (al 56 G) := fun G => ee0.it
  have L : ∀ (j r : Nat), r + j = 7 → ∀ G, EqI ps m γ r G → Ok X 0 0 25 [(0, .int (i3 c)), (1, .int (i3 t)), (2, .ref d), (3, .ref a), (4, .ref e), (5, .int (i3 r))] [] n (va_up h e (al 56 G)) := by
    intro j
    induction j with
    | zero =>
      intro r hi G hE
      have : r = 7 := by omega
      subst this
      exact sL_equations_25 hc hr (ea G) hP (ed G) hd ⟨R3_s (by omega), fun _ => kk G hE, fun z => absurd (by omega) z⟩
    | succ j ih =>
      intro r hi G hE
      have hr7 : r < 7 := by omega
      have rx : R3 (r : Int) := R3_s (by omega)
      have st : ∀ G1 G', EqI ps m γ (r + 1) G' → Ok X 0 0 25 [(0, .int (i3 c)), (1, .int (i3 t)), (2, .ref d), (3, .ref a), (4, .ref e), (5, .int (i3 ((r : Int) + 1)))] [] n (va_up (va_up h e (al 56 G1)) e (al 56 G')) := by
        intro G1 G' hE'
        rw [up_up]
        exact ih (r + 1) (by omega) G' hE'
      have st2 : ∀ G1 G2 G', EqI ps m γ (r + 1) G' → Ok X 0 0 25 [(0, .int (i3 c)), (1, .int (i3 t)), (2, .ref d), (3, .ref a), (4, .ref e), (5, .int (i3 ((r : Int) + 1)))] [] n (va_up (va_up (va_up h e (al 56 G1)) e (al 56 G2)) e (al 56 G')) := by
        intro G1 G2 G' hE'
        rw [up_up]
        exact st G1 G' hE'
      have ixr : Ix (8 * (r : Int) + r) 56 := ⟨by omega, by omega, by omega⟩
      have ix7 : Ix (8 * (r : Int) + 7) 56 := ⟨by omega, by omega, by omega⟩
      have er : (8 * (r : Int) + r : Int).toNat = 8 * r + r := by omega
      have e7 : (8 * (r : Int) + 7 : Int).toNat = 8 * r + 7 := by omega
      have hA63 : (r = 0 ∨ ps.any (fun p => atB p r) = false) → ∀ x7 : Int, Ok X 0 0 63 [(0, .int (i3 c)), (1, .int (i3 t)), (2, .ref d), (3, .ref a), (4, .ref e), (5, .int (i3 r)), (6, .int (i3 (8 * r))), (7, .int (i3 x7))] [] n (va_up h e (al 56 G)) := by
        intro hz x7
        obtain ⟨z1, z2, z3⟩ := nd_0 hG hM hr7 hz
        refine sL_equations_63 hc hr (ee G) ⟨ixr, ?_⟩
        rw [er]
        exact st _ _ (hE.s30 hG hr7 z1 z2 z3)
      refine sL_equations_25 hc hr (ea G) hP (ed G) hd ⟨rx, fun z => absurd z (by omega), fun _ => ⟨rx, rx, fun z => hA63 (Or.inl (by omega)) _, fun z0 => ⟨rx, fun zu => ?_, fun zu => hA63 (Or.inr zu) _⟩⟩⟩
      rcases drvI_r ps r with ⟨hb, hbn⟩ | ⟨b, p, hb, hp, hdv⟩
      · -- the currents balance
        have hkc := nd_3 (ps := ps) (r := r) (by omega) zu hbn
        rw [hb]
        refine sL_equations_75 hc hr (ea G) ⟨⟨by decide, by decide⟩, fun _ => ?_, fun z => absurd (by decide) z⟩
        refine sL_equations_127 hc hr ⟨⟨by decide, by decide⟩, fun _ => ?_, fun z => absurd (by decide) z⟩
        have I : ∀ (j i : Nat), i + j = ps.length → ∀ G', (∀ x, x < 8 * r ∨ 8 * r + 8 ≤ x → G' x = G x) → (∀ j, j < 8 → G' (8 * r + j) = if j < 7 then kclR (ps.take i) r j else 0) → Ok X 0 0 257 [(0, .int (i3 c)), (1, .int (i3 t)), (2, .ref d), (3, .ref a), (4, .ref e), (5, .int (i3 r)), (6, .int (i3 (8 * r))), (7, .int (i3 (-1))), (8, .int (i3 i))] [] n (va_up h e (al 56 G')) := by
          intro j
          induction j with
          | zero =>
            intro i hi G' g1 g2
            have : i = ps.length := by omega
            subst this
            have hd' : Fd (0 : Int).toNat = ps.length := hd
            refine sL_equations_257 hc hr (ed G') (ea G') hP (ee G') ⟨⟨by decide, by decide, by decide⟩, R3_s (by omega), R3_s (by omega), fun _ => ?_, fun z => absurd (by omega) z⟩
            refine ih (r + 1) (by omega) G' (hE.s g1 fun j hj => ?_)
            rw [rowL_1 hG hr7 hkc hj, g2 j hj, List.take_length]
          | succ j ih2 =>
            intro i hi G' g1 g2
            have hp : ps[i]? = some ps[i] := List.getElem?_eq_getElem (by omega)
            generalize ps[i] = p at hp
            obtain ⟨f0, f1, f2, f3, hi', hl', hw⟩ := hP.g hp
            have hd' : Fd (0 : Int).toNat = ps.length := hd
            have x0 : Ix (4 * (i : Int)) 48 := ⟨by omega, by omega, by omega⟩
            have x1 : Ix (4 * (i : Int) + 1) 48 := ⟨by omega, by omega, by omega⟩
            have x2 : Ix (4 * (i : Int) + 2) 48 := ⟨by omega, by omega, by omega⟩
            have x3 : Ix (4 * (i : Int) + 3) 48 := ⟨by omega, by omega, by omega⟩
            have skip : ¬ (p.1 = 0 ∧ atB p r = true) → Ok X 0 0 257 [(0, .int (i3 c)), (1, .int (i3 t)), (2, .ref d), (3, .ref a), (4, .ref e), (5, .int (i3 r)), (6, .int (i3 (8 * r))), (7, .int (i3 (-1))), (8, .int (i3 ((i : Int) + 1)))] [] n (va_up h e (al 56 G')) := by
              intro hz
              refine ih2 (i + 1) (by omega) G' g1 fun j hj => ?_
              rw [g2 j hj, kclR_s hp]
              unfold kclS
              rw [if_neg hz]
            refine sL_equations_257 hc hr (ed G') (ea G') hP (ee G') ⟨⟨by decide, by decide, by decide⟩, R3_s (by omega), R3_s (by omega), fun z => absurd z (by omega), fun _ => ⟨x0, rr _, fun z => skip fun y => ?_, fun z => ⟨⟨⟨by omega, by omega⟩, rx⟩, fun z2 => skip fun y => ?_, fun z2 => ⟨x1, rr _, rx, fun z3 => ?_, fun z3 => ?_⟩⟩⟩⟩
            · rw [f0] at z
              exact z y.1
            · rw [pAt_of hp, y.2] at z2
              cases z2
            · rw [f0] at z
              rw [pAt_of hp] at z2
              have hto := told_res (hG.2.2.1 p (List.mem_of_getElem? hp)) z
              have ho : othN p r = p.2.1 := by
                unfold othN
                rw [f1] at z3
                exact if_neg z3
              have ixo : Ix (8 * (r : Int) + p.2.1) 56 := ⟨by omega, by omega, by omega⟩
              have eo : (8 * (r : Int) + p.2.1 : Int).toNat = 8 * r + p.2.1.toNat := by omega
              rw [f1] at z3
              simp only [f1, f3]
              refine ⟨x1, ixr, x3, R3_s (by omega), ixr, ixo, x3, R3_s (by omega), ixo, ?_⟩
              rw [er, eo, up_up, up_up]
              refine ih2 (i + 1) (by omega) _ (fun x hx => ?_) fun j hj => ?_
              · rw [up_ne (by omega), up_ne (by omega)]
                exact g1 x hx
              · rw [kcl_u (by omega) hr7 (by omega) g2 j hj, kclR_s hp]
                unfold kclS
                rw [if_pos (show p.1 = 0 ∧ atB p r = true from ⟨z, z2⟩), ho]
            · rw [f0] at z
              rw [pAt_of hp] at z2
              have hto := told_res (hG.2.2.1 p (List.mem_of_getElem? hp)) z
              have f2' := f2 (by omega)
              have ho : othN p r = p.2.2.1 := by
                unfold othN
                rw [f1] at z3
                exact if_pos z3
              have ixo : Ix (8 * (r : Int) + p.2.2.1) 56 := ⟨by omega, by omega, by omega⟩
              have eo : (8 * (r : Int) + p.2.2.1 : Int).toNat = 8 * r + p.2.2.1.toNat := by omega
              rw [f1] at z3
              simp only [f2', f3]
              refine ⟨x2, ixr, x3, R3_s (by omega), ixr, ixo, x3, R3_s (by omega), ixo, ?_⟩
              rw [er, eo, up_up, up_up]
              refine ih2 (i + 1) (by omega) _ (fun x hx => ?_) fun j hj => ?_
              · rw [up_ne (by omega), up_ne (by omega)]
                exact g1 x hx
              · rw [kcl_u (by omega) hr7 (by omega) g2 j hj, kclR_s hp]
                unfold kclS
                rw [if_pos (show p.1 = 0 ∧ atB p r = true from ⟨z, z2⟩), ho]
        refine sL_equations_254 hc hr (I ps.length 0 (by omega) G (fun _ _ => rfl) fun j hj => ?_)
        rw [hE.2 _ (by omega) (by omega)]
        show (0 : Int) = if j < 7 then (0 : Int) else 0
        split <;> rfl
      · obtain ⟨f0, f1, f2, f3, hb', hl', hw⟩ := hP.g hp
        have hto := hG.2.2.1 p (List.mem_of_getElem? hp)
        have x0 : Ix (4 * (b : Int)) 48 := ⟨by omega, by omega, by omega⟩
        have x1 : Ix (4 * (b : Int) + 1) 48 := ⟨by omega, by omega, by omega⟩
        have x2 : Ix (4 * (b : Int) + 2) 48 := ⟨by omega, by omega, by omega⟩
        have x3 : Ix (4 * (b : Int) + 3) 48 := ⟨by omega, by omega, by omega⟩
        have rb : R3 (b : Int) := R3_s (by omega)
        rw [hb]
        refine sL_equations_75 hc hr (ea G) ⟨rb, fun z => absurd z (by omega), fun _ => ⟨x0, rr _, fun zk => ?_, fun zk => ?_⟩⟩
        · -- an amplifier
          rw [f0] at zk
          have h2 : p.1 = 2 := by
            by_cases c2 : p.1 = 2
            · exact c2
            · rw [dvB_0 hw zk c2] at hdv
              cases hdv
          have hpr := (dvB_2 h2).mp hdv
          have hA : AmpAt ps (nA (ps.take b)) b p := ⟨hp, h2, rfl⟩
          have hal := hA.lt.2
          have hta := told_amp hto h2
          have e194 : ¬ (c / 3 ^ nA (ps.take b) % 3 = 0 ∧ ((nA (ps.take b) : Nat) : Int) ≠ t) → Ok X 0 0 194 [(0, .int (i3 c)), (1, .int (i3 t)), (2, .ref d), (3, .ref a), (4, .ref e), (5, .int (i3 r)), (6, .int (i3 (8 * r))), (7, .int (i3 b)), (8, .int (i3 (nA (ps.take b) : Nat)))] [] n (va_up h e (al 56 G)) := by
            intro hz
            obtain ⟨z1, z2, z3⟩ := nd_2 hG htr.1 hM hA hpr hz
            have hd1' : Fd (1 : Int).toNat = rail := hd1
            have s3 : ∀ v : Int, γ r = v → Ok X 0 0 25 [(0, .int (i3 c)), (1, .int (i3 t)), (2, .ref d), (3, .ref a), (4, .ref e), (5, .int (i3 ((r : Int) + 1)))] [] n (va_up (va_up (va_up h e (al 56 G)) e (al 56 (va_up G (8 * (r : Int) + r : Int).toNat 1))) e (al 56 (va_up (va_up G (8 * (r : Int) + r : Int).toNat 1) (8 * (r : Int) + 7 : Int).toNat v))) := by
              intro v hv
              rw [er, e7]
              exact st2 _ _ _ (hE.s3 hG hr7 z1 z2 hv)
            refine sL_equations_194 hc hr (ee G) ((ed G)) ⟨ixr, R3_s (by omega), R3_s (by omega), fun c1 => ⟨R3_s (by omega), fun c2 => ⟨⟨⟨by omega, by omega⟩, by omega, by omega⟩, R3_s (by omega), fun c3 => ⟨⟨by decide, by decide, by decide⟩, R3_s (by omega), ix7, ?_⟩, fun c3 => ⟨⟨by decide, by decide, by decide⟩, R3_s (by omega), ix7, ?_⟩⟩, fun c2 => ⟨ix7, ?_⟩⟩, fun c1 => ⟨ix7, ?_⟩⟩
            · refine s3 _ ?_
              rw [Int.toNat_natCast] at c3
              rw [z3, if_neg c1, if_neg (by omega), if_neg c3, hd1']
            · refine s3 _ ?_
              rw [Int.toNat_natCast] at c3
              rw [z3, if_neg c1, if_neg (by omega), if_pos c3, hd1']
            · refine s3 _ ?_
              rw [z3, if_neg c1, if_pos (by omega)]
            · refine s3 _ ?_
              rw [z3, if_pos c1]
          have etk : (b : Int).toNat = b := by omega
          refine sL_equations_127 hc hr ⟨rb, fun z => absurd z (by omega), fun _ => ?_⟩
          refine sL_equations_132 hc hr (ea G) hP ?_
          rw [etk]
          refine ⟨⟨by omega, by omega⟩, R3_s (by omega), R3_s (by omega), fun c1 => e194 (fun z => z.2 c1), fun c1 => ⟨⟨⟨by omega, by omega⟩, by omega, by omega⟩, R3_s (by omega), fun c2 => e194 (fun z => c2 z.1), fun c2 => ?_⟩⟩
          have hbc := (hM.1 _ hal).mpr ⟨c2, c1⟩
          have f2' := f2 (by omega)
          obtain ⟨u, hu⟩ : ∃ u : Nat, p.2.1 = u := ⟨p.2.1.toNat, by omega⟩
          obtain ⟨v, hv⟩ : ∃ v : Nat, p.2.2.1 = v := ⟨p.2.2.1.toNat, by omega⟩
          refine sL_equations_155 hc hr (ea G) (ee G) ?_
          simp only [f1, f2', hu, hv]
          have eu : (8 * (r : Int) + u : Int).toNat = 8 * r + u := by omega
          have ev : (8 * (r : Int) + v : Int).toNat = 8 * r + v := by omega
          have ixu : Ix (8 * (r : Int) + u) 56 := ⟨by omega, by omega, by omega⟩
          have ixv : Ix (8 * (r : Int) + v) 56 := ⟨by omega, by omega, by omega⟩
          refine ⟨x1, ixu, ixu, x2, ixv, ixv, ?_⟩
          rw [eu, ev]
          exact st2 _ _ _ (hE.s2 hG hr7 hA hbc hpr hu hv)
        · -- a source
          rw [f0] at zk
          have hpr := (dvB_1 zk).mp hdv
          obtain ⟨z1, z2, z3⟩ := nd_1 hG htr.1 hM hr7 hp zk hpr
          refine sL_equations_90 hc hr (ee G) (ea G) ⟨ixr, R3_s (by omega), fun c1 => ⟨ix7, ?_⟩, fun c1 => ⟨x3, rr _, ix7, ?_⟩⟩
          · rw [er, e7]
            exact st2 _ _ _ (hE.s3 hG hr7 z1 z2 (by rw [z3, if_neg (by omega)]))
          · rw [er, e7, f3]
            exact st2 _ _ _ (hE.s3 hG hr7 z1 z2 (by rw [z3, if_pos (by omega)]))
  have Z : ∀ (j x : Nat), x + j = 56 → ∀ G, (∀ y, y < x → G y = 0) → Ok X 0 0 3 [(0, .int (i3 c)), (1, .int (i3 t)), (2, .ref d), (3, .ref a), (4, .ref e), (5, .int (i3 x))] [] n (va_up h e (al 56 G)) := by
    intro j
    induction j with
    | zero =>
      intro x hi G hz
      exact sL_equations_3 hc hr (ee G) ⟨R3_s (by omega), fun _ => L 7 0 rfl G ⟨fun r j h => absurd h (Nat.not_lt_zero r), fun y _ hy => hz y (by omega)⟩, fun z => absurd (by omega) z⟩
    | succ j ih =>
      intro x hi G hz
      refine sL_equations_3 hc hr (ee G) ⟨R3_s (by omega), fun z => absurd z (by omega), fun _ => ⟨⟨by omega, by omega, by omega⟩, ?_⟩⟩
      rw [up_up, show (x : Int).toNat = x by omega]
      refine ih (x + 1) (by omega) _ (fun y hy => ?_)
      by_cases q : y = x
      · rw [q, up_self]
      · rw [up_ne q]
        exact hz y (by omega)
  have Z0 := Z 56 0 rfl Fe (fun y hy => absurd hy (Nat.not_lt_zero y))
  rw [up_id ee0] at Z0
  exact sL_equations_0 hc hr Z0
