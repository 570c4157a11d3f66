/-! part 76: the equations of a case, and the class's answers to them -/
theorem dt_d {a n : Nat} (x : Nat → Int) (h : a < n) : la_s (fun k => lb_d (some a) k * x k) n = x a := by
  rw [la_s1 h (fun j _ q => by
    unfold lb_d
    rw [if_neg (fun z => q (Option.some.inj z).symm), Int.zero_mul])]
  unfold lb_d
  rw [if_pos rfl, Int.one_mul]
theorem dt_0 {a n : Nat} (x : Nat → Int) (h : n ≤ a) : la_s (fun k => lb_d (some a) k * x k) n = 0 := la_s0 fun j hj => by
  unfold lb_d
  rw [if_neg (fun z => by have := Option.some.inj z; omega), Int.zero_mul]
theorem dt_e {a b n : Nat} (x : Nat → Int) (ha : a < n) (hb : b < n) : la_s (fun k => lb_e (some a) (some b) k * x k) n = x a - x b := by
  have e : la_s (fun k => lb_e (some a) (some b) k * x k) n = la_s (fun k => lb_d (some a) k * x k + (-1) * (lb_d (some b) k * x k)) n := la_sE fun k _ => by
    unfold lb_e
    grind
  rw [e, la_sadd, la_smul, dt_d x ha, dt_d x hb]
  omega
theorem kcl_sup {k q : Nat} (hk : k < 7) (hq : 7 ≤ q) : ∀ {ps : List Part} {ρ : Nat → Int}, (∀ p ∈ ps, PW p) → ρ q = 0 → ps.foldl (kclS k) ρ q = 0
  | [], _, _, h => h
  | p :: ps, ρ, hp, h => by
    rw [List.foldl_cons]
    refine kcl_sup hk hq (fun q hq => hp q (List.mem_cons_of_mem _ hq)) ?_
    unfold kclS
    by_cases c : p.1 = 0 ∧ atB p k = true
    · rw [if_pos c]
      have hb := (hp p List.mem_cons_self)
      have ho : (othN p k).toNat ≤ 6 := by
        unfold PW at hb
        unfold othN
        split <;> omega
      have e1 : lb_d (some (othN p k).toNat) q = 0 := if_neg (fun z => by have := Option.some.inj z; omega)
      have e2 : lb_d (some k) q = 0 := if_neg (fun z => by have := Option.some.inj z; omega)
      show _ * lb_d _ q + (_ * lb_d _ q + ρ q) = 0
      rw [e1, e2, h]
      omega
    · rw [if_neg c]
      exact h
def SysC (ps : List Part) (c : Int) (γ x : Nat → Int) (d : Int) : Prop := (∀ r, r < 7 → kcB ps r = true → la_s (fun k => kclR ps r k * x k) 7 = 0) ∧ (∀ (a j : Nat) (p : Part), AmpAt ps a j p → bcon c a = 0 → x p.2.1.toNat = x p.2.2.1.toNat) ∧ ∀ r : Nat, r < 7 → kcB ps r = false → (∀ (a j : Nat) (p : Part), AmpAt ps a j p → bcon c a = 0 → p.2.2.2 ≠ r) → x r = d * γ r
theorem out_kc {ps : List Part} {a j : Nat} {p : Part} (h : AmpAt ps a j p) {r : Nat} (hr : p.2.2.2 = r) : kcB ps r = false := by
  have : outF ps r = true := by
    refine List.any_eq_true.mpr ⟨p, List.mem_of_getElem? h.1, ?_⟩
    unfold outB
    rw [decide_eq_true h.2.1, decide_eq_true hr]
    rfl
  unfold kcB
  rw [this, Bool.not_true, Bool.and_false]
theorem amp_out {ps : List Part} (hG : GdP ps) {a j a' j' : Nat} {p p' : Part} (h : AmpAt ps a j p) (h' : AmpAt ps a' j' p') (e : p.2.2.2 = p'.2.2.2) : a = a' ∧ j = j' ∧ p = p' := by
  have hj : j = j' := by
    by_cases c : j = j'
    · exact c
    · have := hG.2.2.2.ne h.1 h'.1 c (by have := h.2.1; omega) (by have := h'.2.1; omega)
      rw [drv_amp h.2.1, drv_amp h'.2.1] at this
      exact absurd e this
  subst hj
  exact ⟨h.2.2.symm.trans h'.2.2, rfl, Option.some.inj (h.1.symm.trans h'.1)⟩
theorem sys_iff {ps : List Part} (hG : GdP ps) (c : Int) (γ x : Nat → Int) (d : Int) : SysC ps c γ x d ↔ ∀ r, r < 7 → la_s (fun k => rowsM c ps r k * x k) 7 = d * la_s (fun g => rowsM c ps r (7 + g) * γ g) 7 := by
  have hpw : ∀ p ∈ ps, PW p := fun p hp => (hG.2.2.1 p hp).1
  have hrow : ∀ r, r < 7 → RowC ps c ps.length r (rowsM c ps r) := by
    intro r hr
    have := (rows_c hG.2.2.1 c ps.length (Nat.le_refl _)).2 r hr
    rw [List.take_length] at this
    exact this
  have s1 : ∀ r, r < 7 → rowsM c ps r = kclR ps r → la_s (fun g => rowsM c ps r (7 + g) * γ g) 7 = 0 := by
    intro r hr e
    refine la_s0 fun g _ => ?_
    rw [e]
    have : kclR ps r (7 + g) = 0 := kcl_sup (q := 7 + g) (ρ := fun _ => 0) hr (by omega) hpw rfl
    rw [this, Int.zero_mul]
  have s2 : ∀ (r : Nat) (a j : Nat) (p : Part), AmpAt ps a j p → rowsM c ps r = lb_e (some p.2.1.toNat) (some p.2.2.1.toNat) → la_s (fun k => rowsM c ps r k * x k) 7 = x p.2.1.toNat - x p.2.2.1.toNat ∧ la_s (fun g => rowsM c ps r (7 + g) * γ g) 7 = 0 := by
    intro r a j p hA e
    have ht := told_amp (hG.2.2.1 p (List.mem_of_getElem? hA.1)) hA.2.1
    rw [e]
    refine ⟨dt_e x (by omega) (by omega), la_s0 fun g _ => ?_⟩
    have e1 : lb_e (some p.2.1.toNat) (some p.2.2.1.toNat) (7 + g) = 0 := by
      unfold lb_e lb_d
      rw [if_neg (fun z => by have := Option.some.inj z; omega), if_neg (fun z => by have := Option.some.inj z; omega)]
      rfl
    rw [e1, Int.zero_mul]
  have s3 : ∀ r : Nat, r < 7 → (rowsM c ps r = fun q => 1 * lb_e (some r) none q + lb_e (some (7 + r)) none q) → la_s (fun k => rowsM c ps r k * x k) 7 = x r ∧ la_s (fun g => rowsM c ps r (7 + g) * γ g) 7 = γ r := by
    intro r hr e
    rw [e]
    constructor
    · rw [la_s1 hr (fun j hj q => by
        unfold lb_e lb_d
        grind)]
      unfold lb_e lb_d
      grind
    · rw [la_s1 hr (fun j hj q => by
        unfold lb_e lb_d
        grind)]
      unfold lb_e lb_d
      grind
  constructor
  · rintro ⟨h1, h2, h3⟩ r hr
    rcases hrow r hr with ⟨q1, q2⟩ | ⟨q1, a, j, p, q2, q3, q4, q5, q6⟩ | ⟨q1, q2, q3⟩
    · rw [List.take_length] at q2
      rw [s1 r hr q2, q2, h1 r hr q1, Int.mul_zero]
    · obtain ⟨t1, t2⟩ := s2 r a j p q3 q6
      rw [t1, t2, h2 a j p q3 q4, Int.mul_zero]
      omega
    · obtain ⟨t1, t2⟩ := s3 r hr q3
      rw [t1, t2]
      exact h3 r hr q1 (fun a j p hA hb => q2 a j p hA.lt.1 hA hb)
  · intro h
    refine ⟨fun r hr hk => ?_, fun a j p hA hb => ?_, fun r hr hk hn => ?_⟩
    · have := h r hr
      rcases hrow r hr with ⟨q1, q2⟩ | ⟨q1, _⟩ | ⟨q1, _⟩
      · rw [List.take_length] at q2
        rw [s1 r hr q2, q2, Int.mul_zero] at this
        exact this
      · rw [hk] at q1
        cases q1
      · rw [hk] at q1
        cases q1
    · have ht := told_amp (hG.2.2.1 p (List.mem_of_getElem? hA.1)) hA.2.1
      obtain ⟨r, hr⟩ : ∃ r : Nat, p.2.2.2 = r := ⟨p.2.2.2.toNat, by omega⟩
      have hr7 : r < 7 := by omega
      have := h r hr7
      rcases hrow r hr7 with ⟨q1, q2⟩ | ⟨q1, a', j', p', q2, q3, q4, q5, q6⟩ | ⟨q1, q2, q3⟩
      · rw [out_kc hA hr] at q1
        cases q1
      · obtain ⟨_, _, ep⟩ := amp_out hG hA q3 (hr.trans q5.symm)
        subst ep
        obtain ⟨t1, t2⟩ := s2 r a' j' p q3 q6
        rw [t1, t2, Int.mul_zero] at this
        omega
      · exact absurd hr (q2 a j p hA.lt.1 hA hb)
    · have := h r hr
      rcases hrow r hr with ⟨q1, q2⟩ | ⟨q1, a', j', p', q2, q3, q4, q5, q6⟩ | ⟨q1, q2, q3⟩
      · rw [hk] at q1
        cases q1
      · exact absurd q5 (hn a' j' p' q3 q4)
      · obtain ⟨t1, t2⟩ := s3 r hr q3
        rw [t1, t2] at this
        exact this
theorem sumN_la (f : Nat → Int) : ∀ n, sumN f n = la_s f n
  | 0 => rfl
  | n + 1 => by
    show sumN f n + f n = la_s f n + f n
    rw [sumN_la f n]
theorem cls_0 {ps : List Part} (hG : GdP ps) {m : Nat} (h : solD ps m = 0) : ∃ z : Nat → Int, (∃ q, q < 7 ∧ z q ≠ 0) ∧ ∀ γ, SysC ps (m : Nat) γ z 0 := by
  rcases (lf_rows (c := (m : Nat)) hG.1 hG.2.2.1).2 with ⟨h1, z, h2, h3⟩ | ⟨h1, _⟩
  · refine ⟨z, h2, fun γ => (sys_iff hG _ _ _ _).mpr fun r hr => ?_⟩
    rw [h3 r hr, Int.zero_mul]
  · exfalso
    unfold solD absZ at h
    split at h <;> omega
theorem cls_1 {ps : List Part} (hG : GdP ps) {m : Nat} (h : solD ps m ≠ 0) : 0 < solD ps m ∧ (∀ γ, SysC ps (m : Nat) γ (numer ps m γ) (solD ps m)) ∧ ∀ z γ, SysC ps (m : Nat) γ z 0 → ∀ q, q < 7 → z q = 0 := by
  rcases (lf_rows (c := (m : Nat)) hG.1 hG.2.2.1).2 with ⟨h1, _⟩ | ⟨h1, h2, h3⟩
  · exfalso
    refine h ?_
    unfold solD
    rw [h1]
    rfl
  · generalize hE : elimN 7 0 1 (rowsM (m : Nat) ps) = e at h1 h2
    have hs : solD ps m = (if 0 ≤ e.1 then 1 else -1) * e.1 := by
      unfold solD absZ
      rw [hE]
      split <;> omega
    have hn : ∀ γ k, k < 7 → numer ps m γ k = la_s (fun g => (if 0 ≤ e.1 then 1 else -1) * e.2 k (7 + g) * γ g) 7 := by
      intro γ k hk
      unfold numer
      rw [sumN_la]
      refine la_sE fun g hg => ?_
      unfold solN ansF
      rw [hE, Nat.mul_add_div (by omega), Nat.div_eq_of_lt hg, Nat.add_zero, Nat.mul_add_mod, Nat.mod_eq_of_lt hg]
    generalize (if 0 ≤ e.1 then (1 : Int) else -1) = s at hs hn
    refine ⟨?_, fun γ => (sys_iff hG _ _ _ _).mpr fun r hr => ?_, fun z γ hz => h3 z fun r hr => ?_⟩
    · have : 0 ≤ solD ps m := by
        unfold solD absZ
        split <;> omega
      omega
    · have e1 : la_s (fun k => rowsM (m : Nat) ps r k * numer ps m γ k) 7 = la_s (fun k => la_s (fun g => rowsM (m : Nat) ps r k * (s * e.2 k (7 + g) * γ g)) 7) 7 := la_sE fun k hk => by
        rw [la_smul, hn γ k hk]
      rw [e1, la_sc, hs, ← la_smul]
      refine la_sE fun g hg => ?_
      have e2 : la_s (fun k => rowsM (m : Nat) ps r k * (s * e.2 k (7 + g) * γ g)) 7 = la_s (fun k => (s * γ g) * (rowsM (m : Nat) ps r k * e.2 k (7 + g))) 7 := la_sE fun k _ => by grind
      rw [e2, la_smul, h2 r g hr hg]
      grind
    · have := (sys_iff hG _ _ _ _).mp hz r hr
      rw [Int.zero_mul] at this
      exact this
theorem cls_u {ps : List Part} (hG : GdP ps) {m : Nat} (h : solD ps m ≠ 0) {γ x : Nat → Int} {d : Int} (hx : SysC ps (m : Nat) γ x d) {k : Nat} (hk : k < 7) : solD ps m * x k = d * numer ps m γ k := by
  obtain ⟨hp, hs, hz⟩ := cls_1 hG h
  have hN := hs γ
  have := hz (fun k => solD ps m * x k - d * numer ps m γ k) γ ⟨fun r hr hk => ?_, fun a j p hA hb => ?_, fun r hr hk hn => ?_⟩ k hk
  · have : solD ps m * x k - d * numer ps m γ k = 0 := this
    omega
  · have e : la_s (fun k => kclR ps r k * (solD ps m * x k - d * numer ps m γ k)) 7 = la_s (fun k => solD ps m * (kclR ps r k * x k) + (-d) * (kclR ps r k * numer ps m γ k)) 7 := la_sE fun k _ => by grind
    rw [e, la_sadd, la_smul, la_smul, hx.1 r hr hk, hN.1 r hr hk]
    omega
  · show solD ps m * x _ - d * numer ps m γ _ = solD ps m * x _ - d * numer ps m γ _
    rw [hx.2.1 a j p hA hb, hN.2.1 a j p hA hb]
  · show solD ps m * x r - d * numer ps m γ r = 0 * _
    rw [hx.2.2 r hr hk hn, hN.2.2 r hr hk hn]
    grind
