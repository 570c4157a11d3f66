/-! part a32: the law's four arrays beside the desk -/
def D4 (d a e f : Nat) : Prop := (127 < d ∧ 127 < a ∧ 127 < e ∧ 127 < f) ∧ d ≠ a ∧ d ≠ e ∧ d ≠ f ∧ a ≠ e ∧ a ≠ f ∧ e ≠ f
def V4 (h : HP) (n d a e f : Nat) (q : Dsk) (Fd F : Nat → Int) (hh : HP) : Prop := DkA hh n q ∧ At hh n d (ai 4 Fd) ∧ At hh n a (ai 48 F) ∧ (∃ E, At hh n e (al 56 E)) ∧ (∃ E, At hh n f (al 56 E)) ∧ ∀ x, 127 < x → x ≠ d → x ≠ a → x ≠ e → x ≠ f → hh x = h x
theorem V4.fr {h hh h' : HP} {n d a e f : Nat} {q q' : Dsk} {Fd F : Nat → Int} (w : V4 h n d a e f q Fd F hh) (D : D4 d a e f) (p : DkA h' n q') (g : Fr hh h' 0 127) : V4 h n d a e f q' Fd F h' := by
  obtain ⟨⟨d1, d2, d3, d4⟩, _⟩ := D
  obtain ⟨w1, w2, w3, ⟨E, w4⟩, ⟨E', w5⟩, w6⟩ := w
  exact ⟨p, w2.fr g (by omega), w3.fr g (by omega), ⟨E, w4.fr g (by omega)⟩, ⟨E', w5.fr g (by omega)⟩, fun x a b c d e => (g x (by omega)).trans (w6 x a b c d e)⟩
theorem V4.d {h hh : HP} {n d a e f : Nat} {q : Dsk} {Fd F Fd' : Nat → Int} (w : V4 h n d a e f q Fd F hh) (D : D4 d a e f) : V4 h n d a e f q Fd' F (va_up hh d (ai 4 Fd')) := by
  obtain ⟨⟨d1, d2, d3, d4⟩, n1, n2, n3, n4, n5, n6⟩ := D
  obtain ⟨w1, w2, w3, ⟨E, w4⟩, ⟨E', w5⟩, w6⟩ := w
  exact ⟨w1.out (lo := d) (hi := d) (Fr.rf.up (by omega)) d1, w2.it, w3.up (by omega), ⟨E, w4.up (by omega)⟩, ⟨E', w5.up (by omega)⟩, fun x a b c d e => (up_ne b).trans (w6 x a b c d e)⟩
theorem V4.a {h hh : HP} {n d a e f : Nat} {q : Dsk} {Fd F F' : Nat → Int} (w : V4 h n d a e f q Fd F hh) (D : D4 d a e f) : V4 h n d a e f q Fd F' (va_up hh a (ai 48 F')) := by
  obtain ⟨⟨d1, d2, d3, d4⟩, n1, n2, n3, n4, n5, n6⟩ := D
  obtain ⟨w1, w2, w3, ⟨E, w4⟩, ⟨E', w5⟩, w6⟩ := w
  exact ⟨w1.out (lo := a) (hi := a) (Fr.rf.up (by omega)) d2, w2.up (by omega), w3.it, ⟨E, w4.up (by omega)⟩, ⟨E', w5.up (by omega)⟩, fun x a b c d e => (up_ne c).trans (w6 x a b c d e)⟩
theorem V4.e {h hh : HP} {n d a e f : Nat} {q : Dsk} {Fd F E0 : Nat → Int} (w : V4 h n d a e f q Fd F hh) (D : D4 d a e f) : V4 h n d a e f q Fd F (va_up hh e (al 56 E0)) := by
  obtain ⟨⟨d1, d2, d3, d4⟩, n1, n2, n3, n4, n5, n6⟩ := D
  obtain ⟨w1, w2, w3, ⟨E, w4⟩, ⟨E', w5⟩, w6⟩ := w
  exact ⟨w1.out (lo := e) (hi := e) (Fr.rf.up (by omega)) d3, w2.up (by omega), w3.up (by omega), ⟨E0, w4.it⟩, ⟨E', w5.up (by omega)⟩, fun x a b c d e => (up_ne d).trans (w6 x a b c d e)⟩
theorem V4.f {h hh : HP} {n d a e f : Nat} {q : Dsk} {Fd F E0 : Nat → Int} (w : V4 h n d a e f q Fd F hh) (D : D4 d a e f) : V4 h n d a e f q Fd F (va_up hh f (al 56 E0)) := by
  obtain ⟨⟨d1, d2, d3, d4⟩, n1, n2, n3, n4, n5, n6⟩ := D
  obtain ⟨w1, w2, w3, ⟨E, w4⟩, ⟨E', w5⟩, w6⟩ := w
  exact ⟨w1.out (lo := f) (hi := f) (Fr.rf.up (by omega)) d4, w2.up (by omega), w3.up (by omega), ⟨E, w4.up (by omega)⟩, ⟨E0, w5.it⟩, fun x a b c d e => (up_ne e).trans (w6 x a b c d e)⟩
theorem st_ok {h hh : HP} {n d a e f : Nat} {q : Dsk} {Fd F : Nat → Int} {S : Stt} (w : V4 h n d a e f q Fd F hh) (D : D4 d a e f) (hD : DFS Fd S) (hP : PaF F S.1) (hG : GdS S) {K : KT} (k : ∀ h' Fd', V4 h n d a e f q Fd' F h' → DFS Fd' (setS S) → K (.inl (some (.int (i3 (if (setS S).2.2.1 = S.2.2.1 then 0 else 1))))) n h') : spec_L_settle [.ref d, .ref a, .ref e, .ref f] n hh K := by
  obtain ⟨E, w4⟩ := w.2.2.2.1
  obtain ⟨E', w5⟩ := w.2.2.2.2.1
  exact ⟨d, a, e, f, Fd, F, E, E', S, rfl, w.2.1, w.2.2.1, w4, w5, ⟨D.2.2.2.2.2.2, D.2.1⟩, hD, hP, hG, fun E1 E2 Fd' hD' => k _ Fd' (((w.e D).f D).d D) hD'⟩
theorem put_ok {h hh : HP} {n d a e f : Nat} {q : Dsk} {Fd F : Nat → Int} {ps : List Part} {k x y v : Int} {p : Part} (w : V4 h n d a e f q Fd F hh) (D : D4 d a e f) (hD : Fd 0 = ps.length) (hP : PaF F ps) (hl : ps.length < 12) (hp : PW p) (he : k = p.1 ∧ x = p.2.1 ∧ (p.1 ≠ 1 → y = p.2.2.1) ∧ R3 y ∧ v = p.2.2.2) {K : KT} (kk : ∀ h' F', V4 h n d a e f q (va_up Fd 0 ((ps.length : Int) + 1)) F' h' → PaF F' (ps ++ [p]) → K (.inl none) n h') : spec_L_put [.int (i3 k), .int (i3 x), .int (i3 y), .int (i3 v), .ref d, .ref a] n hh K :=
  ⟨k, x, y, v, d, a, Fd, F, ps, p, rfl, w.2.1, w.2.2.1, D.2.1, hD, hP, hl, hp, he, fun F' hF' => kk _ F' ((w.a D).d D) hF'⟩
theorem type_ok {h hh : HP} {n d a e f i : Nat} {q : Dsk} {B : List Int} {Fd F : Nat → Int} {ps qs : List Part} {p : Part} (w : V4 h n d a e f (qB q B) Fd F hh) (D : D4 d a e f) (hP : PaF F ps) (hp : ps[i]? = some p) (hS : RdS B qs) (hl : B.length ≤ 53) {K : KT} (k : ∀ h', V4 h n d a e f (qB q (B ++ tx p)) Fd F h' → K (.inl (some (.int (i3 ((B ++ tx p).length : Nat))))) n h') : spec_L_type [.ref 0, .int (i3 i), .ref a, .int (i3 B.length)] n hh K :=
  ⟨q, B, i, a, p, F, ps, qs, rfl, w.1, D.1.2.1, w.2.2.1, hP, hp, hS, hl, fun h' hq' g => k h' (w.fr D hq' g)⟩
theorem app_ok4 {h hh : HP} {n d a e f : Nat} {q : Dsk} {B : List Int} {c : Int} {Fd F : Nat → Int} (w : V4 h n d a e f (qB q B) Fd F hh) (D : D4 d a e f) (hc : 32 ≤ c ∧ c ≤ 126) (hl : B.length < 60) {K : KT} (k : ∀ h', V4 h n d a e f (qB q (B ++ [c])) Fd F h' → K (.inl (some (.int (i3 ((B.length : Int) + 1))))) n h') : spec_X6_append [.ref 0, .int (i3 c)] n hh K :=
  app_ok w.1 hc hl (fun h' hq' g => k h' (w.fr D hq' g))
/-- the world between two steps of the law -/
def W4 (h : HP) (n d a e f : Nat) (q : Dsk) (hh : HP) : Prop := ∃ Fd F, V4 h n d a e f q Fd F hh ∧ DFS Fd q.1 ∧ PaF F q.1.1
/-- the history: as it was, or the state was recorded -/
def HR (q q' : Dsk) : Prop := q'.2.1 = q.2.1 ∨ q'.2.1 = pushH q.2.1 q.1
theorem dv_ne {r : Part} {k : Int} (h : dvB r k = false) (h0 : r.1 ≠ 0) : drv r ≠ k := by
  unfold dvB at h
  rw [decide_eq_true h0, Bool.true_and] at h
  exact of_decide_eq_false h
theorem GdP.snoc {ps : List Part} {p : Part} (h : GdP ps) (hl : ps.length < 12) (hp : PW p) (ht : toldB p = true) (hn : p.1 = 2 → nA ps < 3) (hd : p.1 ≠ 0 → ∀ r ∈ ps, dvB r (drv p) = false) : GdP (ps ++ [p]) := by
  refine ⟨by rw [List.length_append]; show ps.length + 1 ≤ 12; omega, ?_, fun r hr => ?_, List.pairwise_append.mpr ⟨h.2.2.2, List.pairwise_singleton _ _, fun r hr s hs => ?_⟩⟩
  · rw [nA_app, nA_one]
    have := h.2.1
    split
    · rename_i c
      have := hn c
      omega
    · omega
  · rcases List.mem_append.mp hr with y | y
    · exact h.2.2.1 r y
    · rw [List.mem_singleton.mp y]
      exact ⟨hp, ht⟩
  · rw [List.mem_singleton.mp hs]
    by_cases c1 : r.1 = 0
    · exact Or.inl c1
    · by_cases c2 : p.1 = 0
      · exact Or.inr (Or.inl c2)
      · exact Or.inr (Or.inr (dv_ne (hd c2 r hr) c1))
theorem freeW_of : ∀ {ps : List Part} {m : Int}, Mk m → (∀ p ∈ ps, PW p) → (∀ p ∈ ps, p.1 ≠ 0 → bcon m (drv p) = 0) → PwD ps → freeW m ps = true
  | [], _, _, _, _, _ => rfl
  | p :: ps, m, hm, hw, hf, hd => by
    have hp := hw p List.mem_cons_self
    have hw' : ∀ q ∈ ps, PW q := fun q hq => hw q (List.mem_cons_of_mem _ hq)
    have hd' := List.pairwise_cons.mp hd
    unfold freeW
    by_cases c : p.1 = 0
    · rw [if_pos c]
      exact freeW_of hm hw' (fun q hq => hf q (List.mem_cons_of_mem _ hq)) hd'.2
    · have hr := hp.drv c
      rw [if_neg c, if_pos (hf p List.mem_cons_self c)]
      refine freeW_of (hm.or hr) hw' (fun q hq h0 => ?_) hd'.2
      rw [hm.con hr ((hw' q hq).drv h0), if_neg, hf q (List.mem_cons_of_mem _ hq) h0]
      rcases hd'.1 q hq with y | y | y
      · exact absurd y c
      · exact absurd y h0
      · exact fun z => y z.symm
theorem room_of {qs ps : List Part} (h : GdP (qs ++ ps)) : ps.all toldB = true ∧ roomB qs ps = true := by
  have hq : ∀ p ∈ qs, PW p := fun p hp => (h.2.2.1 p (List.mem_append_left _ hp)).1
  have hw : ∀ p ∈ ps, PW p := fun p hp => (h.2.2.1 p (List.mem_append_right _ hp)).1
  obtain ⟨p1, p2, p3⟩ := List.pairwise_append.mp h.2.2.2
  have hl := h.1
  rw [List.length_append] at hl
  have hn := h.2.1
  rw [nA_app] at hn
  refine ⟨List.all_eq_true.mpr fun p hp => (h.2.2.1 p (List.mem_append_right _ hp)).2, ?_⟩
  unfold roomB
  rw [Bool.and_eq_true, Bool.and_eq_true, decide_eq_true_eq, decide_eq_true_eq]
  refine ⟨hl, hn, freeW_of (Mk.df hq 0 Mk0) hw (fun p hp h0 => ?_) p2⟩
  rw [drv_con hq ((hw p hp).drv h0), if_neg]
  intro z
  obtain ⟨r, hr, e⟩ := List.any_eq_true.mp z
  have e' := e
  unfold dvB at e'
  rw [Bool.and_eq_true, decide_eq_true_eq, decide_eq_true_eq] at e'
  rcases p3 r hr p hp with y | y | y
  · exact e'.1 y
  · exact h0 y
  · exact y e'.2
theorem GdS.app {S : Stt} {ps : List Part} (hG : GdS S) (h : GdP (S.1 ++ ps)) : GdS (S.1 ++ ps, S.2) := by
  refine ⟨h, hG.2.1, ⟨hG.2.2.1.1, ?_⟩, hG.2.2.2⟩
  have h3 : S.2.2.1 < 3 ^ nA S.1 := hG.2.2.1.2
  show S.2.2.1 < 3 ^ nA (S.1 ++ ps)
  rw [nA_app, Int.pow_add]
  have p1 := pow3_pos (nA ps)
  have p0 := pow3_pos (nA S.1)
  have : (3 : Int) ^ nA S.1 * 1 ≤ 3 ^ nA S.1 * 3 ^ nA ps := Int.mul_le_mul_of_nonneg_left (by omega) (by omega)
  omega
theorem load_v {q : Dsk} {B : List Int} {ps : List Part} (hE : RdE B ps) (hG : GdP (q.1.1 ++ ps)) : opLoad (qB q B) = ((setS (q.1.1 ++ ps, q.1.2), pushH q.2.1 q.1, q.2.2.1, q.2.2.2.1, []), .inl ((q.1.1.length : Int) + ps.length)) := by
  obtain ⟨r1, r2⟩ := room_of hG
  unfold opLoad
  rw [show compl (qB q B).2.2.2.2 = some ps from hE.c]
  simp only
  rw [if_pos r1, if_pos (show roomB (qB q B).1.1 ps = true from r2)]
  rfl
theorem jud_key {S1 S2 : Stt} (e1 : S1.1 = S2.1) (e2 : S1.2.1 = S2.2.1) (x : Int) : jud S1 x = jud S2 x := by
  obtain ⟨a, b, c, d⟩ := S1
  obtain ⟨a', b', c', d'⟩ := S2
  simp only at e1 e2
  subst e1
  subst e2
  have hf : ∀ m G a1 p st, faultF (a, b, c, d) m G a1 p st = faultF (a, b, c', d') m G a1 p st := fun _ _ _ _ _ => rfl
  have hj : ∀ m G (l : List Part) a1, judL (a, b, c, d) m G x l a1 = judL (a, b, c', d') m G x l a1 := by
    intro m G l
    induction l with
    | nil => exact fun _ => rfl
    | cons p l ih =>
      intro a1
      unfold judL
      rw [hf, ih]
  unfold jud
  rw [hj]
  rfl
theorem best_key (a : List Part) (b c d d' : Int) : ∀ (f : Nat) (x best few : Int), bestL (a, b, c, d) f x best few = bestL (a, b, c, d') f x best few
  | 0, _, _, _ => rfl
  | f + 1, x, best, few => by
    have ih := best_key a b c d d' f
    have jk := jud_key (S1 := (a, b, c, d)) (S2 := (a, b, c, d')) rfl rfl
    unfold bestL
    simp only [ih, jk]
theorem setS_fix {S : Stt} (hG : GdS S) : setS (setS S) = setS S := by
  have ok := setS_ok hG
  by_cases c : (jud S S.2.2.1).1 = 0
  · have e : setS S = (S.1, S.2.1, S.2.2.1, 1) := by
      unfold setS
      rw [if_pos c]
    rw [e] at ok ⊢
    have := ok rfl
    unfold setS
    rw [if_pos this]
  · by_cases z : bestOf S = -1
    · have e : setS S = (S.1, S.2.1, S.2.2.1, 0) := by
        unfold setS
        rw [if_neg c, if_pos z]
      have b : bestOf (S.1, S.2.1, S.2.2.1, 0) = bestOf S := best_key S.1 S.2.1 S.2.2.1 0 S.2.2.2 _ _ _ _
      rw [e]
      unfold setS
      rw [if_neg (fun y => c (by rw [← jud_key (S1 := (S.1, S.2.1, S.2.2.1, 0)) (S2 := S) rfl rfl]; exact y)), if_pos (b.trans z)]
    · have e : setS S = (S.1, S.2.1, bestOf S, 1) := by
        unfold setS
        rw [if_neg c, if_neg z]
      rw [e] at ok ⊢
      have := ok rfl
      unfold setS
      rw [if_pos this]
theorem setS_21 (S : Stt) : (setS S).2.1 = S.2.1 := by
  unfold setS
  split
  · rfl
  · split <;> rfl
/-- .. and another settling changes nothing -/
def OkF (q : Dsk) : Prop := OkD q ∧ setS q.1 = q.1 ∧ ∀ S ∈ q.2.1, setS S = S
theorem OkF.push {q : Dsk} {T : Stt} (h : OkF q) (hG : GdS T) : OkF (setS T, pushH q.2.1 q.1, q.2.2) := ⟨h.1.push (setS_ok hG), setS_fix hG, fun S hS => by
  rcases pushH_mem hS with y | y
  · exact h.2.2 S y
  · rw [y]
    exact h.2.1⟩
