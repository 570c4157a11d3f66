/-! part 36d: the elimination of the replies: its numbers fit, and what its outcome means -/
def lf_I (k : Nat) (p : Int) (M A : Mat) : Prop := la_D 7 (le_B A k) = p ∧ ∀ l j, l < 7 → j < 14 → M l j = la_D 7 (la_c (le_B A k) l (fun i => A i j))
def lf_W (A : Mat) : Prop := ∃ w : Nat → Nat, (∀ r, lb_W (w r : Nat) (A r)) ∧ lb_t (fun r => w r + 1) 7 ≤ 117
def lf_R (A0 A : Mat) : Prop := (∀ r, r < 7 → ∃ r', r' < 7 ∧ A0 r = A r') ∧ ∀ r, r < 7 → ∃ r', r' < 7 ∧ A r = A0 r'
def lf_O (A0 : Mat) (e : Int × Mat) : Prop := (e.1 = 0 ∧ ∃ z : Nat → Int, (∃ q, q < 7 ∧ z q ≠ 0) ∧ ∀ r, r < 7 → la_s (fun l => A0 r l * z l) 7 = 0) ∨ (e.1 ≠ 0 ∧ (∀ r g, r < 7 → g < 7 → la_s (fun l => A0 r l * e.2 l (7 + g)) 7 = e.1 * A0 r (7 + g)) ∧ ∀ z : Nat → Int, (∀ r, r < 7 → la_s (fun l => A0 r l * z l) 7 = 0) → ∀ q, q < 7 → z q = 0)
theorem lf_bd {k : Nat} {p : Int} {M A : Mat} (hk : k ≤ 7) (hI : lf_I k p M A) (hW : lf_W A) : BdM M := by
  intro l j hl hj
  obtain ⟨w, h1, h2⟩ := hW
  rw [hI.2 l j hl hj]
  exact le_bd (e := 29) A hl (by omega) (fun r _ => h1 r) (by omega) (by omega)
theorem lf_p {k : Nat} {p : Int} {M A : Mat} (hk : k ≤ 7) (hI : lf_I k p M A) (hW : lf_W A) : R6 p := by
  cases k with
  | zero =>
    rw [← hI.1, le_I1]
    exact ⟨by decide, by decide⟩
  | succ k =>
    have b := lf_bd hk hI hW 0 0 (by omega) (by omega)
    have e : M 0 0 = p := by
      rw [hI.2 0 0 (by omega) (by omega), ← hI.1]
      refine congrArg _ ?_
      have : (fun i => A i 0) = fun i => le_B A (k + 1) i 0 := by
        funext i
        unfold le_B
        rw [if_pos (by omega)]
      rw [this, la_cc]
    rw [← e]
    exact ⟨by have := b.1; omega, by have := b.2; omega⟩
theorem lf_sw {M : Mat} {i k l j : Nat} : swapM M i k l j = M (le_x i k l) j := by
  unfold swapM va_up le_x
  by_cases c : l = k
  · subst c
    rw [if_pos rfl]
    by_cases d : l = i
    · rw [if_pos d, d]
    · rw [if_neg d, if_pos rfl]
  · rw [if_neg c]
    by_cases d : l = i
    · rw [if_pos d, if_pos d]
    · rw [if_neg d, if_neg d, if_neg c]
theorem lf_st {k i : Nat} {p : Int} {M A : Mat} (hk : k < 7) (hi : i < 7) (ki : k ≤ i) (hp : p ≠ 0) (hI : lf_I k p M A) : lf_I (k + 1) (M i k) (clearM (swapM M i k) k p) (fun r q => A (le_x i k r) q) := by
  have hN : ∀ l j, l < 7 → j < 14 → swapM M i k l j = la_D 7 (la_c (le_B (fun r q => A (le_x i k r) q) k) l (fun r => A (le_x i k r) j)) := by
    intro l j hl hj
    rw [lf_sw, hI.2 _ j (le_xl hi hk hl) hj, le_B2 A hi hk ki (Nat.le_refl k)]
  have hkk : le_x i k k = i := by
    unfold le_x
    split
    · rename_i c
      exact c
    · rw [if_pos rfl]
  have hp' : la_D 7 (le_B (fun r q => A (le_x i k r) q) k) = p := by rw [le_B1 A hi hk ki (Nat.le_refl k), hI.1]
  refine ⟨?_, fun l j hl hj => ?_⟩
  · rw [← le_Bs, ← hN k k hk (by omega), lf_sw, hkk]
  · unfold clearM
    by_cases c : l = k
    · subst c
      rw [if_pos rfl, hN l j hl hj, le_sk]
    · rw [if_neg c]
      unfold clrR
      rw [hN k k hk (by omega), hN l j hl hj, hN l k hl (by omega), hN k j hk hj]
      have := le_st (fun r q => A (le_x i k r) q) (j := j) hk hl (Ne.symm c) (by rw [hp']; exact hp)
      rw [hp'] at this
      exact this
theorem lf_Rx {A0 A : Mat} {i k : Nat} (hi : i < 7) (hk : k < 7) (h : lf_R A0 A) : lf_R A0 (fun r q => A (le_x i k r) q) := by
  refine ⟨fun r hr => ?_, fun r hr => h.2 _ (le_xl hi hk hr)⟩
  obtain ⟨r', h1, h2⟩ := h.1 r hr
  exact ⟨le_x i k r', le_xl hi hk h1, by
    show A0 r = A (le_x i k (le_x i k r'))
    rw [le_xx]
    exact h2⟩
theorem lf_Wx {A : Mat} {i k : Nat} (hi : i < 7) (hk : k < 7) (h : lf_W A) : lf_W (fun r q => A (le_x i k r) q) := by
  obtain ⟨w, h1, h2⟩ := h
  exact ⟨fun r => w (le_x i k r), fun r => h1 _, by rw [le_tx (fun r => w r + 1) hi hk]; exact h2⟩
theorem lf_main (A0 : Mat) : ∀ (f k : Nat) (p : Int) (M A : Mat), f + k = 7 → p ≠ 0 → lf_I k p M A → lf_W A → lf_R A0 A → EOk f k p M ∧ lf_O A0 (elimN f k p M)
  | 0, k, p, M, A, hf, hp, hI, hW, hR => by
    have : k = 7 := by omega
    subst this
    refine ⟨lf_bd (Nat.le_refl 7) hI hW, Or.inr ⟨hp, fun r g hr hg => ?_, fun z hz q hq => ?_⟩⟩
    · obtain ⟨r', h1, h2⟩ := hR.1 r hr
      have e := la_cr (le_B A 7) (fun i => A i (7 + g)) h1
      rw [hI.1] at e
      rw [h2]
      refine Eq.trans (la_sE fun l hl => ?_) e
      show A r' l * M l (7 + g) = _
      rw [hI.2 l (7 + g) hl (by omega)]
      unfold le_B
      rw [if_pos hl]
    · have e := la_kn (n := 7) (le_B A 7) z (fun s hs => by
        obtain ⟨r, h1, h2⟩ := hR.2 s hs
        have := hz r h1
        rw [← h2] at this
        refine Eq.trans (la_sE fun l hl => ?_) this
        unfold le_B
        rw [if_pos hl]) hq
      rw [hI.1] at e
      exact (Int.mul_eq_zero.mp e).resolve_left hp
  | f + 1, k, p, M, A, hf, hp, hI, hW, hR => by
    have hk : k < 7 := by omega
    unfold EOk elimN
    cases e : pivN M k (7 - k) k with
    | none =>
      refine ⟨⟨lf_bd (by omega) hI hW, hp, lf_p (by omega) hI hW, fun i q => nomatch q⟩, Or.inl ⟨rfl, (fun l => if l = k then la_D 7 (le_B A k) else if l < k then -la_D 7 (la_c (le_B A k) l (fun i => A i k)) else 0), ⟨k, hk, ?_⟩, fun r hr => ?_⟩⟩
      · show (if k = k then _ else _) ≠ _
        rw [if_pos rfl, hI.1]
        exact hp
      · obtain ⟨r', h1, h2⟩ := hR.1 r hr
        rw [h2]
        refine le_ke A hk (fun i h3 h4 => ?_) r' h1
        rw [← hI.2 i k h4 (by omega)]
        exact pivN_none e i h3 (by omega)
    | some i =>
      obtain ⟨h1, h2, h3⟩ := pivN_spec e
      have ih := lf_main A0 f (k + 1) (M i k) _ _ (by omega) h1 (lf_st hk (by omega) h2 hp hI) (lf_Wx (by omega) hk hW) (lf_Rx (by omega) hk hR)
      exact ⟨⟨lf_bd (by omega) hI hW, hp, lf_p (by omega) hI hW, fun i' q => by
        rw [← Option.some.inj q]
        exact ih.1⟩, ih.2⟩
theorem lf_tm : ∀ {n : Nat} {x y : Nat → Nat}, (∀ r, y r ≤ x r) → lb_t y n ≤ lb_t x n
  | 0, _, _, _ => Nat.le_refl _
  | n + 1, x, y, h => Nat.add_le_add (h 0) (lf_tm fun r => h (r + 1))
theorem lf_tu : ∀ {n : Nat} {x y : Nat → Nat} {a c : Nat}, (∀ r, y r ≤ x r + if r = a then c else 0) → lb_t y n ≤ lb_t x n + c
  | 0, _, _, _, _, _ => Nat.zero_le _
  | n + 1, x, y, a, c, h => by
    show y 0 + lb_t _ n ≤ x 0 + lb_t _ n + c
    have h0 := h 0
    cases a with
    | zero =>
      rw [if_pos rfl] at h0
      have := lf_tm (n := n) (x := fun i => x (i + 1)) (y := fun i => y (i + 1)) (fun r => by
        have := h (r + 1)
        rw [if_neg (by omega)] at this
        exact this)
      omega
    | succ a =>
      rw [if_neg (by omega)] at h0
      have := lf_tu (n := n) (x := fun i => x (i + 1)) (y := fun i => y (i + 1)) (a := a) (c := c) (fun r => by
        have := h (r + 1)
        by_cases q : r = a
        · rw [if_pos (by rw [q])] at this
          rw [if_pos q]
          exact this
        · rw [if_neg (by omega)] at this
          rw [if_neg q]
          exact this)
      omega
def lf_H (M : Mat) (t : Nat) : Prop := ∃ w : Nat → Nat, (∀ r, lb_W (w r : Nat) (M r)) ∧ lb_t (fun r => w r + 1) 7 ≤ t
theorem lf_join {bal : Int} {M : Mat} {a b : Nat} {g : Int} {t : Nat} (hg : 0 ≤ g ∧ g ≤ 4) (h : lf_H M t) : lf_H (joinM bal M a b g) (t + 4) := by
  obtain ⟨w, h1, h2⟩ := h
  unfold joinM
  by_cases c : bcon bal a = 0
  · rw [if_pos c]
    exact ⟨w, h1, by omega⟩
  · rw [if_neg c]
    refine ⟨fun r => if r = a then g.toNat + w r else w r, fun r => ?_, ?_⟩
    · by_cases q : r = a
      · subst q
        show lb_W ((if r = r then g.toNat + w r else w r : Nat) : Int) _
        rw [if_pos rfl, up_self]
        have e : va_up (va_up (M r) r (M r r + g)) b (va_up (M r) r (M r r + g) b - g) = fun q => g * lb_e (some r) (some b) q + M r q := by
          funext q
          unfold va_up lb_e lb_d
          grind
        rw [e]
        have := lb_Wa hg.1 (lb_W1 (some r) (some b)) (h1 r)
        rw [Int.mul_one] at this
        have e2 : ((g.toNat + w r : Nat) : Int) = g + w r := by omega
        rw [e2]
        exact this
      · show lb_W ((if r = a then g.toNat + w r else w r : Nat) : Int) _
        rw [if_neg q, up_ne q]
        exact h1 r
    · have := lf_tu (n := 7) (x := fun r => w r + 1) (y := fun r => (if r = a then g.toNat + w r else w r) + 1) (a := a) (c := 4) (fun r => by
        by_cases q : r = a
        · show (if r = a then g.toNat + w r else w r) + 1 ≤ w r + 1 + _
          rw [if_pos q, if_pos q]
          omega
        · show (if r = a then g.toNat + w r else w r) + 1 ≤ w r + 1 + _
          rw [if_neg q, if_neg q]
          omega)
      show lb_t (fun r => (if r = a then g.toNat + w r else w r) + 1) 7 ≤ t + 4
      omega
theorem lf_eq {M : Mat} {p m o : Nat} {t : Nat} (hpm : p ≠ m) (h : lf_H M t) : lf_H (eqM M p m o) (t + 1) := by
  obtain ⟨w, h1, h2⟩ := h
  refine ⟨fun r => if r = o then 1 else w r, fun r => ?_, ?_⟩
  · show lb_W ((if r = o then 1 else w r : Nat) : Int) _
    unfold eqM
    by_cases q : r = o
    · subst q
      rw [if_pos rfl, up_self]
      have e : va_up (va_up (fun _ => (0 : Int)) p 1) m (-1) = lb_e (some p) (some m) := by
        funext q
        unfold va_up lb_e lb_d
        grind
      rw [e]
      exact lb_W1 _ _
    · rw [if_neg q, up_ne q]
      exact h1 r
  · have := lf_tu (n := 7) (x := fun r => w r + 1) (y := fun r => (if r = o then 1 else w r) + 1) (a := o) (c := 1) (fun r => by
      by_cases q : r = o
      · show (if r = o then 1 else w r) + 1 ≤ w r + 1 + _
        rw [if_pos q, if_pos q]
        omega
      · show (if r = o then 1 else w r) + 1 ≤ w r + 1 + _
        rw [if_neg q, if_neg q]
        omega)
    show lb_t (fun r => (if r = o then 1 else w r) + 1) 7 ≤ t + 1
    omega
theorem lf_put {bal c : Int} {Mo : Mat × Nat} {p : Part} {t : Nat} (hp : PW p ∧ toldB p = true) (h : lf_H Mo.1 t) : lf_H (putP bal c Mo p).1 (t + 8) := by
  unfold putP
  obtain ⟨h1, h2⟩ := hp
  have up : ∀ {M : Mat} {a b : Nat}, a ≤ b → lf_H M a → lf_H M b := fun hab ⟨w, q1, q2⟩ => ⟨w, q1, by omega⟩
  by_cases c0 : p.1 = 0
  · rw [if_pos c0]
    have hg : 0 ≤ p.2.2.2 ∧ p.2.2.2 ≤ 4 := by
      unfold PW at h1
      omega
    exact lf_join hg (lf_join hg h)
  · rw [if_neg c0]
    by_cases c2 : p.1 = 2
    · rw [if_pos c2]
      by_cases c3 : bcon c Mo.2 = 0
      · show lf_H (if _ then _ else _) _
        rw [if_pos c3]
        refine up (by omega) (lf_eq ?_ h)
        unfold toldB at h2
        rw [if_neg (by omega)] at h2
        simp only [Bool.and_eq_true, decide_eq_true_eq] at h2
        unfold PW at h1
        have := h2.1
        omega
      · show lf_H (if _ then _ else _) _
        rw [if_neg c3]
        exact up (by omega) h
    · rw [if_neg c2]
      exact up (by omega) h
theorem lf_fold {bal c : Int} : ∀ (ps : List Part) (Mo : Mat × Nat) (t : Nat), (∀ p ∈ ps, PW p ∧ toldB p = true) → lf_H Mo.1 t → lf_H (ps.foldl (putP bal c) Mo).1 (t + 8 * ps.length)
  | [], _, _, _, h => h
  | p :: ps, Mo, t, hp, h => by
    have := lf_fold (bal := bal) (c := c) ps (putP bal c Mo p) (t + 8) (fun q hq => hp q (List.mem_cons_of_mem _ hq)) (lf_put (hp p List.mem_cons_self) h)
    rw [List.foldl_cons, List.length_cons, show t + 8 * (ps.length + 1) = t + 8 + 8 * ps.length by omega]
    exact this
theorem lf_start (bal : Int) : lf_H (startM bal) 21 := by
  refine ⟨fun _ => 2, fun r => ?_, (by decide : lb_t (fun _ => 2 + 1) 7 ≤ 21)⟩
  unfold startM
  split
  · have e : va_up (va_up (fun _ => (0 : Int)) r 1) (7 + r) 1 = fun q => 1 * lb_e (some r) none q + lb_e (some (7 + r)) none q := by
      funext q
      unfold va_up lb_e lb_d
      grind
    rw [e]
    exact lb_Wm (lb_Wa (c := 1) (by decide) (lb_W1 _ _) (lb_W1 _ _)) (by decide : (1 : Int) * 1 + 1 ≤ ((2 : Nat) : Int))
  · exact lb_Wm lb_W0 (by decide : (0 : Int) ≤ ((2 : Nat) : Int))
theorem lf_rows {c : Int} {ps : List Part} (hl : ps.length ≤ 12) (hp : ∀ p ∈ ps, PW p ∧ toldB p = true) : EOk 7 0 1 (rowsM c ps) ∧ lf_O (rowsM c ps) (elimN 7 0 1 (rowsM c ps)) := by
  obtain ⟨w, h1, h2⟩ := lf_fold (bal := balM ps) (c := c) ps (startM (balM ps), 0) 21 hp (lf_start (balM ps))
  exact lf_main (rowsM c ps) 7 0 1 (rowsM c ps) (rowsM c ps) rfl (by decide) ⟨le_I1 _ _, fun l j hl hj => (le_Ic _ (fun i => rowsM c ps i j) hl).symm⟩ ⟨w, h1, by omega⟩ ⟨fun r hr => ⟨r, hr, rfl⟩, fun r hr => ⟨r, hr, rfl⟩⟩
