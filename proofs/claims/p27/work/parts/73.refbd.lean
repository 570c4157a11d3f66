/-! part 73: the numbers of the reference's determinants fit -/
theorem lt_sn : ∀ (w : Nat → Nat) (n : Nat), lb_t w (n + 1) = lb_t w n + w n
  | w, 0 => by
    show w 0 + 0 = 0 + w 0
    omega
  | w, n + 1 => by
    show w 0 + lb_t (fun i => w (i + 1)) (n + 1) = w 0 + lb_t (fun i => w (i + 1)) n + w (n + 1)
    rw [lt_sn (fun i => w (i + 1)) n]
    omega
theorem lq_e : ∀ (n : Nat) (W e : Nat → Nat), (∀ i, i < n → W i ^ 24 ≤ 2 ^ e i) → (lb_q W n) ^ 24 ≤ 2 ^ lb_t e n
  | 0, _, _, _ => (by decide : 1 ^ 24 ≤ 2 ^ 0)
  | n + 1, W, e, h => by
    show (W 0 * lb_q (fun i => W (i + 1)) n) ^ 24 ≤ 2 ^ (e 0 + lb_t (fun i => e (i + 1)) n)
    rw [Nat.mul_pow, Nat.pow_add]
    exact Nat.mul_le_mul (h 0 (by omega)) (lq_e n _ _ (fun i hi => h (i + 1) (by omega)))
theorem lq_24 : ∀ x : Nat, x < 200 → x ^ 24 ≤ 2 ^ (2 * x + 65) := by decide +kernel
theorem le_bq {n : Nat} (A : Nat → Nat → Int) {k l j : Nat} {w : Nat → Nat} (hl : l < n) (hj : j < n ∨ k ≤ j) (hw : ∀ r, r < n → lb_W (w r : Nat) (A r)) : lb_b (la_D n (la_c (le_B A k) l (fun i => A i j))) ((lb_q (fun r => w r + 1) n : Nat) : Int) := by
  by_cases h : k ≤ j ∨ l = j
  · have hb := lb_D n (la_c (le_B A k) l (fun i => A i j)) (fun r => ((w r + 1 : Nat) : Int)) (fun r hr => ⟨Int.natCast_nonneg _, by
      rw [Int.natCast_add]
      exact le_rw A h (hw r hr)⟩)
    rw [lb_pq] at hb
    exact hb
  · have : la_D n (la_c (le_B A k) l (fun i => A i j)) = 0 := by
      refine la_Dp _ (x := j) (y := l) (by omega) hl (fun q => h (Or.inr q.symm)) (fun i => ?_)
      rw [la_cx, la_cn (fun q => h (Or.inr q.symm))]
      unfold le_B
      rw [if_pos (by omega)]
    rw [this]
    exact ⟨by omega, by omega⟩
theorem lb_sum : ∀ {n : Nat} {c d a : Nat → Int} {B : Int}, 0 ≤ B → (∀ x, x < n → lb_b (c x) (a x) ∧ (c x = 0 ∨ lb_b (d x) B)) → lb_b (la_s (fun x => c x * d x) n) (la_s a n * B)
  | 0, _, _, _, B, _, _ => by
    show lb_b 0 (0 * B)
    rw [Int.zero_mul]
    exact ⟨by omega, by omega⟩
  | n + 1, c, d, a, B, hB, h => by
    have ih := lb_sum (n := n) (c := c) (d := d) (a := a) hB (fun x hx => h x (by omega))
    show lb_b (la_s (fun x => c x * d x) n + c n * d n) ((la_s a n + a n) * B)
    rw [Int.add_mul]
    obtain ⟨h1, h2⟩ := h n (by omega)
    have ha : 0 ≤ a n := by
      have := h1.1
      have := h1.2
      omega
    have hm : lb_b (c n * d n) (a n * B) := by
      rcases h2 with e | e
      · rw [e, Int.zero_mul]
        have := Int.mul_nonneg ha hB
        exact ⟨by omega, by omega⟩
      · exact mul_bd h1 e
    exact ⟨by have := ih.1; have := hm.1; omega, by have := ih.2; have := hm.2; omega⟩
/-- the rows with a given node in place of what is given -/
def TxR (ps : List Part) (x y : Nat) (ρ : Nat → Int) : Nat → Int := fun c => if c = y then ρ x else if c < cn (frF ps) 7 then ρ (nodeOf ps c) else 0
theorem TxR_T {ps : List Part} {x y : Nat} (hx : ¬ (x < 7 ∧ frF ps x = true)) : lb_T (TxR ps x y) := by
  refine ⟨fun c u v => ?_, fun a b => ?_⟩
  · funext q
    unfold TxR
    split
    · rfl
    · split
      · rfl
      · rw [Int.mul_zero, Int.zero_add]
  · have key : ∀ a : Option Nat, ∃ a' : Option Nat, ∀ q, TxR ps x y (lb_d a) q = lb_d a' q := by
      intro a
      cases a with
      | none =>
        refine ⟨none, fun q => ?_⟩
        unfold TxR lb_d
        simp
      | some v =>
        by_cases e : v = x
        · refine ⟨some y, fun q => ?_⟩
          unfold TxR lb_d
          by_cases c : q = y
          · rw [if_pos c, if_pos (by rw [e]), if_pos (by rw [c])]
          · rw [if_neg c, if_neg (show ¬ some y = some q from fun z => c (Option.some.inj z).symm)]
            by_cases d : q < cn (frF ps) 7
            · rw [if_pos d]
              have hn := nodeOf_fr d
              refine if_neg (fun z => hx ?_)
              rw [← e, Option.some.inj z]
              exact ⟨hn.1, hn.2.1⟩
            · rw [if_neg d]
        · by_cases f : v < 7 ∧ frF ps v = true ∧ cn (frF ps) v ≠ y
          · refine ⟨some (cn (frF ps) v), fun q => ?_⟩
            unfold TxR lb_d
            by_cases c : q = y
            · rw [if_pos c, if_neg (fun z => e (Option.some.inj z)), if_neg (fun z => f.2.2 ((Option.some.inj z).trans c))]
            · rw [if_neg c]
              by_cases d : q < cn (frF ps) 7
              · rw [if_pos d]
                have hn := nodeOf_fr d
                by_cases g : v = nodeOf ps q
                · rw [if_pos (by rw [g]), if_pos (by rw [g, hn.2.2])]
                · rw [if_neg (fun z => g (Option.some.inj z)), if_neg (fun z => g (cn_inj f.2.1 hn.2.1 ((Option.some.inj z).trans hn.2.2.symm)))]
              · rw [if_neg d, if_neg (fun z => d ?_)]
                rw [← Option.some.inj z]
                exact cn_lt f.1 f.2.1
          · refine ⟨none, fun q => ?_⟩
            unfold TxR lb_d
            rw [if_neg (show ¬ none = some q from fun z => nomatch z)]
            by_cases c : q = y
            · rw [if_pos c, if_neg (fun z => e (Option.some.inj z))]
            · rw [if_neg c]
              by_cases d : q < cn (frF ps) 7
              · rw [if_pos d]
                have hn := nodeOf_fr d
                refine if_neg (fun z => f ?_)
                rw [Option.some.inj z]
                exact ⟨hn.1, hn.2.1, fun w => c (hn.2.2.symm.trans w)⟩
              · rw [if_neg d]
    obtain ⟨a', ha⟩ := key a
    obtain ⟨b', hb⟩ := key b
    refine ⟨a', b', ?_⟩
    funext q
    have h1 := ha q
    have h2 := hb q
    unfold lb_e
    rw [← h1, ← h2]
    unfold TxR
    split
    · rfl
    · split <;> rfl
/-- matrices of such rows, in any order -/
def PaM (ps : List Part) (val : Nat → Int) (y T : Nat) (A : Nat → Nat → Int) : Prop := ∃ (ρ : Nat → Nat → Int) (w e : Nat → Nat), (∀ i c, i < cn (frF ps) 7 → c < cn (frF ps) 7 → A i c = Tr ps val (ρ i) (if c = y then 6 else c)) ∧ (∀ i, i < cn (frF ps) 7 → lb_W (w i : Nat) (ρ i)) ∧ (∀ i, i < cn (frF ps) 7 → (w i + 1) ^ 24 ≤ 2 ^ e i) ∧ lb_t e (cn (frF ps) 7) ≤ T
theorem PaM.x {ps : List Part} {val : Nat → Int} {y T : Nat} {A : Nat → Nat → Int} (h : PaM ps val y T A) {a b : Nat} (ha : a < cn (frF ps) 7) (hb : b < cn (frF ps) 7) : PaM ps val y T (fun r q => A (le_x a b r) q) := by
  obtain ⟨ρ, w, e, h1, h2, h3, h4⟩ := h
  exact ⟨fun i => ρ (le_x a b i), fun i => w (le_x a b i), fun i => e (le_x a b i), fun i c hi hc => h1 _ c (le_xl ha hb hi) hc, fun i hi => h2 _ (le_xl ha hb hi), fun i hi => h3 _ (le_xl ha hb hi), by rw [le_tx e ha hb]; exact h4⟩
theorem PaM.bd {ps : List Part} {val : Nat → Int} {y T V : Nat} {A : Nat → Nat → Int} {av : Nat → Int} (h : PaM ps val y T A) (hav : ∀ x, x < 10 → lb_b (val x) (av x)) (hfr : ∀ x, x < 7 → frF ps x = true → val x = 0) (hV : la_s av 10 ≤ V) (hT : T < 744) (hVT : V ^ 24 * 2 ^ T < 2 ^ 744) {k l j : Nat} (hl : l < cn (frF ps) 7) (hj : j < cn (frF ps) 7) : Bd31 (la_D (cn (frF ps) 7) (la_c (le_B A k) l (fun i => A i j))) := by
  obtain ⟨ρ, w, e, h1, h2, h3, h4⟩ := h
  have hu := fr6 ps
  generalize hun : cn (frF ps) 7 = u at *
  have hB24 := lq_e u (fun i => w i + 1) e h3
  generalize hBn : lb_q (fun i => w i + 1) u = B at hB24
  have hBT : B ^ 24 ≤ 2 ^ T := Nat.le_trans hB24 (Nat.pow_le_pow_right (by decide) h4)
  have hpw : ∀ X : Nat, X ^ 24 < 2 ^ 744 → X ≤ 2147483647 := by
    intro X hX
    refine Nat.le_of_not_lt fun c => ?_
    have q1 : 2147483648 ^ 24 ≤ X ^ 24 := Nat.pow_le_pow_left c 24
    have q2 : (2147483648 : Nat) ^ 24 = 2 ^ 744 := by decide +kernel
    omega
  have hB31 : B ≤ 2147483647 := hpw B (Nat.lt_of_le_of_lt hBT (Nat.pow_lt_pow_right (by decide) hT))
  have hVB : V * B ≤ 2147483647 := hpw (V * B) (by
    rw [Nat.mul_pow]
    exact Nat.lt_of_le_of_lt (Nat.mul_le_mul_left _ hBT) hVT)
  have hav0 : 0 ≤ la_s av 10 := by
    have : ∀ n, n ≤ 10 → 0 ≤ la_s av n := by
      intro n
      induction n with
      | zero => exact fun _ => Int.le_refl _
      | succ n ih =>
        intro hn
        have q1 := ih (by omega)
        obtain ⟨q2, q3⟩ := hav n (by omega)
        show 0 ≤ la_s av n + av n
        omega
    exact this 10 (Nat.le_refl _)
  -- the matrices with a node in place of what is given
  have bx : ∀ x, ¬ (x < 7 ∧ frF ps x = true) → lb_b (la_D u (la_c (le_B (fun i => TxR ps x y (ρ i)) k) l (fun i => TxR ps x y (ρ i) j))) (B : Int) := by
    intro x hx
    have := le_bq (n := u) (fun i => TxR ps x y (ρ i)) (k := k) (l := l) (j := j) (w := w) hl (Or.inl hj) (fun r hr => lb_WT (TxR_T hx) (h2 r hr))
    rw [hBn] at this
    exact this
  have hAn : ∀ x i c, i < u → c < u → c ≠ y → A i c = TxR ps x y (ρ i) c := by
    intro x i c hi hc hcy
    rw [h1 i c hi hc, if_neg hcy, Tr_lt (by omega) (by rw [hun]; exact hc)]
    unfold TxR
    rw [if_neg hcy, hun, if_pos hc]
  have hAy : ∀ i, i < u → y < u → A i y = la_s (fun x => (-val x) * ρ i x) 10 := by
    intro i hi hy
    rw [h1 i y hi hy, if_pos rfl]
    show -la_s _ 10 = _
    rw [show -la_s (fun k => val k * ρ i k) 10 = (-1) * la_s (fun k => val k * ρ i k) 10 by omega, ← la_smul]
    exact la_sE fun x _ => by grind
  have hxy : ∀ x i, TxR ps x y (ρ i) y = ρ i x := fun x i => if_pos rfl
  have fin1 : ∀ z : Int, lb_b z (B : Int) → Bd31 z := fun z hz => ⟨by have := hz.1; omega, by have := hz.2; omega⟩
  have fin2 : ∀ d : Nat → Int, (∀ x, x < 10 → ¬ (x < 7 ∧ frF ps x = true) → lb_b (d x) (B : Int)) → Bd31 (la_s (fun x => (-val x) * d x) 10) := by
    intro d hd
    have hs := lb_sum (n := 10) (c := fun x => -val x) (d := d) (a := av) (B := (B : Int)) (Int.natCast_nonneg _) (fun x hx => ⟨lb_bn (hav x hx), ?_⟩)
    · have hle : la_s av 10 * (B : Int) ≤ ((V * B : Nat) : Int) := by
        rw [Int.natCast_mul]
        exact Int.mul_le_mul_of_nonneg_right hV (Int.natCast_nonneg _)
      exact ⟨by have := hs.1; omega, by have := hs.2; omega⟩
    · by_cases c : x < 7 ∧ frF ps x = true
      · left
        show -val x = 0
        rw [hfr x c.1 c.2]
        rfl
      · exact Or.inr (hd x hx c)
  by_cases u1 : y < u ∧ y < k ∧ y ≠ l
  · by_cases u2 : j = y
    · have : la_D u (la_c (le_B A k) l (fun i => A i j)) = 0 := by
        refine la_Dp _ (x := y) (y := l) u1.1 hl u1.2.2 (fun i => ?_)
        rw [la_cx, la_cn u1.2.2, u2]
        unfold le_B
        rw [if_pos u1.2.1]
      rw [this]
      exact ⟨by decide, by decide⟩
    · have e1 : la_D u (la_c (le_B A k) l (fun i => A i j)) = la_D u (la_c (la_c (le_B A k) l (fun i => A i j)) y (fun i => la_s (fun x => (-val x) * ρ i x) 10)) := by
        rw [← la_ci (u := fun i => A i y) (fun i hi => hAy i hi u1.1)]
        refine congrArg _ ?_
        have : (fun i => A i y) = fun i => la_c (le_B A k) l (fun i => A i j) i y := by
          funext i
          rw [la_cn u1.2.2]
          unfold le_B
          rw [if_pos u1.2.1]
        rw [this, la_cc]
      rw [e1, la_DS _ u1.1]
      refine fin2 _ fun x hx hn => ?_
      have := bx x hn
      have e2 : la_D u (la_c (la_c (le_B A k) l (fun i => A i j)) y (fun i => ρ i x)) = la_D u (la_c (le_B (fun i => TxR ps x y (ρ i)) k) l (fun i => TxR ps x y (ρ i) j)) := by
        refine la_DE fun i q hi hq => ?_
        by_cases c : q = y
        · rw [c, la_cx, la_cn u1.2.2]
          unfold le_B
          rw [if_pos u1.2.1]
          exact (hxy x i).symm
        · rw [la_cn c]
          by_cases d : q = l
          · rw [d, la_cx, la_cx]
            exact hAn x i j hi hj u2
          · rw [la_cn d, la_cn d]
            unfold le_B
            by_cases f : q < k
            · rw [if_pos f, if_pos f]
              exact hAn x i q hi hq c
            · rw [if_neg f, if_neg f]
      rw [e2]
      exact this
  · have hq : ∀ i q, i < u → q < u → q ≠ l → ∀ x, le_B A k i q = le_B (fun i => TxR ps x y (ρ i)) k i q := by
      intro i q hi hq hql x
      unfold le_B
      by_cases f : q < k
      · rw [if_pos f, if_pos f]
        exact hAn x i q hi hq (fun z => u1 ⟨by omega, by omega, fun w => hql (z.trans w)⟩)
      · rw [if_neg f, if_neg f]
    by_cases u2 : j = y
    · subst u2
      rw [la_ci (fun i hi => hAy i hi hj), la_DS _ hl]
      refine fin2 _ fun x hx hn => ?_
      have := bx x hn
      have e2 : la_D u (la_c (le_B A k) l (fun i => ρ i x)) = la_D u (la_c (le_B (fun i => TxR ps x j (ρ i)) k) l (fun i => TxR ps x j (ρ i) j)) := by
        refine la_DE fun i q hi hqu => ?_
        by_cases d : q = l
        · rw [d, la_cx, la_cx, hxy]
        · rw [la_cn d, la_cn d]
          exact hq i q hi hqu d x
      rw [e2]
      exact this
    · have e2 : la_D u (la_c (le_B A k) l (fun i => A i j)) = la_D u (la_c (le_B (fun i => TxR ps 0 y (ρ i)) k) l (fun i => TxR ps 0 y (ρ i) j)) := by
        refine la_DE fun i q hi hqu => ?_
        by_cases d : q = l
        · rw [d, la_cx, la_cx]
          exact hAn 0 i j hi hj u2
        · rw [la_cn d, la_cn d]
          exact hq i q hi hqu d 0
      rw [e2]
      exact fin1 _ (bx 0 (fun z => by rw [fr0] at z; exact absurd z.2 (by decide)))
