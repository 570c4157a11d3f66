/-! part 36b: rows that are sums of edges; how large a determinant of such rows is -/
def lb_d (o : Option Nat) (q : Nat) : Int := if o = some q then 1 else 0
def lb_e (a b : Option Nat) : Nat → Int := fun q => lb_d a q - lb_d b q
def lb_L (L : (Nat → Int) → Int) : Prop := ∀ (c : Int) (u v : Nat → Int), L (fun q => c * u q + v q) = c * L u + L v
def lb_b (x B : Int) : Prop := -B ≤ x ∧ x ≤ B
/-- a row of edges of weight w in all -/
def lb_W (w : Int) (ρ : Nat → Int) : Prop := ∀ L, lb_L L → ∀ B : Int, (∀ a b, lb_b (L (lb_e a b)) B) → lb_b (L ρ) (w * B)
theorem lb_L0 {L : (Nat → Int) → Int} (h : lb_L L) : L (fun _ => 0) = 0 := by
  have := h 1 (fun _ => 0) (fun _ => 0)
  simp only [Int.mul_zero, Int.add_zero, Int.one_mul] at this
  omega
theorem lb_W1 (a b : Option Nat) : lb_W 1 (lb_e a b) := fun L _ B h => by
  rw [Int.one_mul]
  exact h a b
theorem lb_W0 : lb_W 0 (fun _ => 0) := fun L hL B h => by
  rw [lb_L0 hL, Int.zero_mul]
  exact ⟨by omega, by omega⟩
theorem lb_Wa {c w x : Int} {u v : Nat → Int} (hc : 0 ≤ c) (hu : lb_W w u) (hv : lb_W x v) : lb_W (c * w + x) (fun q => c * u q + v q) := fun L hL B h => by
  rw [hL]
  obtain ⟨u1, u2⟩ := hu L hL B h
  obtain ⟨v1, v2⟩ := hv L hL B h
  have h1 := Int.mul_le_mul_of_nonneg_left u1 hc
  have h2 := Int.mul_le_mul_of_nonneg_left u2 hc
  rw [Int.add_mul, Int.mul_assoc]
  rw [Int.mul_neg] at h1
  exact ⟨by omega, by omega⟩
theorem lb_Wn {w : Int} {u : Nat → Int} (hu : lb_W w u) : lb_W w (fun q => (-1) * u q + 0) := fun L hL B h => by
  rw [hL (-1) u (fun _ => 0), lb_L0 hL]
  obtain ⟨u1, u2⟩ := hu L hL B h
  exact ⟨by omega, by omega⟩
theorem lb_B0 {L : (Nat → Int) → Int} {B : Int} (h : ∀ a b, lb_b (L (lb_e a b)) B) : 0 ≤ B := by
  obtain ⟨h1, h2⟩ := h none none
  omega
theorem lb_Wm {w x : Int} {u : Nat → Int} (hu : lb_W w u) (h : w ≤ x) : lb_W x u := fun L hL B hB => by
  obtain ⟨u1, u2⟩ := hu L hL B hB
  have := Int.mul_le_mul_of_nonneg_right h (lb_B0 hB)
  exact ⟨by omega, by omega⟩
/-- a map of rows that takes edges to edges -/
def lb_T (T : (Nat → Int) → Nat → Int) : Prop := (∀ (c : Int) (u v : Nat → Int), T (fun q => c * u q + v q) = fun q => c * T u q + T v q) ∧ ∀ a b, ∃ a' b', T (lb_e a b) = lb_e a' b'
theorem lb_WT {w : Int} {u : Nat → Int} {T : (Nat → Int) → Nat → Int} (hT : lb_T T) (hu : lb_W w u) : lb_W w (T u) := fun L hL B hB => by
  refine hu (fun ρ => L (T ρ)) (fun c u v => ?_) B (fun a b => ?_)
  · show L (T fun q => c * u q + v q) = c * L (T u) + L (T v)
    rw [hT.1]
    exact hL _ _ _
  · obtain ⟨a', b', e⟩ := hT.2 a b
    rw [e]
    exact hB _ _
def lb_p (w : Nat → Int) : Nat → Int
  | 0 => 1
  | n + 1 => w 0 * lb_p (fun i => w (i + 1)) n
theorem lb_p0 : ∀ {n : Nat} {w : Nat → Int}, (∀ i, i < n → 0 ≤ w i) → 0 ≤ lb_p w n
  | 0, _, _ => (by decide : (0 : Int) ≤ 1)
  | n + 1, w, h => Int.mul_nonneg (h 0 (by omega)) (lb_p0 (fun i hi => h (i + 1) (by omega)))
/-- the rows below a row that is an edge from x to y, the columns x and y made one -/
def lb_j (x : Nat) (y : Option Nat) (ρ : Nat → Int) : Nat → Int := fun q => if some (la_k x q) = y then ρ x + ρ (la_k x q) else ρ (la_k x q)
theorem lb_jT (x : Nat) (y : Option Nat) (hxy : y ≠ some x) : lb_T (lb_j x y) := by
  refine ⟨fun c u v => ?_, fun a b => ?_⟩
  · funext q
    unfold lb_j
    split <;> grind
  · have key : ∀ a : Option Nat, ∃ a' : Option Nat, ∀ q, (if some (la_k x q) = y then lb_d a x + lb_d a (la_k x q) else lb_d a (la_k x q)) = lb_d a' q := by
      intro a
      by_cases e : a = some x
      · subst e
        cases y with
        | none =>
          refine ⟨none, fun q => ?_⟩
          have := la_kj x q
          unfold lb_d
          grind
        | some y =>
          refine ⟨some (la_u x y), fun q => ?_⟩
          have h1 := la_kj x q
          have h2 := la_ku (j := x) (x := y) (fun z => hxy (by rw [z])) q
          unfold lb_d
          grind
      · cases a with
        | none =>
          refine ⟨none, fun q => ?_⟩
          unfold lb_d
          grind
        | some a =>
          refine ⟨some (la_u x a), fun q => ?_⟩
          have h2 := la_ku (j := x) (x := a) (fun z => e (by rw [z])) q
          unfold lb_d
          grind
    obtain ⟨a', ha⟩ := key a
    obtain ⟨b', hb⟩ := key b
    refine ⟨a', b', ?_⟩
    funext q
    have h1 := ha q
    have h2 := hb q
    unfold lb_e
    rw [← h1, ← h2]
    unfold lb_j
    split <;> grind
theorem lb_bn {x B : Int} (h : lb_b x B) : lb_b (-x) B := ⟨by have := h.2; omega, by have := h.1; omega⟩
theorem lb_bg {x B : Int} (j : Nat) (h : lb_b x B) : lb_b (la_g j * x) B := by
  unfold la_g
  split
  · rw [Int.one_mul]
    exact h
  · rw [show (-1 : Int) * x = -x by omega]
    exact lb_bn h
theorem lb_D : ∀ (n : Nat) (A : Nat → Nat → Int) (w : Nat → Int), (∀ i, i < n → 0 ≤ w i ∧ lb_W (w i) (A i)) → lb_b (la_D n A) (lb_p w n)
  | 0, _, _, _ => ⟨(by decide : -(1 : Int) ≤ 1), (by decide : (1 : Int) ≤ 1)⟩
  | n + 1, A, w, h => by
    have hp : 0 ≤ lb_p (fun i => w (i + 1)) n := lb_p0 (fun i hi => (h (i + 1) (by omega)).1)
    have hA : ∀ i, i < n → 0 ≤ w (i + 1) ∧ lb_W (w (i + 1)) (A (i + 1)) := fun i hi => h (i + 1) (by omega)
    -- an edge in the first row
    have one : ∀ x, x < n + 1 → ∀ y : Option Nat, y ≠ some x → lb_b (la_D n (fun i => lb_j x y (A (i + 1)))) (lb_p (fun i => w (i + 1)) n) := by
      intro x hx y hy
      exact lb_D n _ _ (fun i hi => ⟨(hA i hi).1, lb_WT (lb_jT x y hy) (hA i hi).2⟩)
    have mi : ∀ x, x < n + 1 → lb_b (la_g x * la_D n (fun i k => A (i + 1) (la_k x k))) (lb_p (fun i => w (i + 1)) n) := by
      intro x hx
      refine lb_bg x ?_
      have := one x hx none (fun q => nomatch q)
      have e : (fun i => lb_j x none (A (i + 1))) = fun i k => A (i + 1) (la_k x k) := by
        funext i k
        exact if_neg (fun q => nomatch q)
      rw [e] at this
      exact this
    let L : (Nat → Int) → Int := fun ρ => la_s (fun j => la_g j * ρ j * la_D n (fun i k => A (i + 1) (la_k j k))) (n + 1)
    have hL : lb_L L := by
      intro c u v
      show la_s _ _ = c * la_s _ _ + la_s _ _
      rw [← la_smul, ← la_sadd]
      refine la_sE fun j _ => ?_
      grind
    have hLD : ∀ ρ, L ρ = la_D (n + 1) (la_r A 0 ρ) := by
      intro ρ
      rfl
    refine (h 0 (by omega)).2 L hL _ (fun a b => ?_)
    -- a column that isn't there
    have dr : ∀ a : Option Nat, ∃ a' : Option Nat, (∀ x, a' = some x → x < n + 1) ∧ ∀ q, q < n + 1 → lb_d a q = lb_d a' q := by
      intro a
      cases a with
      | none => exact ⟨none, fun x q => (nomatch q), fun _ _ => rfl⟩
      | some a =>
        by_cases c : a < n + 1
        · exact ⟨some a, fun x q => by rw [← Option.some.inj q]; exact c, fun _ _ => rfl⟩
        · refine ⟨none, fun x q => (nomatch q), fun q hq => ?_⟩
          unfold lb_d
          grind
    obtain ⟨a', ha, ha'⟩ := dr a
    obtain ⟨b', hb, hb'⟩ := dr b
    have eL : L (lb_e a b) = L (lb_e a' b') := by
      show la_s _ _ = la_s _ _
      refine la_sE fun j hj => ?_
      unfold lb_e
      rw [ha' j hj, hb' j hj]
    rw [eL]
    have dx : ∀ x, lb_d (some x) x = 1 := fun x => if_pos rfl
    have dn : ∀ x q, q ≠ x → lb_d (some x) q = 0 := fun x q h => if_neg (fun z => h (Option.some.inj z).symm)
    cases a' with
    | none =>
      cases b' with
      | none =>
        have : L (lb_e none none) = 0 := lb_L0 hL
        rw [this]
        exact ⟨by omega, by omega⟩
      | some y =>
        have hy := hb y rfl
        have : L (lb_e none (some y)) = -(la_g y * la_D n (fun i k => A (i + 1) (la_k y k))) := by
          show la_s _ _ = _
          rw [la_s1 hy (fun j hj q => by
            show la_g j * (0 - lb_d (some y) j) * _ = 0
            rw [dn y j q]
            grind)]
          show la_g y * (0 - lb_d (some y) y) * _ = _
          rw [dx]
          grind
        rw [this]
        exact lb_bn (mi y hy)
    | some x =>
      have hx := ha x rfl
      cases b' with
      | none =>
        have : L (lb_e (some x) none) = la_g x * la_D n (fun i k => A (i + 1) (la_k x k)) := by
          show la_s _ _ = _
          rw [la_s1 hx (fun j hj q => by
            show la_g j * (lb_d (some x) j - 0) * _ = 0
            rw [dn x j q]
            grind)]
          show la_g x * (lb_d (some x) x - 0) * _ = _
          rw [dx]
          grind
        rw [this]
        exact mi x hx
      | some y =>
        have hy := hb y rfl
        by_cases e : x = y
        · subst e
          have : L (lb_e (some x) (some x)) = L (fun _ => 0) := by
            refine congrArg L ?_
            funext q
            exact Int.sub_self _
          rw [this, lb_L0 hL]
          exact ⟨by omega, by omega⟩
        · have e1 : L (lb_e (some x) (some y)) = la_g x * la_D n (fun i => lb_j x (some y) (A (i + 1))) := by
            rw [hLD, ← la_Dk (la_r A 0 (lb_e (some x) (some y))) hx hy e 1]
            show la_s _ _ = _
            rw [la_s1 hx (fun j hj q => by
              have : la_c (la_r A 0 (lb_e (some x) (some y))) y (fun i => 1 * la_r A 0 (lb_e (some x) (some y)) i x + la_r A 0 (lb_e (some x) (some y)) i y) 0 j = 0 := by
                unfold la_c la_r lb_e
                simp only [if_true]
                by_cases r : j = y
                · rw [if_pos r, dx, dn y x e, dn x y (fun z => e z.symm), dx]
                  rfl
                · rw [if_neg r, dn x j q, dn y j r]
                  rfl
              rw [this]
              grind)]
            have : la_c (la_r A 0 (lb_e (some x) (some y))) y (fun i => 1 * la_r A 0 (lb_e (some x) (some y)) i x + la_r A 0 (lb_e (some x) (some y)) i y) 0 x = 1 := by
              unfold la_c la_r lb_e
              simp only [if_true]
              rw [if_neg e, dx, dn y x e]
              rfl
            rw [this, Int.mul_one]
            refine congrArg _ (la_DE fun i k _ _ => ?_)
            unfold la_c la_r lb_j
            have i0 : ¬ i + 1 = 0 := by omega
            by_cases r : la_k x k = y
            · rw [if_pos r, if_pos (by rw [r])]
              show 1 * (if i + 1 = 0 then _ else _) + (if i + 1 = 0 then _ else _) = _
              rw [if_neg i0, if_neg i0, r]
              omega
            · rw [if_neg r, if_neg (fun z => r (Option.some.inj z)), if_neg i0]
          rw [e1]
          exact lb_bg x (one x hx (some y) (fun z => e (Option.some.inj z).symm))
/-- the product of weights of a small sum -/
theorem lb_12 : ∀ x : Nat, x < 200 → x ^ 12 ≤ 2 ^ (x + 33) := by decide +kernel
def lb_q (w : Nat → Nat) : Nat → Nat
  | 0 => 1
  | n + 1 => w 0 * lb_q (fun i => w (i + 1)) n
def lb_t (w : Nat → Nat) : Nat → Nat
  | 0 => 0
  | n + 1 => w 0 + lb_t (fun i => w (i + 1)) n
theorem lb_qt : ∀ (n : Nat) (w : Nat → Nat), lb_t w n < 200 → (lb_q w n) ^ 12 ≤ 2 ^ (lb_t w n + 33 * n)
  | 0, _, _ => (by decide : 1 ^ 12 ≤ 2 ^ (0 + 33 * 0))
  | n + 1, w, h => by
    have h' : w 0 + lb_t (fun i => w (i + 1)) n < 200 := h
    have h1 := lb_12 (w 0) (by omega)
    have h2 := lb_qt n (fun i => w (i + 1)) (by omega)
    show (w 0 * lb_q (fun i => w (i + 1)) n) ^ 12 ≤ 2 ^ (w 0 + lb_t (fun i => w (i + 1)) n + 33 * (n + 1))
    rw [Nat.mul_pow, show w 0 + lb_t (fun i => w (i + 1)) n + 33 * (n + 1) = (w 0 + 33) + (lb_t (fun i => w (i + 1)) n + 33 * n) by omega, Nat.pow_add]
    exact Nat.mul_le_mul h1 h2
theorem lb_q29 {w : Nat → Nat} {n e : Nat} (h : lb_t w n < 200) (he : lb_t w n + 33 * n ≤ 12 * e) : lb_q w n ≤ 2 ^ e := by
  refine Nat.le_of_not_lt fun c => ?_
  have h1 : (2 ^ e) ^ 12 < (lb_q w n) ^ 12 := Nat.pow_lt_pow_left c (by decide)
  have h2 := lb_qt n w h
  rw [← Nat.pow_mul] at h1
  have h3 : 2 ^ (lb_t w n + 33 * n) ≤ 2 ^ (e * 12) := Nat.pow_le_pow_right (by decide) (by omega)
  omega
theorem lb_pq : ∀ (n : Nat) (w : Nat → Nat), lb_p (fun i => (w i : Int)) n = (lb_q w n : Nat)
  | 0, _ => rfl
  | n + 1, w => by
    show (w 0 : Int) * lb_p (fun i => ((w (i + 1) : Nat) : Int)) n = ((w 0 * lb_q (fun i => w (i + 1)) n : Nat) : Int)
    rw [lb_pq n (fun i => w (i + 1)), Int.natCast_mul]
