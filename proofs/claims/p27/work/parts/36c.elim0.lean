/-! part 36c: what an elimination without fractions keeps -/
def le_B (A : Nat → Nat → Int) (k : Nat) : Nat → Nat → Int := fun i j => if j < k then A i j else if i = j then 1 else 0
theorem le_I1 : ∀ (n : Nat) (A : Nat → Nat → Int), la_D n (le_B A 0) = 1
  | 0, _ => rfl
  | n + 1, A => by
    show la_s _ (n + 1) = 1
    rw [la_s1 (k := 0) (by omega) (fun j hj q => by
      have : le_B A 0 0 j = 0 := by
        unfold le_B
        rw [if_neg (by omega), if_neg (by omega)]
      rw [this]
      grind)]
    have e : la_D n (fun i k => le_B A 0 (i + 1) (la_k 0 k)) = la_D n (le_B A 0) := by
      refine la_DE fun i k _ _ => ?_
      unfold le_B la_k
      grind
    rw [e, le_I1 n A]
    rfl
theorem le_Ic {n l : Nat} (A : Nat → Nat → Int) (a : Nat → Int) (h : l < n) : la_D n (la_c (le_B A 0) l a) = a l := by
  have e := la_cr (le_B A 0) a h
  rw [le_I1, la_s1 h (fun j _ q => by
    have : le_B A 0 l j = 0 := by
      unfold le_B
      rw [if_neg (by omega), if_neg (by omega)]
    rw [this, Int.zero_mul])] at e
  have : le_B A 0 l l = 1 := by
    unfold le_B
    rw [if_neg (by omega), if_pos rfl]
  rw [this] at e
  omega
theorem le_Bs (A : Nat → Nat → Int) (k : Nat) : la_c (le_B A k) k (fun i => A i k) = le_B A (k + 1) := by
  funext i j
  unfold la_c le_B
  grind
theorem le_div {p x y : Int} (hp : p ≠ 0) (h : x = p * y) : x.tdiv p = y := by
  rw [h]
  exact Int.mul_tdiv_cancel_left y hp
theorem le_st {n : Nat} (A : Nat → Nat → Int) {k l j : Nat} (hk : k < n) (hl : l < n) (h : k ≠ l) (hp : la_D n (le_B A k) ≠ 0) : (la_D n (la_c (le_B A k) k (fun i => A i k)) * la_D n (la_c (le_B A k) l (fun i => A i j)) - la_D n (la_c (le_B A k) l (fun i => A i k)) * la_D n (la_c (le_B A k) k (fun i => A i j))).tdiv (la_D n (le_B A k)) = la_D n (la_c (le_B A (k + 1)) l (fun i => A i j)) := by
  rw [← le_Bs]
  exact le_div hp (la_pl _ _ _ hk hl h)
theorem le_sk {n : Nat} (A : Nat → Nat → Int) (k j : Nat) : la_D n (la_c (le_B A (k + 1)) k (fun i => A i j)) = la_D n (la_c (le_B A k) k (fun i => A i j)) := by
  rw [← le_Bs, la_c2]
def le_x (x y q : Nat) : Nat := if q = x then y else if q = y then x else q
theorem le_xl {x y q n : Nat} (hx : x < n) (hy : y < n) (h : q < n) : le_x x y q < n := by
  unfold le_x
  split
  · exact hy
  · split
    · exact hx
    · exact h
theorem le_xx (x y q : Nat) : le_x x y (le_x x y q) = q := by
  unfold le_x
  grind
theorem le_xe {x y q r : Nat} : le_x x y q = le_x x y r ↔ q = r := ⟨fun h => by rw [← le_xx x y q, h, le_xx], fun h => by rw [h]⟩
theorem le_cs {n : Nat} (A : Nat → Nat → Int) {x y : Nat} (hx : x < n) (hy : y < n) (h : x ≠ y) : la_D n (fun r q => A r (le_x x y q)) = -la_D n A := by
  have e : (fun r q => A r (le_x x y q)) = la_c (la_c A x (fun i => A i y)) y (fun i => A i x) := by
    funext r q
    unfold le_x la_c
    grind
  rw [e, la_Ds A hx hy h, la_cc, la_cc]
theorem le_rs {n : Nat} (A : Nat → Nat → Int) {x y : Nat} (hx : x < n) (hy : y < n) (h : x ≠ y) : la_D n (fun r q => A (le_x x y r) q) = -la_D n A := by
  rw [la_Dt, la_Dt n A]
  exact le_cs (fun i j => A j i) hx hy h
theorem le_x0 (x q : Nat) : le_x x x q = q := by
  unfold le_x
  grind
theorem le_cj {n : Nat} (A : Nat → Nat → Int) {x y : Nat} (hx : x < n) (hy : y < n) : la_D n (fun r q => A (le_x x y r) (le_x x y q)) = la_D n A := by
  by_cases h : x = y
  · subst h
    simp only [le_x0]
  · have e := le_cs (fun r q => A (le_x x y r) q) hx hy h
    rw [le_rs A hx hy h] at e
    rw [e]
    omega
theorem le_Bx (A : Nat → Nat → Int) {x y k : Nat} (hx : k ≤ x) (hy : k ≤ y) : le_B (fun r q => A (le_x x y r) q) k = fun r q => le_B A k (le_x x y r) (le_x x y q) := by
  funext r q
  unfold le_B
  by_cases c : q < k
  · have : le_x x y q = q := by
      unfold le_x
      rw [if_neg (by omega), if_neg (by omega)]
    rw [this, if_pos c, if_pos c]
  · have : ¬ le_x x y q < k := by
      unfold le_x
      grind
    rw [if_neg c, if_neg this]
    by_cases e : r = q
    · rw [if_pos e, if_pos (by rw [e])]
    · rw [if_neg e, if_neg (fun z => e (le_xe.mp z))]
theorem le_B1 {n : Nat} (A : Nat → Nat → Int) {x y k : Nat} (hx : x < n) (hy : y < n) (kx : k ≤ x) (ky : k ≤ y) : la_D n (le_B (fun r q => A (le_x x y r) q) k) = la_D n (le_B A k) := by
  rw [le_Bx A kx ky, le_cj _ hx hy]
theorem le_B2 {n : Nat} (A : Nat → Nat → Int) {x y k l j : Nat} (hx : x < n) (hy : y < n) (kx : k ≤ x) (ky : k ≤ y) : la_D n (la_c (le_B (fun r q => A (le_x x y r) q) k) l (fun i => A (le_x x y i) j)) = la_D n (la_c (le_B A k) (le_x x y l) (fun i => A i j)) := by
  have e : la_c (le_B (fun r q => A (le_x x y r) q) k) l (fun i => A (le_x x y i) j) = fun r q => la_c (le_B A k) (le_x x y l) (fun i => A i j) (le_x x y r) (le_x x y q) := by
    funext r q
    rw [le_Bx A kx ky]
    unfold la_c
    by_cases e : q = l
    · rw [if_pos e, if_pos (by rw [e])]
    · rw [if_neg e, if_neg (fun z => e (le_xe.mp z))]
  rw [e, le_cj _ hx hy]
/-- no pivot: a vector that the rows take to 0 -/
theorem le_ke {n : Nat} (A : Nat → Nat → Int) {k : Nat} (hk : k < n) (h : ∀ i, k ≤ i → i < n → la_D n (la_c (le_B A k) i (fun i => A i k)) = 0) : ∀ r, r < n → la_s (fun l => A r l * (if l = k then la_D n (le_B A k) else if l < k then -la_D n (la_c (le_B A k) l (fun i => A i k)) else 0)) n = 0 := by
  intro r hr
  have e := la_cr (le_B A k) (fun i => A i k) hr
  have f : la_s (fun l => A r l * (if l = k then la_D n (le_B A k) else if l < k then -la_D n (la_c (le_B A k) l (fun i => A i k)) else 0)) n = la_s (fun l => (if l = k then A r k * la_D n (le_B A k) else 0) + (-1) * (le_B A k r l * la_D n (la_c (le_B A k) l (fun i => A i k)))) n := by
    refine la_sE fun l hl => ?_
    by_cases c : l = k
    · subst c
      rw [if_pos rfl, if_pos rfl, h l (Nat.le_refl _) hl]
      omega
    · rw [if_neg c, if_neg c]
      by_cases d : l < k
      · have : le_B A k r l = A r l := by
          unfold le_B
          rw [if_pos d]
        rw [if_pos d, this]
        grind
      · rw [if_neg d, h l (by omega) hl]
        omega
  rw [f, la_sadd, la_smul, e, la_s1 hk (fun j _ q => if_neg q), if_pos rfl]
  grind
/-- the sum of weights, rows exchanged -/
theorem le_t0 : ∀ {n : Nat} {w v : Nat → Nat}, (∀ i, i < n → w i = v i) → lb_t w n = lb_t v n
  | 0, _, _, _ => rfl
  | n + 1, w, v, h => by
    show w 0 + lb_t _ n = v 0 + lb_t _ n
    rw [h 0 (by omega), le_t0 (fun i hi => h (i + 1) (by omega))]
theorem le_t1 : ∀ {n x : Nat} (w : Nat → Nat), x < n → lb_t w n = w x + lb_t (fun i => if i = x then 0 else w i) n
  | 0, _, _, h => absurd h (Nat.not_lt_zero _)
  | n + 1, 0, w, _ => by
    show w 0 + lb_t _ n = w 0 + (0 + lb_t _ n)
    rw [Nat.zero_add]
    exact congrArg _ (le_t0 fun i _ => rfl)
  | n + 1, x + 1, w, h => by
    show w 0 + lb_t _ n = w (x + 1) + (w 0 + lb_t _ n)
    rw [le_t1 (x := x) (fun i => w (i + 1)) (by omega)]
    have : lb_t (fun i => if i + 1 = x + 1 then 0 else w (i + 1)) n = lb_t (fun i => if i = x then 0 else w (i + 1)) n := le_t0 fun i _ => by
      by_cases c : i = x
      · rw [if_pos c, if_pos (by rw [c])]
      · rw [if_neg c, if_neg (by omega)]
    rw [this]
    omega
theorem le_tx {n x y : Nat} (w : Nat → Nat) (hx : x < n) (hy : y < n) : lb_t (fun i => w (le_x x y i)) n = lb_t w n := by
  by_cases h : x = y
  · subst h
    exact le_t0 fun i _ => by rw [le_x0]
  · have a1 := le_t1 w hx
    have a2 := le_t1 (fun i => if i = x then 0 else w i) hy
    have b1 := le_t1 (fun i => w (le_x x y i)) hx
    have b2 := le_t1 (fun i => if i = x then 0 else w (le_x x y i)) hy
    have e1 : le_x x y x = y := if_pos rfl
    have e2 : le_x x y y = x := by
      unfold le_x
      rw [if_neg (Ne.symm h), if_pos rfl]
    simp only [if_neg (Ne.symm h), e1, e2] at a2 b1 b2
    have : lb_t (fun i => if i = y then 0 else if i = x then 0 else w (le_x x y i)) n = lb_t (fun i => if i = y then 0 else if i = x then 0 else w i) n := le_t0 fun i _ => by
      unfold le_x
      grind
    omega
/-- the rows of the elimination's matrices -/
def le_T (k l j : Nat) (ρ : Nat → Int) : Nat → Int := fun q => if q = l then ρ j else if q < k then ρ q else 0
theorem le_TT {k l j : Nat} (h : k ≤ j ∨ l = j) : lb_T (le_T k l j) := by
  refine ⟨fun c u v => ?_, fun a b => ?_⟩
  · funext q
    unfold le_T
    grind
  · have key : ∀ a : Option Nat, ∃ a' : Option Nat, ∀ q, le_T k l j (lb_d a) q = lb_d a' q := by
      intro a
      cases a with
      | none =>
        refine ⟨none, fun q => ?_⟩
        unfold le_T lb_d
        grind
      | some u =>
        refine ⟨if u = j then some l else if u < k ∧ u ≠ l then some u else none, fun q => ?_⟩
        unfold le_T lb_d
        grind
    obtain ⟨a', ha⟩ := key a
    obtain ⟨b', hb⟩ := key b
    refine ⟨a', b', ?_⟩
    funext q
    have h1 := ha q
    have h2 := hb q
    unfold lb_e
    rw [← h1, ← h2]
    unfold le_T
    grind
theorem le_rw (A : Nat → Nat → Int) {k l j r : Nat} {w : Int} (h : k ≤ j ∨ l = j) (hw : lb_W w (A r)) : lb_W (w + 1) (la_c (le_B A k) l (fun i => A i j) r) := by
  have hT : lb_W w (le_T k l j (A r)) := lb_WT (le_TT h) hw
  by_cases c : k ≤ r ∧ r ≠ l
  · have e : la_c (le_B A k) l (fun i => A i j) r = fun q => 1 * le_T k l j (A r) q + lb_e (some r) none q := by
      funext q
      unfold la_c le_B le_T lb_e lb_d
      grind
    rw [e]
    have := lb_Wa (c := 1) (by decide) hT (lb_W1 (some r) none)
    rw [Int.one_mul] at this
    exact this
  · have e : la_c (le_B A k) l (fun i => A i j) r = le_T k l j (A r) := by
      funext q
      unfold la_c le_B le_T
      grind
    rw [e]
    exact lb_Wm hT (by omega)
theorem le_bd {n e : Nat} (A : Nat → Nat → Int) {k l j : Nat} {w : Nat → Nat} (hl : l < n) (hj : j < n ∨ k ≤ j) (hw : ∀ r, r < n → lb_W (w r : Nat) (A r)) (ht : lb_t (fun r => w r + 1) n < 200) (he : lb_t (fun r => w r + 1) n + 33 * n ≤ 12 * e) : lb_b (la_D n (la_c (le_B A k) l (fun i => A i j))) ((2 ^ e : Nat) : Int) := by
  by_cases h : k ≤ j ∨ l = j
  · have hb := lb_D n (la_c (le_B A k) l (fun i => A i j)) (fun r => ((w r + 1 : Nat) : Int)) (fun r hr => ⟨Int.natCast_nonneg _, by
      rw [Int.natCast_add]
      exact le_rw A h (hw r hr)⟩)
    rw [lb_pq] at hb
    have := lb_q29 ht he
    exact ⟨by have := hb.1; omega, by have := hb.2; omega⟩
  · have : la_D n (la_c (le_B A k) l (fun i => A i j)) = 0 := by
      refine la_Dp _ (x := j) (y := l) (by omega) hl (fun q => h (Or.inr q.symm)) (fun i => ?_)
      rw [la_cx, la_cn (fun q => h (Or.inr q.symm))]
      unfold le_B
      rw [if_pos (by omega)]
    rw [this]
    have : (0 : Int) ≤ ((2 ^ e : Nat) : Int) := Int.natCast_nonneg _
    exact ⟨by omega, by omega⟩
