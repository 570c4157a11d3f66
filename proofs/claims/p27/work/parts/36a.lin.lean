/-! part 36a: determinants over the integers -/
def la_s (f : Nat → Int) : Nat → Int
  | 0 => 0
  | i + 1 => la_s f i + f i
theorem la_sE {f g : Nat → Int} : ∀ {n : Nat}, (∀ j, j < n → f j = g j) → la_s f n = la_s g n
  | 0, _ => rfl
  | n + 1, h => by
    unfold la_s
    rw [la_sE (fun j hj => h j (by omega)), h n (by omega)]
theorem la_s0 : ∀ {n : Nat} {f : Nat → Int}, (∀ j, j < n → f j = 0) → la_s f n = 0
  | 0, _, _ => rfl
  | n + 1, f, h => by
    unfold la_s
    rw [la_s0 (fun j hj => h j (by omega)), h n (by omega)]
    rfl
theorem la_sadd (f g : Nat → Int) : ∀ n, la_s (fun j => f j + g j) n = la_s f n + la_s g n
  | 0 => rfl
  | n + 1 => by
    unfold la_s
    rw [la_sadd f g n]
    omega
theorem la_smul (c : Int) (f : Nat → Int) : ∀ n, la_s (fun j => c * f j) n = c * la_s f n
  | 0 => (Int.mul_zero c).symm
  | n + 1 => by
    unfold la_s
    rw [la_smul c f n, Int.mul_add]
theorem la_s1 {f : Nat → Int} {k : Nat} : ∀ {n : Nat}, k < n → (∀ j, j < n → j ≠ k → f j = 0) → la_s f n = f k
  | 0, hk, _ => absurd hk (Nat.not_lt_zero k)
  | n + 1, hk, h => by
    unfold la_s
    by_cases e : k = n
    · subst e
      rw [la_s0 (fun j hj => h j (by omega) (by omega)), Int.zero_add]
    · rw [la_s1 (by omega) (fun j hj => h j (by omega)), h n (by omega) (fun q => e q.symm), Int.add_zero]
theorem la_sf (f : Nat → Int) : ∀ n, la_s f (n + 1) = f 0 + la_s (fun i => f (i + 1)) n
  | 0 => by
    show 0 + f 0 = f 0 + 0
    omega
  | n + 1 => by
    have h := la_sf f n
    show la_s f (n + 1) + f (n + 1) = f 0 + (la_s (fun i => f (i + 1)) n + f (n + 1))
    rw [h, Int.add_assoc]
theorem la_sc (F : Nat → Nat → Int) (m : Nat) : ∀ n, la_s (fun i => la_s (fun j => F i j) m) n = la_s (fun j => la_s (fun i => F i j) n) m
  | 0 => (la_s0 (fun _ _ => rfl)).symm
  | n + 1 => by
    show la_s (fun i => la_s (fun j => F i j) m) n + la_s (fun j => F n j) m = la_s (fun j => la_s (fun i => F i j) n + F n j) m
    rw [la_sadd, la_sc F m n]
theorem la_s2 {f : Nat → Int} {k : Nat} : ∀ {n : Nat}, k + 1 < n → (∀ j, j < n → j ≠ k → j ≠ k + 1 → f j = 0) → f k + f (k + 1) = 0 → la_s f n = 0
  | 0, hk, _, _ => absurd hk (Nat.not_lt_zero _)
  | n + 1, hk, h, e => by
    unfold la_s
    by_cases q : k + 1 = n
    · subst q
      unfold la_s
      rw [la_s0 (fun j hj => h j (by omega) (by omega) (by omega))]
      omega
    · rw [la_s2 (by omega) (fun j hj => h j (by omega)) e, h n (by omega) (by omega) (by omega)]
      rfl
def la_g (j : Nat) : Int := if j % 2 = 0 then 1 else -1
theorem la_gs (j : Nat) : la_g (j + 1) = -la_g j := by
  unfold la_g
  split <;> split <;> omega
theorem la_gg (j : Nat) : la_g j * la_g j = 1 := by
  unfold la_g
  split <;> decide
def la_k (j k : Nat) : Nat := if k < j then k else k + 1
def la_u (j x : Nat) : Nat := if j < x then x - 1 else x
theorem la_kj (j k : Nat) : la_k j k ≠ j := by
  unfold la_k
  split <;> omega
theorem la_ku {j x : Nat} (h : j ≠ x) (k : Nat) : la_k j k = x ↔ k = la_u j x := by
  unfold la_k la_u
  split <;> split <;> omega
theorem la_ul {j x n : Nat} (h : j ≠ x) (hj : j < n + 1) (hx : x < n + 1) : la_u j x < n := by
  unfold la_u
  split <;> omega
theorem la_kl {j k n : Nat} (hk : k < n) : la_k j k < n + 1 := by
  unfold la_k
  split <;> omega
def la_D : Nat → (Nat → Nat → Int) → Int
  | 0, _ => 1
  | n + 1, A => la_s (fun j => la_g j * A 0 j * la_D n (fun i k => A (i + 1) (la_k j k))) (n + 1)
theorem la_DE : ∀ {n : Nat} {A B : Nat → Nat → Int}, (∀ i j, i < n → j < n → A i j = B i j) → la_D n A = la_D n B
  | 0, _, _, _ => rfl
  | n + 1, A, B, h => by
    unfold la_D
    refine la_sE fun j hj => ?_
    rw [h 0 j (by omega) hj, la_DE (fun i k hi hk => h (i + 1) (la_k j k) (by omega) (la_kl hk))]
def la_c (A : Nat → Nat → Int) (x : Nat) (v : Nat → Int) : Nat → Nat → Int := fun i j => if j = x then v i else A i j
theorem la_cx (A : Nat → Nat → Int) (x : Nat) (v : Nat → Int) (i : Nat) : la_c A x v i x = v i := if_pos rfl
theorem la_cn {A : Nat → Nat → Int} {x j : Nat} {v : Nat → Int} (h : j ≠ x) (i : Nat) : la_c A x v i j = A i j := if_neg h
theorem la_m1 {A : Nat → Nat → Int} {x j : Nat} {v : Nat → Int} (h : j ≠ x) : (fun i k => la_c A x v (i + 1) (la_k j k)) = la_c (fun i k => A (i + 1) (la_k j k)) (la_u j x) (fun i => v (i + 1)) := by
  funext i k
  unfold la_c
  by_cases e : la_k j k = x
  · rw [if_pos e, if_pos ((la_ku h k).mp e)]
  · rw [if_neg e, if_neg (fun q => e ((la_ku h k).mpr q))]
theorem la_m2 {A : Nat → Nat → Int} {x : Nat} {v : Nat → Int} : (fun i k => la_c A x v (i + 1) (la_k x k)) = fun i k => A (i + 1) (la_k x k) := by
  funext i k
  exact if_neg (la_kj x k)
theorem la_Dl : ∀ {n : Nat} (A : Nat → Nat → Int) {x : Nat} (c : Int) (u v : Nat → Int), x < n → la_D n (la_c A x (fun i => c * u i + v i)) = c * la_D n (la_c A x u) + la_D n (la_c A x v)
  | 0, _, _, _, _, _, h => absurd h (Nat.not_lt_zero _)
  | n + 1, A, x, c, u, v, h => by
    unfold la_D
    rw [← la_smul, ← la_sadd]
    refine la_sE fun j hj => ?_
    by_cases e : j = x
    · subst e
      rw [la_m2, la_m2, la_m2, la_cx, la_cx, la_cx]
      grind
    · rw [la_m1 e, la_m1 e, la_m1 e, la_cn e, la_cn e, la_cn e, la_Dl (fun i k => A (i + 1) (la_k j k)) c _ _ (la_ul e hj h)]
      grind
theorem la_D0 {n : Nat} (A : Nat → Nat → Int) {x : Nat} (h : x < n) : la_D n (la_c A x (fun _ => 0)) = 0 := by
  have := la_Dl A 1 (fun _ => 0) (fun _ => 0) h
  simp only [Int.mul_zero, Int.add_zero, Int.one_mul] at this
  omega
theorem la_cc (A : Nat → Nat → Int) (x : Nat) : la_c A x (fun i => A i x) = A := by
  funext i j
  unfold la_c
  split
  · rename_i e
    rw [e]
  · rfl
theorem la_c2 (A : Nat → Nat → Int) (x : Nat) (u v : Nat → Int) : la_c (la_c A x u) x v = la_c A x v := by
  funext i j
  unfold la_c
  split <;> rfl
theorem la_c3 (A : Nat → Nat → Int) {x y : Nat} (h : x ≠ y) (u v : Nat → Int) : la_c (la_c A x u) y v = la_c (la_c A y v) x u := by
  funext i j
  unfold la_c
  by_cases e : j = y
  · rw [if_pos e, if_neg (by omega), if_pos e]
  · rw [if_neg e, if_neg e]
def la_w (A : Nat → Nat → Int) (x : Nat) : Nat → Nat → Int := fun i j => A i (if j = x then x + 1 else if j = x + 1 then x else j)
theorem la_Dw : ∀ {n : Nat} (A : Nat → Nat → Int) {x : Nat}, x + 1 < n → la_D n (la_w A x) = -la_D n A
  | 0, _, _, h => absurd h (Nat.not_lt_zero _)
  | n + 1, A, x, h => by
    have hm : ∀ j, j < n + 1 → j ≠ x → j ≠ x + 1 → la_D n (fun i k => la_w A x (i + 1) (la_k j k)) = -la_D n (fun i k => A (i + 1) (la_k j k)) := by
      intro j hj h1 h2
      rw [← la_Dw (fun i k => A (i + 1) (la_k j k)) (x := la_u j x) (by unfold la_u; split <;> omega)]
      refine la_DE fun i k _ _ => ?_
      unfold la_w la_k la_u
      refine congrArg (A (i + 1)) ?_
      grind
    have h1 : (fun i k => la_w A x (i + 1) (la_k x k)) = fun i k => A (i + 1) (la_k (x + 1) k) := by
      funext i k
      unfold la_w la_k
      refine congrArg (A (i + 1)) ?_
      grind
    have h2 : (fun i k => la_w A x (i + 1) (la_k (x + 1) k)) = fun i k => A (i + 1) (la_k x k) := by
      funext i k
      unfold la_w la_k
      refine congrArg (A (i + 1)) ?_
      grind
    have e : la_D (n + 1) (la_w A x) + la_D (n + 1) A = 0 := by
      unfold la_D
      rw [← la_sadd]
      refine la_s2 (k := x) h (fun j hj a b => ?_) ?_
      · rw [hm j hj a b, show la_w A x 0 j = A 0 j by unfold la_w; rw [if_neg a, if_neg b]]
        grind
      · rw [h1, h2, show la_w A x 0 x = A 0 (x + 1) by unfold la_w; rw [if_pos rfl], show la_w A x 0 (x + 1) = A 0 x by unfold la_w; rw [if_neg (by omega), if_pos rfl], la_gs]
        grind
    omega
theorem la_Dd : ∀ (d : Nat) {n : Nat} (A : Nat → Nat → Int) {x : Nat}, x + d + 1 < n → (∀ i, A i x = A i (x + d + 1)) → la_D n A = 0
  | 0, n, A, x, h, e => by
    have q := la_Dw A (x := x) h
    have : la_w A x = A := by
      funext i j
      unfold la_w
      split
      · rename_i c
        rw [c, e i]
      · split
        · rename_i c
          rw [c, e i]
        · rfl
    rw [this] at q
    omega
  | d + 1, n, A, x, h, e => by
    have q := la_Dw A (x := x + d + 1) h
    have := la_Dd d (n := n) (la_w A (x + d + 1)) (x := x) (by omega) (fun i => by
      unfold la_w
      rw [if_neg (by omega), if_neg (by omega), if_pos rfl, e i]
      rfl)
    omega
theorem la_Dp {n : Nat} (A : Nat → Nat → Int) {x y : Nat} (hx : x < n) (hy : y < n) (h : x ≠ y) (e : ∀ i, A i x = A i y) : la_D n A = 0 := by
  rcases Nat.lt_or_gt_of_ne h with q | q
  · refine la_Dd (y - x - 1) A (x := x) (by omega) (fun i => ?_)
    rw [e i, show x + (y - x - 1) + 1 = y by omega]
  · refine la_Dd (x - y - 1) A (x := y) (by omega) (fun i => ?_)
    rw [← e i, show y + (x - y - 1) + 1 = x by omega]
theorem la_Dp2 {n : Nat} (A : Nat → Nat → Int) {x y : Nat} (hx : x < n) (hy : y < n) (h : x ≠ y) (u : Nat → Int) : la_D n (la_c (la_c A x u) y u) = 0 :=
  la_Dp _ hx hy h (fun i => by rw [la_cx, la_cn h, la_cx])
theorem la_Dk {n : Nat} (A : Nat → Nat → Int) {x y : Nat} (hx : x < n) (hy : y < n) (h : x ≠ y) (c : Int) : la_D n (la_c A y (fun i => c * A i x + A i y)) = la_D n A := by
  rw [la_Dl A c _ _ hy, la_cc, la_Dp (la_c A y (fun i => A i x)) hx hy h (fun i => by rw [la_cx, la_cn h])]
  omega
theorem la_Ds {n : Nat} (A : Nat → Nat → Int) {x y : Nat} (hx : x < n) (hy : y < n) (h : x ≠ y) (u v : Nat → Int) : la_D n (la_c (la_c A x u) y v) = -la_D n (la_c (la_c A x v) y u) := by
  have e := la_Dp2 A hx hy h (fun i => 1 * u i + v i)
  rw [la_Dl _ 1 u v hy, la_c3 A h, la_c3 A h, la_Dl _ 1 u v hx, la_Dl _ 1 u v hx, ← la_c3 A h, ← la_c3 A h, ← la_c3 A h, ← la_c3 A h, la_Dp2 A hx hy h u, la_Dp2 A hx hy h v] at e
  omega
theorem la_Dt : ∀ (n : Nat) (A : Nat → Nat → Int), la_D n A = la_D n (fun i j => A j i)
  | 0, _ => rfl
  | 1, A => rfl
  | n + 2, A => by
    have ex : ∀ B : Nat → Nat → Int, la_D (n + 2) B = B 0 0 * la_D (n + 1) (fun i k => B (i + 1) (k + 1)) + la_s (fun j => la_s (fun i => la_g (j + 1) * B 0 (j + 1) * (la_g i * B (i + 1) 0 * la_D n (fun a b => B (la_k i b + 1) (la_k j a + 1)))) (n + 1)) (n + 1) := by
      intro B
      show la_s _ (n + 1 + 1) = _
      rw [la_sf]
      refine congr (congrArg HAdd.hAdd ?_) (la_sE fun j hj => ?_)
      · show 1 * B 0 0 * _ = _
        rw [Int.one_mul]
        rfl
      · rw [la_smul]
        refine congrArg _ ?_
        rw [la_Dt (n + 1)]
        show la_s _ (n + 1) = _
        refine la_sE fun i hi => ?_
        refine congr (congrArg _ ?_) ?_
        · rfl
        · refine la_DE fun a b _ _ => ?_
          show B (la_k i b + 1) (la_k (j + 1) (a + 1)) = B (la_k i b + 1) (la_k j a + 1)
          refine congrArg _ ?_
          unfold la_k
          grind
    rw [ex A, ex (fun i j => A j i), la_Dt (n + 1) (fun i k => A (i + 1) (k + 1)), la_sc]
    refine congrArg _ (la_sE fun i hi => la_sE fun j hj => ?_)
    rw [la_Dt n, la_gs, la_gs]
    grind
/-- rows -/
def la_r (A : Nat → Nat → Int) (x : Nat) (v : Nat → Int) : Nat → Nat → Int := fun i j => if i = x then v j else A i j
theorem la_rp {n : Nat} (A : Nat → Nat → Int) {x y : Nat} (hx : x < n) (hy : y < n) (h : x ≠ y) (e : ∀ j, A x j = A y j) : la_D n A = 0 := by
  rw [la_Dt]
  exact la_Dp _ hx hy h e
theorem la_rs {n : Nat} (A : Nat → Nat → Int) {x y : Nat} (hx : x < n) (hy : y < n) (h : x ≠ y) (u v : Nat → Int) : la_D n (la_r (la_r A x u) y v) = -la_D n (la_r (la_r A x v) y u) := by
  rw [la_Dt, la_Dt n (la_r (la_r A x v) y u)]
  exact la_Ds (fun i j => A j i) hx hy h u v
/-- a column moved to the front -/
def la_mv (B : Nat → Nat → Int) (c : Nat → Int) (p j : Nat) : Nat → Nat → Int := fun i k => if k < p then B i k else if k = p then c i else if k ≤ j then B i (k - 1) else B i k
theorem la_mvD {n : Nat} (B : Nat → Nat → Int) (c : Nat → Int) {j : Nat} (hj : j < n) : ∀ (d p : Nat), p + d = j → la_D n (la_mv B c p j) = la_g d * la_D n (la_c B j c)
  | 0, p, e => by
    have : p = j := by omega
    subst this
    show _ = 1 * _
    rw [Int.one_mul]
    refine la_DE fun i k _ _ => ?_
    unfold la_mv la_c
    grind
  | d + 1, p, e => by
    have q := la_Dw (la_mv B c p j) (x := p) (n := n) (by omega)
    have : la_w (la_mv B c p j) p = la_mv B c (p + 1) j := by
      funext i k
      unfold la_w la_mv
      grind
    rw [this, la_mvD B c hj d (p + 1) (by omega)] at q
    rw [la_gs]
    grind
theorem la_cr {n : Nat} (B : Nat → Nat → Int) (c : Nat → Int) {s : Nat} (hs : s < n) : la_s (fun i => B s i * la_D n (la_c B i c)) n = la_D n B * c s := by
  have z := la_rp (n := n + 1) (fun i j => match i, j with
    | 0, 0 => c s
    | 0, j + 1 => B s j
    | i + 1, 0 => c i
    | i + 1, j + 1 => B i j) (x := 0) (y := s + 1) (by omega) (by omega) (by omega) (fun j => by cases j <;> rfl)
  unfold la_D at z
  rw [la_sf] at z
  have e1 : la_s (fun j => la_g (j + 1) * B s j * la_D n (la_mv B c 0 j)) n = -la_s (fun i => B s i * la_D n (la_c B i c)) n := by
    rw [show -la_s (fun i => B s i * la_D n (la_c B i c)) n = (-1) * la_s (fun i => B s i * la_D n (la_c B i c)) n by omega, ← la_smul]
    refine la_sE fun j hj => ?_
    rw [la_mvD B c hj j 0 (by omega), la_gs]
    have := la_gg j
    grind
  have e2 : ∀ j, la_D n (la_mv B c 0 j) = la_D n (fun i k => match i + 1, la_k (j + 1) k with
    | 0, 0 => c s
    | 0, j + 1 => B s j
    | i + 1, 0 => c i
    | i + 1, j + 1 => B i j) := by
    intro j
    refine la_DE fun i k _ _ => ?_
    unfold la_mv la_k
    cases k with
    | zero => rfl
    | succ k =>
      rw [if_neg (by omega), if_neg (by omega)]
      by_cases q : k + 1 ≤ j
      · rw [if_pos q, if_pos (by omega)]
        rfl
      · rw [if_neg q, if_neg (by omega)]
  simp only [e2] at e1
  have e3 : la_D n (fun i k => match i + 1, la_k 0 k with
    | 0, 0 => c s
    | 0, j + 1 => B s j
    | i + 1, 0 => c i
    | i + 1, j + 1 => B i j) = la_D n B := rfl
  rw [e3] at z
  have e4 := z.symm.trans (congrArg (fun t => la_g 0 * c s * la_D n B + t) e1)
  have : la_g 0 = 1 := rfl
  rw [this] at e4
  grind
theorem la_DS {n : Nat} (A : Nat → Nat → Int) {x : Nat} (hx : x < n) (d : Nat → Int) (F : Nat → Nat → Int) : ∀ m, la_D n (la_c A x (fun i => la_s (fun j => d j * F i j) m)) = la_s (fun j => d j * la_D n (la_c A x (fun i => F i j))) m
  | 0 => la_D0 A hx
  | m + 1 => by
    have e : (fun i => la_s (fun j => d j * F i j) (m + 1)) = fun i => d m * F i m + la_s (fun j => d j * F i j) m := by
      funext i
      exact Int.add_comm _ _
    rw [e, la_Dl A _ _ _ hx, la_DS A hx d F m]
    exact Int.add_comm _ _
theorem la_ci {n : Nat} {A : Nat → Nat → Int} {x : Nat} {u v : Nat → Int} (h : ∀ i, i < n → u i = v i) : la_D n (la_c A x u) = la_D n (la_c A x v) := by
  refine la_DE fun i j hi _ => ?_
  unfold la_c
  rw [h i hi]
/-- the step of the elimination -/
theorem la_pl {n : Nat} (B : Nat → Nat → Int) (a c : Nat → Int) {k l : Nat} (hk : k < n) (hl : l < n) (h : k ≠ l) : la_D n (la_c B k a) * la_D n (la_c B l c) - la_D n (la_c B l a) * la_D n (la_c B k c) = la_D n B * la_D n (la_c (la_c B k a) l c) := by
  have e1 : la_D n (la_c (la_c B k a) l (fun i => la_D n B * c i + 0)) = la_D n B * la_D n (la_c (la_c B k a) l c) + 0 := by
    have := la_Dl (la_c B k a) (la_D n B) c (fun _ => 0) hl
    rw [la_D0 _ hl] at this
    exact this
  have e2 : la_D n (la_c (la_c B k a) l (fun i => la_D n B * c i + 0)) = la_D n (la_c (la_c B k a) l (fun s => la_s (fun i => la_D n (la_c B i c) * B s i) n)) := by
    refine la_ci fun s hs => ?_
    rw [Int.add_zero, ← la_cr B c hs]
    exact la_sE fun j _ => Int.mul_comm _ _
  rw [la_DS _ hl] at e2
  have e3 : la_s (fun j => la_D n (la_c B j c) * la_D n (la_c (la_c B k a) l (fun i => B i j))) n = la_D n (la_c B k a) * la_D n (la_c B l c) - la_D n (la_c B l a) * la_D n (la_c B k c) := by
    have f : ∀ j, j < n → la_D n (la_c B j c) * la_D n (la_c (la_c B k a) l (fun i => B i j)) = (if j = l then la_D n (la_c B k a) * la_D n (la_c B l c) else 0) + (if j = k then -(la_D n (la_c B l a) * la_D n (la_c B k c)) else 0) := by
      intro j hj
      by_cases q : j = l
      · subst q
        rw [if_pos rfl, if_neg (Ne.symm h), la_c3 B h, la_cc]
        grind
      · rw [if_neg q]
        by_cases r : j = k
        · subst r
          rw [if_pos rfl, la_Ds B hj hl h, la_cc]
          grind
        · rw [if_neg r, la_Dp (la_c (la_c B k a) l (fun i => B i j)) hj hl q (fun i => by rw [la_cx, la_cn q, la_cn r])]
          omega
    rw [la_sE f, la_sadd, la_s1 hl (fun j _ q => if_neg q), la_s1 hk (fun j _ q => if_neg q), if_pos rfl, if_pos rfl]
    omega
  rw [e3, e1] at e2
  omega
/-- the kernel -/
theorem la_ke {n : Nat} (B : Nat → Nat → Int) (z b : Nat → Int) (h : ∀ s, s < n → la_s (fun j => B s j * z j) n = b s) {c : Nat} (hc : c < n) : la_D n B * z c = la_D n (la_c B c b) := by
  have e : la_D n (la_c B c b) = la_D n (la_c B c (fun s => la_s (fun j => z j * B s j) n)) := by
    refine la_ci fun s hs => ?_
    rw [← h s hs]
    exact la_sE fun j _ => Int.mul_comm _ _
  rw [e, la_DS B hc, la_s1 hc (fun j hj q => by
    rw [la_Dp (la_c B c (fun i => B i j)) hj hc q (fun i => by rw [la_cx, la_cn q]), Int.mul_zero]), la_cc]
  exact Int.mul_comm _ _
theorem la_kn {n : Nat} (B : Nat → Nat → Int) (z : Nat → Int) (h : ∀ s, s < n → la_s (fun j => B s j * z j) n = 0) {c : Nat} (hc : c < n) : la_D n B * z c = 0 := by
  rw [la_ke B z (fun _ => 0) h hc, la_D0 B hc]
