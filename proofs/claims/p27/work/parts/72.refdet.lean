/-! part 72: the reference: determinant -/
theorem ld_ker (n : Nat) (Q : Nat → Nat → Int) : ∀ (f k : Nat) (A : Nat → Nat → Int), f + k = n → la_D n (le_B A k) ≠ 0 → (∀ r, r < n → ∃ r', r' < n ∧ Q r = A r') → la_D n A = 0 → ∃ z : Nat → Int, (∃ q, q < n ∧ z q ≠ 0) ∧ ∀ r, r < n → la_s (fun l => Q r l * z l) n = 0
  | 0, k, A, hf, hp, hQ, h0 => by
    have : k = n := by omega
    subst this
    refine absurd ?_ hp
    rw [← h0]
    refine la_DE fun i j _ hj => ?_
    unfold le_B
    rw [if_pos hj]
  | f + 1, k, A, hf, hp, hQ, h0 => by
    have hk : k < n := by omega
    by_cases c : ∃ i, k ≤ i ∧ i < n ∧ la_D n (la_c (le_B A k) i (fun i => A i k)) ≠ 0
    · obtain ⟨i, h1, h2, h3⟩ := c
      refine ld_ker n Q f (k + 1) (fun r q => A (le_x i k r) q) (by omega) ?_ (fun r hr => ?_) ?_
      · have hkk : le_x i k k = i := by
          unfold le_x
          split
          · rename_i c
            exact c
          · rw [if_pos rfl]
        rw [← le_Bs, le_B2 A h2 hk h1 (Nat.le_refl k), hkk]
        exact h3
      · obtain ⟨r', q1, q2⟩ := hQ r hr
        refine ⟨le_x i k r', le_xl h2 hk q1, ?_⟩
        show Q r = A (le_x i k (le_x i k r'))
        rw [le_xx]
        exact q2
      · by_cases e : i = k
        · subst e
          simp only [le_x0]
          exact h0
        · rw [le_rs A h2 hk e, h0]
          rfl
    · refine ⟨fun l => if l = k then la_D n (le_B A k) else if l < k then -la_D n (la_c (le_B A k) l (fun i => A i k)) else 0, ⟨k, hk, ?_⟩, fun r hr => ?_⟩
      · show (if k = k then _ else _) ≠ _
        rw [if_pos rfl]
        exact hp
      · obtain ⟨r', q1, q2⟩ := hQ r hr
        rw [q2]
        refine le_ke A hk (fun i h1 h2 => ?_) r' q1
        by_cases d : la_D n (la_c (le_B A k) i (fun i => A i k)) = 0
        · exact d
        · exact absurd ⟨i, h1, h2, d⟩ c
theorem ld_ker0 {n : Nat} {Q : Nat → Nat → Int} (h : la_D n Q = 0) : ∃ z : Nat → Int, (∃ q, q < n ∧ z q ≠ 0) ∧ ∀ r, r < n → la_s (fun l => Q r l * z l) n = 0 :=
  ld_ker n Q n 0 Q rfl (by rw [le_I1]; decide) (fun r hr => ⟨r, hr, rfl⟩) h
/-- the numbers of a square -/
def Sq (n : Nat) (M : Nat → Int) (G : Nat → Nat → Int) : Prop := ∀ l j, l < n → j < n → M (n * l + j) = G l j
theorem sq_inj {n l j l' j' : Nat} (hj : j < n) (hj' : j' < n) (h : n * l + j = n * l' + j') : l = l' ∧ j = j' := by
  have h1 : (n * l + j) / n = l := by rw [Nat.mul_add_div (by omega), Nat.div_eq_of_lt hj, Nat.add_zero]
  have h2 : (n * l' + j') / n = l' := by rw [Nat.mul_add_div (by omega), Nat.div_eq_of_lt hj', Nat.add_zero]
  rw [h, h2] at h1
  subst h1
  exact ⟨rfl, by omega⟩
theorem Sq.up {n : Nat} {M : Nat → Int} {G : Nat → Nat → Int} (h : Sq n M G) {l j : Nat} (hl : l < n) (hj : j < n) (v : Int) : Sq n (va_up M (n * l + j) v) (fun a b => if a = l ∧ b = j then v else G a b) := by
  intro a b ha hb
  by_cases c : a = l ∧ b = j
  · rw [c.1, c.2, up_self]
    exact (if_pos ⟨rfl, rfl⟩).symm
  · rw [up_ne (fun e => c (sq_inj hb hj e)), h a b ha hb]
    exact (if_neg c).symm
theorem Sq.eq {n : Nat} {M : Nat → Int} {G G' : Nat → Nat → Int} (h : Sq n M G) (e : ∀ a b, a < n → b < n → G a b = G' a b) : Sq n M G' := fun a b ha hb => (h a b ha hb).trans (e a b ha hb)
theorem sq_lt {n l j : Nat} (hn : n ≤ 6) (hl : l < n) (hj : j < n) : n * l + j < n * n ∧ n * n ≤ 36 := by
  have h1 : n * (l + 1) ≤ n * n := Nat.mul_le_mul_left n hl
  have h2 : n * n ≤ 6 * 6 := Nat.mul_le_mul hn hn
  rw [Nat.mul_succ] at h1
  omega
theorem sq_ix {n l j : Nat} (hn : n ≤ 6) (hl : l < n) (hj : j < n) : Ix ((n : Int) * l + j) 36 ∧ ((n : Int) * l + j).toNat = n * l + j := by
  have h := sq_lt hn hl hj
  have e : (n : Int) * l + j = ((n * l + j : Nat) : Int) := by rw [Int.natCast_add, Int.natCast_mul]
  rw [e]
  exact ⟨⟨by omega, by omega, by omega⟩, by omega⟩
def Bd31 (x : Int) : Prop := lb_b x 2147483647
theorem bd31_m {a b c d : Int} (ha : Bd31 a) (hb : Bd31 b) (hc : Bd31 c) (hd : Bd31 d) : R6 (a * b - c * d) := by
  have h1 := mul_bd ha hb
  have h2 := mul_bd hc hd
  exact ⟨by omega, by omega⟩
theorem bd31_6 {a : Int} (h : Bd31 a) : R6 a := ⟨by have := h.1; omega, by have := h.2; omega⟩
/-- all the numbers of an elimination are small, whatever the order of its rows -/
def DOk (n : Nat) (Q : Nat → Nat → Int) : Prop := ∃ P : (Nat → Nat → Int) → Prop, P Q ∧ (∀ A x y, x < n → y < n → P A → P (fun r q => A (le_x x y r) q)) ∧ ∀ A, P A → ∀ k l j, l < n → j < n → Bd31 (la_D n (la_c (le_B A k) l (fun i => A i j)))
def detQ (R : Nat → Int) (col : Int) : Nat → Nat → Int := fun i c => if (c : Int) = col then R (7 * i + 6) else R (7 * i + c)
theorem x_kk (x k : Nat) : le_x x k k = x := by
  unfold le_x
  split
  · rename_i c
    exact c
  · rw [if_pos rfl]
