/-! part 72: the reference: determinant -/
theorem ld_ker (n : Nat) (Q : Nat → Nat → Int) : ∀ (f k : Nat) (A : Nat → Nat → Int), f + k = n → la_D n (le_B A k) ≠ 0 → (∀ r, r < n → ∃ r', r' < n ∧ Q r = A r') → la_D n A = 0 → ∃ z : Nat → Int, (∃ q, q < n ∧ z q ≠ 0) ∧ ∀ r, r < n → la_s (fun l => Q r l * z l) n = 0
  | 0, k, A, hf, hp, hQ, h0 => by
    have : k = n := by omega
    subst this
    refine absurd ?_ hp
    rw [← h0]
    refine la_DE fun i j _ hj => ?_
    unfold le_B
    rw [if_pos hj]
  | f + 1, k, A, hf, hp, hQ, h0 => by
    have hk : k < n := by omega
    by_cases c : ∃ i, k ≤ i ∧ i < n ∧ la_D n (la_c (le_B A k) i (fun i => A i k)) ≠ 0
    · obtain ⟨i, h1, h2, h3⟩ := c
      refine ld_ker n Q f (k + 1) (fun r q => A (le_x i k r) q) (by omega) ?_ (fun r hr => ?_) ?_
      · have hkk : le_x i k k = i := by
          unfold le_x
          split
          · rename_i c
            exact c
          · rw [if_pos rfl]
        rw [← le_Bs, le_B2 A h2 hk h1 (Nat.le_refl k), hkk]
        exact h3
      · obtain ⟨r', q1, q2⟩ := hQ r hr
        refine ⟨le_x i k r', le_xl h2 hk q1, ?_⟩
        show Q r = A (le_x i k (le_x i k r'))
        rw [le_xx]
        exact q2
      · by_cases e : i = k
        · subst e
          simp only [le_x0]
          exact h0
        · rw [le_rs A h2 hk e, h0]
          rfl
    · refine ⟨fun l => if l = k then la_D n (le_B A k) else if l < k then -la_D n (la_c (le_B A k) l (fun i => A i k)) else 0, ⟨k, hk, ?_⟩, fun r hr => ?_⟩
      · show (if k = k then _ else _) ≠ _
        rw [if_pos rfl]
        exact hp
      · obtain ⟨r', q1, q2⟩ := hQ r hr
        rw [q2]
        refine le_ke A hk (fun i h1 h2 => ?_) r' q1
        by_cases d : la_D n (la_c (le_B A k) i (fun i => A i k)) = 0
        · exact d
        · exact absurd ⟨i, h1, h2, d⟩ c
theorem ld_ker0 {n : Nat} {Q : Nat → Nat → Int} (h : la_D n Q = 0) : ∃ z : Nat → Int, (∃ q, q < n ∧ z q ≠ 0) ∧ ∀ r, r < n → la_s (fun l => Q r l * z l) n = 0 :=
  ld_ker n Q n 0 Q rfl (by rw [le_I1]; decide) (fun r hr => ⟨r, hr, rfl⟩) h
/-- the numbers of a square -/
def Sq (n : Nat) (M : Nat → Int) (G : Nat → Nat → Int) : Prop := ∀ l j, l < n → j < n → M (n * l + j) = G l j
theorem sq_inj {n l j l' j' : Nat} (hj : j < n) (hj' : j' < n) (h : n * l + j = n * l' + j') : l = l' ∧ j = j' := by
  have h1 : (n * l + j) / n = l := by rw [Nat.mul_add_div (by omega), Nat.div_eq_of_lt hj, Nat.add_zero]
  have h2 : (n * l' + j') / n = l' := by rw [Nat.mul_add_div (by omega), Nat.div_eq_of_lt hj', Nat.add_zero]
  rw [h, h2] at h1
  subst h1
  exact ⟨rfl, by omega⟩
theorem Sq.up {n : Nat} {M : Nat → Int} {G : Nat → Nat → Int} (h : Sq n M G) {l j : Nat} (hl : l < n) (hj : j < n) (v : Int) : Sq n (va_up M (n * l + j) v) (fun a b => if a = l ∧ b = j then v else G a b) := by
  intro a b ha hb
  by_cases c : a = l ∧ b = j
  · rw [c.1, c.2, up_self]
    exact (if_pos ⟨rfl, rfl⟩).symm
  · rw [up_ne (fun e => c (sq_inj hb hj e)), h a b ha hb]
    exact (if_neg c).symm
theorem Sq.eq {n : Nat} {M : Nat → Int} {G G' : Nat → Nat → Int} (h : Sq n M G) (e : ∀ a b, a < n → b < n → G a b = G' a b) : Sq n M G' := fun a b ha hb => (h a b ha hb).trans (e a b ha hb)
theorem sq_lt {n l j : Nat} (hn : n ≤ 6) (hl : l < n) (hj : j < n) : n * l + j < n * n ∧ n * n ≤ 36 := by
  have h1 : n * (l + 1) ≤ n * n := Nat.mul_le_mul_left n hl
  have h2 : n * n ≤ 6 * 6 := Nat.mul_le_mul hn hn
  rw [Nat.mul_succ] at h1
  omega
theorem sq_ix {n l j : Nat} (hn : n ≤ 6) (hl : l < n) (hj : j < n) : Ix ((n : Int) * l + j) 36 ∧ ((n : Int) * l + j).toNat = n * l + j := by
  have h := sq_lt hn hl hj
  have e : (n : Int) * l + j = ((n * l + j : Nat) : Int) := by rw [Int.natCast_add, Int.natCast_mul]
  rw [e]
  exact ⟨⟨by omega, by omega, by omega⟩, by omega⟩
def Bd31 (x : Int) : Prop := lb_b x 2147483647
theorem bd31_m {a b c d : Int} (ha : Bd31 a) (hb : Bd31 b) (hc : Bd31 c) (hd : Bd31 d) : R6 (a * b - c * d) := by
  have h1 := mul_bd ha hb
  have h2 := mul_bd hc hd
  exact ⟨by omega, by omega⟩
theorem bd31_6 {a : Int} (h : Bd31 a) : R6 a := ⟨by have := h.1; omega, by have := h.2; omega⟩
/-- all the numbers of an elimination are small, whatever the order of its rows -/
def DOk (n : Nat) (Q : Nat → Nat → Int) : Prop := ∃ P : (Nat → Nat → Int) → Prop, P Q ∧ (∀ A x y, x < n → y < n → P A → P (fun r q => A (le_x x y r) q)) ∧ ∀ A, P A → ∀ k l j, l < n → j < n → Bd31 (la_D n (la_c (le_B A k) l (fun i => A i j)))
def detQ (R : Nat → Int) (col : Int) : Nat → Nat → Int := fun i c => if (c : Int) = col then R (7 * i + 6) else R (7 * i + c)
theorem x_kk (x k : Nat) : le_x x k k = x := by
  unfold le_x
  split
  · rename_i c
    exact c
  · rw [if_pos rfl]
set_option maxHeartbeats 4000000 in
set_option maxRecDepth 100000 in
theorem sX7_determinant_0 {X : Xt} {n : Nat} {h : HP} {a0 : Nat} {x1 : Int} {fs1 : List Value} {iv2 : Int} (hc : Cx X cX7_determinant RX7 11 0 0) {K : KT} (hr : CxR X (some .long) K) (e1 : At h n a0 (.inl (7, fs1))) (z1 : fs1.length = 24) (v1_9 : fs1[9]? = some (.int (i3 iv2)))
    (P : Ok X 0 0 7 [(0, .ref a0), (1, .int (i3 x1)), (2, .int (i3 iv2)), (3, .int (i3 0))] [] n h) :
    Ok X 0 0 0 [(0, .ref a0), (1, .int (i3 x1))] [] n h := by
  refine ok_aload_n (pc := 0) hc dX7_determinant_0 rfl 0 rfl ?_
  refine ok_get (pc := 1) hc fl_X7_79 dX7_determinant_1 e1.1 e1.2 v1_9 ?_
  refine ok_istore_n (pc := 4) hc (lv' := [(2, .int (i3 iv2)), (0, .ref a0), (1, .int (i3 x1))]) dX7_determinant_4 rfl (by decide) rfl ?_
  refine ok_iconst (pc := 5) hc (v := i3 0) dX7_determinant_5 (by decide) ?_
  refine ok_istore_n (pc := 6) hc (lv' := [(3, .int (i3 0)), (2, .int (i3 iv2)), (0, .ref a0), (1, .int (i3 x1))]) dX7_determinant_6 rfl (by decide) rfl ?_
  refine ok_lv [2, 3, 1, 0] rfl ?_
  exact P

set_option maxHeartbeats 4000000 in
set_option maxRecDepth 100000 in
theorem sX7_determinant_7 {X : Xt} {n : Nat} {h : HP} {a0 : Nat} {x1 : Int} {x2 : Int} {x3 : Int} (hc : Cx X cX7_determinant RX7 11 0 0) {K : KT} (hr : CxR X (some .long) K) 
    (P : (R3 x3) ∧ (R3 (x2 * x2)) ∧ ((x2 * x2) ≤ x3 → Ok X 0 0 53 [(0, .ref a0), (1, .int (i3 x1)), (2, .int (i3 x2)), (3, .int (i3 x3))] [] n h) ∧ (¬ (x2 * x2) ≤ x3 → Ok X 0 0 14 [(0, .ref a0), (1, .int (i3 x1)), (2, .int (i3 x2)), (3, .int (i3 x3))] [] n h)) :
    Ok X 0 0 7 [(0, .ref a0), (1, .int (i3 x1)), (2, .int (i3 x2)), (3, .int (i3 x3))] [] n h := by
  refine ok_iload_n (pc := 7) hc dX7_determinant_7 rfl 3 rfl ?_
  refine ok_iload_n (pc := 8) hc dX7_determinant_8 rfl 2 rfl ?_
  refine ok_iload_n (pc := 9) hc dX7_determinant_9 rfl 2 rfl ?_
  refine zk_imul (pc := 10) hc dX7_determinant_10 ?_
  obtain ⟨r1, P⟩ := P
  obtain ⟨r2, P⟩ := P
  refine zk_icmp_ge (pc := 11) (tgt := 53) hc dX7_determinant_11 (by decide) r1 r2 (fun c => ?_) (fun c => ?_)
  · have P := P.1 c
    exact P
  · have P := P.2 c
    exact P

set_option maxHeartbeats 4000000 in
set_option maxRecDepth 100000 in
theorem sX7_determinant_14 {X : Xt} {n : Nat} {h : HP} {a0 : Nat} {x1 : Int} {x2 : Int} {x3 : Int} {fs1 : List Value} {q2 : Nat} {q3 : Nat} {len6 : Nat} {f6 : Nat → Int} {len7 : Nat} {f7 : Nat → Int} (hc : Cx X cX7_determinant RX7 11 0 0) {K : KT} (hr : CxR X (some .long) K) (e1 : At h n a0 (.inl (7, fs1))) (z1 : fs1.length = 24) (v1_13 : fs1[13]? = some (.ref q2)) (v1_11 : fs1[11]? = some (.ref q3)) (e6 : At h n q3 (al len6 f6)) (e7 : At h n q2 (al len7 f7))
    (P : (((0 : Int) ≤ x3 ∧ x3 ≤ 2147483647) ∧ (0 : Int) < x2 ∧ (x2 : Int) ≤ 2147483647) ∧ (((0 : Int) ≤ x3 ∧ x3 ≤ 2147483647) ∧ (0 : Int) < x2 ∧ (x2 : Int) ≤ 2147483647) ∧ (R3 (x3 % x2)) ∧ (R3 x1) ∧ (¬ (x3 % x2) = x1 → (((0 : Int) ≤ x3 ∧ x3 ≤ 2147483647) ∧ (0 : Int) < x2 ∧ (x2 : Int) ≤ 2147483647) ∧ (Ix ((7 * (x3 / x2)) + (x3 % x2)) len6) ∧ (Ix x3 len7) ∧ Ok X 0 0 7 [(0, .ref a0), (1, .int (i3 x1)), (2, .int (i3 x2)), (3, .int (i3 (x3 + 1)))] [] n (va_up h q2 (al len7 (va_up f7 (x3 : Int).toNat (f6 (((7 * (x3 / x2)) + (x3 % x2)) : Int).toNat))))) ∧ ((x3 % x2) = x1 → (Ix ((7 * (x3 / x2)) + 6) len6) ∧ (Ix x3 len7) ∧ Ok X 0 0 7 [(0, .ref a0), (1, .int (i3 x1)), (2, .int (i3 x2)), (3, .int (i3 (x3 + 1)))] [] n (va_up h q2 (al len7 (va_up f7 (x3 : Int).toNat (f6 (((7 * (x3 / x2)) + 6) : Int).toNat)))))) :
    Ok X 0 0 14 [(0, .ref a0), (1, .int (i3 x1)), (2, .int (i3 x2)), (3, .int (i3 x3))] [] n h := by
  refine ok_aload_n (pc := 14) hc dX7_determinant_14 rfl 0 rfl ?_
  refine ok_get (pc := 15) hc fl_X7_32 dX7_determinant_15 e1.1 e1.2 v1_13 ?_
  refine ok_iload_n (pc := 18) hc dX7_determinant_18 rfl 3 rfl ?_
  refine ok_aload_n (pc := 19) hc dX7_determinant_19 rfl 0 rfl ?_
  refine ok_get (pc := 20) hc fl_X7_28 dX7_determinant_20 e1.1 e1.2 v1_11 ?_
  refine ok_bipush (pc := 23) hc (v := i3 7) dX7_determinant_23 (by decide) ?_
  refine ok_iload_n (pc := 25) hc dX7_determinant_25 rfl 3 rfl ?_
  refine ok_iload_n (pc := 26) hc dX7_determinant_26 rfl 2 rfl ?_
  obtain ⟨r, P⟩ := P
  refine zk_idiv (pc := 27) hc dX7_determinant_27 r ?_
  refine zk_imul (pc := 28) hc dX7_determinant_28 ?_
  refine ok_iload_n (pc := 29) hc dX7_determinant_29 rfl 3 rfl ?_
  refine ok_iload_n (pc := 30) hc dX7_determinant_30 rfl 2 rfl ?_
  obtain ⟨r, P⟩ := P
  refine zk_irem (pc := 31) hc dX7_determinant_31 r ?_
  refine ok_iload_n (pc := 32) hc dX7_determinant_32 rfl 1 rfl ?_
  obtain ⟨r4, P⟩ := P
  obtain ⟨r5, P⟩ := P
  refine zk_icmp_ne (pc := 33) (tgt := 41) hc dX7_determinant_33 (by decide) r4 r5 (fun c => ?_) (fun c => ?_)
  · have P := P.1 c
    refine ok_iload_n (pc := 41) hc dX7_determinant_41 rfl 3 rfl ?_
    refine ok_iload_n (pc := 42) hc dX7_determinant_42 rfl 2 rfl ?_
    obtain ⟨r, P⟩ := P
    refine zk_irem (pc := 43) hc dX7_determinant_43 r ?_
    refine zk_iadd (pc := 44) hc dX7_determinant_44 ?_
    obtain ⟨r, P⟩ := P
    refine zk_lald (pc := 45) hc dX7_determinant_45 e6.1 e6.2 r ?_
    obtain ⟨r, P⟩ := P
    refine zk_last (pc := 46) hc dX7_determinant_46 e7.1 e7.2 r ?_
    refine zk_iinc (pc := 47) hc (q := 3) (x := x3) (lv' := [(3, .int (i3 (x3 + 1))), (0, .ref a0), (1, .int (i3 x1)), (2, .int (i3 x2))]) dX7_determinant_47 rfl (by decide) rfl ?_
    refine ok_goto (pc := 50) (tgt := 7) hc dX7_determinant_50 (by decide) ?_
    refine ok_lv [1, 2, 3, 0] rfl ?_
    exact P
  · have P := P.2 c
    refine ok_bipush (pc := 36) hc (v := i3 6) dX7_determinant_36 (by decide) ?_
    refine ok_goto (pc := 38) (tgt := 44) hc dX7_determinant_38 (by decide) ?_
    refine zk_iadd (pc := 44) hc dX7_determinant_44 ?_
    obtain ⟨r, P⟩ := P
    refine zk_lald (pc := 45) hc dX7_determinant_45 e6.1 e6.2 r ?_
    obtain ⟨r, P⟩ := P
    refine zk_last (pc := 46) hc dX7_determinant_46 e7.1 e7.2 r ?_
    refine zk_iinc (pc := 47) hc (q := 3) (x := x3) (lv' := [(3, .int (i3 (x3 + 1))), (0, .ref a0), (1, .int (i3 x1)), (2, .int (i3 x2))]) dX7_determinant_47 rfl (by decide) rfl ?_
    refine ok_goto (pc := 50) (tgt := 7) hc dX7_determinant_50 (by decide) ?_
    refine ok_lv [1, 2, 3, 0] rfl ?_
    exact P

set_option maxHeartbeats 4000000 in
set_option maxRecDepth 100000 in
theorem sX7_determinant_53 {X : Xt} {n : Nat} {h : HP} {a0 : Nat} {x1 : Int} {x2 : Int} {x3 : Int} (hc : Cx X cX7_determinant RX7 11 0 0) {K : KT} (hr : CxR X (some .long) K) 
    (P : Ok X 0 0 61 [(0, .ref a0), (1, .int (i3 x1)), (2, .int (i3 x2)), (3, .long (i6 1)), (5, .int (i3 1)), (6, .int (i3 0))] [] n h) :
    Ok X 0 0 53 [(0, .ref a0), (1, .int (i3 x1)), (2, .int (i3 x2)), (3, .int (i3 x3))] [] n h := by
  refine ok_lconst (pc := 53) hc (v := i6 1) dX7_determinant_53 (by decide) ?_
  refine ok_lstore_n (pc := 54) hc (lv' := [(3, .long (i6 1)), (0, .ref a0), (1, .int (i3 x1)), (2, .int (i3 x2))]) dX7_determinant_54 rfl (by decide) rfl ?_
  refine ok_iconst (pc := 55) hc (v := i3 1) dX7_determinant_55 (by decide) ?_
  refine ok_istore (pc := 56) hc (lv' := [(5, .int (i3 1)), (3, .long (i6 1)), (0, .ref a0), (1, .int (i3 x1)), (2, .int (i3 x2))]) dX7_determinant_56 (by decide) rfl ?_
  refine ok_iconst (pc := 58) hc (v := i3 0) dX7_determinant_58 (by decide) ?_
  refine ok_istore (pc := 59) hc (lv' := [(6, .int (i3 0)), (5, .int (i3 1)), (3, .long (i6 1)), (0, .ref a0), (1, .int (i3 x1)), (2, .int (i3 x2))]) dX7_determinant_59 (by decide) rfl ?_
  refine ok_lv [3, 4, 5, 2, 1, 0] rfl ?_
  exact P

set_option maxHeartbeats 4000000 in
set_option maxRecDepth 100000 in
theorem sX7_determinant_61 {X : Xt} {n : Nat} {h : HP} {a0 : Nat} {x1 : Int} {x2 : Int} {l3 : Int} {x5 : Int} {x6 : Int} (hc : Cx X cX7_determinant RX7 11 0 0) {K : KT} (hr : CxR X (some .long) K) 
    (P : (R3 x6) ∧ (R3 x2) ∧ (x2 ≤ x6 → Ok X 0 0 312 [(0, .ref a0), (1, .int (i3 x1)), (2, .int (i3 x2)), (3, .long (i6 l3)), (5, .int (i3 x5)), (6, .int (i3 x6))] [] n h) ∧ (¬ x2 ≤ x6 → Ok X 0 0 67 [(0, .ref a0), (1, .int (i3 x1)), (2, .int (i3 x2)), (3, .long (i6 l3)), (5, .int (i3 x5)), (6, .int (i3 x6))] [] n h)) :
    Ok X 0 0 61 [(0, .ref a0), (1, .int (i3 x1)), (2, .int (i3 x2)), (3, .long (i6 l3)), (5, .int (i3 x5)), (6, .int (i3 x6))] [] n h := by
  refine ok_iload (pc := 61) hc dX7_determinant_61 5 rfl ?_
  refine ok_iload_n (pc := 63) hc dX7_determinant_63 rfl 2 rfl ?_
  obtain ⟨r1, P⟩ := P
  obtain ⟨r2, P⟩ := P
  refine zk_icmp_ge (pc := 64) (tgt := 312) hc dX7_determinant_64 (by decide) r1 r2 (fun c => ?_) (fun c => ?_)
  · have P := P.1 c
    exact P
  · have P := P.2 c
    exact P

set_option maxHeartbeats 4000000 in
set_option maxRecDepth 100000 in
theorem sX7_determinant_67 {X : Xt} {n : Nat} {h : HP} {a0 : Nat} {x1 : Int} {x2 : Int} {l3 : Int} {x5 : Int} {x6 : Int} (hc : Cx X cX7_determinant RX7 11 0 0) {K : KT} (hr : CxR X (some .long) K) 
    (P : Ok X 0 0 71 [(0, .ref a0), (1, .int (i3 x1)), (2, .int (i3 x2)), (3, .long (i6 l3)), (5, .int (i3 x5)), (6, .int (i3 x6)), (7, .int (i3 x6))] [] n h) :
    Ok X 0 0 67 [(0, .ref a0), (1, .int (i3 x1)), (2, .int (i3 x2)), (3, .long (i6 l3)), (5, .int (i3 x5)), (6, .int (i3 x6))] [] n h := by
  refine ok_iload (pc := 67) hc dX7_determinant_67 5 rfl ?_
  refine ok_istore (pc := 69) hc (lv' := [(7, .int (i3 x6)), (0, .ref a0), (1, .int (i3 x1)), (2, .int (i3 x2)), (3, .long (i6 l3)), (5, .int (i3 x5)), (6, .int (i3 x6))]) dX7_determinant_69 (by decide) rfl ?_
  refine ok_lv [1, 2, 3, 4, 5, 6, 0] rfl ?_
  exact P

set_option maxHeartbeats 4000000 in
set_option maxRecDepth 100000 in
theorem sX7_determinant_71 {X : Xt} {n : Nat} {h : HP} {a0 : Nat} {x1 : Int} {x2 : Int} {l3 : Int} {x5 : Int} {x6 : Int} {x7 : Int} (hc : Cx X cX7_determinant RX7 11 0 0) {K : KT} (hr : CxR X (some .long) K) 
    (P : (R3 x7) ∧ (R3 x2) ∧ (x2 ≤ x7 → Ok X 0 0 100 [(0, .ref a0), (1, .int (i3 x1)), (2, .int (i3 x2)), (3, .long (i6 l3)), (5, .int (i3 x5)), (6, .int (i3 x6)), (7, .int (i3 x7))] [] n h) ∧ (¬ x2 ≤ x7 → Ok X 0 0 77 [(0, .ref a0), (1, .int (i3 x1)), (2, .int (i3 x2)), (3, .long (i6 l3)), (5, .int (i3 x5)), (6, .int (i3 x6)), (7, .int (i3 x7))] [] n h)) :
    Ok X 0 0 71 [(0, .ref a0), (1, .int (i3 x1)), (2, .int (i3 x2)), (3, .long (i6 l3)), (5, .int (i3 x5)), (6, .int (i3 x6)), (7, .int (i3 x7))] [] n h := by
  refine ok_iload (pc := 71) hc dX7_determinant_71 6 rfl ?_
  refine ok_iload_n (pc := 73) hc dX7_determinant_73 rfl 2 rfl ?_
  obtain ⟨r1, P⟩ := P
  obtain ⟨r2, P⟩ := P
  refine zk_icmp_ge (pc := 74) (tgt := 100) hc dX7_determinant_74 (by decide) r1 r2 (fun c => ?_) (fun c => ?_)
  · have P := P.1 c
    exact P
  · have P := P.2 c
    exact P

set_option maxHeartbeats 4000000 in
set_option maxRecDepth 100000 in
theorem sX7_determinant_77 {X : Xt} {n : Nat} {h : HP} {a0 : Nat} {x1 : Int} {x2 : Int} {l3 : Int} {x5 : Int} {x6 : Int} {x7 : Int} {fs1 : List Value} {q2 : Nat} {len3 : Nat} {f3 : Nat → Int} (hc : Cx X cX7_determinant RX7 11 0 0) {K : KT} (hr : CxR X (some .long) K) (e1 : At h n a0 (.inl (7, fs1))) (z1 : fs1.length = 24) (v1_13 : fs1[13]? = some (.ref q2)) (e3 : At h n q2 (al len3 f3))
    (P : (Ix ((x2 * x7) + x6) len3) ∧ (R6 (f3 (((x2 * x7) + x6) : Int).toNat) ∧ R6 0) ∧ (¬ (f3 (((x2 * x7) + x6) : Int).toNat) = 0 → Ok X 0 0 100 [(0, .ref a0), (1, .int (i3 x1)), (2, .int (i3 x2)), (3, .long (i6 l3)), (5, .int (i3 x5)), (6, .int (i3 x6)), (7, .int (i3 x7))] [] n h) ∧ ((f3 (((x2 * x7) + x6) : Int).toNat) = 0 → Ok X 0 0 71 [(0, .ref a0), (1, .int (i3 x1)), (2, .int (i3 x2)), (3, .long (i6 l3)), (5, .int (i3 x5)), (6, .int (i3 x6)), (7, .int (i3 (x7 + 1)))] [] n h)) :
    Ok X 0 0 77 [(0, .ref a0), (1, .int (i3 x1)), (2, .int (i3 x2)), (3, .long (i6 l3)), (5, .int (i3 x5)), (6, .int (i3 x6)), (7, .int (i3 x7))] [] n h := by
  refine ok_aload_n (pc := 77) hc dX7_determinant_77 rfl 0 rfl ?_
  refine ok_get (pc := 78) hc fl_X7_32 dX7_determinant_78 e1.1 e1.2 v1_13 ?_
  refine ok_iload_n (pc := 81) hc dX7_determinant_81 rfl 2 rfl ?_
  refine ok_iload (pc := 82) hc dX7_determinant_82 6 rfl ?_
  refine zk_imul (pc := 84) hc dX7_determinant_84 ?_
  refine ok_iload (pc := 85) hc dX7_determinant_85 5 rfl ?_
  refine zk_iadd (pc := 87) hc dX7_determinant_87 ?_
  obtain ⟨r, P⟩ := P
  refine zk_lald (pc := 88) hc dX7_determinant_88 e3.1 e3.2 r ?_
  refine ok_lconst (pc := 89) hc (v := i6 0) dX7_determinant_89 (by decide) ?_
  obtain ⟨r, P⟩ := P
  refine zk_lcmp (pc := 90) hc dX7_determinant_90 r ?_
  refine zk_if_ne (pc := 91) (tgt := 100) hc dX7_determinant_91 (by decide) R3_cmp (fun c => ?_) (fun c => ?_)
  · have P := P.1 (fun z => c (cmp_eq.mpr z))
    exact P
  · have P := P.2 (cmp_eq.mp c)
    refine zk_iinc (pc := 94) hc (q := 6) (x := x7) (lv' := [(7, .int (i3 (x7 + 1))), (0, .ref a0), (1, .int (i3 x1)), (2, .int (i3 x2)), (3, .long (i6 l3)), (5, .int (i3 x5)), (6, .int (i3 x6))]) dX7_determinant_94 rfl (by decide) rfl ?_
    refine ok_goto (pc := 97) (tgt := 71) hc dX7_determinant_97 (by decide) ?_
    refine ok_lv [1, 2, 3, 4, 5, 6, 0] rfl ?_
    exact P

set_option maxHeartbeats 4000000 in
set_option maxRecDepth 100000 in
theorem sX7_determinant_100 {X : Xt} {n : Nat} {h : HP} {a0 : Nat} {x1 : Int} {x2 : Int} {l3 : Int} {x5 : Int} {x6 : Int} {x7 : Int} (hc : Cx X cX7_determinant RX7 11 0 0) {K : KT} (hr : CxR X (some .long) K) 
    (P : (R3 x7) ∧ (R3 x2) ∧ (¬ x7 = x2 → (R3 x7) ∧ (R3 x6) ∧ (¬ x7 = x6 → Ok X 0 0 125 [(0, .ref a0), (1, .int (i3 x1)), (2, .int (i3 x2)), (3, .long (i6 l3)), (5, .int (i3 (-x5))), (6, .int (i3 x6)), (7, .int (i3 x7))] [] n h) ∧ (x7 = x6 → Ok X 0 0 125 [(0, .ref a0), (1, .int (i3 x1)), (2, .int (i3 x2)), (3, .long (i6 l3)), (5, .int (i3 x5)), (6, .int (i3 x6)), (7, .int (i3 x7))] [] n h)) ∧ (x7 = x2 → K (.inl (some (.long (i6 0)))) n h)) :
    Ok X 0 0 100 [(0, .ref a0), (1, .int (i3 x1)), (2, .int (i3 x2)), (3, .long (i6 l3)), (5, .int (i3 x5)), (6, .int (i3 x6)), (7, .int (i3 x7))] [] n h := by
  refine ok_iload (pc := 100) hc dX7_determinant_100 6 rfl ?_
  refine ok_iload_n (pc := 102) hc dX7_determinant_102 rfl 2 rfl ?_
  obtain ⟨r1, P⟩ := P
  obtain ⟨r2, P⟩ := P
  refine zk_icmp_ne (pc := 103) (tgt := 108) hc dX7_determinant_103 (by decide) r1 r2 (fun c => ?_) (fun c => ?_)
  · have P := P.1 c
    refine ok_iload (pc := 108) hc dX7_determinant_108 6 rfl ?_
    refine ok_iload (pc := 110) hc dX7_determinant_110 5 rfl ?_
    obtain ⟨r3, P⟩ := P
    obtain ⟨r4, P⟩ := P
    refine zk_icmp_ne (pc := 112) (tgt := 120) hc dX7_determinant_112 (by decide) r3 r4 (fun c => ?_) (fun c => ?_)
    · have P := P.1 c
      refine ok_iload (pc := 120) hc dX7_determinant_120 4 rfl ?_
      refine zk_ineg (pc := 122) hc dX7_determinant_122 ?_
      refine ok_istore (pc := 123) hc (lv' := [(5, .int (i3 (-x5))), (0, .ref a0), (1, .int (i3 x1)), (2, .int (i3 x2)), (3, .long (i6 l3)), (6, .int (i3 x6)), (7, .int (i3 x7))]) dX7_determinant_123 (by decide) rfl ?_
      refine ok_lv [1, 2, 3, 4, 0, 5, 6] rfl ?_
      exact P
    · have P := P.2 c
      refine ok_iload (pc := 115) hc dX7_determinant_115 4 rfl ?_
      refine ok_goto (pc := 117) (tgt := 123) hc dX7_determinant_117 (by decide) ?_
      refine ok_istore (pc := 123) hc (lv' := [(5, .int (i3 x5)), (0, .ref a0), (1, .int (i3 x1)), (2, .int (i3 x2)), (3, .long (i6 l3)), (6, .int (i3 x6)), (7, .int (i3 x7))]) dX7_determinant_123 (by decide) rfl ?_
      refine ok_lv [1, 2, 3, 4, 0, 5, 6] rfl ?_
      exact P
  · have P := P.2 c
    refine ok_lconst (pc := 106) hc (v := i6 0) dX7_determinant_106 (by decide) ?_
    exact ok_lret (st := []) (pc := 107) hc hr dX7_determinant_107 P

set_option maxHeartbeats 4000000 in
set_option maxRecDepth 100000 in
theorem sX7_determinant_125 {X : Xt} {n : Nat} {h : HP} {a0 : Nat} {x1 : Int} {x2 : Int} {l3 : Int} {x5 : Int} {x6 : Int} {x7 : Int} (hc : Cx X cX7_determinant RX7 11 0 0) {K : KT} (hr : CxR X (some .long) K) 
    (P : Ok X 0 0 128 [(0, .ref a0), (1, .int (i3 x1)), (2, .int (i3 x2)), (3, .long (i6 l3)), (5, .int (i3 x5)), (6, .int (i3 x6)), (7, .int (i3 x7)), (8, .int (i3 0))] [] n h) :
    Ok X 0 0 125 [(0, .ref a0), (1, .int (i3 x1)), (2, .int (i3 x2)), (3, .long (i6 l3)), (5, .int (i3 x5)), (6, .int (i3 x6)), (7, .int (i3 x7))] [] n h := by
  refine ok_iconst (pc := 125) hc (v := i3 0) dX7_determinant_125 (by decide) ?_
  refine ok_istore (pc := 126) hc (lv' := [(8, .int (i3 0)), (0, .ref a0), (1, .int (i3 x1)), (2, .int (i3 x2)), (3, .long (i6 l3)), (5, .int (i3 x5)), (6, .int (i3 x6)), (7, .int (i3 x7))]) dX7_determinant_126 (by decide) rfl ?_
  refine ok_lv [1, 2, 3, 4, 5, 6, 7, 0] rfl ?_
  exact P

set_option maxHeartbeats 4000000 in
set_option maxRecDepth 100000 in
theorem sX7_determinant_128 {X : Xt} {n : Nat} {h : HP} {a0 : Nat} {x1 : Int} {x2 : Int} {l3 : Int} {x5 : Int} {x6 : Int} {x7 : Int} {x8 : Int} (hc : Cx X cX7_determinant RX7 11 0 0) {K : KT} (hr : CxR X (some .long) K) 
    (P : (R3 x8) ∧ (R3 x2) ∧ (x2 ≤ x8 → Ok X 0 0 192 [(0, .ref a0), (1, .int (i3 x1)), (2, .int (i3 x2)), (3, .long (i6 l3)), (5, .int (i3 x5)), (6, .int (i3 x6)), (7, .int (i3 x7)), (8, .int (i3 x8))] [] n h) ∧ (¬ x2 ≤ x8 → Ok X 0 0 134 [(0, .ref a0), (1, .int (i3 x1)), (2, .int (i3 x2)), (3, .long (i6 l3)), (5, .int (i3 x5)), (6, .int (i3 x6)), (7, .int (i3 x7)), (8, .int (i3 x8))] [] n h)) :
    Ok X 0 0 128 [(0, .ref a0), (1, .int (i3 x1)), (2, .int (i3 x2)), (3, .long (i6 l3)), (5, .int (i3 x5)), (6, .int (i3 x6)), (7, .int (i3 x7)), (8, .int (i3 x8))] [] n h := by
  refine ok_iload (pc := 128) hc dX7_determinant_128 7 rfl ?_
  refine ok_iload_n (pc := 130) hc dX7_determinant_130 rfl 2 rfl ?_
  obtain ⟨r1, P⟩ := P
  obtain ⟨r2, P⟩ := P
  refine zk_icmp_ge (pc := 131) (tgt := 192) hc dX7_determinant_131 (by decide) r1 r2 (fun c => ?_) (fun c => ?_)
  · have P := P.1 c
    exact P
  · have P := P.2 c
    exact P

set_option maxHeartbeats 4000000 in
set_option maxRecDepth 100000 in
theorem sX7_determinant_134 {X : Xt} {n : Nat} {h : HP} {a0 : Nat} {x1 : Int} {x2 : Int} {l3 : Int} {x5 : Int} {x6 : Int} {x7 : Int} {x8 : Int} {fs1 : List Value} {q2 : Nat} {len3 : Nat} {f3 : Nat → Int} (hc : Cx X cX7_determinant RX7 11 0 0) {K : KT} (hr : CxR X (some .long) K) (e1 : At h n a0 (.inl (7, fs1))) (z1 : fs1.length = 24) (v1_13 : fs1[13]? = some (.ref q2)) (e3 : At h n q2 (al len3 f3))
    (P : (Ix ((x2 * x7) + x8) len3) ∧ (Ix ((x2 * x6) + x8) len3) ∧ (Ix ((x2 * x7) + x8) len3) ∧ (Ix ((x2 * x6) + x8) len3) ∧ Ok X 0 0 128 [(0, .ref a0), (1, .int (i3 x1)), (2, .int (i3 x2)), (3, .long (i6 l3)), (5, .int (i3 x5)), (6, .int (i3 x6)), (7, .int (i3 x7)), (8, .int (i3 (x8 + 1)))] [] n (va_up (va_up h q2 (al len3 (va_up f3 (((x2 * x7) + x8) : Int).toNat (f3 (((x2 * x6) + x8) : Int).toNat)))) q2 (al len3 (va_up (va_up f3 (((x2 * x7) + x8) : Int).toNat (f3 (((x2 * x6) + x8) : Int).toNat)) (((x2 * x6) + x8) : Int).toNat (f3 (((x2 * x7) + x8) : Int).toNat))))) :
    Ok X 0 0 134 [(0, .ref a0), (1, .int (i3 x1)), (2, .int (i3 x2)), (3, .long (i6 l3)), (5, .int (i3 x5)), (6, .int (i3 x6)), (7, .int (i3 x7)), (8, .int (i3 x8))] [] n h := by
  refine ok_aload_n (pc := 134) hc dX7_determinant_134 rfl 0 rfl ?_
  refine ok_get (pc := 135) hc fl_X7_32 dX7_determinant_135 e1.1 e1.2 v1_13 ?_
  refine ok_iload_n (pc := 138) hc dX7_determinant_138 rfl 2 rfl ?_
  refine ok_iload (pc := 139) hc dX7_determinant_139 6 rfl ?_
  refine zk_imul (pc := 141) hc dX7_determinant_141 ?_
  refine ok_iload (pc := 142) hc dX7_determinant_142 7 rfl ?_
  refine zk_iadd (pc := 144) hc dX7_determinant_144 ?_
  obtain ⟨r, P⟩ := P
  refine zk_lald (pc := 145) hc dX7_determinant_145 e3.1 e3.2 r ?_
  refine ok_lstore (pc := 146) hc (lv' := [(9, .long (i6 (f3 (((x2 * x7) + x8) : Int).toNat))), (0, .ref a0), (1, .int (i3 x1)), (2, .int (i3 x2)), (3, .long (i6 l3)), (5, .int (i3 x5)), (6, .int (i3 x6)), (7, .int (i3 x7)), (8, .int (i3 x8))]) dX7_determinant_146 (by decide) rfl ?_
  refine ok_aload_n (pc := 148) hc dX7_determinant_148 rfl 1 rfl ?_
  refine ok_get (pc := 149) hc fl_X7_32 dX7_determinant_149 e1.1 e1.2 v1_13 ?_
  refine ok_iload_n (pc := 152) hc dX7_determinant_152 rfl 3 rfl ?_
  refine ok_iload (pc := 153) hc dX7_determinant_153 7 rfl ?_
  refine zk_imul (pc := 155) hc dX7_determinant_155 ?_
  refine ok_iload (pc := 156) hc dX7_determinant_156 8 rfl ?_
  refine zk_iadd (pc := 158) hc dX7_determinant_158 ?_
  refine ok_aload_n (pc := 159) hc dX7_determinant_159 rfl 1 rfl ?_
  refine ok_get (pc := 160) hc fl_X7_32 dX7_determinant_160 e1.1 e1.2 v1_13 ?_
  refine ok_iload_n (pc := 163) hc dX7_determinant_163 rfl 3 rfl ?_
  refine ok_iload (pc := 164) hc dX7_determinant_164 6 rfl ?_
  refine zk_imul (pc := 166) hc dX7_determinant_166 ?_
  refine ok_iload (pc := 167) hc dX7_determinant_167 8 rfl ?_
  refine zk_iadd (pc := 169) hc dX7_determinant_169 ?_
  obtain ⟨r, P⟩ := P
  refine zk_lald (pc := 170) hc dX7_determinant_170 e3.1 e3.2 r ?_
  obtain ⟨r, P⟩ := P
  refine zk_last (pc := 171) hc dX7_determinant_171 e3.1 e3.2 r ?_
  refine ok_aload_n (pc := 172) hc dX7_determinant_172 rfl 1 rfl ?_
  refine ok_get (pc := 173) hc fl_X7_32 dX7_determinant_173 e1.1 ((up_ne (ne_oa e1.2 e3.2)).trans e1.2) v1_13 ?_
  refine ok_iload_n (pc := 176) hc dX7_determinant_176 rfl 3 rfl ?_
  refine ok_iload (pc := 177) hc dX7_determinant_177 6 rfl ?_
  refine zk_imul (pc := 179) hc dX7_determinant_179 ?_
  refine ok_iload (pc := 180) hc dX7_determinant_180 8 rfl ?_
  refine zk_iadd (pc := 182) hc dX7_determinant_182 ?_
  refine ok_lload (pc := 183) hc dX7_determinant_183 0 rfl ?_
  obtain ⟨r, P⟩ := P
  refine zk_last (pc := 185) hc dX7_determinant_185 e3.1 up_self r ?_
  refine zk_iinc (pc := 186) hc (q := 8) (x := x8) (lv' := [(8, .int (i3 (x8 + 1))), (9, .long (i6 (f3 (((x2 * x7) + x8) : Int).toNat))), (0, .ref a0), (1, .int (i3 x1)), (2, .int (i3 x2)), (3, .long (i6 l3)), (5, .int (i3 x5)), (6, .int (i3 x6)), (7, .int (i3 x7))]) dX7_determinant_186 rfl (by decide) rfl ?_
  refine ok_goto (pc := 189) (tgt := 128) hc dX7_determinant_189 (by decide) ?_
  refine ok_lv [2, 3, 4, 5, 6, 7, 8, 0] rfl ?_
  exact P

set_option maxHeartbeats 4000000 in
set_option maxRecDepth 100000 in
theorem sX7_determinant_192 {X : Xt} {n : Nat} {h : HP} {a0 : Nat} {x1 : Int} {x2 : Int} {l3 : Int} {x5 : Int} {x6 : Int} {x7 : Int} {x8 : Int} (hc : Cx X cX7_determinant RX7 11 0 0) {K : KT} (hr : CxR X (some .long) K) 
    (P : Ok X 0 0 198 [(0, .ref a0), (1, .int (i3 x1)), (2, .int (i3 x2)), (3, .long (i6 l3)), (5, .int (i3 x5)), (6, .int (i3 x6)), (7, .int (i3 x7)), (8, .int (i3 (x6 + 1)))] [] n h) :
    Ok X 0 0 192 [(0, .ref a0), (1, .int (i3 x1)), (2, .int (i3 x2)), (3, .long (i6 l3)), (5, .int (i3 x5)), (6, .int (i3 x6)), (7, .int (i3 x7)), (8, .int (i3 x8))] [] n h := by
  refine ok_iload (pc := 192) hc dX7_determinant_192 5 rfl ?_
  refine ok_iconst (pc := 194) hc (v := i3 1) dX7_determinant_194 (by decide) ?_
  refine zk_iadd (pc := 195) hc dX7_determinant_195 ?_
  refine ok_istore (pc := 196) hc (lv' := [(8, .int (i3 (x6 + 1))), (0, .ref a0), (1, .int (i3 x1)), (2, .int (i3 x2)), (3, .long (i6 l3)), (5, .int (i3 x5)), (6, .int (i3 x6)), (7, .int (i3 x7))]) dX7_determinant_196 (by decide) rfl ?_
  refine ok_lv [1, 2, 3, 4, 5, 6, 7, 0] rfl ?_
  exact P

set_option maxHeartbeats 4000000 in
set_option maxRecDepth 100000 in
theorem sX7_determinant_198 {X : Xt} {n : Nat} {h : HP} {a0 : Nat} {x1 : Int} {x2 : Int} {l3 : Int} {x5 : Int} {x6 : Int} {x7 : Int} {x8 : Int} (hc : Cx X cX7_determinant RX7 11 0 0) {K : KT} (hr : CxR X (some .long) K) 
    (P : (R3 x8) ∧ (R3 x2) ∧ (x2 ≤ x8 → Ok X 0 0 293 [(0, .ref a0), (1, .int (i3 x1)), (2, .int (i3 x2)), (3, .long (i6 l3)), (5, .int (i3 x5)), (6, .int (i3 x6)), (7, .int (i3 x7)), (8, .int (i3 x8))] [] n h) ∧ (¬ x2 ≤ x8 → Ok X 0 0 204 [(0, .ref a0), (1, .int (i3 x1)), (2, .int (i3 x2)), (3, .long (i6 l3)), (5, .int (i3 x5)), (6, .int (i3 x6)), (7, .int (i3 x7)), (8, .int (i3 x8))] [] n h)) :
    Ok X 0 0 198 [(0, .ref a0), (1, .int (i3 x1)), (2, .int (i3 x2)), (3, .long (i6 l3)), (5, .int (i3 x5)), (6, .int (i3 x6)), (7, .int (i3 x7)), (8, .int (i3 x8))] [] n h := by
  refine ok_iload (pc := 198) hc dX7_determinant_198 7 rfl ?_
  refine ok_iload_n (pc := 200) hc dX7_determinant_200 rfl 2 rfl ?_
  obtain ⟨r1, P⟩ := P
  obtain ⟨r2, P⟩ := P
  refine zk_icmp_ge (pc := 201) (tgt := 293) hc dX7_determinant_201 (by decide) r1 r2 (fun c => ?_) (fun c => ?_)
  · have P := P.1 c
    exact P
  · have P := P.2 c
    exact P

set_option maxHeartbeats 4000000 in
set_option maxRecDepth 100000 in
theorem sX7_determinant_204 {X : Xt} {n : Nat} {h : HP} {a0 : Nat} {x1 : Int} {x2 : Int} {l3 : Int} {x5 : Int} {x6 : Int} {x7 : Int} {x8 : Int} (hc : Cx X cX7_determinant RX7 11 0 0) {K : KT} (hr : CxR X (some .long) K) 
    (P : Ok X 0 0 210 [(0, .ref a0), (1, .int (i3 x1)), (2, .int (i3 x2)), (3, .long (i6 l3)), (5, .int (i3 x5)), (6, .int (i3 x6)), (7, .int (i3 x7)), (8, .int (i3 x8)), (9, .int (i3 (x6 + 1)))] [] n h) :
    Ok X 0 0 204 [(0, .ref a0), (1, .int (i3 x1)), (2, .int (i3 x2)), (3, .long (i6 l3)), (5, .int (i3 x5)), (6, .int (i3 x6)), (7, .int (i3 x7)), (8, .int (i3 x8))] [] n h := by
  refine ok_iload (pc := 204) hc dX7_determinant_204 5 rfl ?_
  refine ok_iconst (pc := 206) hc (v := i3 1) dX7_determinant_206 (by decide) ?_
  refine zk_iadd (pc := 207) hc dX7_determinant_207 ?_
  refine ok_istore (pc := 208) hc (lv' := [(9, .int (i3 (x6 + 1))), (0, .ref a0), (1, .int (i3 x1)), (2, .int (i3 x2)), (3, .long (i6 l3)), (5, .int (i3 x5)), (6, .int (i3 x6)), (7, .int (i3 x7)), (8, .int (i3 x8))]) dX7_determinant_208 (by decide) rfl ?_
  refine ok_lv [1, 2, 3, 4, 5, 6, 7, 8, 0] rfl ?_
  exact P

set_option maxHeartbeats 4000000 in
set_option maxRecDepth 100000 in
theorem sX7_determinant_210 {X : Xt} {n : Nat} {h : HP} {a0 : Nat} {x1 : Int} {x2 : Int} {l3 : Int} {x5 : Int} {x6 : Int} {x7 : Int} {x8 : Int} {x9 : Int} (hc : Cx X cX7_determinant RX7 11 0 0) {K : KT} (hr : CxR X (some .long) K) 
    (P : (R3 x9) ∧ (R3 x2) ∧ (x2 ≤ x9 → Ok X 0 0 287 [(0, .ref a0), (1, .int (i3 x1)), (2, .int (i3 x2)), (3, .long (i6 l3)), (5, .int (i3 x5)), (6, .int (i3 x6)), (7, .int (i3 x7)), (8, .int (i3 x8)), (9, .int (i3 x9))] [] n h) ∧ (¬ x2 ≤ x9 → Ok X 0 0 216 [(0, .ref a0), (1, .int (i3 x1)), (2, .int (i3 x2)), (3, .long (i6 l3)), (5, .int (i3 x5)), (6, .int (i3 x6)), (7, .int (i3 x7)), (8, .int (i3 x8)), (9, .int (i3 x9))] [] n h)) :
    Ok X 0 0 210 [(0, .ref a0), (1, .int (i3 x1)), (2, .int (i3 x2)), (3, .long (i6 l3)), (5, .int (i3 x5)), (6, .int (i3 x6)), (7, .int (i3 x7)), (8, .int (i3 x8)), (9, .int (i3 x9))] [] n h := by
  refine ok_iload (pc := 210) hc dX7_determinant_210 8 rfl ?_
  refine ok_iload_n (pc := 212) hc dX7_determinant_212 rfl 2 rfl ?_
  obtain ⟨r1, P⟩ := P
  obtain ⟨r2, P⟩ := P
  refine zk_icmp_ge (pc := 213) (tgt := 287) hc dX7_determinant_213 (by decide) r1 r2 (fun c => ?_) (fun c => ?_)
  · have P := P.1 c
    exact P
  · have P := P.2 c
    exact P

set_option maxHeartbeats 4000000 in
set_option maxRecDepth 100000 in
theorem sX7_determinant_216 {X : Xt} {n : Nat} {h : HP} {a0 : Nat} {x1 : Int} {x2 : Int} {l3 : Int} {x5 : Int} {x6 : Int} {x7 : Int} {x8 : Int} {x9 : Int} {fs1 : List Value} {q2 : Nat} {len3 : Nat} {f3 : Nat → Int} (hc : Cx X cX7_determinant RX7 11 0 0) {K : KT} (hr : CxR X (some .long) K) (e1 : At h n a0 (.inl (7, fs1))) (z1 : fs1.length = 24) (v1_13 : fs1[13]? = some (.ref q2)) (e3 : At h n q2 (al len3 f3))
    (P : (Ix ((x2 * x8) + x9) len3) ∧ (Ix ((x2 * x6) + x6) len3) ∧ (Ix ((x2 * x8) + x6) len3) ∧ (Ix ((x2 * x6) + x9) len3) ∧ (R6 (((f3 (((x2 * x8) + x9) : Int).toNat) * (f3 (((x2 * x6) + x6) : Int).toNat)) - ((f3 (((x2 * x8) + x6) : Int).toNat) * (f3 (((x2 * x6) + x9) : Int).toNat))) ∧ R6 l3 ∧ R6 (((((f3 (((x2 * x8) + x9) : Int).toNat) * (f3 (((x2 * x6) + x6) : Int).toNat)) - ((f3 (((x2 * x8) + x6) : Int).toNat) * (f3 (((x2 * x6) + x9) : Int).toNat))) : Int).tdiv l3) ∧ l3 ≠ 0) ∧ (Ix ((x2 * x8) + x9) len3) ∧ Ok X 0 0 210 [(0, .ref a0), (1, .int (i3 x1)), (2, .int (i3 x2)), (3, .long (i6 l3)), (5, .int (i3 x5)), (6, .int (i3 x6)), (7, .int (i3 x7)), (8, .int (i3 x8)), (9, .int (i3 (x9 + 1)))] [] n (va_up h q2 (al len3 (va_up f3 (((x2 * x8) + x9) : Int).toNat (((((f3 (((x2 * x8) + x9) : Int).toNat) * (f3 (((x2 * x6) + x6) : Int).toNat)) - ((f3 (((x2 * x8) + x6) : Int).toNat) * (f3 (((x2 * x6) + x9) : Int).toNat))) : Int).tdiv l3))))) :
    Ok X 0 0 216 [(0, .ref a0), (1, .int (i3 x1)), (2, .int (i3 x2)), (3, .long (i6 l3)), (5, .int (i3 x5)), (6, .int (i3 x6)), (7, .int (i3 x7)), (8, .int (i3 x8)), (9, .int (i3 x9))] [] n h := by
  refine ok_aload_n (pc := 216) hc dX7_determinant_216 rfl 0 rfl ?_
  refine ok_get (pc := 217) hc fl_X7_32 dX7_determinant_217 e1.1 e1.2 v1_13 ?_
  refine ok_iload_n (pc := 220) hc dX7_determinant_220 rfl 2 rfl ?_
  refine ok_iload (pc := 221) hc dX7_determinant_221 7 rfl ?_
  refine zk_imul (pc := 223) hc dX7_determinant_223 ?_
  refine ok_iload (pc := 224) hc dX7_determinant_224 8 rfl ?_
  refine zk_iadd (pc := 226) hc dX7_determinant_226 ?_
  refine ok_aload_n (pc := 227) hc dX7_determinant_227 rfl 0 rfl ?_
  refine ok_get (pc := 228) hc fl_X7_32 dX7_determinant_228 e1.1 e1.2 v1_13 ?_
  refine ok_iload_n (pc := 231) hc dX7_determinant_231 rfl 2 rfl ?_
  refine ok_iload (pc := 232) hc dX7_determinant_232 7 rfl ?_
  refine zk_imul (pc := 234) hc dX7_determinant_234 ?_
  refine ok_iload (pc := 235) hc dX7_determinant_235 8 rfl ?_
  refine zk_iadd (pc := 237) hc dX7_determinant_237 ?_
  obtain ⟨r, P⟩ := P
  refine zk_lald (pc := 238) hc dX7_determinant_238 e3.1 e3.2 r ?_
  refine ok_aload_n (pc := 239) hc dX7_determinant_239 rfl 0 rfl ?_
  refine ok_get (pc := 240) hc fl_X7_32 dX7_determinant_240 e1.1 e1.2 v1_13 ?_
  refine ok_iload_n (pc := 243) hc dX7_determinant_243 rfl 2 rfl ?_
  refine ok_iload (pc := 244) hc dX7_determinant_244 5 rfl ?_
  refine zk_imul (pc := 246) hc dX7_determinant_246 ?_
  refine ok_iload (pc := 247) hc dX7_determinant_247 5 rfl ?_
  refine zk_iadd (pc := 249) hc dX7_determinant_249 ?_
  obtain ⟨r, P⟩ := P
  refine zk_lald (pc := 250) hc dX7_determinant_250 e3.1 e3.2 r ?_
  refine zk_lmul (pc := 251) hc dX7_determinant_251 ?_
  refine ok_aload_n (pc := 252) hc dX7_determinant_252 rfl 0 rfl ?_
  refine ok_get (pc := 253) hc fl_X7_32 dX7_determinant_253 e1.1 e1.2 v1_13 ?_
  refine ok_iload_n (pc := 256) hc dX7_determinant_256 rfl 2 rfl ?_
  refine ok_iload (pc := 257) hc dX7_determinant_257 7 rfl ?_
  refine zk_imul (pc := 259) hc dX7_determinant_259 ?_
  refine ok_iload (pc := 260) hc dX7_determinant_260 5 rfl ?_
  refine zk_iadd (pc := 262) hc dX7_determinant_262 ?_
  obtain ⟨r, P⟩ := P
  refine zk_lald (pc := 263) hc dX7_determinant_263 e3.1 e3.2 r ?_
  refine ok_aload_n (pc := 264) hc dX7_determinant_264 rfl 0 rfl ?_
  refine ok_get (pc := 265) hc fl_X7_32 dX7_determinant_265 e1.1 e1.2 v1_13 ?_
  refine ok_iload_n (pc := 268) hc dX7_determinant_268 rfl 2 rfl ?_
  refine ok_iload (pc := 269) hc dX7_determinant_269 5 rfl ?_
  refine zk_imul (pc := 271) hc dX7_determinant_271 ?_
  refine ok_iload (pc := 272) hc dX7_determinant_272 8 rfl ?_
  refine zk_iadd (pc := 274) hc dX7_determinant_274 ?_
  obtain ⟨r, P⟩ := P
  refine zk_lald (pc := 275) hc dX7_determinant_275 e3.1 e3.2 r ?_
  refine zk_lmul (pc := 276) hc dX7_determinant_276 ?_
  refine zk_lsub (pc := 277) hc dX7_determinant_277 ?_
  refine ok_lload_n (pc := 278) hc dX7_determinant_278 rfl 3 rfl ?_
  obtain ⟨r, P⟩ := P
  refine zk_ldiv (pc := 279) hc dX7_determinant_279 r ?_
  obtain ⟨r, P⟩ := P
  refine zk_last (pc := 280) hc dX7_determinant_280 e3.1 e3.2 r ?_
  refine zk_iinc (pc := 281) hc (q := 8) (x := x9) (lv' := [(9, .int (i3 (x9 + 1))), (0, .ref a0), (1, .int (i3 x1)), (2, .int (i3 x2)), (3, .long (i6 l3)), (5, .int (i3 x5)), (6, .int (i3 x6)), (7, .int (i3 x7)), (8, .int (i3 x8))]) dX7_determinant_281 rfl (by decide) rfl ?_
  refine ok_goto (pc := 284) (tgt := 210) hc dX7_determinant_284 (by decide) ?_
  refine ok_lv [1, 2, 3, 4, 5, 6, 7, 8, 0] rfl ?_
  exact P

set_option maxHeartbeats 4000000 in
set_option maxRecDepth 100000 in
theorem sX7_determinant_287 {X : Xt} {n : Nat} {h : HP} {a0 : Nat} {x1 : Int} {x2 : Int} {l3 : Int} {x5 : Int} {x6 : Int} {x7 : Int} {x8 : Int} {x9 : Int} (hc : Cx X cX7_determinant RX7 11 0 0) {K : KT} (hr : CxR X (some .long) K) 
    (P : Ok X 0 0 198 [(0, .ref a0), (1, .int (i3 x1)), (2, .int (i3 x2)), (3, .long (i6 l3)), (5, .int (i3 x5)), (6, .int (i3 x6)), (7, .int (i3 x7)), (8, .int (i3 (x8 + 1)))] [] n h) :
    Ok X 0 0 287 [(0, .ref a0), (1, .int (i3 x1)), (2, .int (i3 x2)), (3, .long (i6 l3)), (5, .int (i3 x5)), (6, .int (i3 x6)), (7, .int (i3 x7)), (8, .int (i3 x8)), (9, .int (i3 x9))] [] n h := by
  refine zk_iinc (pc := 287) hc (q := 7) (x := x8) (lv' := [(8, .int (i3 (x8 + 1))), (0, .ref a0), (1, .int (i3 x1)), (2, .int (i3 x2)), (3, .long (i6 l3)), (5, .int (i3 x5)), (6, .int (i3 x6)), (7, .int (i3 x7)), (9, .int (i3 x9))]) dX7_determinant_287 rfl (by decide) rfl ?_
  refine ok_goto (pc := 290) (tgt := 198) hc dX7_determinant_290 (by decide) ?_
  refine ok_lv [1, 2, 3, 4, 5, 6, 7, 0] rfl ?_
  exact P

set_option maxHeartbeats 4000000 in
set_option maxRecDepth 100000 in
theorem sX7_determinant_293 {X : Xt} {n : Nat} {h : HP} {a0 : Nat} {x1 : Int} {x2 : Int} {l3 : Int} {x5 : Int} {x6 : Int} {x7 : Int} {x8 : Int} {fs1 : List Value} {q2 : Nat} {len3 : Nat} {f3 : Nat → Int} (hc : Cx X cX7_determinant RX7 11 0 0) {K : KT} (hr : CxR X (some .long) K) (e1 : At h n a0 (.inl (7, fs1))) (z1 : fs1.length = 24) (v1_13 : fs1[13]? = some (.ref q2)) (e3 : At h n q2 (al len3 f3))
    (P : (Ix ((x2 * x6) + x6) len3) ∧ Ok X 0 0 61 [(0, .ref a0), (1, .int (i3 x1)), (2, .int (i3 x2)), (3, .long (i6 (f3 (((x2 * x6) + x6) : Int).toNat))), (5, .int (i3 x5)), (6, .int (i3 (x6 + 1)))] [] n h) :
    Ok X 0 0 293 [(0, .ref a0), (1, .int (i3 x1)), (2, .int (i3 x2)), (3, .long (i6 l3)), (5, .int (i3 x5)), (6, .int (i3 x6)), (7, .int (i3 x7)), (8, .int (i3 x8))] [] n h := by
  refine ok_aload_n (pc := 293) hc dX7_determinant_293 rfl 0 rfl ?_
  refine ok_get (pc := 294) hc fl_X7_32 dX7_determinant_294 e1.1 e1.2 v1_13 ?_
  refine ok_iload_n (pc := 297) hc dX7_determinant_297 rfl 2 rfl ?_
  refine ok_iload (pc := 298) hc dX7_determinant_298 5 rfl ?_
  refine zk_imul (pc := 300) hc dX7_determinant_300 ?_
  refine ok_iload (pc := 301) hc dX7_determinant_301 5 rfl ?_
  refine zk_iadd (pc := 303) hc dX7_determinant_303 ?_
  obtain ⟨r, P⟩ := P
  refine zk_lald (pc := 304) hc dX7_determinant_304 e3.1 e3.2 r ?_
  refine ok_lstore_n (pc := 305) hc (lv' := [(3, .long (i6 (f3 (((x2 * x6) + x6) : Int).toNat))), (0, .ref a0), (1, .int (i3 x1)), (2, .int (i3 x2)), (5, .int (i3 x5)), (6, .int (i3 x6)), (7, .int (i3 x7)), (8, .int (i3 x8))]) dX7_determinant_305 rfl (by decide) rfl ?_
  refine zk_iinc (pc := 306) hc (q := 5) (x := x6) (lv' := [(6, .int (i3 (x6 + 1))), (3, .long (i6 (f3 (((x2 * x6) + x6) : Int).toNat))), (0, .ref a0), (1, .int (i3 x1)), (2, .int (i3 x2)), (5, .int (i3 x5)), (7, .int (i3 x7)), (8, .int (i3 x8))]) dX7_determinant_306 rfl (by decide) rfl ?_
  refine ok_goto (pc := 309) (tgt := 61) hc dX7_determinant_309 (by decide) ?_
  refine ok_lv [2, 3, 4, 1, 5, 0] rfl ?_
  exact P

set_option maxHeartbeats 4000000 in
set_option maxRecDepth 100000 in
theorem sX7_determinant_312 {X : Xt} {n : Nat} {h : HP} {a0 : Nat} {x1 : Int} {x2 : Int} {l3 : Int} {x5 : Int} {x6 : Int} (hc : Cx X cX7_determinant RX7 11 0 0) {K : KT} (hr : CxR X (some .long) K) 
    (P : (R3 x5) ∧ K (.inl (some (.long (i6 (x5 * l3))))) n h) :
    Ok X 0 0 312 [(0, .ref a0), (1, .int (i3 x1)), (2, .int (i3 x2)), (3, .long (i6 l3)), (5, .int (i3 x5)), (6, .int (i3 x6))] [] n h := by
  refine ok_iload (pc := 312) hc dX7_determinant_312 4 rfl ?_
  obtain ⟨r1, P⟩ := P
  refine zk_i2l (pc := 314) hc dX7_determinant_314 r1 ?_
  refine ok_lload_n (pc := 315) hc dX7_determinant_315 rfl 3 rfl ?_
  refine zk_lmul (pc := 316) hc dX7_determinant_316 ?_
  exact ok_lret (st := []) (pc := 317) hc hr dX7_determinant_317 P

def spec_X7_determinant (args : List Value) (n : Nat) (h : HP) (K : KT) : Prop := ∃ (I : Nat → Int) (F : Nat → Nat → Int) (u : Nat) (col : Int), args = [.ref 128, .int (i3 col)] ∧ MAt h n I F ∧ I 9 = u ∧ u ≤ 6 ∧ R3 col ∧ DOk u (detQ (F 7) col) ∧ ∀ (h' : HP) (M : Nat → Int), MAt h' n I (va_up F 8 M) → Fr h h' 128 138 → K (.inl (some (.long (i6 (la_D u (detQ (F 7) col)))))) n h'
theorem sp_X7_determinant : Sp yX7_determinant cX7_determinant 11 (some .long) 0 0 0 0 spec_X7_determinant := by
  refine sp_intro (by decide) (by rintro args n h K ⟨I, F, u, col, rfl, -⟩; exact Nat.le_of_ble_eq_true rfl) ?_
  rintro X args n h K hc hr ⟨I, F, u, col, rfl, hM0, h9, hu, hcol, ⟨P, hPQ, hPs, hPb⟩, kk⟩
  have hM0 := hM0.u1 (j := 8) (by omega)
  have huu : u * u ≤ 36 := Nat.mul_le_mul hu hu
  have euu : (u : Int) * u = ((u * u : Nat) : Int) := (Int.natCast_mul u u).symm
  generalize hQ : detQ (F 7) col = Q at hPQ kk
  -- the outer loop
  have LO : ∀ (f k : Nat) (hh : HP) (M : Nat → Int) (G A : Nat → Nat → Int) (s p : Int), f + k = u → (s = 1 ∨ s = -1) → p ≠ 0 → la_D u (le_B A k) = p → R6 p → P A → s * la_D u A = la_D u Q → MAt hh n I (va_up F 8 M) → Sq u M G → (∀ l j, k ≤ l → l < u → k ≤ j → j < u → G l j = la_D u (la_c (le_B A k) l (fun i => A i j))) → Fr h hh 128 138 → Ok X 0 0 61 [(0, .ref 128), (1, .int (i3 col)), (2, .int (i3 u)), (3, .long (i6 p)), (5, .int (i3 s)), (6, .int (i3 k))] [] n hh := by
    intro f
    induction f with
    | zero =>
      intro k hh M G A s p hk hs hp hD hp6 hPA hsD hM hSq hG hf
      have : k = u := by omega
      subst this
      refine sX7_determinant_61 hc hr ⟨R3_s (by omega), R3_s (by omega), fun _ => sX7_determinant_312 hc hr ⟨R3_s (by omega), ?_⟩, fun z => absurd (Int.le_refl _) z⟩
      have e : la_D k A = p := by
        rw [← hD]
        refine la_DE fun i j _ hj => ?_
        unfold le_B
        rw [if_pos hj]
      rw [← e, hsD]
      exact kk hh M hM hf
    | succ f ih =>
      intro k hh M G A s p hk hs hp hD hp6 hPA hsD hM hSq hG hf
      have hku : k < u := by omega
      have hb : ∀ l j, k ≤ l → l < u → k ≤ j → j < u → Bd31 (G l j) := fun l j h1 h2 h3 h4 => by
        rw [hG l j h1 h2 h3 h4]
        exact hPb A hPA k l j h2 h4
      refine sX7_determinant_61 hc hr ⟨R3_s (by omega), R3_s (by omega), fun z => absurd z (by omega), fun _ => sX7_determinant_67 hc hr ?_⟩
      -- behind the search of a pivot
      have L100 : ∀ i, k ≤ i → i < u → G i k ≠ 0 → Ok X 0 0 100 [(0, .ref 128), (1, .int (i3 col)), (2, .int (i3 u)), (3, .long (i6 p)), (5, .int (i3 s)), (6, .int (i3 k)), (7, .int (i3 i))] [] n hh := by
        intro i hki hiu hGi
        -- behind the exchange of rows
        have L192 : ∀ (hh2 : HP) (M2 : Nat → Int) (s2 x8 : Int), (s2 = 1 ∨ s2 = -1) → s2 * la_D u (fun r q => A (le_x i k r) q) = la_D u Q → MAt hh2 n I (va_up F 8 M2) → Sq u M2 (fun l j => G (le_x i k l) j) → Fr h hh2 128 138 → Ok X 0 0 192 [(0, .ref 128), (1, .int (i3 col)), (2, .int (i3 u)), (3, .long (i6 p)), (5, .int (i3 s2)), (6, .int (i3 k)), (7, .int (i3 i)), (8, .int (i3 x8))] [] n hh2 := by
          intro hh2 M2 s2 x8 hs2 hsD2 hM2 hSq2 hf2
          have hPA2 := hPs A i k hiu hku hPA
          have hG2 : ∀ l j, k ≤ l → l < u → k ≤ j → j < u → G (le_x i k l) j = la_D u (la_c (le_B (fun r q => A (le_x i k r) q) k) l (fun r => A (le_x i k r) j)) := by
            intro l j h1 h2 h3 h4
            rw [le_B2 A hiu hku hki (Nat.le_refl k)]
            exact hG _ j (by unfold le_x; split; omega; split <;> omega) (le_xl hiu hku h2) h3 h4
          have hD2 : la_D u (le_B (fun r q => A (le_x i k r) q) k) = p := by rw [le_B1 A hiu hku hki (Nat.le_refl k), hD]
          generalize hA2 : (fun r q => A (le_x i k r) q) = A2 at hPA2 hsD2 hD2 hG2
          have hG2 : ∀ l j, k ≤ l → l < u → k ≤ j → j < u → G (le_x i k l) j = la_D u (la_c (le_B A2 k) l (fun r => A2 r j)) := by
            rw [← hA2] at hG2 ⊢
            exact hG2
          have hkk : G (le_x i k k) k ≠ 0 := by
            rw [x_kk]
            exact hGi
          generalize hGg : (fun l j => G (le_x i k l) j) = G2 at hSq2
          have eG2 : ∀ l j, G (le_x i k l) j = G2 l j := fun l j => by rw [← hGg]
          simp only [eG2] at hG2 hkk
          have hb2 : ∀ l j, k ≤ l → l < u → k ≤ j → j < u → Bd31 (G2 l j) := fun l j h1 h2 h3 h4 => by
            rw [hG2 l j h1 h2 h3 h4]
            exact hPb A2 hPA2 k l j h2 h4
          have hst : ∀ l j, k < l → l < u → k < j → j < u → (G2 l j * G2 k k - G2 l k * G2 k j).tdiv p = la_D u (la_c (le_B A2 (k + 1)) l (fun r => A2 r j)) := by
            intro l j h1 h2 h3 h4
            have := le_st A2 (j := j) hku h2 (show k ≠ l by omega) (by rw [hD2]; exact hp)
            rw [hD2, ← hG2 k k (by omega) hku (by omega) hku, ← hG2 l j (by omega) h2 (by omega) h4, ← hG2 l k (by omega) h2 (by omega) hku, ← hG2 k j (by omega) hku (by omega) h4, Int.mul_comm (G2 k k)] at this
            exact this
          -- the rows below
          have LR : ∀ (d r : Nat) (hh3 : HP) (M3 : Nat → Int), r + d = u → k < r → MAt hh3 n I (va_up F 8 M3) → Sq u M3 (fun l j => if k < l ∧ k < j ∧ l < r then (G2 l j * G2 k k - G2 l k * G2 k j).tdiv p else G2 l j) → Fr h hh3 128 138 → Ok X 0 0 198 [(0, .ref 128), (1, .int (i3 col)), (2, .int (i3 u)), (3, .long (i6 p)), (5, .int (i3 s2)), (6, .int (i3 k)), (7, .int (i3 i)), (8, .int (i3 r))] [] n hh3 := by
            intro d
            induction d with
            | zero =>
              intro r hh3 M3 hru0 hkr hM3 hSq3 hf3
              have : r = u := by omega
              subst this
              have hix := sq_ix hu hku hku
              refine sX7_determinant_198 hc hr ⟨R3_s (by omega), R3_s (by omega), fun _ => sX7_determinant_293 hc hr hM3.o rfl rfl hM3.m ⟨hix.1, ?_⟩, fun z => absurd (Int.le_refl _) z⟩
              rw [hix.2]
              have ekk : M3 (r * k + k) = G2 k k := by
                rw [hSq3 k k hku hku]
                exact if_neg (by omega)
              show Ok X 0 0 61 [_, _, _, (3, .long (i6 (M3 (r * k + k)))), _, _] [] n hh3
              rw [ekk]
              refine ih (k + 1) hh3 M3 _ A2 s2 (G2 k k) (by omega) hs2 hkk ?_ (bd31_6 (hb2 k k (Nat.le_refl k) hku (Nat.le_refl k) hku)) hPA2 hsD2 hM3 hSq3 (fun l j h1 h2 h3 h4 => ?_) hf3
              · rw [← le_Bs]
                exact (hG2 k k (Nat.le_refl k) hku (Nat.le_refl k) hku).symm
              · rw [if_pos ⟨by omega, by omega, h2⟩]
                exact hst l j (by omega) h2 (by omega) h4
            | succ d ihd =>
              intro r hh3 M3 hru0 hkr hM3 hSq3 hf3
              have hru : r < u := by omega
              -- the columns of a row
              have LC : ∀ (e c : Nat) (hh4 : HP) (M4 : Nat → Int), c + e = u → k < c → MAt hh4 n I (va_up F 8 M4) → Sq u M4 (fun l j => if k < l ∧ k < j ∧ (l < r ∨ (l = r ∧ j < c)) then (G2 l j * G2 k k - G2 l k * G2 k j).tdiv p else G2 l j) → Fr h hh4 128 138 → Ok X 0 0 210 [(0, .ref 128), (1, .int (i3 col)), (2, .int (i3 u)), (3, .long (i6 p)), (5, .int (i3 s2)), (6, .int (i3 k)), (7, .int (i3 i)), (8, .int (i3 r)), (9, .int (i3 c))] [] n hh4 := by
                intro e
                induction e with
                | zero =>
                  intro c hh4 M4 hcu hkc hM4 hSq4 hf4
                  have : c = u := by omega
                  subst this
                  refine sX7_determinant_210 hc hr ⟨R3_s (by omega), R3_s (by omega), fun _ => sX7_determinant_287 hc hr ?_, fun z => absurd (Int.le_refl _) z⟩
                  refine ihd (r + 1) hh4 M4 (by omega) (by omega) hM4 (hSq4.eq fun a b ha hb => ?_) hf4
                  by_cases z : k < a ∧ k < b ∧ (a < r ∨ (a = r ∧ b < c))
                  · rw [if_pos z, if_pos ⟨z.1, z.2.1, by omega⟩]
                  · rw [if_neg z, if_neg (fun y => z ⟨y.1, y.2.1, by omega⟩)]
                | succ e ihe =>
                  intro c hh4 M4 hcu hkc hM4 hSq4 hf4
                  have hcu' : c < u := by omega
                  have x1 := sq_ix hu hru hcu'
                  have x2 := sq_ix hu hku hku
                  have x3 := sq_ix hu hru hku
                  have x4 := sq_ix hu hku hcu'
                  have v1 : M4 (u * r + c) = G2 r c := (hSq4 r c hru hcu').trans (if_neg (by omega))
                  have v2 : M4 (u * k + k) = G2 k k := (hSq4 k k hku hku).trans (if_neg (by omega))
                  have v3 : M4 (u * r + k) = G2 r k := (hSq4 r k hru hku).trans (if_neg (by omega))
                  have v4 : M4 (u * k + c) = G2 k c := (hSq4 k c hku hcu').trans (if_neg (by omega))
                  refine sX7_determinant_210 hc hr ⟨R3_s (by omega), R3_s (by omega), fun z => absurd z (by omega), fun _ => ?_⟩
                  refine sX7_determinant_216 hc hr hM4.o rfl rfl hM4.m ⟨x1.1, x2.1, x3.1, x4.1, ?_⟩
                  rw [x1.2, x2.2, x3.2, x4.2]
                  show (R6 (M4 _ * M4 _ - M4 _ * M4 _) ∧ _ ∧ R6 (Int.tdiv (M4 _ * M4 _ - M4 _ * M4 _) p) ∧ _) ∧ _ ∧ Ok X 0 0 210 _ [] n (va_up hh4 136 (al 36 (va_up M4 _ (Int.tdiv (M4 _ * M4 _ - M4 _ * M4 _) p))))
                  rw [v1, v2, v3, v4]
                  have b1 := bd31_m (hb2 r c (by omega) hru (by omega) hcu') (hb2 k k (by omega) hku (by omega) hku) (hb2 r k (by omega) hru (by omega) hku) (hb2 k c (by omega) hku (by omega) hcu')
                  refine ⟨⟨b1, hp6, ?_, hp⟩, x1.1, ?_⟩
                  · rw [hst r c hkr hru hkc hcu']
                    exact bd31_6 (by
                      have := hPb A2 hPA2 (k + 1) r c hru hcu'
                      exact this)
                  · refine ihe (c + 1) _ _ (by omega) (by omega) (hM4.uu (j := 8) (by omega) _) ((hSq4.up hru hcu' _).eq fun a b ha hb => ?_) (hf4.up (by omega))
                    by_cases z : a = r ∧ b = c
                    · rw [if_pos z, z.1, z.2, if_pos ⟨hkr, hkc, Or.inr ⟨rfl, by omega⟩⟩]
                    · rw [if_neg z]
                      by_cases y : k < a ∧ k < b ∧ (a < r ∨ (a = r ∧ b < c))
                      · rw [if_pos y, if_pos ⟨y.1, y.2.1, by omega⟩]
                      · rw [if_neg y, if_neg (fun w => y ⟨w.1, w.2.1, by omega⟩)]
              refine sX7_determinant_198 hc hr ⟨R3_s (by omega), R3_s (by omega), fun z => absurd z (by omega), fun _ => sX7_determinant_204 hc hr ?_⟩
              have := LC (u - (k + 1)) (k + 1) hh3 M3 (by omega) (by omega) hM3 (hSq3.eq fun a b ha hb => ?_) hf3
              · exact this
              · by_cases z : k < a ∧ k < b ∧ a < r
                · rw [if_pos z, if_pos ⟨z.1, z.2.1, Or.inl z.2.2⟩]
                · rw [if_neg z, if_neg (fun w => z ⟨w.1, w.2.1, by omega⟩)]
          refine sX7_determinant_192 hc hr ?_
          have := LR (u - (k + 1)) (k + 1) hh2 M2 (by omega) (by omega) hM2 (hSq2.eq fun a b ha hb => (if_neg (by omega)).symm) hf2
          exact this
        -- the exchange
        have LS : ∀ (d c : Nat) (hh2 : HP) (M2 : Nat → Int) (s2 : Int), c + d = u → (s2 = 1 ∨ s2 = -1) → s2 * la_D u (fun r q => A (le_x i k r) q) = la_D u Q → MAt hh2 n I (va_up F 8 M2) → Sq u M2 (fun l j => if j < c then G (le_x i k l) j else G l j) → Fr h hh2 128 138 → Ok X 0 0 128 [(0, .ref 128), (1, .int (i3 col)), (2, .int (i3 u)), (3, .long (i6 p)), (5, .int (i3 s2)), (6, .int (i3 k)), (7, .int (i3 i)), (8, .int (i3 c))] [] n hh2 := by
          intro d
          induction d with
          | zero =>
            intro c hh2 M2 s2 hcu hs2 hsD2 hM2 hSq2 hf2
            have : c = u := by omega
            subst this
            exact sX7_determinant_128 hc hr ⟨R3_s (by omega), R3_s (by omega), fun _ => L192 hh2 M2 s2 _ hs2 hsD2 hM2 (hSq2.eq fun a b ha hb => if_pos hb) hf2, fun z => absurd (Int.le_refl _) z⟩
          | succ d ihd =>
            intro c hh2 M2 s2 hcu hs2 hsD2 hM2 hSq2 hf2
            have hcu' : c < u := by omega
            have x1 := sq_ix hu hiu hcu'
            have x2 := sq_ix hu hku hcu'
            have v1 : M2 (u * i + c) = G i c := (hSq2 i c hiu hcu').trans (if_neg (by omega))
            have v2 : M2 (u * k + c) = G k c := (hSq2 k c hku hcu').trans (if_neg (by omega))
            refine sX7_determinant_128 hc hr ⟨R3_s (by omega), R3_s (by omega), fun z => absurd z (by omega), fun _ => ?_⟩
            refine sX7_determinant_134 hc hr hM2.o rfl rfl hM2.m ⟨x1.1, x2.1, x1.1, x2.1, ?_⟩
            rw [x1.2, x2.2]
            refine ihd (c + 1) _ (va_up (va_up M2 (u * i + c) (M2 (u * k + c))) (u * k + c) (M2 (u * i + c))) s2 (by omega) hs2 hsD2 ?_ (((hSq2.up hiu hcu' _).up hku hcu' _).eq fun a b ha hb => ?_) ((hf2.up (by omega)).up (by omega))
            · exact (hM2.uu (j := 8) (by omega) _).uu (j := 8) (by omega) _
            · rw [v1, v2]
              by_cases z : b = c
              · subst z
                rw [if_pos (show b < b + 1 by omega)]
                by_cases y : a = k
                · subst y
                  rw [if_pos ⟨rfl, rfl⟩, x_kk]
                · rw [if_neg (fun w => y w.1)]
                  by_cases w : a = i
                  · subst w
                    rw [if_pos ⟨rfl, rfl⟩]
                    unfold le_x
                    rw [if_pos rfl]
                  · rw [if_neg (fun q => w q.1), if_neg (Nat.lt_irrefl b)]
                    unfold le_x
                    rw [if_neg w, if_neg y]
              · rw [if_neg (fun q => z q.2), if_neg (fun q => z q.2)]
                by_cases y : b < c
                · rw [if_pos y, if_pos (show b < c + 1 by omega)]
                · rw [if_neg y, if_neg (show ¬ b < c + 1 by omega)]
        refine sX7_determinant_100 hc hr ⟨R3_s (by omega), R3_s (by omega), fun _ => ⟨R3_s (by omega), R3_s (by omega), fun z => sX7_determinant_125 hc hr ?_, fun z => sX7_determinant_125 hc hr ?_⟩, fun z => absurd z (by omega)⟩
        · refine LS u 0 hh M (-s) (by omega) (by omega) ?_ hM (hSq.eq fun a b ha hb => (if_neg (by omega)).symm) hf
          rw [le_rs A hiu hku (by omega), ← hsD]
          grind
        · have : i = k := by omega
          subst this
          refine LS u 0 hh M s (by omega) hs ?_ hM (hSq.eq fun a b ha hb => (if_neg (by omega)).symm) hf
          simp only [le_x0]
          exact hsD
      -- the search
      have LP : ∀ (d i : Nat), i + d = u → k ≤ i → (∀ j, k ≤ j → j < i → G j k = 0) → Ok X 0 0 71 [(0, .ref 128), (1, .int (i3 col)), (2, .int (i3 u)), (3, .long (i6 p)), (5, .int (i3 s)), (6, .int (i3 k)), (7, .int (i3 i))] [] n hh := by
        intro d
        induction d with
        | zero =>
          intro i hi hki hz
          have : i = u := by omega
          subst this
          refine sX7_determinant_71 hc hr ⟨R3_s (by omega), R3_s (by omega), fun _ => sX7_determinant_100 hc hr ⟨R3_s (by omega), R3_s (by omega), fun z => absurd rfl z, fun _ => ?_⟩, fun z => absurd (Int.le_refl _) z⟩
          have e : la_D i A = 0 := by
            have := la_kn A _ (le_ke A hku (fun j h1 h2 => by rw [← hG j k h1 h2 (Nat.le_refl k) hku]; exact hz j h1 h2)) hku
            rw [if_pos rfl, hD] at this
            exact (Int.mul_eq_zero.mp this).resolve_right hp
          have := kk hh M hM hf
          rw [← hsD, e, Int.mul_zero] at this
          exact this
        | succ d ihd =>
          intro i hi hki hz
          have hiu : i < u := by omega
          have x1 := sq_ix hu hiu hku
          have v1 := hSq i k hiu hku
          refine sX7_determinant_71 hc hr ⟨R3_s (by omega), R3_s (by omega), fun z => absurd z (by omega), fun _ => ?_⟩
          refine sX7_determinant_77 hc hr hM.o rfl rfl hM.m ⟨x1.1, ?_⟩
          rw [x1.2]
          show (R6 (M _) ∧ _) ∧ (¬ M _ = 0 → _) ∧ (M _ = 0 → _)
          rw [v1]
          refine ⟨⟨bd31_6 (hb i k hki hiu (Nat.le_refl k) hku), ⟨by decide, by decide⟩⟩, fun z => L100 i hki hiu z, fun z => ihd (i + 1) (by omega) (by omega) fun j h1 h2 => ?_⟩
          by_cases e : j = i
          · rw [e]
            exact z
          · exact hz j h1 (by omega)
      exact LP (u - k) k (by omega) (Nat.le_refl k) (fun j h1 h2 => absurd h2 (by omega))
  -- the first loop
  have LF : ∀ (d i : Nat) (hh : HP) (M : Nat → Int), i + d = u * u → MAt hh n I (va_up F 8 M) → (∀ x, x < i → M x = Q (x / u) (x % u)) → Fr h hh 128 138 → Ok X 0 0 7 [(0, .ref 128), (1, .int (i3 col)), (2, .int (i3 u)), (3, .int (i3 i))] [] n hh := by
    intro d
    induction d with
    | zero =>
      intro i hh M hi hM hq hf
      have : i = u * u := by omega
      subst this
      refine sX7_determinant_7 hc hr ⟨R3_s (by omega), by rw [euu]; exact R3_s (by omega), fun _ => sX7_determinant_53 hc hr ?_, fun z => absurd (by omega) z⟩
      refine LO u 0 hh M Q Q 1 1 (by omega) (Or.inl rfl) (by decide) (le_I1 _ _) ⟨by decide, by decide⟩ hPQ (Int.one_mul _) hM (fun l j hl hj => ?_) (fun l j _ hl _ hj => (le_Ic Q (fun i => Q i j) hl).symm) hf
      have h1 := sq_lt hu hl hj
      rw [hq _ h1.1, Nat.mul_add_div (by omega), Nat.div_eq_of_lt hj, Nat.add_zero, Nat.mul_add_mod, Nat.mod_eq_of_lt hj]
    | succ d ih =>
      intro i hh M hi hM hq hf
      have hu0 : 0 < u := by
        by_cases z : u = 0
        · subst z
          omega
        · omega
      have hm : i % u < u := Nat.mod_lt _ hu0
      have hd : i / u < u := Nat.div_lt_of_lt_mul (by omega)
      have em : (i : Int) % u = ((i % u : Nat) : Int) := (Int.natCast_emod i u).symm
      have ed : (i : Int) / u = ((i / u : Nat) : Int) := (Int.natCast_ediv i u).symm
      refine sX7_determinant_7 hc hr ⟨R3_s (by omega), by rw [euu]; exact R3_s (by omega), fun z => absurd z (by omega), fun _ => ?_⟩
      have rq : ((0 : Int) ≤ i ∧ (i : Int) ≤ 2147483647) ∧ (0 : Int) < u ∧ (u : Int) ≤ 2147483647 := by omega
      have fin : ∀ v : Int, v = Q (i / u) (i % u) → Ok X 0 0 7 [(0, .ref 128), (1, .int (i3 col)), (2, .int (i3 u)), (3, .int (i3 ((i : Int) + 1)))] [] n (va_up hh 136 (al 36 (va_up M i v))) := by
        intro v hv
        refine ih (i + 1) _ _ (by omega) (hM.uu (j := 8) (by omega) _) (fun x hx => ?_) (hf.up (by omega))
        by_cases e : x = i
        · subst e
          rw [up_self, hv]
        · rw [up_ne e]
          exact hq x (by omega)
      refine sX7_determinant_14 hc hr hM.o rfl rfl rfl hM.r hM.m ⟨rq, rq, ?_⟩
      rw [em, ed]
      generalize i % u = qm at hm fin ⊢
      generalize i / u = qd at hd fin ⊢
      refine ⟨R3_s (by omega), hcol, fun z => ⟨rq, ⟨by omega, by omega, by omega⟩, ⟨by omega, by omega, by omega⟩, ?_⟩, fun z => ⟨⟨by omega, by omega, by omega⟩, ⟨by omega, by omega, by omega⟩, ?_⟩⟩
      · refine fin _ ?_
        rw [← hQ]
        unfold detQ
        rw [if_neg z, show (7 * (qd : Int) + (qm : Int)).toNat = 7 * qd + qm by omega]
        rfl
      · refine fin _ ?_
        rw [← hQ]
        unfold detQ
        rw [if_pos z, show (7 * (qd : Int) + 6).toNat = 7 * qd + 6 by omega]
        rfl
  refine sX7_determinant_0 hc hr hM0.o rfl rfl ?_
  rw [h9]
  exact LF (u * u) 0 h (F 8) (by omega) hM0 (fun x hx => absurd hx (Nat.not_lt_zero x)) Fr.rf
