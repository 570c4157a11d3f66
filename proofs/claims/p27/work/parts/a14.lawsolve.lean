/-! part a14: the law's solve -/
theorem ElI.next {γ : Nat → Int} {B C : Nat} {Pm : Mat → Prop} {k i : Nat} {p : Int} {M A : Mat} {a : Nat → Nat → Int} (h : ElI γ B C Pm k p M A a) (hP : PmOk γ B C Pm) (hk : k < 7) (hi : i < 7) (ki : k ≤ i) (hpv : M i k ≠ 0) : (lf_I (k + 1) (M i k) (clearM (swapM M i k) k p) (fun r q => A (le_x i k r) q) ∧ Pm (fun r q => A (le_x i k r) q)) ∧ a (le_x i k k) k ≠ 0 ∧ Pr8 B C (cl8 γ (clearM (swapM M i k) k p) k) (a (le_x i k k)) ∧ (∀ x, x < 7 → x ≠ k → a (le_x i k x) k = 0 → Pr8 B C (cl8 γ (clearM (swapM M i k) k p) x) (a (le_x i k x))) ∧ ∀ x, x < 7 → x ≠ k → ∀ (f : Nat), f = Nat.gcd (a (le_x i k k) k).natAbs (a (le_x i k x) k).natAbs → ∀ raw a' : Nat → Int, (∀ j, j < 8 → raw j = a (le_x i k x) j * (a (le_x i k k) k).tdiv f - a (le_x i k k) j * (a (le_x i k x) k).tdiv f) → (∀ j, j < 8 → a' j = if gF raw 8 ≤ 1 then raw j else (raw j).tdiv (gF raw 8)) → Pr8 B C (cl8 γ (clearM (swapM M i k) k p) x) a' := by
  have hI := h.1
  have hp := h.2.1
  have hI' := lf_st hk hi ki hp hI
  have hA' := hP.1 A i k hi hk h.2.2.1
  have hsw := h.sw hk hi
  have hkk : le_x i k k = i := by
    unfold le_x
    split
    · rename_i c
      exact c
    · rw [if_pos rfl]
  have hac : a (le_x i k k) k ≠ 0 := by
    rw [hkk]
    exact fun z => hpv ((h.z hi hk).mp z)
  have hNk : cl8 γ (swapM M i k) k k ≠ 0 := by
    unfold cl8
    rw [if_pos hk, lf_sw, hkk]
    exact hpv
  refine ⟨⟨hI', hA'⟩, hac, ?_, fun x hx hxk h0 => ?_, fun x hx hxk f hf raw a' hraw ha' => ?_⟩
  · have e : cl8 γ (clearM (swapM M i k) k p) k = cl8 γ (swapM M i k) k := by
      have : clearM (swapM M i k) k p k = swapM M i k k := by
        funext j
        exact if_pos rfl
      funext j
      unfold cl8
      rw [this]
    rw [e]
    exact hsw k hk
  · exact (hsw x hx).skip (vc := cl8 γ (swapM M i k) k) hp hNk (by omega) h0 (cl_bar hk hi ki hp hI hx hxk)
  · exact (hsw x hx).step (hsw k hk) hp (by omega) hac (cl_bar hk hi ki hp hI hx hxk) (cl_bd hP (by omega) hI' hA' hx) hf hraw ha'
def pvI : Option Nat → Int
  | none => -1
  | some i => i
theorem raw_r6 {B C : Nat} (hBC : BCok B C) {v w ar ac : Nat → Int} (hr : Pr8 B C v ar) (hc : Pr8 B C w ac) {c f : Nat} (hc7 : c < 7) {j : Nat} (hj : j < 8) : R6p (ar j * (ac c).tdiv f - ac j * (ar c).tdiv f) := by
  have t1 := tdiv_bd (a := ac c) (p := (f : Int))
  have t2 := tdiv_bd (a := ar c) (p := (f : Int))
  have b1 := hc.2.1 c hc7
  have b2 := hr.2.1 c hc7
  have d1 : -(B : Int) ≤ (ac c).tdiv f ∧ (ac c).tdiv f ≤ (B : Int) := ⟨by have := b1.1; have := b1.2; omega, by have := b1.1; have := b1.2; omega⟩
  have d2 : -(B : Int) ≤ (ar c).tdiv f ∧ (ar c).tdiv f ≤ (B : Int) := ⟨by have := b2.1; have := b2.2; omega, by have := b2.1; have := b2.2; omega⟩
  obtain ⟨q1, q2, q3, q4⟩ := hBC
  have hBB : B * B ≤ 67108864 * 67108864 := Nat.mul_le_mul q2 q2
  by_cases z : j < 7
  · have m1 := mul_bd (hr.2.1 j z) d1
    have m2 := mul_bd (hc.2.1 j z) d2
    have e : (B : Int) * (B : Int) = ((B * B : Nat) : Int) := (Int.natCast_mul B B).symm
    rw [e] at m1 m2
    exact ⟨by have := m1.1; have := m2.2; omega, by have := m1.2; have := m2.1; omega⟩
  · have j7 : j = 7 := by omega
    subst j7
    have m1 := mul_bd hr.2.2 d1
    have m2 := mul_bd hc.2.2 d2
    have e : (C : Int) * (B : Int) = ((B * C : Nat) : Int) := by rw [Int.mul_comm]; exact (Int.natCast_mul B C).symm
    rw [e] at m1 m2
    exact ⟨by have := m1.1; have := m2.2; omega, by have := m1.2; have := m2.1; omega⟩
theorem Pr8.r6 {B C : Nat} (hBC : BCok B C) {v a : Nat → Int} (h : Pr8 B C v a) {j : Nat} (hj : j < 8) : R6p (a j) := by
  obtain ⟨q1, q2, q3, q4⟩ := hBC
  by_cases z : j < 7
  · have := h.2.1 j z
    exact ⟨by have := this.1; omega, by have := this.2; omega⟩
  · have j7 : j = 7 := by omega
    subst j7
    have := h.2.2
    exact ⟨by have := this.1; omega, by have := this.2; omega⟩
set_option maxHeartbeats 4000000 in
set_option maxRecDepth 100000 in
theorem sL_solve_0 {X : Xt} {n : Nat} {h : HP} {a0 : Nat} (hc : Cx X cL_solve RL 13 1 29) {K : KT} (hr : CxR X (some .boolean) K) 
    (P : Ok X 0 0 2 [(0, .ref a0), (1, .int (i3 0))] [] n h) :
    Ok X 0 0 0 [(0, .ref a0)] [] n h := by
  refine ok_iconst (pc := 0) hc (v := i3 0) dL_solve_0 (by decide) ?_
  refine ok_istore_n (pc := 1) hc (lv' := [(1, .int (i3 0)), (0, .ref a0)]) dL_solve_1 rfl (by decide) rfl ?_
  refine ok_lv [1, 0] rfl ?_
  exact P

set_option maxHeartbeats 4000000 in
set_option maxRecDepth 100000 in
theorem sL_solve_2 {X : Xt} {n : Nat} {h : HP} {a0 : Nat} {x1 : Int} (hc : Cx X cL_solve RL 13 1 29) {K : KT} (hr : CxR X (some .boolean) K) 
    (P : (R3 x1) ∧ (7 ≤ x1 → K (.inl (some (.int (i3 1)))) n h) ∧ (¬ 7 ≤ x1 → Ok X 0 0 13 [(0, .ref a0), (1, .int (i3 x1)), (2, .int (i3 (-1))), (3, .int (i3 6))] [] n h)) :
    Ok X 0 0 2 [(0, .ref a0), (1, .int (i3 x1))] [] n h := by
  refine ok_iload_n (pc := 2) hc dL_solve_2 rfl 1 rfl ?_
  refine ok_bipush (pc := 3) hc (v := i3 7) dL_solve_3 (by decide) ?_
  obtain ⟨r1, P⟩ := P
  refine zk_icmp_ge (pc := 5) (tgt := 289) hc dL_solve_5 (by decide) r1 ⟨by decide, by decide⟩ (fun c => ?_) (fun c => ?_)
  · have P := P.1 c
    refine ok_iconst (pc := 289) hc (v := i3 1) dL_solve_289 (by decide) ?_
    exact ok_zret (st := []) (pc := 290) hc (nar_z (by decide)) hr dL_solve_290 P
  · have P := P.2 c
    refine ok_iconst (pc := 8) hc (v := i3 (-1)) dL_solve_8 (by decide) ?_
    refine ok_istore_n (pc := 9) hc (lv' := [(2, .int (i3 (-1))), (0, .ref a0), (1, .int (i3 x1))]) dL_solve_9 rfl (by decide) rfl ?_
    refine ok_bipush (pc := 10) hc (v := i3 6) dL_solve_10 (by decide) ?_
    refine ok_istore_n (pc := 12) hc (lv' := [(3, .int (i3 6)), (2, .int (i3 (-1))), (0, .ref a0), (1, .int (i3 x1))]) dL_solve_12 rfl (by decide) rfl ?_
    refine ok_lv [2, 3, 1, 0] rfl ?_
    exact P

set_option maxHeartbeats 4000000 in
set_option maxRecDepth 100000 in
theorem sL_solve_13 {X : Xt} {n : Nat} {h : HP} {a0 : Nat} {x1 : Int} {x2 : Int} {x3 : Int} {f3 : Nat → Int} (hc : Cx X cL_solve RL 13 1 29) {K : KT} (hr : CxR X (some .boolean) K) (e3 : At h n a0 (al 56 f3))
    (P : (R3 x3) ∧ (R3 x1) ∧ (x3 < x1 → Ok X 0 0 39 [(0, .ref a0), (1, .int (i3 x1)), (2, .int (i3 x2)), (3, .int (i3 x3))] [] n h) ∧ (¬ x3 < x1 → (Ix ((8 * x3) + x1) 56) ∧ (R6 (f3 (((8 * x3) + x1) : Int).toNat) ∧ R6 0) ∧ ((f3 (((8 * x3) + x1) : Int).toNat) = 0 → Ok X 0 0 13 [(0, .ref a0), (1, .int (i3 x1)), (2, .int (i3 x2)), (3, .int (i3 (x3 + (-1))))] [] n h) ∧ (¬ (f3 (((8 * x3) + x1) : Int).toNat) = 0 → Ok X 0 0 13 [(0, .ref a0), (1, .int (i3 x1)), (2, .int (i3 x3)), (3, .int (i3 (x3 + (-1))))] [] n h))) :
    Ok X 0 0 13 [(0, .ref a0), (1, .int (i3 x1)), (2, .int (i3 x2)), (3, .int (i3 x3))] [] n h := by
  refine ok_iload_n (pc := 13) hc dL_solve_13 rfl 3 rfl ?_
  refine ok_iload_n (pc := 14) hc dL_solve_14 rfl 1 rfl ?_
  obtain ⟨r1, P⟩ := P
  obtain ⟨r2, P⟩ := P
  refine zk_icmp_lt (pc := 15) (tgt := 39) hc dL_solve_15 (by decide) r1 r2 (fun c => ?_) (fun c => ?_)
  · have P := P.1 c
    exact P
  · have P := P.2 c
    refine ok_aload_n (pc := 18) hc dL_solve_18 rfl 0 rfl ?_
    refine ok_bipush (pc := 19) hc (v := i3 8) dL_solve_19 (by decide) ?_
    refine ok_iload_n (pc := 21) hc dL_solve_21 rfl 3 rfl ?_
    refine zk_imul (pc := 22) hc dL_solve_22 ?_
    refine ok_iload_n (pc := 23) hc dL_solve_23 rfl 1 rfl ?_
    refine zk_iadd (pc := 24) hc dL_solve_24 ?_
    obtain ⟨r, P⟩ := P
    refine zk_lald (pc := 25) hc dL_solve_25 e3.1 e3.2 r ?_
    refine ok_lconst (pc := 26) hc (v := i6 0) dL_solve_26 (by decide) ?_
    obtain ⟨r, P⟩ := P
    refine zk_lcmp (pc := 27) hc dL_solve_27 r ?_
    refine zk_if_eq (pc := 28) (tgt := 33) hc dL_solve_28 (by decide) R3_cmp (fun c => ?_) (fun c => ?_)
    · have P := P.1 (cmp_eq.mp c)
      refine zk_iinc (pc := 33) hc (q := 3) (x := x3) (lv' := [(3, .int (i3 (x3 + (-1)))), (0, .ref a0), (1, .int (i3 x1)), (2, .int (i3 x2))]) dL_solve_33 rfl (by decide) rfl ?_
      refine ok_goto (pc := 36) (tgt := 13) hc dL_solve_36 (by decide) ?_
      refine ok_lv [1, 2, 3, 0] rfl ?_
      exact P
    · have P := P.2 (fun z => c (cmp_eq.mpr z))
      refine ok_iload_n (pc := 31) hc dL_solve_31 rfl 3 rfl ?_
      refine ok_istore_n (pc := 32) hc (lv' := [(2, .int (i3 x3)), (0, .ref a0), (1, .int (i3 x1)), (3, .int (i3 x3))]) dL_solve_32 rfl (by decide) rfl ?_
      refine zk_iinc (pc := 33) hc (q := 3) (x := x3) (lv' := [(3, .int (i3 (x3 + (-1)))), (2, .int (i3 x3)), (0, .ref a0), (1, .int (i3 x1))]) dL_solve_33 rfl (by decide) rfl ?_
      refine ok_goto (pc := 36) (tgt := 13) hc dL_solve_36 (by decide) ?_
      refine ok_lv [2, 3, 1, 0] rfl ?_
      exact P

set_option maxHeartbeats 4000000 in
set_option maxRecDepth 100000 in
theorem sL_solve_39 {X : Xt} {n : Nat} {h : HP} {a0 : Nat} {x1 : Int} {x2 : Int} {x3 : Int} (hc : Cx X cL_solve RL 13 1 29) {K : KT} (hr : CxR X (some .boolean) K) 
    (P : (R3 x2) ∧ (0 ≤ x2 → Ok X 0 0 47 [(0, .ref a0), (1, .int (i3 x1)), (2, .int (i3 x2)), (3, .int (i3 0))] [] n h) ∧ (¬ 0 ≤ x2 → K (.inl (some (.int (i3 0)))) n h)) :
    Ok X 0 0 39 [(0, .ref a0), (1, .int (i3 x1)), (2, .int (i3 x2)), (3, .int (i3 x3))] [] n h := by
  refine ok_iload_n (pc := 39) hc dL_solve_39 rfl 2 rfl ?_
  obtain ⟨r1, P⟩ := P
  refine zk_if_ge (pc := 40) (tgt := 45) hc dL_solve_40 (by decide) r1 (fun c => ?_) (fun c => ?_)
  · have P := P.1 c
    refine ok_iconst (pc := 45) hc (v := i3 0) dL_solve_45 (by decide) ?_
    refine ok_istore_n (pc := 46) hc (lv' := [(3, .int (i3 0)), (0, .ref a0), (1, .int (i3 x1)), (2, .int (i3 x2))]) dL_solve_46 rfl (by decide) rfl ?_
    refine ok_lv [1, 2, 3, 0] rfl ?_
    exact P
  · have P := P.2 c
    refine ok_iconst (pc := 43) hc (v := i3 0) dL_solve_43 (by decide) ?_
    exact ok_zret (st := []) (pc := 44) hc (nar_z (by decide)) hr dL_solve_44 P

set_option maxHeartbeats 4000000 in
set_option maxRecDepth 100000 in
theorem sL_solve_47 {X : Xt} {n : Nat} {h : HP} {a0 : Nat} {x1 : Int} {x2 : Int} {x3 : Int} {f2 : Nat → Int} (hc : Cx X cL_solve RL 13 1 29) {K : KT} (hr : CxR X (some .boolean) K) (e2 : At h n a0 (al 56 f2))
    (P : (R3 x3) ∧ (8 ≤ x3 → Ok X 0 0 95 [(0, .ref a0), (1, .int (i3 x1)), (2, .int (i3 x2)), (3, .int (i3 x3))] [] n h) ∧ (¬ 8 ≤ x3 → (Ix ((8 * x1) + x3) 56) ∧ (Ix ((8 * x2) + x3) 56) ∧ (Ix ((8 * x1) + x3) 56) ∧ (Ix ((8 * x2) + x3) 56) ∧ Ok X 0 0 47 [(0, .ref a0), (1, .int (i3 x1)), (2, .int (i3 x2)), (3, .int (i3 (x3 + 1)))] [] n (va_up (va_up h a0 (al 56 (va_up f2 (((8 * x1) + x3) : Int).toNat (f2 (((8 * x2) + x3) : Int).toNat)))) a0 (al 56 (va_up (va_up f2 (((8 * x1) + x3) : Int).toNat (f2 (((8 * x2) + x3) : Int).toNat)) (((8 * x2) + x3) : Int).toNat (f2 (((8 * x1) + x3) : Int).toNat)))))) :
    Ok X 0 0 47 [(0, .ref a0), (1, .int (i3 x1)), (2, .int (i3 x2)), (3, .int (i3 x3))] [] n h := by
  refine ok_iload_n (pc := 47) hc dL_solve_47 rfl 3 rfl ?_
  refine ok_bipush (pc := 48) hc (v := i3 8) dL_solve_48 (by decide) ?_
  obtain ⟨r1, P⟩ := P
  refine zk_icmp_ge (pc := 50) (tgt := 95) hc dL_solve_50 (by decide) r1 ⟨by decide, by decide⟩ (fun c => ?_) (fun c => ?_)
  · have P := P.1 c
    exact P
  · have P := P.2 c
    refine ok_aload_n (pc := 53) hc dL_solve_53 rfl 0 rfl ?_
    refine ok_bipush (pc := 54) hc (v := i3 8) dL_solve_54 (by decide) ?_
    refine ok_iload_n (pc := 56) hc dL_solve_56 rfl 1 rfl ?_
    refine zk_imul (pc := 57) hc dL_solve_57 ?_
    refine ok_iload_n (pc := 58) hc dL_solve_58 rfl 3 rfl ?_
    refine zk_iadd (pc := 59) hc dL_solve_59 ?_
    obtain ⟨r, P⟩ := P
    refine zk_lald (pc := 60) hc dL_solve_60 e2.1 e2.2 r ?_
    refine ok_lstore (pc := 61) hc (lv' := [(4, .long (i6 (f2 (((8 * x1) + x3) : Int).toNat))), (0, .ref a0), (1, .int (i3 x1)), (2, .int (i3 x2)), (3, .int (i3 x3))]) dL_solve_61 (by decide) rfl ?_
    refine ok_aload_n (pc := 63) hc dL_solve_63 rfl 1 rfl ?_
    refine ok_bipush (pc := 64) hc (v := i3 8) dL_solve_64 (by decide) ?_
    refine ok_iload_n (pc := 66) hc dL_solve_66 rfl 2 rfl ?_
    refine zk_imul (pc := 67) hc dL_solve_67 ?_
    refine ok_iload_n (pc := 68) hc dL_solve_68 rfl 4 rfl ?_
    refine zk_iadd (pc := 69) hc dL_solve_69 ?_
    refine ok_aload_n (pc := 70) hc dL_solve_70 rfl 1 rfl ?_
    refine ok_bipush (pc := 71) hc (v := i3 8) dL_solve_71 (by decide) ?_
    refine ok_iload_n (pc := 73) hc dL_solve_73 rfl 3 rfl ?_
    refine zk_imul (pc := 74) hc dL_solve_74 ?_
    refine ok_iload_n (pc := 75) hc dL_solve_75 rfl 4 rfl ?_
    refine zk_iadd (pc := 76) hc dL_solve_76 ?_
    obtain ⟨r, P⟩ := P
    refine zk_lald (pc := 77) hc dL_solve_77 e2.1 e2.2 r ?_
    obtain ⟨r, P⟩ := P
    refine zk_last (pc := 78) hc dL_solve_78 e2.1 e2.2 r ?_
    refine ok_aload_n (pc := 79) hc dL_solve_79 rfl 1 rfl ?_
    refine ok_bipush (pc := 80) hc (v := i3 8) dL_solve_80 (by decide) ?_
    refine ok_iload_n (pc := 82) hc dL_solve_82 rfl 3 rfl ?_
    refine zk_imul (pc := 83) hc dL_solve_83 ?_
    refine ok_iload_n (pc := 84) hc dL_solve_84 rfl 4 rfl ?_
    refine zk_iadd (pc := 85) hc dL_solve_85 ?_
    refine ok_lload (pc := 86) hc dL_solve_86 0 rfl ?_
    obtain ⟨r, P⟩ := P
    refine zk_last (pc := 88) hc dL_solve_88 e2.1 up_self r ?_
    refine zk_iinc (pc := 89) hc (q := 4) (x := x3) (lv' := [(3, .int (i3 (x3 + 1))), (4, .long (i6 (f2 (((8 * x1) + x3) : Int).toNat))), (0, .ref a0), (1, .int (i3 x1)), (2, .int (i3 x2))]) dL_solve_89 rfl (by decide) rfl ?_
    refine ok_goto (pc := 92) (tgt := 47) hc dL_solve_92 (by decide) ?_
    refine ok_lv [2, 3, 4, 0] rfl ?_
    exact P

set_option maxHeartbeats 4000000 in
set_option maxRecDepth 100000 in
theorem sL_solve_95 {X : Xt} {n : Nat} {h : HP} {a0 : Nat} {x1 : Int} {x2 : Int} {x3 : Int} (hc : Cx X cL_solve RL 13 1 29) {K : KT} (hr : CxR X (some .boolean) K) 
    (P : Ok X 0 0 97 [(0, .ref a0), (1, .int (i3 x1)), (2, .int (i3 x2)), (3, .int (i3 0))] [] n h) :
    Ok X 0 0 95 [(0, .ref a0), (1, .int (i3 x1)), (2, .int (i3 x2)), (3, .int (i3 x3))] [] n h := by
  refine ok_iconst (pc := 95) hc (v := i3 0) dL_solve_95 (by decide) ?_
  refine ok_istore_n (pc := 96) hc (lv' := [(3, .int (i3 0)), (0, .ref a0), (1, .int (i3 x1)), (2, .int (i3 x2))]) dL_solve_96 rfl (by decide) rfl ?_
  refine ok_lv [1, 2, 3, 0] rfl ?_
  exact P

set_option maxHeartbeats 4000000 in
set_option maxRecDepth 100000 in
theorem sL_solve_97 {X : Xt} {n : Nat} {h : HP} {a0 : Nat} {x1 : Int} {x2 : Int} {x3 : Int} (hc : Cx X cL_solve RL 13 1 29) {K : KT} (hr : CxR X (some .boolean) K) 
    (P : (R3 x3) ∧ (7 ≤ x3 → Ok X 0 0 283 [(0, .ref a0), (1, .int (i3 x1)), (2, .int (i3 x2)), (3, .int (i3 x3))] [] n h) ∧ (¬ 7 ≤ x3 → (R3 x3) ∧ (R3 x1) ∧ (x3 = x1 → Ok X 0 0 97 [(0, .ref a0), (1, .int (i3 x1)), (2, .int (i3 x2)), (3, .int (i3 (x3 + 1)))] [] n h) ∧ (¬ x3 = x1 → Ok X 0 0 108 [(0, .ref a0), (1, .int (i3 x1)), (2, .int (i3 x2)), (3, .int (i3 x3))] [] n h))) :
    Ok X 0 0 97 [(0, .ref a0), (1, .int (i3 x1)), (2, .int (i3 x2)), (3, .int (i3 x3))] [] n h := by
  refine ok_iload_n (pc := 97) hc dL_solve_97 rfl 3 rfl ?_
  refine ok_bipush (pc := 98) hc (v := i3 7) dL_solve_98 (by decide) ?_
  obtain ⟨r1, P⟩ := P
  refine zk_icmp_ge (pc := 100) (tgt := 283) hc dL_solve_100 (by decide) r1 ⟨by decide, by decide⟩ (fun c => ?_) (fun c => ?_)
  · have P := P.1 c
    exact P
  · have P := P.2 c
    refine ok_iload_n (pc := 103) hc dL_solve_103 rfl 3 rfl ?_
    refine ok_iload_n (pc := 104) hc dL_solve_104 rfl 1 rfl ?_
    obtain ⟨r2, P⟩ := P
    obtain ⟨r3, P⟩ := P
    refine zk_icmp_eq (pc := 105) (tgt := 277) hc dL_solve_105 (by decide) r2 r3 (fun c => ?_) (fun c => ?_)
    · have P := P.1 c
      refine zk_iinc (pc := 277) hc (q := 3) (x := x3) (lv' := [(3, .int (i3 (x3 + 1))), (0, .ref a0), (1, .int (i3 x1)), (2, .int (i3 x2))]) dL_solve_277 rfl (by decide) rfl ?_
      refine ok_goto (pc := 280) (tgt := 97) hc dL_solve_280 (by decide) ?_
      refine ok_lv [1, 2, 3, 0] rfl ?_
      exact P
    · have P := P.2 c
      exact P

set_option maxHeartbeats 4000000 in
set_option maxRecDepth 100000 in
theorem sL_solve_108 {X : Xt} {n : Nat} {h : HP} {a0 : Nat} {x1 : Int} {x2 : Int} {x3 : Int} {f1 : Nat → Int} (hc : Cx X cL_solve RL 13 1 29) {K : KT} (hr : CxR X (some .boolean) K) (e1 : At h n a0 (al 56 f1))
    (P : (Ix ((8 * x3) + x1) 56) ∧ (R6 (f1 (((8 * x3) + x1) : Int).toNat) ∧ R6 0) ∧ (¬ (f1 (((8 * x3) + x1) : Int).toNat) = 0 → Ok X 0 0 124 [(0, .ref a0), (1, .int (i3 x1)), (2, .int (i3 x2)), (3, .int (i3 x3))] [] n h) ∧ ((f1 (((8 * x3) + x1) : Int).toNat) = 0 → Ok X 0 0 277 [(0, .ref a0), (1, .int (i3 x1)), (2, .int (i3 x2)), (3, .int (i3 x3))] [] n h)) :
    Ok X 0 0 108 [(0, .ref a0), (1, .int (i3 x1)), (2, .int (i3 x2)), (3, .int (i3 x3))] [] n h := by
  refine ok_aload_n (pc := 108) hc dL_solve_108 rfl 0 rfl ?_
  refine ok_bipush (pc := 109) hc (v := i3 8) dL_solve_109 (by decide) ?_
  refine ok_iload_n (pc := 111) hc dL_solve_111 rfl 3 rfl ?_
  refine zk_imul (pc := 112) hc dL_solve_112 ?_
  refine ok_iload_n (pc := 113) hc dL_solve_113 rfl 1 rfl ?_
  refine zk_iadd (pc := 114) hc dL_solve_114 ?_
  obtain ⟨r, P⟩ := P
  refine zk_lald (pc := 115) hc dL_solve_115 e1.1 e1.2 r ?_
  refine ok_lconst (pc := 116) hc (v := i6 0) dL_solve_116 (by decide) ?_
  obtain ⟨r, P⟩ := P
  refine zk_lcmp (pc := 117) hc dL_solve_117 r ?_
  refine zk_if_ne (pc := 118) (tgt := 124) hc dL_solve_118 (by decide) R3_cmp (fun c => ?_) (fun c => ?_)
  · have P := P.1 (fun z => c (cmp_eq.mpr z))
    exact P
  · have P := P.2 (cmp_eq.mp c)
    refine ok_goto (pc := 121) (tgt := 277) hc dL_solve_121 (by decide) ?_
    exact P

set_option maxHeartbeats 4000000 in
set_option maxRecDepth 100000 in
theorem sL_solve_124 {X : Xt} {n : Nat} {h : HP} {a0 : Nat} {x1 : Int} {x2 : Int} {x3 : Int} {f1 : Nat → Int} (hc : Cx X cL_solve RL 13 1 29) {K : KT} (hr : CxR X (some .boolean) K) (e1 : At h n a0 (al 56 f1))
    (P : (Ix ((8 * x1) + x1) 56) ∧ (Ix ((8 * x3) + x1) 56) ∧ (R6p (f1 (((8 * x1) + x1) : Int).toNat) ∧ R6p (f1 (((8 * x3) + x1) : Int).toNat)) ∧ (Ix ((8 * x1) + x1) 56) ∧ (R6 (f1 (((8 * x1) + x1) : Int).toNat) ∧ R6 (gcZ (f1 (((8 * x1) + x1) : Int).toNat) (f1 (((8 * x3) + x1) : Int).toNat)) ∧ R6 (((f1 (((8 * x1) + x1) : Int).toNat) : Int).tdiv (gcZ (f1 (((8 * x1) + x1) : Int).toNat) (f1 (((8 * x3) + x1) : Int).toNat))) ∧ (gcZ (f1 (((8 * x1) + x1) : Int).toNat) (f1 (((8 * x3) + x1) : Int).toNat)) ≠ 0) ∧ (Ix ((8 * x3) + x1) 56) ∧ (R6 (f1 (((8 * x3) + x1) : Int).toNat) ∧ R6 (gcZ (f1 (((8 * x1) + x1) : Int).toNat) (f1 (((8 * x3) + x1) : Int).toNat)) ∧ R6 (((f1 (((8 * x3) + x1) : Int).toNat) : Int).tdiv (gcZ (f1 (((8 * x1) + x1) : Int).toNat) (f1 (((8 * x3) + x1) : Int).toNat))) ∧ (gcZ (f1 (((8 * x1) + x1) : Int).toNat) (f1 (((8 * x3) + x1) : Int).toNat)) ≠ 0) ∧ Ok X 0 0 177 [(0, .ref a0), (1, .int (i3 x1)), (2, .int (i3 x2)), (3, .int (i3 x3)), (4, .long (i6 (gcZ (f1 (((8 * x1) + x1) : Int).toNat) (f1 (((8 * x3) + x1) : Int).toNat)))), (6, .long (i6 (((f1 (((8 * x1) + x1) : Int).toNat) : Int).tdiv (gcZ (f1 (((8 * x1) + x1) : Int).toNat) (f1 (((8 * x3) + x1) : Int).toNat))))), (8, .long (i6 (((f1 (((8 * x3) + x1) : Int).toNat) : Int).tdiv (gcZ (f1 (((8 * x1) + x1) : Int).toNat) (f1 (((8 * x3) + x1) : Int).toNat))))), (10, .long (i6 0)), (12, .int (i3 0))] [] n h) :
    Ok X 0 0 124 [(0, .ref a0), (1, .int (i3 x1)), (2, .int (i3 x2)), (3, .int (i3 x3))] [] n h := by
  refine ok_aload_n (pc := 124) hc dL_solve_124 rfl 0 rfl ?_
  refine ok_bipush (pc := 125) hc (v := i3 8) dL_solve_125 (by decide) ?_
  refine ok_iload_n (pc := 127) hc dL_solve_127 rfl 1 rfl ?_
  refine zk_imul (pc := 128) hc dL_solve_128 ?_
  refine ok_iload_n (pc := 129) hc dL_solve_129 rfl 1 rfl ?_
  refine zk_iadd (pc := 130) hc dL_solve_130 ?_
  obtain ⟨r, P⟩ := P
  refine zk_lald (pc := 131) hc dL_solve_131 e1.1 e1.2 r ?_
  refine ok_aload_n (pc := 132) hc dL_solve_132 rfl 0 rfl ?_
  refine ok_bipush (pc := 133) hc (v := i3 8) dL_solve_133 (by decide) ?_
  refine ok_iload_n (pc := 135) hc dL_solve_135 rfl 3 rfl ?_
  refine zk_imul (pc := 136) hc dL_solve_136 ?_
  refine ok_iload_n (pc := 137) hc dL_solve_137 rfl 1 rfl ?_
  refine zk_iadd (pc := 138) hc dL_solve_138 ?_
  obtain ⟨r, P⟩ := P
  refine zk_lald (pc := 139) hc dL_solve_139 e1.1 e1.2 r ?_
  obtain ⟨r0, P⟩ := P
  refine ok_callS (pc := 140) (cb := 0) (sb := 0) (st := []) hc [.long (i6 (f1 (((8 * x1) + x1) : Int).toNat)), .long (i6 (f1 (((8 * x3) + x1) : Int).toNat))] cs_L_37 sp_L_common (by decide) dL_solve_140 rfl rfl rfl rfl (Nat.le_of_ble_eq_true rfl) (⟨_, _, rfl, r0, rfl, ?_⟩)
  show Ok X 0 0 (140 + 3) [(0, .ref a0), (1, .int (i3 x1)), (2, .int (i3 x2)), (3, .int (i3 x3))] [.long (i6 (gcZ (f1 (((8 * x1) + x1) : Int).toNat) (f1 (((8 * x3) + x1) : Int).toNat)))] n h
  refine ok_lstore (pc := 143) hc (lv' := [(4, .long (i6 (gcZ (f1 (((8 * x1) + x1) : Int).toNat) (f1 (((8 * x3) + x1) : Int).toNat)))), (0, .ref a0), (1, .int (i3 x1)), (2, .int (i3 x2)), (3, .int (i3 x3))]) dL_solve_143 (by decide) rfl ?_
  refine ok_aload_n (pc := 145) hc dL_solve_145 rfl 1 rfl ?_
  refine ok_bipush (pc := 146) hc (v := i3 8) dL_solve_146 (by decide) ?_
  refine ok_iload_n (pc := 148) hc dL_solve_148 rfl 2 rfl ?_
  refine zk_imul (pc := 149) hc dL_solve_149 ?_
  refine ok_iload_n (pc := 150) hc dL_solve_150 rfl 2 rfl ?_
  refine zk_iadd (pc := 151) hc dL_solve_151 ?_
  obtain ⟨r, P⟩ := P
  refine zk_lald (pc := 152) hc dL_solve_152 e1.1 e1.2 r ?_
  refine ok_lload (pc := 153) hc dL_solve_153 0 rfl ?_
  obtain ⟨r, P⟩ := P
  refine zk_ldiv (pc := 155) hc dL_solve_155 r ?_
  refine ok_lstore (pc := 156) hc (lv' := [(6, .long (i6 (((f1 (((8 * x1) + x1) : Int).toNat) : Int).tdiv (gcZ (f1 (((8 * x1) + x1) : Int).toNat) (f1 (((8 * x3) + x1) : Int).toNat))))), (4, .long (i6 (gcZ (f1 (((8 * x1) + x1) : Int).toNat) (f1 (((8 * x3) + x1) : Int).toNat)))), (0, .ref a0), (1, .int (i3 x1)), (2, .int (i3 x2)), (3, .int (i3 x3))]) dL_solve_156 (by decide) rfl ?_
  refine ok_aload_n (pc := 158) hc dL_solve_158 rfl 2 rfl ?_
  refine ok_bipush (pc := 159) hc (v := i3 8) dL_solve_159 (by decide) ?_
  refine ok_iload_n (pc := 161) hc dL_solve_161 rfl 5 rfl ?_
  refine zk_imul (pc := 162) hc dL_solve_162 ?_
  refine ok_iload_n (pc := 163) hc dL_solve_163 rfl 3 rfl ?_
  refine zk_iadd (pc := 164) hc dL_solve_164 ?_
  obtain ⟨r, P⟩ := P
  refine zk_lald (pc := 165) hc dL_solve_165 e1.1 e1.2 r ?_
  refine ok_lload (pc := 166) hc dL_solve_166 1 rfl ?_
  obtain ⟨r, P⟩ := P
  refine zk_ldiv (pc := 168) hc dL_solve_168 r ?_
  refine ok_lstore (pc := 169) hc (lv' := [(8, .long (i6 (((f1 (((8 * x3) + x1) : Int).toNat) : Int).tdiv (gcZ (f1 (((8 * x1) + x1) : Int).toNat) (f1 (((8 * x3) + x1) : Int).toNat))))), (6, .long (i6 (((f1 (((8 * x1) + x1) : Int).toNat) : Int).tdiv (gcZ (f1 (((8 * x1) + x1) : Int).toNat) (f1 (((8 * x3) + x1) : Int).toNat))))), (4, .long (i6 (gcZ (f1 (((8 * x1) + x1) : Int).toNat) (f1 (((8 * x3) + x1) : Int).toNat)))), (0, .ref a0), (1, .int (i3 x1)), (2, .int (i3 x2)), (3, .int (i3 x3))]) dL_solve_169 (by decide) rfl ?_
  refine ok_lconst (pc := 171) hc (v := i6 0) dL_solve_171 (by decide) ?_
  refine ok_lstore (pc := 172) hc (lv' := [(10, .long (i6 0)), (8, .long (i6 (((f1 (((8 * x3) + x1) : Int).toNat) : Int).tdiv (gcZ (f1 (((8 * x1) + x1) : Int).toNat) (f1 (((8 * x3) + x1) : Int).toNat))))), (6, .long (i6 (((f1 (((8 * x1) + x1) : Int).toNat) : Int).tdiv (gcZ (f1 (((8 * x1) + x1) : Int).toNat) (f1 (((8 * x3) + x1) : Int).toNat))))), (4, .long (i6 (gcZ (f1 (((8 * x1) + x1) : Int).toNat) (f1 (((8 * x3) + x1) : Int).toNat)))), (0, .ref a0), (1, .int (i3 x1)), (2, .int (i3 x2)), (3, .int (i3 x3))]) dL_solve_172 (by decide) rfl ?_
  refine ok_iconst (pc := 174) hc (v := i3 0) dL_solve_174 (by decide) ?_
  refine ok_istore (pc := 175) hc (lv' := [(12, .int (i3 0)), (10, .long (i6 0)), (8, .long (i6 (((f1 (((8 * x3) + x1) : Int).toNat) : Int).tdiv (gcZ (f1 (((8 * x1) + x1) : Int).toNat) (f1 (((8 * x3) + x1) : Int).toNat))))), (6, .long (i6 (((f1 (((8 * x1) + x1) : Int).toNat) : Int).tdiv (gcZ (f1 (((8 * x1) + x1) : Int).toNat) (f1 (((8 * x3) + x1) : Int).toNat))))), (4, .long (i6 (gcZ (f1 (((8 * x1) + x1) : Int).toNat) (f1 (((8 * x3) + x1) : Int).toNat)))), (0, .ref a0), (1, .int (i3 x1)), (2, .int (i3 x2)), (3, .int (i3 x3))]) dL_solve_175 (by decide) rfl ?_
  refine ok_lv [5, 6, 7, 8, 4, 3, 2, 1, 0] rfl ?_
  exact P

set_option maxHeartbeats 4000000 in
set_option maxRecDepth 100000 in
theorem sL_solve_177 {X : Xt} {n : Nat} {h : HP} {a0 : Nat} {x1 : Int} {x2 : Int} {x3 : Int} {l4 : Int} {l6 : Int} {l8 : Int} {l10 : Int} {x12 : Int} {f2 : Nat → Int} (hc : Cx X cL_solve RL 13 1 29) {K : KT} (hr : CxR X (some .boolean) K) (e2 : At h n a0 (al 56 f2))
    (P : (R3 x12) ∧ (8 ≤ x12 → Ok X 0 0 240 [(0, .ref a0), (1, .int (i3 x1)), (2, .int (i3 x2)), (3, .int (i3 x3)), (4, .long (i6 l4)), (6, .long (i6 l6)), (8, .long (i6 l8)), (10, .long (i6 l10)), (12, .int (i3 x12))] [] n h) ∧ (¬ 8 ≤ x12 → (Ix ((8 * x3) + x12) 56) ∧ (Ix ((8 * x1) + x12) 56) ∧ (Ix ((8 * x3) + x12) 56) ∧ (Ix ((8 * x3) + x12) 56) ∧ (R6p l10 ∧ R6p ((va_up f2 (((8 * x3) + x12) : Int).toNat (((f2 (((8 * x3) + x12) : Int).toNat) * l6) - ((f2 (((8 * x1) + x12) : Int).toNat) * l8))) (((8 * x3) + x12) : Int).toNat)) ∧ Ok X 0 0 177 [(0, .ref a0), (1, .int (i3 x1)), (2, .int (i3 x2)), (3, .int (i3 x3)), (4, .long (i6 l4)), (6, .long (i6 l6)), (8, .long (i6 l8)), (10, .long (i6 (gcZ l10 ((va_up f2 (((8 * x3) + x12) : Int).toNat (((f2 (((8 * x3) + x12) : Int).toNat) * l6) - ((f2 (((8 * x1) + x12) : Int).toNat) * l8))) (((8 * x3) + x12) : Int).toNat)))), (12, .int (i3 (x12 + 1)))] [] n (va_up h a0 (al 56 (va_up f2 (((8 * x3) + x12) : Int).toNat (((f2 (((8 * x3) + x12) : Int).toNat) * l6) - ((f2 (((8 * x1) + x12) : Int).toNat) * l8))))))) :
    Ok X 0 0 177 [(0, .ref a0), (1, .int (i3 x1)), (2, .int (i3 x2)), (3, .int (i3 x3)), (4, .long (i6 l4)), (6, .long (i6 l6)), (8, .long (i6 l8)), (10, .long (i6 l10)), (12, .int (i3 x12))] [] n h := by
  refine ok_iload (pc := 177) hc dL_solve_177 8 rfl ?_
  refine ok_bipush (pc := 179) hc (v := i3 8) dL_solve_179 (by decide) ?_
  obtain ⟨r1, P⟩ := P
  refine zk_icmp_ge (pc := 181) (tgt := 240) hc dL_solve_181 (by decide) r1 ⟨by decide, by decide⟩ (fun c => ?_) (fun c => ?_)
  · have P := P.1 c
    exact P
  · have P := P.2 c
    refine ok_aload_n (pc := 184) hc dL_solve_184 rfl 0 rfl ?_
    refine ok_bipush (pc := 185) hc (v := i3 8) dL_solve_185 (by decide) ?_
    refine ok_iload_n (pc := 187) hc dL_solve_187 rfl 3 rfl ?_
    refine zk_imul (pc := 188) hc dL_solve_188 ?_
    refine ok_iload (pc := 189) hc dL_solve_189 8 rfl ?_
    refine zk_iadd (pc := 191) hc dL_solve_191 ?_
    refine ok_aload_n (pc := 192) hc dL_solve_192 rfl 0 rfl ?_
    refine ok_bipush (pc := 193) hc (v := i3 8) dL_solve_193 (by decide) ?_
    refine ok_iload_n (pc := 195) hc dL_solve_195 rfl 3 rfl ?_
    refine zk_imul (pc := 196) hc dL_solve_196 ?_
    refine ok_iload (pc := 197) hc dL_solve_197 8 rfl ?_
    refine zk_iadd (pc := 199) hc dL_solve_199 ?_
    obtain ⟨r, P⟩ := P
    refine zk_lald (pc := 200) hc dL_solve_200 e2.1 e2.2 r ?_
    refine ok_lload (pc := 201) hc dL_solve_201 5 rfl ?_
    refine zk_lmul (pc := 203) hc dL_solve_203 ?_
    refine ok_aload_n (pc := 204) hc dL_solve_204 rfl 0 rfl ?_
    refine ok_bipush (pc := 205) hc (v := i3 8) dL_solve_205 (by decide) ?_
    refine ok_iload_n (pc := 207) hc dL_solve_207 rfl 1 rfl ?_
    refine zk_imul (pc := 208) hc dL_solve_208 ?_
    refine ok_iload (pc := 209) hc dL_solve_209 8 rfl ?_
    refine zk_iadd (pc := 211) hc dL_solve_211 ?_
    obtain ⟨r, P⟩ := P
    refine zk_lald (pc := 212) hc dL_solve_212 e2.1 e2.2 r ?_
    refine ok_lload (pc := 213) hc dL_solve_213 6 rfl ?_
    refine zk_lmul (pc := 215) hc dL_solve_215 ?_
    refine zk_lsub (pc := 216) hc dL_solve_216 ?_
    obtain ⟨r, P⟩ := P
    refine zk_last (pc := 217) hc dL_solve_217 e2.1 e2.2 r ?_
    refine ok_lload (pc := 218) hc dL_solve_218 7 rfl ?_
    refine ok_aload_n (pc := 220) hc dL_solve_220 rfl 0 rfl ?_
    refine ok_bipush (pc := 221) hc (v := i3 8) dL_solve_221 (by decide) ?_
    refine ok_iload_n (pc := 223) hc dL_solve_223 rfl 3 rfl ?_
    refine zk_imul (pc := 224) hc dL_solve_224 ?_
    refine ok_iload (pc := 225) hc dL_solve_225 8 rfl ?_
    refine zk_iadd (pc := 227) hc dL_solve_227 ?_
    obtain ⟨r, P⟩ := P
    refine zk_lald (pc := 228) hc dL_solve_228 e2.1 up_self r ?_
    obtain ⟨r0, P⟩ := P
    refine ok_callS (pc := 229) (cb := 0) (sb := 0) (st := []) hc [.long (i6 l10), .long (i6 ((va_up f2 (((8 * x3) + x12) : Int).toNat (((f2 (((8 * x3) + x12) : Int).toNat) * l6) - ((f2 (((8 * x1) + x12) : Int).toNat) * l8))) (((8 * x3) + x12) : Int).toNat))] cs_L_37 sp_L_common (by decide) dL_solve_229 rfl rfl rfl rfl (Nat.le_of_ble_eq_true rfl) (⟨_, _, rfl, r0, rfl, ?_⟩)
    show Ok X 0 0 (229 + 3) [(0, .ref a0), (1, .int (i3 x1)), (2, .int (i3 x2)), (3, .int (i3 x3)), (4, .long (i6 l4)), (6, .long (i6 l6)), (8, .long (i6 l8)), (10, .long (i6 l10)), (12, .int (i3 x12))] [.long (i6 (gcZ l10 ((va_up f2 (((8 * x3) + x12) : Int).toNat (((f2 (((8 * x3) + x12) : Int).toNat) * l6) - ((f2 (((8 * x1) + x12) : Int).toNat) * l8))) (((8 * x3) + x12) : Int).toNat)))] n (va_up h a0 (al 56 (va_up f2 (((8 * x3) + x12) : Int).toNat (((f2 (((8 * x3) + x12) : Int).toNat) * l6) - ((f2 (((8 * x1) + x12) : Int).toNat) * l8)))))
    refine ok_lstore (pc := 232) hc (lv' := [(10, .long (i6 (gcZ l10 ((va_up f2 (((8 * x3) + x12) : Int).toNat (((f2 (((8 * x3) + x12) : Int).toNat) * l6) - ((f2 (((8 * x1) + x12) : Int).toNat) * l8))) (((8 * x3) + x12) : Int).toNat)))), (0, .ref a0), (1, .int (i3 x1)), (2, .int (i3 x2)), (3, .int (i3 x3)), (4, .long (i6 l4)), (6, .long (i6 l6)), (8, .long (i6 l8)), (12, .int (i3 x12))]) dL_solve_232 (by decide) rfl ?_
    refine zk_iinc (pc := 234) hc (q := 8) (x := x12) (lv' := [(12, .int (i3 (x12 + 1))), (10, .long (i6 (gcZ l10 ((va_up f2 (((8 * x3) + x12) : Int).toNat (((f2 (((8 * x3) + x12) : Int).toNat) * l6) - ((f2 (((8 * x1) + x12) : Int).toNat) * l8))) (((8 * x3) + x12) : Int).toNat)))), (0, .ref a0), (1, .int (i3 x1)), (2, .int (i3 x2)), (3, .int (i3 x3)), (4, .long (i6 l4)), (6, .long (i6 l6)), (8, .long (i6 l8))]) dL_solve_234 rfl (by decide) rfl ?_
    refine ok_goto (pc := 237) (tgt := 177) hc dL_solve_237 (by decide) ?_
    refine ok_lv [2, 3, 4, 5, 6, 7, 8, 1, 0] rfl ?_
    exact P

set_option maxHeartbeats 4000000 in
set_option maxRecDepth 100000 in
theorem sL_solve_240 {X : Xt} {n : Nat} {h : HP} {a0 : Nat} {x1 : Int} {x2 : Int} {x3 : Int} {l4 : Int} {l6 : Int} {l8 : Int} {l10 : Int} {x12 : Int} (hc : Cx X cL_solve RL 13 1 29) {K : KT} (hr : CxR X (some .boolean) K) 
    (P : Ok X 0 0 243 [(0, .ref a0), (1, .int (i3 x1)), (2, .int (i3 x2)), (3, .int (i3 x3)), (4, .long (i6 l4)), (6, .long (i6 l6)), (8, .long (i6 l8)), (10, .long (i6 l10)), (12, .int (i3 0))] [] n h) :
    Ok X 0 0 240 [(0, .ref a0), (1, .int (i3 x1)), (2, .int (i3 x2)), (3, .int (i3 x3)), (4, .long (i6 l4)), (6, .long (i6 l6)), (8, .long (i6 l8)), (10, .long (i6 l10)), (12, .int (i3 x12))] [] n h := by
  refine ok_iconst (pc := 240) hc (v := i3 0) dL_solve_240 (by decide) ?_
  refine ok_istore (pc := 241) hc (lv' := [(12, .int (i3 0)), (0, .ref a0), (1, .int (i3 x1)), (2, .int (i3 x2)), (3, .int (i3 x3)), (4, .long (i6 l4)), (6, .long (i6 l6)), (8, .long (i6 l8)), (10, .long (i6 l10))]) dL_solve_241 (by decide) rfl ?_
  refine ok_lv [1, 2, 3, 4, 5, 6, 7, 8, 0] rfl ?_
  exact P

set_option maxHeartbeats 4000000 in
set_option maxRecDepth 100000 in
theorem sL_solve_243 {X : Xt} {n : Nat} {h : HP} {a0 : Nat} {x1 : Int} {x2 : Int} {x3 : Int} {l4 : Int} {l6 : Int} {l8 : Int} {l10 : Int} {x12 : Int} {f2 : Nat → Int} (hc : Cx X cL_solve RL 13 1 29) {K : KT} (hr : CxR X (some .boolean) K) (e2 : At h n a0 (al 56 f2))
    (P : (R3 x12) ∧ (8 ≤ x12 → Ok X 0 0 277 [(0, .ref a0), (1, .int (i3 x1)), (2, .int (i3 x2)), (3, .int (i3 x3))] [] n h) ∧ (¬ 8 ≤ x12 → (R6 l10 ∧ R6 1) ∧ (l10 ≤ 1 → Ok X 0 0 277 [(0, .ref a0), (1, .int (i3 x1)), (2, .int (i3 x2)), (3, .int (i3 x3))] [] n h) ∧ (¬ l10 ≤ 1 → (Ix ((8 * x3) + x12) 56) ∧ (R6 (f2 (((8 * x3) + x12) : Int).toNat) ∧ R6 l10 ∧ R6 (((f2 (((8 * x3) + x12) : Int).toNat) : Int).tdiv l10) ∧ l10 ≠ 0) ∧ (Ix ((8 * x3) + x12) 56) ∧ Ok X 0 0 243 [(0, .ref a0), (1, .int (i3 x1)), (2, .int (i3 x2)), (3, .int (i3 x3)), (4, .long (i6 l4)), (6, .long (i6 l6)), (8, .long (i6 l8)), (10, .long (i6 l10)), (12, .int (i3 (x12 + 1)))] [] n (va_up h a0 (al 56 (va_up f2 (((8 * x3) + x12) : Int).toNat (((f2 (((8 * x3) + x12) : Int).toNat) : Int).tdiv l10))))))) :
    Ok X 0 0 243 [(0, .ref a0), (1, .int (i3 x1)), (2, .int (i3 x2)), (3, .int (i3 x3)), (4, .long (i6 l4)), (6, .long (i6 l6)), (8, .long (i6 l8)), (10, .long (i6 l10)), (12, .int (i3 x12))] [] n h := by
  refine ok_iload (pc := 243) hc dL_solve_243 8 rfl ?_
  refine ok_bipush (pc := 245) hc (v := i3 8) dL_solve_245 (by decide) ?_
  obtain ⟨r1, P⟩ := P
  refine zk_icmp_ge (pc := 247) (tgt := 277) hc dL_solve_247 (by decide) r1 ⟨by decide, by decide⟩ (fun c => ?_) (fun c => ?_)
  · have P := P.1 c
    refine ok_lv [0, 1, 2, 3] rfl ?_
    exact P
  · have P := P.2 c
    refine ok_lload (pc := 250) hc dL_solve_250 7 rfl ?_
    refine ok_lconst (pc := 252) hc (v := i6 1) dL_solve_252 (by decide) ?_
    obtain ⟨r, P⟩ := P
    refine zk_lcmp (pc := 253) hc dL_solve_253 r ?_
    refine zk_if_le (pc := 254) (tgt := 277) hc dL_solve_254 (by decide) R3_cmp (fun c => ?_) (fun c => ?_)
    · have P := P.1 (cmp_le.mp c)
      refine ok_lv [0, 1, 2, 3] rfl ?_
      exact P
    · have P := P.2 (fun z => c (cmp_le.mpr z))
      refine ok_aload_n (pc := 257) hc dL_solve_257 rfl 0 rfl ?_
      refine ok_bipush (pc := 258) hc (v := i3 8) dL_solve_258 (by decide) ?_
      refine ok_iload_n (pc := 260) hc dL_solve_260 rfl 3 rfl ?_
      refine zk_imul (pc := 261) hc dL_solve_261 ?_
      refine ok_iload (pc := 262) hc dL_solve_262 8 rfl ?_
      refine zk_iadd (pc := 264) hc dL_solve_264 ?_
      refine ok_dup2_11 (pc := 265) hc dL_solve_265 rfl rfl ?_
      obtain ⟨r, P⟩ := P
      refine zk_lald (pc := 266) hc dL_solve_266 e2.1 e2.2 r ?_
      refine ok_lload (pc := 267) hc dL_solve_267 7 rfl ?_
      obtain ⟨r, P⟩ := P
      refine zk_ldiv (pc := 269) hc dL_solve_269 r ?_
      obtain ⟨r, P⟩ := P
      refine zk_last (pc := 270) hc dL_solve_270 e2.1 e2.2 r ?_
      refine zk_iinc (pc := 271) hc (q := 8) (x := x12) (lv' := [(12, .int (i3 (x12 + 1))), (0, .ref a0), (1, .int (i3 x1)), (2, .int (i3 x2)), (3, .int (i3 x3)), (4, .long (i6 l4)), (6, .long (i6 l6)), (8, .long (i6 l8)), (10, .long (i6 l10))]) dL_solve_271 rfl (by decide) rfl ?_
      refine ok_goto (pc := 274) (tgt := 243) hc dL_solve_274 (by decide) ?_
      refine ok_lv [1, 2, 3, 4, 5, 6, 7, 8, 0] rfl ?_
      exact P

set_option maxHeartbeats 4000000 in
set_option maxRecDepth 100000 in
theorem sL_solve_277 {X : Xt} {n : Nat} {h : HP} {a0 : Nat} {x1 : Int} {x2 : Int} {x3 : Int} (hc : Cx X cL_solve RL 13 1 29) {K : KT} (hr : CxR X (some .boolean) K) 
    (P : Ok X 0 0 97 [(0, .ref a0), (1, .int (i3 x1)), (2, .int (i3 x2)), (3, .int (i3 (x3 + 1)))] [] n h) :
    Ok X 0 0 277 [(0, .ref a0), (1, .int (i3 x1)), (2, .int (i3 x2)), (3, .int (i3 x3))] [] n h := by
  refine zk_iinc (pc := 277) hc (q := 3) (x := x3) (lv' := [(3, .int (i3 (x3 + 1))), (0, .ref a0), (1, .int (i3 x1)), (2, .int (i3 x2))]) dL_solve_277 rfl (by decide) rfl ?_
  refine ok_goto (pc := 280) (tgt := 97) hc dL_solve_280 (by decide) ?_
  refine ok_lv [1, 2, 3, 0] rfl ?_
  exact P

set_option maxHeartbeats 4000000 in
set_option maxRecDepth 100000 in
theorem sL_solve_283 {X : Xt} {n : Nat} {h : HP} {a0 : Nat} {x1 : Int} {x2 : Int} {x3 : Int} (hc : Cx X cL_solve RL 13 1 29) {K : KT} (hr : CxR X (some .boolean) K) 
    (P : Ok X 0 0 2 [(0, .ref a0), (1, .int (i3 (x1 + 1)))] [] n h) :
    Ok X 0 0 283 [(0, .ref a0), (1, .int (i3 x1)), (2, .int (i3 x2)), (3, .int (i3 x3))] [] n h := by
  refine zk_iinc (pc := 283) hc (q := 1) (x := x1) (lv' := [(1, .int (i3 (x1 + 1))), (0, .ref a0), (2, .int (i3 x2)), (3, .int (i3 x3))]) dL_solve_283 rfl (by decide) rfl ?_
  refine ok_goto (pc := 286) (tgt := 2) hc dL_solve_286 (by decide) ?_
  refine ok_lv [1, 0] rfl ?_
  exact P

def spec_L_solve (args : List Value) (n : Nat) (h : HP) (K : KT) : Prop := ∃ (e : Nat) (E : Nat → Int) (ps : List Part) (m : Nat) (γ : Nat → Int), args = [.ref e] ∧ At h n e (al 56 E) ∧ GdP ps ∧ GvOk ps γ ∧ EqI ps m γ 7 E ∧ ∀ E', (solD ps m ≠ 0 → SvE ps m γ E' ∧ 0 < solD ps m ∧ BdL ps m γ) → K (.inl (some (.int (i3 (bz (decide (solD ps m ≠ 0))))))) n (va_up h e (al 56 E'))
/-- one row is cleared: pcs 124 to 277 -/
theorem solve_row {X : Xt} {n : Nat} {h : HP} {e : Nat} {E0 : Nat → Int} (hc : Cx X cL_solve RL 13 1 29) {K : KT} (hr : CxR X (some .boolean) K) (ee0 : At h n e (al 56 E0)) {B C : Nat} (hBC : BCok B C) {k x : Nat} (hk : k < 7) (hx : x < 7) (hxk : x ≠ k) {G : Nat → Int} {v w : Nat → Int} (hrx : Pr8 B C v (fun j => G (8 * x + j))) (hrk : Pr8 B C w (fun j => G (8 * k + j))) (hkz : G (8 * k + k) ≠ 0) {x2 : Int} (kk : ∀ G' : Nat → Int, (∀ y, y < 8 * x ∨ 8 * x + 8 ≤ y → G' y = G y) → (∀ (f : Nat) (raw : Nat → Int), f = Nat.gcd (G (8 * k + k)).natAbs (G (8 * x + k)).natAbs → (∀ j, j < 8 → raw j = G (8 * x + j) * (G (8 * k + k)).tdiv f - G (8 * k + j) * (G (8 * x + k)).tdiv f) → ∀ j, j < 8 → G' (8 * x + j) = if gF raw 8 ≤ 1 then raw j else (raw j).tdiv (gF raw 8)) → Ok X 0 0 277 [(0, .ref e), (1, .int (i3 k)), (2, .int (i3 x2)), (3, .int (i3 x))] [] n (va_up h e (al 56 G'))) : Ok X 0 0 124 [(0, .ref e), (1, .int (i3 k)), (2, .int (i3 x2)), (3, .int (i3 x))] [] n (va_up h e (al 56 G)) := by
  have ee : ∀ G, At (va_up h e (al 56 G)) n e (al 56 G) := fun G => ee0.it
  have ikk : Ix (8 * (k : Int) + k) 56 := ⟨by omega, by omega, by omega⟩
  have ixk : Ix (8 * (x : Int) + k) 56 := ⟨by omega, by omega, by omega⟩
  have ekk : (8 * (k : Int) + k : Int).toNat = 8 * k + k := by omega
  have exk : (8 * (x : Int) + k : Int).toNat = 8 * x + k := by omega
  have rkk : R6p (G (8 * k + k)) := hrk.r6 hBC (j := k) (by omega)
  have rxk : R6p (G (8 * x + k)) := hrx.r6 hBC (j := k) (by omega)
  obtain ⟨f, hf⟩ : ∃ f : Nat, f = Nat.gcd (G (8 * k + k)).natAbs (G (8 * x + k)).natAbs := ⟨_, rfl⟩
  have hgc : gcZ (G (8 * k + k)) (G (8 * x + k)) = (f : Int) := by
    unfold gcZ
    rw [hf]
  have f0 : 0 < f := by
    rw [hf]
    exact Nat.gcd_pos_of_pos_left _ (Int.natAbs_pos.mpr hkz)
  have hfle : f ≤ (G (8 * k + k)).natAbs := by
    rw [hf]
    exact Nat.le_of_dvd (Int.natAbs_pos.mpr hkz) (Nat.gcd_dvd_left _ _)
  have rf : R6 (f : Int) := ⟨by omega, by unfold R6p at rkk; omega⟩
  have td : ∀ y : Int, R6p y → ∀ q : Int, R6 (y.tdiv q) := fun y hy q => by
    have := tdiv_bd (a := y) (p := q)
    unfold R6p at hy
    exact ⟨by omega, by omega⟩
  generalize hup : (G (8 * k + k)).tdiv f = up at *
  generalize hdn : (G (8 * x + k)).tdiv f = dn at *
  obtain ⟨raw, hraw⟩ : ∃ raw : Nat → Int, ∀ j, raw j = G (8 * x + j) * up - G (8 * k + j) * dn := ⟨_, fun _ => rfl⟩
  have rraw : ∀ j, j < 8 → R6p (raw j) := fun j hj => by
    rw [hraw j, ← hup, ← hdn]
    exact raw_r6 hBC hrx hrk hk hj
  have gle : ∀ y, y ≤ 8 → R6p (gF raw y : Int) := by
    intro y hy
    by_cases z : ∀ j, j < y → raw j = 0
    · have : gF raw y = 0 := by
        have e0 := gF_m 0 (fun _ => (0 : Int)) y
        rw [Int.natAbs_zero, Nat.zero_mul] at e0
        rw [← e0]
        exact gF_e fun j hj => by rw [z j hj]; rfl
      rw [this]
      exact ⟨by decide, by decide⟩
    · obtain ⟨j, hj, hz⟩ : ∃ j, j < y ∧ raw j ≠ 0 := by
        refine Classical.byContradiction fun q => z fun j hj => ?_
        exact Classical.byContradiction fun w => q ⟨j, hj, w⟩
      have := Nat.le_of_dvd (Int.natAbs_pos.mpr hz) (gF_d (a := raw) hj)
      have := rraw j (by omega)
      unfold R6p at this
      exact ⟨by omega, by omega⟩
  -- the division
  have V : ∀ (j y : Nat), y + j = 8 → 1 < gF raw 8 → ∀ H : Nat → Int, (∀ q, q < 8 * x ∨ 8 * x + 8 ≤ q → H q = G q) → (∀ j, j < 8 → H (8 * x + j) = if j < y then (raw j).tdiv (gF raw 8) else raw j) → Ok X 0 0 243 [(0, .ref e), (1, .int (i3 k)), (2, .int (i3 x2)), (3, .int (i3 x)), (4, .long (i6 f)), (6, .long (i6 up)), (8, .long (i6 dn)), (10, .long (i6 (gF raw 8 : Nat))), (12, .int (i3 y))] [] n (va_up h e (al 56 H)) := by
    intro j
    induction j with
    | zero =>
      intro y hy hg H g1 g2
      have : y = 8 := by omega
      subst this
      refine sL_solve_243 hc hr (ee H) ⟨R3_s (by omega), fun _ => kk H g1 ?_, fun z => absurd (by omega) z⟩
      intro f' raw' hf' hraw' j hj
      have ef : f' = f := hf'.trans hf.symm
      subst ef
      have er : ∀ j, j < 8 → raw' j = raw j := fun j hj => by rw [hraw' j hj, hraw j, hup, hdn]
      rw [gF_e er, if_neg (by omega), er j hj, g2 j hj, if_pos hj]
    | succ j ih =>
      intro y hy hg H g1 g2
      have ixy : Ix (8 * (x : Int) + y) 56 := ⟨by omega, by omega, by omega⟩
      have exy : (8 * (x : Int) + y : Int).toNat = 8 * x + y := by omega
      have hv : H (8 * x + y) = raw y := by rw [g2 y (by omega), if_neg (by omega)]
      have rg := gle 8 (Nat.le_refl 8)
      refine sL_solve_243 hc hr (ee H) ⟨R3_s (by omega), fun z => absurd z (by omega), fun _ => ⟨⟨rg.r, ⟨by decide, by decide⟩⟩, fun z => absurd z (by omega), fun _ => ?_⟩⟩
      rw [exy, hv]
      refine ⟨ixy, ⟨(rraw y (by omega)).r, rg.r, td _ (rraw y (by omega)) _, by omega⟩, ixy, ?_⟩
      rw [up_up]
      refine ih (y + 1) (by omega) hg _ (fun q hq => ?_) fun j' hj' => ?_
      · rw [up_ne (by omega)]
        exact g1 q hq
      · by_cases c : j' = y
        · rw [c, up_self, if_pos (by omega)]
        · rw [up_ne (by omega), g2 j' hj']
          by_cases d : j' < y
          · rw [if_pos d, if_pos (by omega)]
          · rw [if_neg d, if_neg (by omega)]
  -- the combination
  have U : ∀ (j y : Nat), y + j = 8 → ∀ H : Nat → Int, (∀ q, q < 8 * x ∨ 8 * x + 8 ≤ q → H q = G q) → (∀ j, j < 8 → H (8 * x + j) = if j < y then raw j else G (8 * x + j)) → Ok X 0 0 177 [(0, .ref e), (1, .int (i3 k)), (2, .int (i3 x2)), (3, .int (i3 x)), (4, .long (i6 f)), (6, .long (i6 up)), (8, .long (i6 dn)), (10, .long (i6 (gF raw y : Nat))), (12, .int (i3 y))] [] n (va_up h e (al 56 H)) := by
    intro j
    induction j with
    | zero =>
      intro y hy H g1 g2
      have : y = 8 := by omega
      subst this
      refine sL_solve_177 hc hr (ee H) ⟨R3_s (by omega), fun _ => sL_solve_240 hc hr ?_, fun z => absurd (by omega) z⟩
      have g3 : ∀ j, j < 8 → H (8 * x + j) = raw j := fun j hj => by rw [g2 j hj, if_pos hj]
      by_cases z : gF raw 8 ≤ 1
      · have rg := gle 8 (Nat.le_refl 8)
        refine sL_solve_243 hc hr (ee H) ⟨R3_0, fun z => absurd z (by omega), fun _ => ⟨⟨rg.r, ⟨by decide, by decide⟩⟩, fun _ => kk H g1 ?_, fun y => absurd (by omega) y⟩⟩
        intro f' raw' hf' hraw' j hj
        have ef : f' = f := hf'.trans hf.symm
        subst ef
        have er : ∀ j, j < 8 → raw' j = raw j := fun j hj => by rw [hraw' j hj, hraw j, hup, hdn]
        rw [gF_e er, if_pos z, er j hj, g3 j hj]
      · exact V 8 0 rfl (by omega) H g1 fun j hj => by rw [g3 j hj, if_neg (by omega)]
    | succ j ih =>
      intro y hy H g1 g2
      have ixy : Ix (8 * (x : Int) + y) 56 := ⟨by omega, by omega, by omega⟩
      have iky : Ix (8 * (k : Int) + y) 56 := ⟨by omega, by omega, by omega⟩
      have exy : (8 * (x : Int) + y : Int).toNat = 8 * x + y := by omega
      have eky : (8 * (k : Int) + y : Int).toNat = 8 * k + y := by omega
      have hv : H (8 * x + y) = G (8 * x + y) := by rw [g2 y (by omega), if_neg (by omega)]
      have hw : H (8 * k + y) = G (8 * k + y) := g1 _ (by omega)
      refine sL_solve_177 hc hr (ee H) ⟨R3_s (by omega), fun z => absurd z (by omega), fun _ => ?_⟩
      rw [exy, eky, hv, hw, ← hraw y, up_self]
      refine ⟨ixy, iky, ixy, ixy, ⟨gle y (by omega), rraw y (by omega)⟩, ?_⟩
      rw [up_up]
      have eg : gcZ (gF raw y : Nat) (raw y) = ((gF raw (y + 1) : Nat) : Int) := by
        unfold gcZ
        rw [Int.natAbs_natCast]
        rfl
      rw [eg]
      refine ih (y + 1) (by omega) _ (fun q hq => ?_) fun j' hj' => ?_
      · rw [up_ne (by omega)]
        exact g1 q hq
      · by_cases c : j' = y
        · rw [c, up_self, if_pos (by omega)]
        · rw [up_ne (by omega), g2 j' hj']
          by_cases d : j' < y
          · rw [if_pos d, if_pos (by omega)]
          · rw [if_neg d, if_neg (by omega)]
  refine sL_solve_124 hc hr (ee G) ?_
  rw [ekk, exk, hgc, hup, hdn]
  exact ⟨ikk, ixk, ⟨rkk, rxk⟩, ikk, ⟨rkk.r, rf, by rw [← hup]; exact td _ rkk _, by omega⟩, ixk, ⟨rxk.r, rf, by rw [← hdn]; exact td _ rxk _, by omega⟩, U 8 0 rfl G (fun _ _ => rfl) fun j hj => by rw [if_neg (by omega)]⟩
set_option maxHeartbeats 4000000 in
theorem sp_L_solve : Sp yL_solve cL_solve 13 (some .boolean) 1 29 0 0 spec_L_solve := by
  refine sp_intro (by decide) (by rintro args n h K ⟨e, E, ps, m, γ, rfl, -⟩; exact Nat.le_of_ble_eq_true rfl) ?_
  rintro X args n h K hc hr ⟨e, E, ps, m, γ, rfl, ee0, hG, hγ, hE, kk⟩
  obtain ⟨B, C, Pm, hBC, hPm, hP⟩ := law_bd hG hγ m
  have ee : ∀ G, At (va_up h e (al 56 G)) n e (al 56 G) := fun G => ee0.it
  have L : ∀ (f k : Nat), f + k = 7 → ∀ (p : Int) (M A : Mat) (E : Nat → Int), ElI γ B C Pm k p M A (fun r j => E (8 * r + j)) → elimN 7 0 1 (rowsM (m : Nat) ps) = elimN f k p M → Ok X 0 0 2 [(0, .ref e), (1, .int (i3 k))] [] n (va_up h e (al 56 E)) := by
    intro f
    induction f with
    | zero =>
      intro k hf p M A E hEl hel
      have : k = 7 := by omega
      subst this
      obtain ⟨s1, s2, s3⟩ := el_7 hBC hP hEl hel
      have := kk E (fun _ => ⟨s3, s1, s2⟩)
      rw [decide_eq_true (show solD ps m ≠ 0 by omega)] at this
      exact sL_solve_2 hc hr ⟨R3_s (by omega), fun _ => this, fun z => absurd (by omega) z⟩
    | succ f ih =>
      intro k hf p M A E hEl hel
      have hk : k < 7 := by omega
      have rk : R3 (k : Int) := R3_s (by omega)
      have PV : ∀ (d x : Nat), x = k + d → x ≤ 7 → Ok X 0 0 39 [(0, .ref e), (1, .int (i3 k)), (2, .int (i3 (pvI (pivN M k (7 - k) k)))), (3, .int (i3 ((k : Int) - 1)))] [] n (va_up h e (al 56 E)) → Ok X 0 0 13 [(0, .ref e), (1, .int (i3 k)), (2, .int (i3 (pvI (pivN M k (7 - x) x)))), (3, .int (i3 ((x : Int) - 1)))] [] n (va_up h e (al 56 E)) := by
        intro d
        induction d with
        | zero =>
          intro x hx hx7 g
          have : x = k := by omega
          subst this
          exact sL_solve_13 hc hr (ee E) ⟨R3_s (by omega), rk, fun _ => g, fun z => absurd (by omega) z⟩
        | succ d ihd =>
          intro x hx hx7 g
          obtain ⟨y, rfl⟩ : ∃ y, x = y + 1 := ⟨x - 1, by omega⟩
          have i1 := ihd y (by omega) (by omega) g
          have e7 : 7 - y = (7 - (y + 1)) + 1 := by omega
          rw [e7] at i1
          unfold pivN at i1
          have ey : (8 * ((y : Int) + 1 - 1) + k : Int).toNat = 8 * y + k := by omega
          have iy : Ix (8 * ((y : Int) + 1 - 1) + k) 56 := ⟨by omega, by omega, by omega⟩
          have hz := hEl.z (r := y) (c := k) (by omega) hk
          have r6 := ((hEl.2.2.2 y (by omega)).r6 hBC (j := k) (by omega)).r
          have ec : ((y + 1 : Nat) : Int) - 1 = (y : Int) + 1 - 1 := by omega
          rw [ec]
          refine sL_solve_13 hc hr (ee E) ⟨R3_s (by omega), rk, fun z => absurd z (by omega), fun _ => ?_⟩
          rw [ey]
          refine ⟨iy, ⟨r6, R6_0⟩, fun z => ?_, fun z => ?_⟩
          · rw [if_pos (hz.mp z)] at i1
            rw [show (y : Int) + 1 - 1 + -1 = (y : Int) - 1 by omega]
            exact i1
          · rw [if_neg (fun w => z (hz.mpr w))] at i1
            rw [show (y : Int) + 1 - 1 + -1 = (y : Int) - 1 by omega, show (y : Int) + 1 - 1 = (y : Int) by omega]
            exact i1
      refine sL_solve_2 hc hr ⟨rk, fun z => absurd z (by omega), fun _ => PV (7 - k) 7 (by omega) (Nat.le_refl 7) ?_⟩
      unfold elimN at hel
      cases hpv : pivN M k (7 - k) k with
      | none =>
        rw [hpv] at hel
        refine sL_solve_39 hc hr ⟨⟨by decide, by decide⟩, fun z => absurd z (by decide), fun _ => ?_⟩
        have s0 : solD ps m = 0 := by
          rw [(elim_sol hel γ).1]
          rfl
        have := kk E (fun z => absurd s0 z)
        rw [s0] at this
        exact this
      | some i =>
        rw [hpv] at hel
        obtain ⟨h1, h2, h3⟩ := pivN_spec hpv
        have hi : i < 7 := by omega
        have ri : R3 (i : Int) := R3_s (by omega)
        obtain ⟨⟨nI, nP⟩, nz, nk, nskip, nstep⟩ := hEl.next hP hk hi h2 h1
        have hkk : le_x i k k = i := by
          unfold le_x
          split
          · rename_i c
            exact c
          · rw [if_pos rfl]
        -- the rows
        have RW : ∀ (j x : Nat), x + j = 7 → ∀ G : Nat → Int, (∀ r, r < x → Pr8 B C (cl8 γ (clearM (swapM M i k) k p) r) (fun j => G (8 * r + j))) → (∀ r j, r < 7 → j < 8 → (x ≤ r ∨ r = k) → G (8 * r + j) = E (8 * le_x i k r + j)) → Ok X 0 0 97 [(0, .ref e), (1, .int (i3 k)), (2, .int (i3 i)), (3, .int (i3 x))] [] n (va_up h e (al 56 G)) := by
          intro j
          induction j with
          | zero =>
            intro x hx G g1 g2
            have : x = 7 := by omega
            subst this
            refine sL_solve_97 hc hr ⟨R3_s (by omega), fun _ => sL_solve_283 hc hr ?_, fun z => absurd (by omega) z⟩
            exact ih (k + 1) (by omega) (M i k) _ _ G ⟨nI, h1, nP, g1⟩ hel
          | succ j ihr =>
            intro x hx G g1 g2
            have hx7 : x < 7 := by omega
            have rx : R3 (x : Int) := R3_s (by omega)
            have keep : Pr8 B C (cl8 γ (clearM (swapM M i k) k p) x) (fun j => G (8 * x + j)) → Ok X 0 0 97 [(0, .ref e), (1, .int (i3 k)), (2, .int (i3 i)), (3, .int (i3 ((x : Int) + 1)))] [] n (va_up h e (al 56 G)) := by
              intro hp8
              refine ihr (x + 1) (by omega) G (fun r hr => ?_) (fun r j hr hj hor => g2 r j hr hj (by omega))
              by_cases c : r = x
              · rw [c]
                exact hp8
              · exact g1 r (by omega)
            refine sL_solve_97 hc hr ⟨rx, fun z => absurd z (by omega), fun _ => ⟨rx, rk, fun z => keep ?_, fun z => ?_⟩⟩
            · have : x = k := by omega
              subst this
              exact nk.e fun j hj => g2 x j hx7 hj (Or.inr rfl)
            · have hxk : x ≠ k := by omega
              have exk : (8 * (x : Int) + k : Int).toNat = 8 * x + k := by omega
              have ixk : Ix (8 * (x : Int) + k) 56 := ⟨by omega, by omega, by omega⟩
              have hv := g2 x k hx7 (by omega) (Or.inl (Nat.le_refl x))
              have hsx := (hEl.sw hk hi x hx7).e (b := fun j => G (8 * x + j)) fun j hj => g2 x j hx7 hj (Or.inl (Nat.le_refl x))
              have hsk := (hEl.sw hk hi k hk).e (b := fun j => G (8 * k + j)) fun j hj => g2 k j hk hj (Or.inr rfl)
              refine sL_solve_108 hc hr (ee G) ?_
              rw [exk]
              refine ⟨ixk, ⟨(hsx.r6 hBC (j := k) (by omega)).r, R6_0⟩, fun y => ?_, fun y => ?_⟩
              · refine solve_row hc hr ee0 hBC hk hx7 hxk hsx hsk ?_ (fun G' q1 q2 => sL_solve_277 hc hr ?_)
                · have := g2 k k hk (by omega) (Or.inr rfl)
                  rw [this]
                  exact nz
                · refine ihr (x + 1) (by omega) G' (fun r hr => ?_) (fun r j hr hj hor => ?_)
                  · by_cases c : r = x
                    · rw [c]
                      have ekk := g2 k k hk (by omega) (Or.inr rfl)
                      have eraw : ∀ j, j < 8 → (fun j => E (8 * le_x i k x + j) * (E (8 * le_x i k k + k)).tdiv (Nat.gcd (E (8 * le_x i k k + k)).natAbs (E (8 * le_x i k x + k)).natAbs : Nat) - E (8 * le_x i k k + j) * (E (8 * le_x i k x + k)).tdiv (Nat.gcd (E (8 * le_x i k k + k)).natAbs (E (8 * le_x i k x + k)).natAbs : Nat)) j = G (8 * x + j) * (G (8 * k + k)).tdiv (Nat.gcd (G (8 * k + k)).natAbs (G (8 * x + k)).natAbs : Nat) - G (8 * k + j) * (G (8 * x + k)).tdiv (Nat.gcd (G (8 * k + k)).natAbs (G (8 * x + k)).natAbs : Nat) := fun j hj => by
                        rw [g2 x j hx7 hj (Or.inl (Nat.le_refl x)), g2 k j hk hj (Or.inr rfl), hv, ekk]
                      exact nstep x hx7 hxk _ rfl _ _ (fun j hj => rfl) (q2 _ _ rfl eraw)
                    · refine (g1 r (by omega)).e fun j hj => ?_
                      exact q1 _ (by omega)
                  · rw [q1 _ (by omega)]
                    exact g2 r j hr hj (by omega)
              · refine sL_solve_277 hc hr (keep ?_)
                refine (nskip x hx7 hxk ?_).e fun j hj => g2 x j hx7 hj (Or.inl (Nat.le_refl x))
                rw [← hv]
                exact y
        -- the exchange
        have SW : ∀ (j x : Nat), x + j = 8 → ∀ G : Nat → Int, (∀ r q, r < 7 → q < 8 → G (8 * r + q) = if q < x then E (8 * le_x i k r + q) else E (8 * r + q)) → Ok X 0 0 47 [(0, .ref e), (1, .int (i3 k)), (2, .int (i3 i)), (3, .int (i3 x))] [] n (va_up h e (al 56 G)) := by
          intro j
          induction j with
          | zero =>
            intro x hx G g
            have : x = 8 := by omega
            subst this
            exact sL_solve_47 hc hr (ee G) ⟨R3_s (by omega), fun _ => sL_solve_95 hc hr (RW 7 0 rfl G (fun r hr => absurd hr (Nat.not_lt_zero r)) fun r j hr hj _ => by rw [g r j hr hj, if_pos hj]), fun z => absurd (by omega) z⟩
          | succ j ihs =>
            intro x hx G g
            have ikx : Ix (8 * (k : Int) + x) 56 := ⟨by omega, by omega, by omega⟩
            have iix : Ix (8 * (i : Int) + x) 56 := ⟨by omega, by omega, by omega⟩
            have ekx : (8 * (k : Int) + x : Int).toNat = 8 * k + x := by omega
            have eix : (8 * (i : Int) + x : Int).toNat = 8 * i + x := by omega
            refine sL_solve_47 hc hr (ee G) ⟨R3_s (by omega), fun z => absurd z (by omega), fun _ => ?_⟩
            rw [ekx, eix]
            refine ⟨ikx, iix, ikx, iix, ?_⟩
            rw [up_up, up_up]
            refine ihs (x + 1) (by omega) _ fun r q hr hq => ?_
            have gk := g k x hk (by omega)
            have gi := g i x hi (by omega)
            rw [if_neg (Nat.lt_irrefl x)] at gk gi
            by_cases c : q = x
            · rw [c, if_pos (Nat.lt_succ_self x)]
              by_cases d : r = i
              · rw [d, up_self, gk]
                have : le_x i k i = k := if_pos rfl
                rw [this]
              · rw [up_ne (by omega)]
                by_cases d2 : r = k
                · rw [d2, up_self, gi, hkk]
                · rw [up_ne (by omega), g r x hr (by omega), if_neg (Nat.lt_irrefl x)]
                  have : le_x i k r = r := by
                    unfold le_x
                    rw [if_neg d, if_neg d2]
                  rw [this]
            · rw [up_ne (by omega), up_ne (by omega), g r q hr hq]
              by_cases d : q < x
              · rw [if_pos d, if_pos (by omega)]
              · rw [if_neg d, if_neg (by omega)]
        refine sL_solve_39 hc hr ⟨ri, fun _ => SW 8 0 rfl E (fun r q hr hq => by rw [if_neg (Nat.not_lt_zero q)]), fun z => absurd (show (0 : Int) ≤ (i : Int) by omega) z⟩
  have L0 := L 7 0 rfl 1 (rowsM (m : Nat) ps) (rowsM (m : Nat) ps) E (el_0 hPm hP fun r j hr hj => hE.1 r j hr hj) rfl
  rw [up_id ee0] at L0
  exact sL_solve_0 hc hr L0
