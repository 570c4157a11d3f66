/-! part 29: class Replies: the elimination -/
def RwS (h : HP) (n r : Nat) (g : Nat → Option Nat) (σ : Nat → Nat) (R : Mat) : Prop := At h n r (.inl (3, [.ref (r + 1), .ref (r + 2), .ref (r + 11)])) ∧ At h n (r + 11) (.inr (4, 7, .inr (.inr g))) ∧ (∀ j, j < 7 → g j = some (r + 12 + σ j) ∧ σ j < 7) ∧ (∀ i j, i < 7 → j < 7 → σ i = σ j → i = j) ∧ (∀ i, i < 7 → At h n (r + 12 + σ i) (al 14 (R i)))
theorem RwA.s {h : HP} {n r : Nat} {M : Mat} (p : RwA h n r M) : ∃ g σ R, RwS h n r g σ R ∧ ∀ i j, i < 7 → j < 14 → R i j = M i j := by
  obtain ⟨g, σ, R, h0, h1, h2, h3, h4, h5⟩ := p
  exact ⟨g, σ, R, ⟨h0, h1, h2, h3, h4⟩, h5⟩
theorem RwS.a {h : HP} {n r : Nat} {g : Nat → Option Nat} {σ : Nat → Nat} {R M : Mat} (p : RwS h n r g σ R) (e : ∀ i j, i < 7 → j < 14 → R i j = M i j) : RwA h n r M := ⟨g, σ, R, p.1, p.2.1, p.2.2.1, p.2.2.2.1, p.2.2.2.2, e⟩
theorem RwS.put {h : HP} {n r i : Nat} {g : Nat → Option Nat} {σ : Nat → Nat} {R : Mat} {F : Nat → Int} (p : RwS h n r g σ R) (hi : i < 7) : RwS (va_up h (r + 12 + σ i) (al 14 F)) n r g σ (va_up R i F) := by
  obtain ⟨h0, h1, h2, h3, h4⟩ := p
  refine ⟨h0.up (by omega), h1.up (by omega), h2, h3, fun k hk => ?_⟩
  by_cases z : k = i
  · subst z
    rw [up_self]
    exact (h4 k hk).it
  · rw [up_ne z]
    exact (h4 k hk).up (fun q => z (h3 k i hk hi (by omega)))
def pivN (M : Mat) (k : Nat) : Nat → Nat → Option Nat
  | 0, _ => none
  | f + 1, i => if M i k = 0 then pivN M k f (i + 1) else some i
def swapM (M : Mat) (i k : Nat) : Mat := va_up (va_up M i (M k)) k (M i)
def swapO (M : Mat) (k : Nat) : Option Nat → Mat
  | none => M
  | some i => swapM M i k
theorem RwS.swap {h : HP} {n r i k : Nat} {g : Nat → Option Nat} {σ : Nat → Nat} {R : Mat} (p : RwS h n r g σ R) (hi : i < 7) (hk : k < 7) : RwS (va_up h (r + 11) (.inr (4, 7, .inr (.inr (va_up (va_up g i (some (r + 12 + σ k))) k (some (r + 12 + σ i))))))) n r (va_up (va_up g i (some (r + 12 + σ k))) k (some (r + 12 + σ i))) (va_up (va_up σ i (σ k)) k (σ i)) (swapM R i k) := by
  obtain ⟨h0, h1, h2, h3, h4⟩ := p
  have si := (h2 i hi).2
  have sk := (h2 k hk).2
  refine ⟨h0.up (by omega), h1.it, fun j hj => ?_, fun a b ha hb e => ?_, fun j hj => ?_⟩
  · by_cases z : j = k
    · subst z
      rw [up_self, up_self]
      exact ⟨rfl, si⟩
    · rw [up_ne z, up_ne z]
      by_cases y : j = i
      · subst y
        rw [up_self, up_self]
        exact ⟨rfl, sk⟩
      · rw [up_ne y, up_ne y]
        exact h2 j hj
  · have q : ∀ x, va_up (va_up σ i (σ k)) k (σ i) x = σ (if x = k then i else if x = i then k else x) := by
      intro x
      by_cases z : x = k
      · subst z
        rw [up_self, if_pos rfl]
      · rw [up_ne z, if_neg z]
        by_cases y : x = i
        · subst y
          rw [up_self, if_pos rfl]
        · rw [up_ne y, if_neg y]
    rw [q, q] at e
    have e2 := h3 _ _ (by split <;> (try split) <;> omega) (by split <;> (try split) <;> omega) e
    split at e2 <;> (try split at e2) <;> (try split at e2) <;> (try split at e2) <;> omega
  · unfold swapM
    by_cases z : j = k
    · subst z
      rw [up_self, up_self]
      exact (h4 i hi).up (by omega)
    · rw [up_ne z, up_ne z]
      by_cases y : j = i
      · subst y
        rw [up_self, up_self]
        exact (h4 k hk).up (by omega)
      · rw [up_ne y, up_ne y]
        exact (h4 j hj).up (by omega)
theorem swapM_eq {R M : Mat} {i k : Nat} (hi : i < 7) (hk : k < 7) (e : ∀ i j, i < 7 → j < 14 → R i j = M i j) : ∀ a b, a < 7 → b < 14 → swapM R i k a b = swapM M i k a b := by
  intro a b ha hb
  unfold swapM
  by_cases z : a = k
  · subst z
    rw [up_self, up_self, e i b hi hb]
  · rw [up_ne z, up_ne z]
    by_cases y : a = i
    · subst y
      rw [up_self, up_self, e k b hk hb]
    · rw [up_ne y, up_ne y, e a b ha hb]
set_option maxHeartbeats 4000000 in
set_option maxRecDepth 100000 in
theorem sX3_bringPivot_0 {X : Xt} {n : Nat} {h : HP} {a0 : Nat} {x1 : Int} (hc : Cx X cX3_bringPivot RX3 4 0 0) {K : KT} (hr : CxR X (some .boolean) K) 
    (P : Ok X 0 0 2 [(0, .ref a0), (1, .int (i3 x1)), (2, .int (i3 x1))] [] n h) :
    Ok X 0 0 0 [(0, .ref a0), (1, .int (i3 x1))] [] n h := by
  refine ok_iload_n (pc := 0) hc dX3_bringPivot_0 rfl 1 rfl ?_
  refine ok_istore_n (pc := 1) hc (lv' := [(2, .int (i3 x1)), (0, .ref a0), (1, .int (i3 x1))]) dX3_bringPivot_1 rfl (by decide) rfl ?_
  refine ok_lv [1, 2, 0] rfl ?_
  exact P

set_option maxHeartbeats 4000000 in
set_option maxRecDepth 100000 in
theorem sX3_bringPivot_2 {X : Xt} {n : Nat} {h : HP} {a0 : Nat} {x1 : Int} {x2 : Int} (hc : Cx X cX3_bringPivot RX3 4 0 0) {K : KT} (hr : CxR X (some .boolean) K) 
    (P : (R3 x2) ∧ (7 ≤ x2 → K (.inl (some (.int (i3 0)))) n h) ∧ (¬ 7 ≤ x2 → Ok X 0 0 8 [(0, .ref a0), (1, .int (i3 x1)), (2, .int (i3 x2))] [] n h)) :
    Ok X 0 0 2 [(0, .ref a0), (1, .int (i3 x1)), (2, .int (i3 x2))] [] n h := by
  refine ok_iload_n (pc := 2) hc dX3_bringPivot_2 rfl 2 rfl ?_
  refine ok_bipush (pc := 3) hc (v := i3 7) dX3_bringPivot_3 (by decide) ?_
  obtain ⟨r1, P⟩ := P
  refine zk_icmp_ge (pc := 5) (tgt := 55) hc dX3_bringPivot_5 (by decide) r1 ⟨by decide, by decide⟩ (fun c => ?_) (fun c => ?_)
  · have P := P.1 c
    refine ok_iconst (pc := 55) hc (v := i3 0) dX3_bringPivot_55 (by decide) ?_
    exact ok_zret (st := []) (pc := 56) hc (nar_z (by decide)) hr dX3_bringPivot_56 P
  · have P := P.2 c
    exact P

set_option maxHeartbeats 4000000 in
set_option maxRecDepth 100000 in
theorem sX3_bringPivot_8 {X : Xt} {n : Nat} {h : HP} {a0 : Nat} {x1 : Int} {x2 : Int} {fs1 : List Value} {q2 : Nat} {len3 : Nat} {f3 : Nat → Option Nat} {q4 : Nat} {len6 : Nat} {f6 : Nat → Int} {q7 : Nat} {len9 : Nat} {f9 : Nat → Int} (hc : Cx X cX3_bringPivot RX3 4 0 0) {K : KT} (hr : CxR X (some .boolean) K) (e1 : At h n a0 (.inl (3, fs1))) (z1 : fs1.length = 3) (v1_2 : fs1[2]? = some (.ref q2)) (e3 : At h n q2 (.inr (4, len3, .inr (.inr f3)))) (g5 : (f3 (x2 : Int).toNat) = some q4) (e6 : At h n q4 (al len6 f6)) (g8 : (f3 (x1 : Int).toNat) = some q7) (e9 : At h n q7 (al len9 f9))
    (P : (Ix x2 len3) ∧ (Ix x1 len6) ∧ (R6 (f6 (x1 : Int).toNat) ∧ R6 0) ∧ ((f6 (x1 : Int).toNat) = 0 → Ok X 0 0 2 [(0, .ref a0), (1, .int (i3 x1)), (2, .int (i3 (x2 + 1)))] [] n h) ∧ (¬ (f6 (x1 : Int).toNat) = 0 → (Ix x2 len3) ∧ (Ix x1 len3) ∧ (Ix x2 len3) ∧ (Ix x1 len3) ∧ K (.inl (some (.int (i3 1)))) n (va_up (va_up h q2 (.inr (4, len3, .inr (.inr (va_up f3 (x2 : Int).toNat (some q7)))))) q2 (.inr (4, len3, .inr (.inr (va_up (va_up f3 (x2 : Int).toNat (some q7)) (x1 : Int).toNat (some q4)))))))) :
    Ok X 0 0 8 [(0, .ref a0), (1, .int (i3 x1)), (2, .int (i3 x2))] [] n h := by
  refine ok_aload_n (pc := 8) hc dX3_bringPivot_8 rfl 0 rfl ?_
  refine ok_get (pc := 9) hc fl_X3_20 dX3_bringPivot_9 e1.1 e1.2 v1_2 ?_
  refine ok_iload_n (pc := 12) hc dX3_bringPivot_12 rfl 2 rfl ?_
  obtain ⟨r, P⟩ := P
  refine zk_aald (pc := 13) hc dX3_bringPivot_13 e3.1 e3.2 rfl r g5 ?_
  refine ok_iload_n (pc := 14) hc dX3_bringPivot_14 rfl 1 rfl ?_
  obtain ⟨r, P⟩ := P
  refine zk_lald (pc := 15) hc dX3_bringPivot_15 e6.1 e6.2 r ?_
  refine ok_lconst (pc := 16) hc (v := i6 0) dX3_bringPivot_16 (by decide) ?_
  obtain ⟨r, P⟩ := P
  refine zk_lcmp (pc := 17) hc dX3_bringPivot_17 r ?_
  refine zk_if_eq (pc := 18) (tgt := 49) hc dX3_bringPivot_18 (by decide) R3_cmp (fun c => ?_) (fun c => ?_)
  · have P := P.1 (cmp_eq.mp c)
    refine zk_iinc (pc := 49) hc (q := 2) (x := x2) (lv' := [(2, .int (i3 (x2 + 1))), (0, .ref a0), (1, .int (i3 x1))]) dX3_bringPivot_49 rfl (by decide) rfl ?_
    refine ok_goto (pc := 52) (tgt := 2) hc dX3_bringPivot_52 (by decide) ?_
    refine ok_lv [1, 2, 0] rfl ?_
    exact P
  · have P := P.2 (fun z => c (cmp_eq.mpr z))
    refine ok_aload_n (pc := 21) hc dX3_bringPivot_21 rfl 0 rfl ?_
    refine ok_get (pc := 22) hc fl_X3_20 dX3_bringPivot_22 e1.1 e1.2 v1_2 ?_
    refine ok_iload_n (pc := 25) hc dX3_bringPivot_25 rfl 2 rfl ?_
    obtain ⟨r, P⟩ := P
    refine zk_aald (pc := 26) hc dX3_bringPivot_26 e3.1 e3.2 rfl r g5 ?_
    refine ok_astore_n (pc := 27) hc (lv' := [(3, .ref q4), (0, .ref a0), (1, .int (i3 x1)), (2, .int (i3 x2))]) dX3_bringPivot_27 rfl (by decide) rfl ?_
    refine ok_aload_n (pc := 28) hc dX3_bringPivot_28 rfl 1 rfl ?_
    refine ok_get (pc := 29) hc fl_X3_20 dX3_bringPivot_29 e1.1 e1.2 v1_2 ?_
    refine ok_iload_n (pc := 32) hc dX3_bringPivot_32 rfl 3 rfl ?_
    refine ok_aload_n (pc := 33) hc dX3_bringPivot_33 rfl 1 rfl ?_
    refine ok_get (pc := 34) hc fl_X3_20 dX3_bringPivot_34 e1.1 e1.2 v1_2 ?_
    refine ok_iload_n (pc := 37) hc dX3_bringPivot_37 rfl 2 rfl ?_
    obtain ⟨r, P⟩ := P
    refine zk_aald (pc := 38) hc dX3_bringPivot_38 e3.1 e3.2 rfl r g8 ?_
    obtain ⟨r, P⟩ := P
    refine zk_aastJ (pc := 39) hc dX3_bringPivot_39 e3.1 e3.2 e9.1 e9.2 r ?_
    refine ok_aload_n (pc := 40) hc dX3_bringPivot_40 rfl 1 rfl ?_
    refine ok_get (pc := 41) hc fl_X3_20 dX3_bringPivot_41 e1.1 ((up_ne (ne_oa e1.2 e3.2)).trans e1.2) v1_2 ?_
    refine ok_iload_n (pc := 44) hc dX3_bringPivot_44 rfl 2 rfl ?_
    refine ok_aload_n (pc := 45) hc dX3_bringPivot_45 rfl 0 rfl ?_
    obtain ⟨r, P⟩ := P
    refine zk_aastJ (pc := 46) hc dX3_bringPivot_46 e3.1 up_self e6.1 ((up_ne (ne_aa e6.2 e3.2 (by decide))).trans e6.2) r ?_
    refine ok_iconst (pc := 47) hc (v := i3 1) dX3_bringPivot_47 (by decide) ?_
    exact ok_zret (st := []) (pc := 48) hc (nar_z (by decide)) hr dX3_bringPivot_48 P

theorem R6_0 : R6 0 := ⟨by decide, by decide⟩
def spec_X3_bringPivot (args : List Value) (n : Nat) (h : HP) (K : KT) : Prop := ∃ (r k : Nat) (M : Mat), args = [.ref r, .int (i3 k)] ∧ k < 7 ∧ RwA h n r M ∧ (∀ i j, i < 7 → j < 14 → R6 (M i j)) ∧ ∀ h', RwA h' n r (swapO M k (pivN M k (7 - k) k)) → Fr h h' (r + 11) (r + 18) → K (.inl (some (.int (i3 (bz (pivN M k (7 - k) k).isSome))))) n h'
theorem sp_X3_bringPivot : Sp yX3_bringPivot cX3_bringPivot 4 (some .boolean) 0 0 0 0 spec_X3_bringPivot := by
  refine sp_intro (by decide) (by rintro args n h K ⟨r, k, M, rfl, -⟩; exact Nat.le_of_ble_eq_true rfl) ?_
  rintro X args n h K hc hr ⟨r, k, M, rfl, hk, hM, hb, kk⟩
  have hM0 := hM
  obtain ⟨g, σ, R, hS, hR⟩ := hM.s
  have hS0 := hS
  obtain ⟨h0, h1, h2, h3, h4⟩ := hS
  have L : ∀ (f i : Nat), i + f = 7 → k ≤ i → pivN M k (7 - k) k = pivN M k f i → Ok X 0 0 2 [(0, .ref r), (1, .int (i3 k)), (2, .int (i3 i))] [] n h := by
    intro f
    induction f with
    | zero =>
      intro i hi hki e
      rw [e] at kk
      exact sX3_bringPivot_2 hc hr ⟨R3_s (by omega), fun _ => kk h hM0 Fr.rf, fun c => absurd c (by omega)⟩
    | succ f ih =>
      intro i hi hki e
      have g1 : g (i : Int).toNat = some (r + 12 + σ i) := by rw [Int.toNat_natCast]; exact (h2 i (by omega)).1
      have g2 : g (k : Int).toNat = some (r + 12 + σ k) := by rw [Int.toNat_natCast]; exact (h2 k hk).1
      have em : R i k = M i k := hR i k (by omega) (by omega)
      refine sX3_bringPivot_2 hc hr ⟨R3_s (by omega), fun c => absurd c (by omega), fun _ => ?_⟩
      refine sX3_bringPivot_8 hc hr h0 rfl rfl h1 g1 (h4 i (by omega)) g2 (h4 k hk) ⟨⟨by omega, by omega, by omega⟩, ⟨by omega, by omega, by omega⟩, ⟨?_, R6_0⟩, fun z => ?_, fun z => ⟨⟨by omega, by omega, by omega⟩, ⟨by omega, by omega, by omega⟩, ⟨by omega, by omega, by omega⟩, ⟨by omega, by omega, by omega⟩, ?_⟩⟩
      · rw [Int.toNat_natCast, em]
        exact hb i k (by omega) (by omega)
      · rw [Int.toNat_natCast, em] at z
        refine ih (i + 1) (by omega) (by omega) (e.trans ?_)
        show (if M i k = 0 then pivN M k f (i + 1) else some i) = _
        rw [if_pos z]
      · rw [Int.toNat_natCast, em] at z
        have e1 : pivN M k (f + 1) i = some i := by
          show (if M i k = 0 then pivN M k f (i + 1) else some i) = _
          rw [if_neg z]
        rw [e, e1] at kk
        rw [up_up, Int.toNat_natCast, Int.toNat_natCast]
        exact kk _ ((hS0.swap (by omega) hk).a (swapM_eq (by omega) hk hR)) (Fr.rf.up (by omega))
  exact sX3_bringPivot_0 hc hr (L (7 - k) k (by omega) (Nat.le_refl k) rfl)
/-- the row i of M, cleared of column k by row k, divided by p -/
def clrR (M : Mat) (k : Nat) (p : Int) (i j : Nat) : Int := (M k k * M i j - M i k * M k j).tdiv p
def clearM (M : Mat) (k : Nat) (p : Int) : Mat := fun i j => if i = k then M k j else clrR M k p i j
/-- entries below 2^29 -/
def BdM (M : Mat) : Prop := ∀ i j, i < 7 → j < 14 → -536870912 ≤ M i j ∧ M i j ≤ 536870912
theorem mul_bd {a b B C : Int} (ha : -B ≤ a ∧ a ≤ B) (hb : -C ≤ b ∧ b ≤ C) : -(B * C) ≤ a * b ∧ a * b ≤ B * C := by
  have e : (a * b).natAbs ≤ B.natAbs * C.natAbs := by
    rw [Int.natAbs_mul]
    exact Nat.mul_le_mul (by omega) (by omega)
  have e2 : ((B.natAbs * C.natAbs : Nat) : Int) = B * C := by
    rw [Int.natCast_mul, Int.natAbs_of_nonneg (by omega), Int.natAbs_of_nonneg (by omega)]
  omega
theorem tdiv_bd {a p : Int} : -(a.natAbs : Int) ≤ a.tdiv p ∧ a.tdiv p ≤ a.natAbs := by
  have := Int.natAbs_tdiv_le_natAbs a p
  omega
theorem BdM.p {M : Mat} (b : BdM M) {i j k l : Nat} (hi : i < 7) (hj : j < 14) (hk : k < 7) (hl : l < 14) : -288230376151711744 ≤ M i j * M k l ∧ M i j * M k l ≤ 288230376151711744 := by
  have := mul_bd (B := 536870912) (C := 536870912) (b i j hi hj) (b k l hk hl)
  omega
theorem BdM.q {M : Mat} (b : BdM M) {i j k : Nat} {p : Int} (hi : i < 7) (hj : j < 14) (hk : k < 7) : R6 (M k k * M i j - M i k * M k j) ∧ R6 (clrR M k p i j) := by
  have h1 := b.p hk (show k < 14 by omega) hi hj
  have h2 := b.p hi (show k < 14 by omega) hk hj
  have h3 := tdiv_bd (a := M k k * M i j - M i k * M k j) (p := p)
  unfold R6 clrR
  omega
theorem BdM.r {M : Mat} (b : BdM M) {i j : Nat} (hi : i < 7) (hj : j < 14) : R6 (M i j) := by
  have := b i j hi hj
  unfold R6
  omega
set_option maxHeartbeats 4000000 in
set_option maxRecDepth 100000 in
theorem sX3_clearColumn_0 {X : Xt} {n : Nat} {h : HP} {a0 : Nat} {x1 : Int} {l2 : Int} {fs1 : List Value} {q2 : Nat} {len3 : Nat} {f3 : Nat → Option Nat} {q4 : Nat} {len6 : Nat} {f6 : Nat → Int} (hc : Cx X cX3_clearColumn RX3 12 0 0) {K : KT} (hr : CxR X none K) (e1 : At h n a0 (.inl (3, fs1))) (z1 : fs1.length = 3) (v1_2 : fs1[2]? = some (.ref q2)) (e3 : At h n q2 (.inr (4, len3, .inr (.inr f3)))) (g5 : (f3 (x1 : Int).toNat) = some q4) (e6 : At h n q4 (al len6 f6))
    (P : (R6 l2 ∧ R6 0) ∧ (¬ l2 = 0 → (Ix x1 len3) ∧ (Ix x1 len6) ∧ Ok X 0 0 24 [(0, .ref a0), (1, .int (i3 x1)), (2, .long (i6 l2)), (4, .ref q4), (5, .long (i6 (f6 (x1 : Int).toNat))), (7, .int (i3 0))] [] n h) ∧ (l2 = 0 → K (.inl none) n h)) :
    Ok X 0 0 0 [(0, .ref a0), (1, .int (i3 x1)), (2, .long (i6 l2))] [] n h := by
  refine ok_lload_n (pc := 0) hc dX3_clearColumn_0 rfl 2 rfl ?_
  refine ok_lconst (pc := 1) hc (v := i6 0) dX3_clearColumn_1 (by decide) ?_
  obtain ⟨r, P⟩ := P
  refine zk_lcmp (pc := 2) hc dX3_clearColumn_2 r ?_
  refine zk_if_ne (pc := 3) (tgt := 7) hc dX3_clearColumn_3 (by decide) R3_cmp (fun c => ?_) (fun c => ?_)
  · have P := P.1 (fun z => c (cmp_eq.mpr z))
    refine ok_aload_n (pc := 7) hc dX3_clearColumn_7 rfl 0 rfl ?_
    refine ok_get (pc := 8) hc fl_X3_20 dX3_clearColumn_8 e1.1 e1.2 v1_2 ?_
    refine ok_iload_n (pc := 11) hc dX3_clearColumn_11 rfl 1 rfl ?_
    obtain ⟨r, P⟩ := P
    refine zk_aald (pc := 12) hc dX3_clearColumn_12 e3.1 e3.2 rfl r g5 ?_
    refine ok_astore (pc := 13) hc (lv' := [(4, .ref q4), (0, .ref a0), (1, .int (i3 x1)), (2, .long (i6 l2))]) dX3_clearColumn_13 (by decide) rfl ?_
    refine ok_aload (pc := 15) hc dX3_clearColumn_15 0 rfl ?_
    refine ok_iload_n (pc := 17) hc dX3_clearColumn_17 rfl 2 rfl ?_
    obtain ⟨r, P⟩ := P
    refine zk_lald (pc := 18) hc dX3_clearColumn_18 e6.1 e6.2 r ?_
    refine ok_lstore (pc := 19) hc (lv' := [(5, .long (i6 (f6 (x1 : Int).toNat))), (4, .ref q4), (0, .ref a0), (1, .int (i3 x1)), (2, .long (i6 l2))]) dX3_clearColumn_19 (by decide) rfl ?_
    refine ok_iconst (pc := 21) hc (v := i3 0) dX3_clearColumn_21 (by decide) ?_
    refine ok_istore (pc := 22) hc (lv' := [(7, .int (i3 0)), (5, .long (i6 (f6 (x1 : Int).toNat))), (4, .ref q4), (0, .ref a0), (1, .int (i3 x1)), (2, .long (i6 l2))]) dX3_clearColumn_22 (by decide) rfl ?_
    refine ok_lv [3, 4, 5, 2, 1, 0] rfl ?_
    exact P
  · have P := P.2 (cmp_eq.mp c)
    exact ok_vret (st := []) (pc := 6) hc hr dX3_clearColumn_6 P

set_option maxHeartbeats 4000000 in
set_option maxRecDepth 100000 in
theorem sX3_clearColumn_24 {X : Xt} {n : Nat} {h : HP} {a0 : Nat} {x1 : Int} {l2 : Int} {a4 : Nat} {l5 : Int} {x7 : Int} (hc : Cx X cX3_clearColumn RX3 12 0 0) {K : KT} (hr : CxR X none K) 
    (P : (R3 x7) ∧ (7 ≤ x7 → K (.inl none) n h) ∧ (¬ 7 ≤ x7 → Ok X 0 0 31 [(0, .ref a0), (1, .int (i3 x1)), (2, .long (i6 l2)), (4, .ref a4), (5, .long (i6 l5)), (7, .int (i3 x7))] [] n h)) :
    Ok X 0 0 24 [(0, .ref a0), (1, .int (i3 x1)), (2, .long (i6 l2)), (4, .ref a4), (5, .long (i6 l5)), (7, .int (i3 x7))] [] n h := by
  refine ok_iload (pc := 24) hc dX3_clearColumn_24 5 rfl ?_
  refine ok_bipush (pc := 26) hc (v := i3 7) dX3_clearColumn_26 (by decide) ?_
  obtain ⟨r1, P⟩ := P
  refine zk_icmp_ge (pc := 28) (tgt := 98) hc dX3_clearColumn_28 (by decide) r1 ⟨by decide, by decide⟩ (fun c => ?_) (fun c => ?_)
  · have P := P.1 c
    exact ok_vret (st := []) (pc := 98) hc hr dX3_clearColumn_98 P
  · have P := P.2 c
    exact P

set_option maxHeartbeats 4000000 in
set_option maxRecDepth 100000 in
theorem sX3_clearColumn_31 {X : Xt} {n : Nat} {h : HP} {a0 : Nat} {x1 : Int} {l2 : Int} {a4 : Nat} {l5 : Int} {x7 : Int} (hc : Cx X cX3_clearColumn RX3 12 0 0) {K : KT} (hr : CxR X none K) 
    (P : (R3 x7) ∧ (R3 x1) ∧ (x7 = x1 → Ok X 0 0 24 [(0, .ref a0), (1, .int (i3 x1)), (2, .long (i6 l2)), (4, .ref a4), (5, .long (i6 l5)), (7, .int (i3 (x7 + 1)))] [] n h) ∧ (¬ x7 = x1 → Ok X 0 0 37 [(0, .ref a0), (1, .int (i3 x1)), (2, .long (i6 l2)), (4, .ref a4), (5, .long (i6 l5)), (7, .int (i3 x7))] [] n h)) :
    Ok X 0 0 31 [(0, .ref a0), (1, .int (i3 x1)), (2, .long (i6 l2)), (4, .ref a4), (5, .long (i6 l5)), (7, .int (i3 x7))] [] n h := by
  refine ok_iload (pc := 31) hc dX3_clearColumn_31 5 rfl ?_
  refine ok_iload_n (pc := 33) hc dX3_clearColumn_33 rfl 1 rfl ?_
  obtain ⟨r1, P⟩ := P
  obtain ⟨r2, P⟩ := P
  refine zk_icmp_eq (pc := 34) (tgt := 92) hc dX3_clearColumn_34 (by decide) r1 r2 (fun c => ?_) (fun c => ?_)
  · have P := P.1 c
    refine zk_iinc (pc := 92) hc (q := 5) (x := x7) (lv' := [(7, .int (i3 (x7 + 1))), (0, .ref a0), (1, .int (i3 x1)), (2, .long (i6 l2)), (4, .ref a4), (5, .long (i6 l5))]) dX3_clearColumn_92 rfl (by decide) rfl ?_
    refine ok_goto (pc := 95) (tgt := 24) hc dX3_clearColumn_95 (by decide) ?_
    refine ok_lv [1, 2, 3, 4, 5, 0] rfl ?_
    exact P
  · have P := P.2 c
    exact P

set_option maxHeartbeats 4000000 in
set_option maxRecDepth 100000 in
theorem sX3_clearColumn_37 {X : Xt} {n : Nat} {h : HP} {a0 : Nat} {x1 : Int} {l2 : Int} {a4 : Nat} {l5 : Int} {x7 : Int} {fs1 : List Value} {q2 : Nat} {len3 : Nat} {f3 : Nat → Option Nat} {q4 : Nat} {len6 : Nat} {f6 : Nat → Int} (hc : Cx X cX3_clearColumn RX3 12 0 0) {K : KT} (hr : CxR X none K) (e1 : At h n a0 (.inl (3, fs1))) (z1 : fs1.length = 3) (v1_2 : fs1[2]? = some (.ref q2)) (e3 : At h n q2 (.inr (4, len3, .inr (.inr f3)))) (g5 : (f3 (x7 : Int).toNat) = some q4) (e6 : At h n q4 (al len6 f6))
    (P : (Ix x7 len3) ∧ (Ix x1 len6) ∧ Ok X 0 0 55 [(0, .ref a0), (1, .int (i3 x1)), (2, .long (i6 l2)), (4, .ref a4), (5, .long (i6 l5)), (7, .int (i3 x7)), (8, .ref q4), (9, .long (i6 (f6 (x1 : Int).toNat))), (11, .int (i3 0))] [] n h) :
    Ok X 0 0 37 [(0, .ref a0), (1, .int (i3 x1)), (2, .long (i6 l2)), (4, .ref a4), (5, .long (i6 l5)), (7, .int (i3 x7))] [] n h := by
  refine ok_aload_n (pc := 37) hc dX3_clearColumn_37 rfl 0 rfl ?_
  refine ok_get (pc := 38) hc fl_X3_20 dX3_clearColumn_38 e1.1 e1.2 v1_2 ?_
  refine ok_iload (pc := 41) hc dX3_clearColumn_41 5 rfl ?_
  obtain ⟨r, P⟩ := P
  refine zk_aald (pc := 43) hc dX3_clearColumn_43 e3.1 e3.2 rfl r g5 ?_
  refine ok_astore (pc := 44) hc (lv' := [(8, .ref q4), (0, .ref a0), (1, .int (i3 x1)), (2, .long (i6 l2)), (4, .ref a4), (5, .long (i6 l5)), (7, .int (i3 x7))]) dX3_clearColumn_44 (by decide) rfl ?_
  refine ok_aload (pc := 46) hc dX3_clearColumn_46 0 rfl ?_
  refine ok_iload_n (pc := 48) hc dX3_clearColumn_48 rfl 2 rfl ?_
  obtain ⟨r, P⟩ := P
  refine zk_lald (pc := 49) hc dX3_clearColumn_49 e6.1 e6.2 r ?_
  refine ok_lstore (pc := 50) hc (lv' := [(9, .long (i6 (f6 (x1 : Int).toNat))), (8, .ref q4), (0, .ref a0), (1, .int (i3 x1)), (2, .long (i6 l2)), (4, .ref a4), (5, .long (i6 l5)), (7, .int (i3 x7))]) dX3_clearColumn_50 (by decide) rfl ?_
  refine ok_iconst (pc := 52) hc (v := i3 0) dX3_clearColumn_52 (by decide) ?_
  refine ok_istore (pc := 53) hc (lv' := [(11, .int (i3 0)), (9, .long (i6 (f6 (x1 : Int).toNat))), (8, .ref q4), (0, .ref a0), (1, .int (i3 x1)), (2, .long (i6 l2)), (4, .ref a4), (5, .long (i6 l5)), (7, .int (i3 x7))]) dX3_clearColumn_53 (by decide) rfl ?_
  refine ok_lv [3, 4, 5, 6, 7, 8, 2, 1, 0] rfl ?_
  exact P

set_option maxHeartbeats 4000000 in
set_option maxRecDepth 100000 in
theorem sX3_clearColumn_55 {X : Xt} {n : Nat} {h : HP} {a0 : Nat} {x1 : Int} {l2 : Int} {a4 : Nat} {l5 : Int} {x7 : Int} {a8 : Nat} {l9 : Int} {x11 : Int} (hc : Cx X cX3_clearColumn RX3 12 0 0) {K : KT} (hr : CxR X none K) 
    (P : (R3 x11) ∧ (14 ≤ x11 → Ok X 0 0 24 [(0, .ref a0), (1, .int (i3 x1)), (2, .long (i6 l2)), (4, .ref a4), (5, .long (i6 l5)), (7, .int (i3 (x7 + 1)))] [] n h) ∧ (¬ 14 ≤ x11 → Ok X 0 0 62 [(0, .ref a0), (1, .int (i3 x1)), (2, .long (i6 l2)), (4, .ref a4), (5, .long (i6 l5)), (7, .int (i3 x7)), (8, .ref a8), (9, .long (i6 l9)), (11, .int (i3 x11))] [] n h)) :
    Ok X 0 0 55 [(0, .ref a0), (1, .int (i3 x1)), (2, .long (i6 l2)), (4, .ref a4), (5, .long (i6 l5)), (7, .int (i3 x7)), (8, .ref a8), (9, .long (i6 l9)), (11, .int (i3 x11))] [] n h := by
  refine ok_iload (pc := 55) hc dX3_clearColumn_55 8 rfl ?_
  refine ok_bipush (pc := 57) hc (v := i3 14) dX3_clearColumn_57 (by decide) ?_
  obtain ⟨r1, P⟩ := P
  refine zk_icmp_ge (pc := 59) (tgt := 92) hc dX3_clearColumn_59 (by decide) r1 ⟨by decide, by decide⟩ (fun c => ?_) (fun c => ?_)
  · have P := P.1 c
    refine zk_iinc (pc := 92) hc (q := 5) (x := x7) (lv' := [(7, .int (i3 (x7 + 1))), (0, .ref a0), (1, .int (i3 x1)), (2, .long (i6 l2)), (4, .ref a4), (5, .long (i6 l5)), (8, .ref a8), (9, .long (i6 l9)), (11, .int (i3 x11))]) dX3_clearColumn_92 rfl (by decide) rfl ?_
    refine ok_goto (pc := 95) (tgt := 24) hc dX3_clearColumn_95 (by decide) ?_
    refine ok_lv [1, 2, 3, 4, 5, 0] rfl ?_
    exact P
  · have P := P.2 c
    exact P

set_option maxHeartbeats 4000000 in
set_option maxRecDepth 100000 in
theorem sX3_clearColumn_62 {X : Xt} {n : Nat} {h : HP} {a0 : Nat} {x1 : Int} {l2 : Int} {a4 : Nat} {l5 : Int} {x7 : Int} {a8 : Nat} {l9 : Int} {x11 : Int} {len1 : Nat} {f1 : Nat → Int} {len2 : Nat} {f2 : Nat → Int} (hc : Cx X cX3_clearColumn RX3 12 0 0) {K : KT} (hr : CxR X none K) (e1 : At h n a8 (al len1 f1)) (e2 : At h n a4 (al len2 f2))
    (P : (Ix x11 len1) ∧ (Ix x11 len2) ∧ (R6 ((l5 * (f1 (x11 : Int).toNat)) - (l9 * (f2 (x11 : Int).toNat))) ∧ R6 l2 ∧ R6 ((((l5 * (f1 (x11 : Int).toNat)) - (l9 * (f2 (x11 : Int).toNat))) : Int).tdiv l2) ∧ l2 ≠ 0) ∧ (Ix x11 len1) ∧ Ok X 0 0 55 [(0, .ref a0), (1, .int (i3 x1)), (2, .long (i6 l2)), (4, .ref a4), (5, .long (i6 l5)), (7, .int (i3 x7)), (8, .ref a8), (9, .long (i6 l9)), (11, .int (i3 (x11 + 1)))] [] n (va_up h a8 (al len1 (va_up f1 (x11 : Int).toNat ((((l5 * (f1 (x11 : Int).toNat)) - (l9 * (f2 (x11 : Int).toNat))) : Int).tdiv l2))))) :
    Ok X 0 0 62 [(0, .ref a0), (1, .int (i3 x1)), (2, .long (i6 l2)), (4, .ref a4), (5, .long (i6 l5)), (7, .int (i3 x7)), (8, .ref a8), (9, .long (i6 l9)), (11, .int (i3 x11))] [] n h := by
  refine ok_aload (pc := 62) hc dX3_clearColumn_62 6 rfl ?_
  refine ok_iload (pc := 64) hc dX3_clearColumn_64 8 rfl ?_
  refine ok_lload (pc := 66) hc dX3_clearColumn_66 4 rfl ?_
  refine ok_aload (pc := 68) hc dX3_clearColumn_68 6 rfl ?_
  refine ok_iload (pc := 70) hc dX3_clearColumn_70 8 rfl ?_
  obtain ⟨r, P⟩ := P
  refine zk_lald (pc := 72) hc dX3_clearColumn_72 e1.1 e1.2 r ?_
  refine zk_lmul (pc := 73) hc dX3_clearColumn_73 ?_
  refine ok_lload (pc := 74) hc dX3_clearColumn_74 7 rfl ?_
  refine ok_aload (pc := 76) hc dX3_clearColumn_76 3 rfl ?_
  refine ok_iload (pc := 78) hc dX3_clearColumn_78 8 rfl ?_
  obtain ⟨r, P⟩ := P
  refine zk_lald (pc := 80) hc dX3_clearColumn_80 e2.1 e2.2 r ?_
  refine zk_lmul (pc := 81) hc dX3_clearColumn_81 ?_
  refine zk_lsub (pc := 82) hc dX3_clearColumn_82 ?_
  refine ok_lload_n (pc := 83) hc dX3_clearColumn_83 rfl 2 rfl ?_
  obtain ⟨r, P⟩ := P
  refine zk_ldiv (pc := 84) hc dX3_clearColumn_84 r ?_
  obtain ⟨r, P⟩ := P
  refine zk_last (pc := 85) hc dX3_clearColumn_85 e1.1 e1.2 r ?_
  refine zk_iinc (pc := 86) hc (q := 8) (x := x11) (lv' := [(11, .int (i3 (x11 + 1))), (0, .ref a0), (1, .int (i3 x1)), (2, .long (i6 l2)), (4, .ref a4), (5, .long (i6 l5)), (7, .int (i3 x7)), (8, .ref a8), (9, .long (i6 l9))]) dX3_clearColumn_86 rfl (by decide) rfl ?_
  refine ok_goto (pc := 89) (tgt := 55) hc dX3_clearColumn_89 (by decide) ?_
  refine ok_lv [1, 2, 3, 4, 5, 6, 7, 8, 0] rfl ?_
  exact P

def spec_X3_clearColumn (args : List Value) (n : Nat) (h : HP) (K : KT) : Prop := ∃ (r k : Nat) (p : Int) (M : Mat), args = [.ref r, .int (i3 k), .long (i6 p)] ∧ k < 7 ∧ p ≠ 0 ∧ R6 p ∧ BdM M ∧ RwA h n r M ∧ ∀ h', RwA h' n r (clearM M k p) → Fr h h' (r + 11) (r + 18) → K (.inl none) n h'
theorem sp_X3_clearColumn : Sp yX3_clearColumn cX3_clearColumn 12 none 0 0 0 0 spec_X3_clearColumn := by
  refine sp_intro (by decide) (by rintro args n h K ⟨r, k, p, M, rfl, -⟩; exact Nat.le_of_ble_eq_true rfl) ?_
  rintro X args n h K hc hr ⟨r, k, p, M, rfl, hk, hp, hp6, hb, hM, kk⟩
  obtain ⟨g, σ, R0, hS0, hR0⟩ := hM.s
  have hsg := hS0.2.2.1
  have L55 : ∀ (f t i : Nat) (hh : HP) (R : Mat) (F : Nat → Int), t + f = 14 → i < 7 → i ≠ k → RwS hh n r g σ R → (∀ j, j < 14 → R k j = M k j) → (∀ j, j < 14 → F j = if j < t then clrR M k p i j else M i j) → (∀ F' : Nat → Int, (∀ j, j < 14 → F' j = clrR M k p i j) → Ok X 0 0 24 [(0, .ref r), (1, .int (i3 k)), (2, .long (i6 p)), (4, .ref (r + 12 + σ k)), (5, .long (i6 (M k k))), (7, .int (i3 (i + 1 : Nat)))] [] n (va_up hh (r + 12 + σ i) (al 14 F'))) → Ok X 0 0 55 [(0, .ref r), (1, .int (i3 k)), (2, .long (i6 p)), (4, .ref (r + 12 + σ k)), (5, .long (i6 (M k k))), (7, .int (i3 i)), (8, .ref (r + 12 + σ i)), (9, .long (i6 (M i k))), (11, .int (i3 t))] [] n (va_up hh (r + 12 + σ i) (al 14 F)) := by
    intro f
    induction f with
    | zero =>
      intro t i hh R F ht hi hik hS hRk hF k1
      have : t = 14 := by omega
      subst this
      exact sX3_clearColumn_55 hc hr ⟨R3_s (by omega), fun _ => k1 F (fun j hj => by rw [hF j hj, if_pos hj]), fun c => absurd c (by omega)⟩
    | succ f ih =>
      intro t i hh R F ht hi hik hS hRk hF k1
      refine sX3_clearColumn_55 hc hr ⟨R3_s (by omega), fun c => absurd c (by omega), fun _ => ?_⟩
      have hSi := hS.put (F := F) hi
      have a1 : At (va_up hh (r + 12 + σ i) (al 14 F)) n (r + 12 + σ i) (al 14 F) := (hS.2.2.2.2 i hi).it
      have a2 : At (va_up hh (r + 12 + σ i) (al 14 F)) n (r + 12 + σ k) (al 14 (R k)) := by
        have := hSi.2.2.2.2 k hk
        rw [up_ne (fun z => hik z.symm)] at this
        exact this
      have eF : F t = M i t := by rw [hF t (by omega), if_neg (by omega)]
      have eR : R k t = M k t := hRk t (by omega)
      have q := hb.q (p := p) hi (show t < 14 by omega) hk
      refine sX3_clearColumn_62 hc hr a1 a2 ⟨⟨by omega, by omega, by omega⟩, ⟨by omega, by omega, by omega⟩, ⟨?_, hp6, ?_, hp⟩, ⟨by omega, by omega, by omega⟩, ?_⟩
      · rw [Int.toNat_natCast, eF, eR]
        exact q.1
      · rw [Int.toNat_natCast, eF, eR]
        exact q.2
      · rw [Int.toNat_natCast, eF, eR, up_up]
        refine ih (t + 1) i hh R _ (by omega) hi hik hS hRk (fun j hj => ?_) k1
        by_cases z : j = t
        · subst z
          rw [up_self, if_pos (by omega)]
          rfl
        · rw [up_ne z, hF j hj]
          by_cases c : j < t
          · rw [if_pos c, if_pos (by omega)]
          · rw [if_neg c, if_neg (by omega)]
  have L24 : ∀ (f i : Nat) (hh : HP) (R : Mat), i + f = 7 → RwS hh n r g σ R → (∀ a j, a < 7 → j < 14 → R a j = if a < i then clearM M k p a j else M a j) → Fr h hh (r + 11) (r + 18) → Ok X 0 0 24 [(0, .ref r), (1, .int (i3 k)), (2, .long (i6 p)), (4, .ref (r + 12 + σ k)), (5, .long (i6 (M k k))), (7, .int (i3 i))] [] n hh := by
    intro f
    induction f with
    | zero =>
      intro i hh R hi hS hR hf
      have : i = 7 := by omega
      subst this
      exact sX3_clearColumn_24 hc hr ⟨R3_s (by omega), fun _ => kk hh (hS.a (fun a j ha hj => by rw [hR a j ha hj, if_pos ha])) hf, fun c => absurd c (by omega)⟩
    | succ f ih =>
      intro i hh R hi hS hR hf
      refine sX3_clearColumn_24 hc hr ⟨R3_s (by omega), fun c => absurd c (by omega), fun _ => ?_⟩
      have gi : g (i : Int).toNat = some (r + 12 + σ i) := by rw [Int.toNat_natCast]; exact (hsg i (by omega)).1
      have si := (hsg i (by omega)).2
      have eRk : ∀ j, j < 14 → R k j = M k j := by
        intro j hj
        rw [hR k j hk hj]
        by_cases c : k < i
        · rw [if_pos c]
          unfold clearM
          rw [if_pos rfl]
        · rw [if_neg c]
      refine sX3_clearColumn_31 hc hr ⟨R3_s (by omega), R3_s (by omega), fun c => ?_, fun c => ?_⟩
      · have ck : i = k := by omega
        refine ih (i + 1) hh R (by omega) hS (fun a j ha hj => ?_) hf
        rw [hR a j ha hj]
        by_cases c1 : a < i
        · rw [if_pos c1, if_pos (by omega)]
        · rw [if_neg c1]
          by_cases c2 : a < i + 1
          · rw [if_pos c2, show a = k by omega]
            unfold clearM
            rw [if_pos rfl]
          · rw [if_neg c2]
      · have ck : i ≠ k := by omega
        refine sX3_clearColumn_37 hc hr hS.1 rfl rfl hS.2.1 gi (hS.2.2.2.2 i (by omega)) ⟨⟨by omega, by omega, by omega⟩, ⟨by omega, by omega, by omega⟩, ?_⟩
        rw [Int.toNat_natCast, hR i k (by omega) (by omega), if_neg (by omega)]
        have e : hh = va_up hh (r + 12 + σ i) (al 14 (R i)) := by
          funext z
          by_cases q : z = r + 12 + σ i
          · rw [q, up_self]
            exact (hS.2.2.2.2 i (by omega)).2
          · rw [up_ne q]
        have := L55 14 0 i hh R (R i) (by omega) (by omega) ck hS eRk (fun j hj => by rw [hR i j (by omega) hj, if_neg (by omega), if_neg (by omega)]) (fun F' hF' => ?_)
        · rw [← e] at this
          exact this
        · refine ih (i + 1) _ _ (by omega) (hS.put (F := F') (by omega)) (fun a j ha hj => ?_) (hf.up (by omega))
          by_cases z : a = i
          · subst z
            rw [up_self, if_pos (by omega), hF' j hj]
            unfold clearM
            rw [if_neg ck]
          · rw [up_ne z, hR a j ha hj]
            by_cases c1 : a < i
            · rw [if_pos c1, if_pos (by omega)]
            · rw [if_neg c1, if_neg (by omega)]
  have gk : g (k : Int).toNat = some (r + 12 + σ k) := by rw [Int.toNat_natCast]; exact (hsg k hk).1
  refine sX3_clearColumn_0 hc hr hS0.1 rfl rfl hS0.2.1 gk (hS0.2.2.2.2 k hk) ⟨⟨hp6, R6_0⟩, fun _ => ⟨⟨by omega, by omega, by omega⟩, ⟨by omega, by omega, by omega⟩, ?_⟩, fun c => absurd c hp⟩
  rw [Int.toNat_natCast, hR0 k k hk (by omega)]
  exact L24 7 0 h R0 (by omega) hS0 (fun a j ha hj => by rw [hR0 a j ha hj, if_neg (by omega)]) Fr.rf
/-- the answers' columns, times s, as one row of 49 -/
def ansF (M : Mat) (s : Int) (x : Nat) : Int := s * M (x / 7) (7 + x % 7)
set_option maxHeartbeats 4000000 in
set_option maxRecDepth 100000 in
theorem sX3_copyAnswers_0 {X : Xt} {n : Nat} {h : HP} {a0 : Nat} {a1 : Nat} {x2 : Int} (hc : Cx X cX3_copyAnswers RX3 5 0 0) {K : KT} (hr : CxR X none K) 
    (P : Ok X 0 0 2 [(0, .ref a0), (1, .ref a1), (2, .int (i3 x2)), (3, .int (i3 0))] [] n h) :
    Ok X 0 0 0 [(0, .ref a0), (1, .ref a1), (2, .int (i3 x2))] [] n h := by
  refine ok_iconst (pc := 0) hc (v := i3 0) dX3_copyAnswers_0 (by decide) ?_
  refine ok_istore_n (pc := 1) hc (lv' := [(3, .int (i3 0)), (0, .ref a0), (1, .ref a1), (2, .int (i3 x2))]) dX3_copyAnswers_1 rfl (by decide) rfl ?_
  refine ok_lv [1, 2, 3, 0] rfl ?_
  exact P

set_option maxHeartbeats 4000000 in
set_option maxRecDepth 100000 in
theorem sX3_copyAnswers_2 {X : Xt} {n : Nat} {h : HP} {a0 : Nat} {a1 : Nat} {x2 : Int} {x3 : Int} (hc : Cx X cX3_copyAnswers RX3 5 0 0) {K : KT} (hr : CxR X none K) 
    (P : (R3 x3) ∧ (7 ≤ x3 → K (.inl none) n h) ∧ (¬ 7 ≤ x3 → Ok X 0 0 11 [(0, .ref a0), (1, .ref a1), (2, .int (i3 x2)), (3, .int (i3 x3)), (4, .int (i3 0))] [] n h)) :
    Ok X 0 0 2 [(0, .ref a0), (1, .ref a1), (2, .int (i3 x2)), (3, .int (i3 x3))] [] n h := by
  refine ok_iload_n (pc := 2) hc dX3_copyAnswers_2 rfl 3 rfl ?_
  refine ok_bipush (pc := 3) hc (v := i3 7) dX3_copyAnswers_3 (by decide) ?_
  obtain ⟨r1, P⟩ := P
  refine zk_icmp_ge (pc := 5) (tgt := 54) hc dX3_copyAnswers_5 (by decide) r1 ⟨by decide, by decide⟩ (fun c => ?_) (fun c => ?_)
  · have P := P.1 c
    exact ok_vret (st := []) (pc := 54) hc hr dX3_copyAnswers_54 P
  · have P := P.2 c
    refine ok_iconst (pc := 8) hc (v := i3 0) dX3_copyAnswers_8 (by decide) ?_
    refine ok_istore (pc := 9) hc (lv' := [(4, .int (i3 0)), (0, .ref a0), (1, .ref a1), (2, .int (i3 x2)), (3, .int (i3 x3))]) dX3_copyAnswers_9 (by decide) rfl ?_
    refine ok_lv [1, 2, 3, 4, 0] rfl ?_
    exact P

set_option maxHeartbeats 4000000 in
set_option maxRecDepth 100000 in
theorem sX3_copyAnswers_11 {X : Xt} {n : Nat} {h : HP} {a0 : Nat} {a1 : Nat} {x2 : Int} {x3 : Int} {x4 : Int} (hc : Cx X cX3_copyAnswers RX3 5 0 0) {K : KT} (hr : CxR X none K) 
    (P : (R3 x4) ∧ (7 ≤ x4 → Ok X 0 0 2 [(0, .ref a0), (1, .ref a1), (2, .int (i3 x2)), (3, .int (i3 (x3 + 1)))] [] n h) ∧ (¬ 7 ≤ x4 → Ok X 0 0 18 [(0, .ref a0), (1, .ref a1), (2, .int (i3 x2)), (3, .int (i3 x3)), (4, .int (i3 x4))] [] n h)) :
    Ok X 0 0 11 [(0, .ref a0), (1, .ref a1), (2, .int (i3 x2)), (3, .int (i3 x3)), (4, .int (i3 x4))] [] n h := by
  refine ok_iload (pc := 11) hc dX3_copyAnswers_11 4 rfl ?_
  refine ok_bipush (pc := 13) hc (v := i3 7) dX3_copyAnswers_13 (by decide) ?_
  obtain ⟨r1, P⟩ := P
  refine zk_icmp_ge (pc := 15) (tgt := 48) hc dX3_copyAnswers_15 (by decide) r1 ⟨by decide, by decide⟩ (fun c => ?_) (fun c => ?_)
  · have P := P.1 c
    refine zk_iinc (pc := 48) hc (q := 3) (x := x3) (lv' := [(3, .int (i3 (x3 + 1))), (0, .ref a0), (1, .ref a1), (2, .int (i3 x2)), (4, .int (i3 x4))]) dX3_copyAnswers_48 rfl (by decide) rfl ?_
    refine ok_goto (pc := 51) (tgt := 2) hc dX3_copyAnswers_51 (by decide) ?_
    refine ok_lv [1, 2, 3, 0] rfl ?_
    exact P
  · have P := P.2 c
    exact P

set_option maxHeartbeats 4000000 in
set_option maxRecDepth 100000 in
theorem sX3_copyAnswers_18 {X : Xt} {n : Nat} {h : HP} {a0 : Nat} {a1 : Nat} {x2 : Int} {x3 : Int} {x4 : Int} {fs2 : List Value} {q3 : Nat} {len4 : Nat} {f4 : Nat → Option Nat} {q5 : Nat} {len7 : Nat} {f7 : Nat → Int} {len8 : Nat} {f8 : Nat → Int} (hc : Cx X cX3_copyAnswers RX3 5 0 0) {K : KT} (hr : CxR X none K) (e2 : At h n a0 (.inl (3, fs2))) (z2 : fs2.length = 3) (v2_2 : fs2[2]? = some (.ref q3)) (e4 : At h n q3 (.inr (4, len4, .inr (.inr f4)))) (g6 : (f4 (x3 : Int).toNat) = some q5) (e7 : At h n q5 (al len7 f7)) (e8 : At h n a1 (al len8 f8))
    (P : (R3 x2) ∧ (Ix x3 len4) ∧ (Ix (7 + x4) len7) ∧ (Ix ((7 * x3) + x4) len8) ∧ Ok X 0 0 11 [(0, .ref a0), (1, .ref a1), (2, .int (i3 x2)), (3, .int (i3 x3)), (4, .int (i3 (x4 + 1)))] [] n (va_up h a1 (al len8 (va_up f8 (((7 * x3) + x4) : Int).toNat (x2 * (f7 ((7 + x4) : Int).toNat)))))) :
    Ok X 0 0 18 [(0, .ref a0), (1, .ref a1), (2, .int (i3 x2)), (3, .int (i3 x3)), (4, .int (i3 x4))] [] n h := by
  refine ok_aload_n (pc := 18) hc dX3_copyAnswers_18 rfl 1 rfl ?_
  refine ok_bipush (pc := 19) hc (v := i3 7) dX3_copyAnswers_19 (by decide) ?_
  refine ok_iload_n (pc := 21) hc dX3_copyAnswers_21 rfl 3 rfl ?_
  refine zk_imul (pc := 22) hc dX3_copyAnswers_22 ?_
  refine ok_iload (pc := 23) hc dX3_copyAnswers_23 4 rfl ?_
  refine zk_iadd (pc := 25) hc dX3_copyAnswers_25 ?_
  refine ok_iload_n (pc := 26) hc dX3_copyAnswers_26 rfl 2 rfl ?_
  obtain ⟨r1, P⟩ := P
  refine zk_i2l (pc := 27) hc dX3_copyAnswers_27 r1 ?_
  refine ok_aload_n (pc := 28) hc dX3_copyAnswers_28 rfl 0 rfl ?_
  refine ok_get (pc := 29) hc fl_X3_20 dX3_copyAnswers_29 e2.1 e2.2 v2_2 ?_
  refine ok_iload_n (pc := 32) hc dX3_copyAnswers_32 rfl 3 rfl ?_
  obtain ⟨r, P⟩ := P
  refine zk_aald (pc := 33) hc dX3_copyAnswers_33 e4.1 e4.2 rfl r g6 ?_
  refine ok_bipush (pc := 34) hc (v := i3 7) dX3_copyAnswers_34 (by decide) ?_
  refine ok_iload (pc := 36) hc dX3_copyAnswers_36 4 rfl ?_
  refine zk_iadd (pc := 38) hc dX3_copyAnswers_38 ?_
  obtain ⟨r, P⟩ := P
  refine zk_lald (pc := 39) hc dX3_copyAnswers_39 e7.1 e7.2 r ?_
  refine zk_lmul (pc := 40) hc dX3_copyAnswers_40 ?_
  obtain ⟨r, P⟩ := P
  refine zk_last (pc := 41) hc dX3_copyAnswers_41 e8.1 e8.2 r ?_
  refine zk_iinc (pc := 42) hc (q := 4) (x := x4) (lv' := [(4, .int (i3 (x4 + 1))), (0, .ref a0), (1, .ref a1), (2, .int (i3 x2)), (3, .int (i3 x3))]) dX3_copyAnswers_42 rfl (by decide) rfl ?_
  refine ok_goto (pc := 45) (tgt := 11) hc dX3_copyAnswers_45 (by decide) ?_
  refine ok_lv [1, 2, 3, 4, 0] rfl ?_
  exact P

def spec_X3_copyAnswers (args : List Value) (n : Nat) (h : HP) (K : KT) : Prop := ∃ (r o : Nat) (s : Int) (M : Mat) (F : Nat → Int), args = [.ref r, .ref o, .int (i3 s)] ∧ R3 s ∧ RwA h n r M ∧ At h n o (al 49 F) ∧ r < o ∧ o < r + 11 ∧ ∀ G : Nat → Int, (∀ x, x < 49 → G x = ansF M s x) → K (.inl none) n (va_up h o (al 49 G))
theorem sp_X3_copyAnswers : Sp yX3_copyAnswers cX3_copyAnswers 5 none 0 0 0 0 spec_X3_copyAnswers := by
  refine sp_intro (by decide) (by rintro args n h K ⟨r, o, s, M, F, rfl, -⟩; exact Nat.le_of_ble_eq_true rfl) ?_
  rintro X args n h K hc hr ⟨r, o, s, M, F, rfl, hs, hM, ho, o1, o2, kk⟩
  obtain ⟨g, σ, R, ⟨h0, h1, h2, h3, h4⟩, hR⟩ := hM.s
  have L11 : ∀ (f i t : Nat) (G : Nat → Int), t + f = 7 → i < 7 → (∀ x, x < 7 * i + t → G x = ansF M s x) → (∀ G : Nat → Int, (∀ x, x < 7 * i + 7 → G x = ansF M s x) → Ok X 0 0 2 [(0, .ref r), (1, .ref o), (2, .int (i3 s)), (3, .int (i3 (i + 1 : Nat)))] [] n (va_up h o (al 49 G))) → Ok X 0 0 11 [(0, .ref r), (1, .ref o), (2, .int (i3 s)), (3, .int (i3 i)), (4, .int (i3 t))] [] n (va_up h o (al 49 G)) := by
    intro f
    induction f with
    | zero =>
      intro i t G hf hi hG k1
      have : t = 7 := by omega
      subst this
      exact sX3_copyAnswers_11 hc hr ⟨R3_s (by omega), fun _ => k1 G hG, fun c => absurd c (by omega)⟩
    | succ f ih =>
      intro i t G hf hi hG k1
      refine sX3_copyAnswers_11 hc hr ⟨R3_s (by omega), fun c => absurd c (by omega), fun _ => ?_⟩
      have gi : g (i : Int).toNat = some (r + 12 + σ i) := by rw [Int.toNat_natCast]; exact (h2 i hi).1
      have si := (h2 i hi).2
      refine sX3_copyAnswers_18 hc hr (h0.up (by omega)) rfl rfl (h1.up (by omega)) gi ((h4 i hi).up (by omega)) ho.it ⟨hs, ⟨by omega, by omega, by omega⟩, ⟨by omega, by omega, by omega⟩, ⟨by omega, by omega, by omega⟩, ?_⟩
      rw [up_up, show ((7 : Int) + t).toNat = 7 + t by omega, show ((7 : Int) * i + t).toNat = 7 * i + t by omega, hR i (7 + t) hi (by omega)]
      refine ih i (t + 1) _ (by omega) hi (fun x hx => ?_) k1
      by_cases z : x = 7 * i + t
      · subst z
        rw [up_self]
        unfold ansF
        rw [show (7 * i + t) / 7 = i by omega, show (7 * i + t) % 7 = t by omega]
      · rw [up_ne z]
        exact hG x (by omega)
  have L2 : ∀ (f i : Nat) (G : Nat → Int), i + f = 7 → (∀ x, x < 7 * i → G x = ansF M s x) → Ok X 0 0 2 [(0, .ref r), (1, .ref o), (2, .int (i3 s)), (3, .int (i3 i))] [] n (va_up h o (al 49 G)) := by
    intro f
    induction f with
    | zero =>
      intro i G hf hG
      have : i = 7 := by omega
      subst this
      exact sX3_copyAnswers_2 hc hr ⟨R3_s (by omega), fun _ => kk G hG, fun c => absurd c (by omega)⟩
    | succ f ih =>
      intro i G hf hG
      refine sX3_copyAnswers_2 hc hr ⟨R3_s (by omega), fun c => absurd c (by omega), fun _ => ?_⟩
      exact L11 7 i 0 G (by omega) (by omega) hG (fun G' hG' => ih (i + 1) G' (by omega) (fun x hx => hG' x (by omega)))
  have e : h = va_up h o (al 49 F) := by
    funext z
    by_cases q : z = o
    · rw [q, up_self]
      exact ho.2
    · rw [up_ne q]
  have L0 := L2 7 0 F (by omega) (fun x hx => absurd hx (by omega))
  rw [← e] at L0
  exact sX3_copyAnswers_0 hc hr L0
def elimN : Nat → Nat → Int → Mat → Int × Mat
  | 0, _, p, M => (p, M)
  | f + 1, k, p, M =>
    match pivN M k (7 - k) k with
    | none => (0, M)
    | some i => elimN f (k + 1) (M i k) (clearM (swapM M i k) k p)
def EOk : Nat → Nat → Int → Mat → Prop
  | 0, _, _, M => BdM M
  | f + 1, k, p, M => BdM M ∧ p ≠ 0 ∧ R6 p ∧ ∀ i, pivN M k (7 - k) k = some i → EOk f (k + 1) (M i k) (clearM (swapM M i k) k p)
theorem pivN_spec {M : Mat} {k : Nat} : ∀ {f i j : Nat}, pivN M k f i = some j → M j k ≠ 0 ∧ i ≤ j ∧ j < i + f
  | f + 1, i, j, e => by
    unfold pivN at e
    by_cases z : M i k = 0
    · rw [if_pos z] at e
      have := pivN_spec e
      exact ⟨this.1, by omega, by omega⟩
    · rw [if_neg z] at e
      have := Option.some.inj e
      subst this
      exact ⟨z, by omega, by omega⟩
theorem pivN_none {M : Mat} {k : Nat} : ∀ {f i : Nat}, pivN M k f i = none → ∀ j, i ≤ j → j < i + f → M j k = 0
  | 0, i, e, j, h1, h2 => absurd h2 (by omega)
  | f + 1, i, e, j, h1, h2 => by
    unfold pivN at e
    by_cases z : M i k = 0
    · rw [if_pos z] at e
      by_cases q : j = i
      · rw [q]
        exact z
      · exact pivN_none e j (by omega) (by omega)
    · rw [if_neg z] at e
      exact absurd e (by simp)
theorem BdM.swap {M : Mat} (b : BdM M) {i k : Nat} (hi : i < 7) (hk : k < 7) : BdM (swapM M i k) := by
  intro a j ha hj
  unfold swapM
  by_cases z : a = k
  · subst z
    rw [up_self]
    exact b i j hi hj
  · rw [up_ne z]
    by_cases y : a = i
    · subst y
      rw [up_self]
      exact b k j hk hj
    · rw [up_ne y]
      exact b a j ha hj
set_option maxHeartbeats 4000000 in
set_option maxRecDepth 100000 in
theorem sX3_eliminate_0 {X : Xt} {n : Nat} {h : HP} {a0 : Nat} (hc : Cx X cX3_eliminate RX3 4 1 31) {K : KT} (hr : CxR X (some .long) K) 
    (P : Ok X 0 0 4 [(0, .ref a0), (1, .long (i6 1)), (3, .int (i3 0))] [] n h) :
    Ok X 0 0 0 [(0, .ref a0)] [] n h := by
  refine ok_lconst (pc := 0) hc (v := i6 1) dX3_eliminate_0 (by decide) ?_
  refine ok_lstore_n (pc := 1) hc (lv' := [(1, .long (i6 1)), (0, .ref a0)]) dX3_eliminate_1 rfl (by decide) rfl ?_
  refine ok_iconst (pc := 2) hc (v := i3 0) dX3_eliminate_2 (by decide) ?_
  refine ok_istore_n (pc := 3) hc (lv' := [(3, .int (i3 0)), (1, .long (i6 1)), (0, .ref a0)]) dX3_eliminate_3 rfl (by decide) rfl ?_
  refine ok_lv [2, 1, 0] rfl ?_
  exact P

set_option maxHeartbeats 4000000 in
set_option maxRecDepth 100000 in
theorem sX3_eliminate_4 {X : Xt} {n : Nat} {h : HP} {a0 : Nat} {l1 : Int} {x3 : Int} {fs2 : List Value} (hc : Cx X cX3_eliminate RX3 4 1 31) {K : KT} (hr : CxR X (some .long) K) (e2 : At h n a0 (.inl (3, fs2))) (z2 : fs2.length = 3)
    (P : (R3 x3) ∧ (7 ≤ x3 → K (.inl (some (.long (i6 l1)))) n h) ∧ (¬ 7 ≤ x3 → spec_X3_bringPivot [.ref a0, .int (i3 x3)] n h (kc X 0 0 12 [(0, .ref a0), (1, .long (i6 l1)), (3, .int (i3 x3))] [] n))) :
    Ok X 0 0 4 [(0, .ref a0), (1, .long (i6 l1)), (3, .int (i3 x3))] [] n h := by
  refine ok_iload_n (pc := 4) hc dX3_eliminate_4 rfl 2 rfl ?_
  refine ok_bipush (pc := 5) hc (v := i3 7) dX3_eliminate_5 (by decide) ?_
  obtain ⟨r1, P⟩ := P
  refine zk_icmp_ge (pc := 7) (tgt := 41) hc dX3_eliminate_7 (by decide) r1 ⟨by decide, by decide⟩ (fun c => ?_) (fun c => ?_)
  · have P := P.1 c
    refine ok_lload_n (pc := 41) hc dX3_eliminate_41 rfl 1 rfl ?_
    exact ok_lret (st := []) (pc := 42) hc hr dX3_eliminate_42 P
  · have P := P.2 c
    refine ok_aload_n (pc := 10) hc dX3_eliminate_10 rfl 0 rfl ?_
    refine ok_iload_n (pc := 11) hc dX3_eliminate_11 rfl 2 rfl ?_
    exact ok_callV (pc := 12) (a := a0) (cb := 0) (sb := 0) (st := []) hc [.int (i3 x3)] cv_X3_91 sp_X3_bringPivot (by decide) dX3_eliminate_12 rfl e2.1 e2.2 rfl rfl rfl (Nat.le_of_ble_eq_true rfl) P

set_option maxHeartbeats 4000000 in
set_option maxRecDepth 100000 in
theorem sX3_eliminate_15 {X : Xt} {n : Nat} {h : HP} {a0 : Nat} {l1 : Int} {x3 : Int} {t0 : Int} {fs2 : List Value} (hc : Cx X cX3_eliminate RX3 4 1 31) {K : KT} (hr : CxR X (some .long) K) (e2 : At h n a0 (.inl (3, fs2))) (z2 : fs2.length = 3)
    (P : (R3 t0) ∧ (¬ t0 = 0 → spec_X3_clearColumn [.ref a0, .int (i3 x3), .long (i6 l1)] n h (kc X 0 0 23 [(0, .ref a0), (1, .long (i6 l1)), (3, .int (i3 x3))] [] n)) ∧ (t0 = 0 → K (.inl (some (.long (i6 0)))) n h)) :
    Ok X 0 0 15 [(0, .ref a0), (1, .long (i6 l1)), (3, .int (i3 x3))] [.int (i3 t0)] n h := by
  obtain ⟨r1, P⟩ := P
  refine zk_if_ne (pc := 15) (tgt := 20) hc dX3_eliminate_15 (by decide) r1 (fun c => ?_) (fun c => ?_)
  · have P := P.1 c
    refine ok_aload_n (pc := 20) hc dX3_eliminate_20 rfl 0 rfl ?_
    refine ok_iload_n (pc := 21) hc dX3_eliminate_21 rfl 2 rfl ?_
    refine ok_lload_n (pc := 22) hc dX3_eliminate_22 rfl 1 rfl ?_
    exact ok_callV (pc := 23) (a := a0) (cb := 0) (sb := 0) (st := []) hc [.int (i3 x3), .long (i6 l1)] cv_X3_95 sp_X3_clearColumn (by decide) dX3_eliminate_23 rfl e2.1 e2.2 rfl rfl rfl (Nat.le_of_ble_eq_true rfl) P
  · have P := P.2 c
    refine ok_lconst (pc := 18) hc (v := i6 0) dX3_eliminate_18 (by decide) ?_
    exact ok_lret (st := []) (pc := 19) hc hr dX3_eliminate_19 P

set_option maxHeartbeats 4000000 in
set_option maxRecDepth 100000 in
theorem sX3_eliminate_26 {X : Xt} {n : Nat} {h : HP} {a0 : Nat} {l1 : Int} {x3 : Int} {fs1 : List Value} {q2 : Nat} {len3 : Nat} {f3 : Nat → Option Nat} {q4 : Nat} {len6 : Nat} {f6 : Nat → Int} (hc : Cx X cX3_eliminate RX3 4 1 31) {K : KT} (hr : CxR X (some .long) K) (e1 : At h n a0 (.inl (3, fs1))) (z1 : fs1.length = 3) (v1_2 : fs1[2]? = some (.ref q2)) (e3 : At h n q2 (.inr (4, len3, .inr (.inr f3)))) (g5 : (f3 (x3 : Int).toNat) = some q4) (e6 : At h n q4 (al len6 f6))
    (P : (Ix x3 len3) ∧ (Ix x3 len6) ∧ Ok X 0 0 4 [(0, .ref a0), (1, .long (i6 (f6 (x3 : Int).toNat))), (3, .int (i3 (x3 + 1)))] [] n h) :
    Ok X 0 0 26 [(0, .ref a0), (1, .long (i6 l1)), (3, .int (i3 x3))] [] n h := by
  refine ok_aload_n (pc := 26) hc dX3_eliminate_26 rfl 0 rfl ?_
  refine ok_get (pc := 27) hc fl_X3_20 dX3_eliminate_27 e1.1 e1.2 v1_2 ?_
  refine ok_iload_n (pc := 30) hc dX3_eliminate_30 rfl 2 rfl ?_
  obtain ⟨r, P⟩ := P
  refine zk_aald (pc := 31) hc dX3_eliminate_31 e3.1 e3.2 rfl r g5 ?_
  refine ok_iload_n (pc := 32) hc dX3_eliminate_32 rfl 2 rfl ?_
  obtain ⟨r, P⟩ := P
  refine zk_lald (pc := 33) hc dX3_eliminate_33 e6.1 e6.2 r ?_
  refine ok_lstore_n (pc := 34) hc (lv' := [(1, .long (i6 (f6 (x3 : Int).toNat))), (0, .ref a0), (3, .int (i3 x3))]) dX3_eliminate_34 rfl (by decide) rfl ?_
  refine zk_iinc (pc := 35) hc (q := 2) (x := x3) (lv' := [(3, .int (i3 (x3 + 1))), (1, .long (i6 (f6 (x3 : Int).toNat))), (0, .ref a0)]) dX3_eliminate_35 rfl (by decide) rfl ?_
  refine ok_goto (pc := 38) (tgt := 4) hc dX3_eliminate_38 (by decide) ?_
  refine ok_lv [2, 1, 0] rfl ?_
  exact P

def spec_X3_eliminate (args : List Value) (n : Nat) (h : HP) (K : KT) : Prop := ∃ (r : Nat) (M : Mat), args = [.ref r] ∧ RwA h n r M ∧ EOk 7 0 1 M ∧ ∀ h', RwA h' n r (elimN 7 0 1 M).2 → Fr h h' (r + 11) (r + 18) → K (.inl (some (.long (i6 (elimN 7 0 1 M).1)))) n h'
theorem sp_X3_eliminate : Sp yX3_eliminate cX3_eliminate 4 (some .long) 1 31 0 0 spec_X3_eliminate := by
  refine sp_intro (by decide) (by rintro args n h K ⟨r, M, rfl, -⟩; exact Nat.le_of_ble_eq_true rfl) ?_
  rintro X args n h K hc hr ⟨r, M, rfl, hM, hE, kk⟩
  have L : ∀ (f k : Nat) (p : Int) (N : Mat) (hh : HP), k + f = 7 → RwA hh n r N → EOk f k p N → elimN f k p N = elimN 7 0 1 M → Fr h hh (r + 11) (r + 18) → Ok X 0 0 4 [(0, .ref r), (1, .long (i6 p)), (3, .int (i3 k))] [] n hh := by
    intro f
    induction f with
    | zero =>
      intro k p N hh hk hN hB he hf
      have : k = 7 := by omega
      subst this
      have e0 := hN.s
      obtain ⟨g, σ, R, hS, -⟩ := e0
      rw [← he] at kk
      exact sX3_eliminate_4 hc hr hS.1 rfl ⟨R3_s (by omega), fun _ => kk hh hN hf, fun c => absurd c (by omega)⟩
    | succ f ih =>
      intro k p N hh hk hN hB he hf
      obtain ⟨g, σ, R, hS, -⟩ := hN.s
      obtain ⟨hb, hp, hp6, hs⟩ := hB
      refine sX3_eliminate_4 hc hr hS.1 rfl ⟨R3_s (by omega), fun c => absurd c (by omega), fun _ => ⟨r, k, N, rfl, by omega, hN, fun i j hi hj => hb.r hi hj, fun h1 hN1 hf1 => ⟨rfl, ?_⟩⟩⟩
      obtain ⟨g1, σ1, R1, hS1, -⟩ := hN1.s
      rw [show elimN (f + 1) k p N = (match pivN N k (7 - k) k with | none => (0, N) | some i => elimN f (k + 1) (N i k) (clearM (swapM N i k) k p)) from rfl] at he
      cases hq : pivN N k (7 - k) k with
      | none =>
        rw [hq] at he hN1
        rw [← he] at kk
        refine sX3_eliminate_15 hc hr hS1.1 rfl ⟨bz01 _, fun c => absurd rfl c, fun _ => kk h1 hN1 (hf.tr hf1)⟩
      | some i =>
        rw [hq] at he hN1
        have hps := pivN_spec hq
        refine sX3_eliminate_15 hc hr hS1.1 rfl ⟨bz01 _, fun _ => ⟨r, k, p, _, rfl, by omega, hp, hp6, hb.swap (show i < 7 by omega) (show k < 7 by omega), hN1, fun h2 hN2 hf2 => ⟨rfl, ?_⟩⟩, fun c => absurd (bz0.mp c) (by simp)⟩
        obtain ⟨g2, σ2, R2, hS2, hR2⟩ := hN2.s
        have gk : g2 (k : Int).toNat = some (r + 12 + σ2 k) := by rw [Int.toNat_natCast]; exact (hS2.2.2.1 k (by omega)).1
        refine sX3_eliminate_26 hc hr hS2.1 rfl rfl hS2.2.1 gk (hS2.2.2.2.2 k (by omega)) ⟨⟨by omega, by omega, by omega⟩, ⟨by omega, by omega, by omega⟩, ?_⟩
        have ek : R2 k k = N i k := by
          rw [hR2 k k (by omega) (by omega)]
          unfold clearM swapM
          rw [if_pos rfl, up_self]
        rw [Int.toNat_natCast, ek]
        exact ih (k + 1) (N i k) _ h2 (by omega) hN2 (hs i hq) he ((hf.tr hf1).tr hf2)
  obtain ⟨g, σ, R, hS, -⟩ := hM.s
  exact sX3_eliminate_0 hc hr (L 7 0 1 M h rfl hM hE rfl Fr.rf)
