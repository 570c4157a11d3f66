/-! part a13: what the law's elimination keeps: the class's own, row by row, up to factors -/
/-- what is given, of the parts ps -/
def GvOk (ps : List Part) (γ : Nat → Int) : Prop := (∀ g, g < 7 → γ g ≠ 0 → kcB ps g = false ∧ g ≠ 0 ∧ nR ps ≤ 11) ∧ ∀ g, g < 7 → lb_b (γ g) 200
theorem cn6 {f : Nat → Bool} (h : f 0 = false) : cn f 7 ≤ 6 := by
  have h1 : cn f 1 = 0 := by
    rw [cn_s, h]
    rfl
  have s : ∀ k, cn f (k + 1) ≤ cn f k + 1 := fun k => by
    rw [cn_s]
    split <;> omega
  have s1 : cn f 2 ≤ cn f 1 + 1 := s 1
  have s2 : cn f 3 ≤ cn f 2 + 1 := s 2
  have s3 : cn f 4 ≤ cn f 3 + 1 := s 3
  have s4 : cn f 5 ≤ cn f 4 + 1 := s 4
  have s5 : cn f 6 ≤ cn f 5 + 1 := s 5
  have s6 : cn f 7 ≤ cn f 6 + 1 := s 6
  omega
theorem kc0 (ps : List Part) : kcB ps 0 = false := kc_no (fr0 ps)
theorem cn5 {f : Nat → Bool} {g : Nat} (h : f 0 = false) (hg : g < 7) (h0 : g ≠ 0) (hf : f g = false) : cn f 7 ≤ 5 := by
  have h1 := cn_or1 hf (n := 7)
  rw [if_pos hg] at h1
  have h2 : cn (fun k => decide (k = g) || f k) 7 ≤ 6 := cn6 (by rw [decide_eq_false (fun z : (0 : Nat) = g => h0 z.symm), h]; rfl)
  omega
def tr7 (ρ : Nat → Int) : Nat → Int := fun q => if q < 7 then ρ q else 0
theorem tr7_T : lb_T tr7 := by
  refine ⟨fun c u v => ?_, fun a b => ?_⟩
  · funext q
    unfold tr7
    split
    · rfl
    · rw [Int.mul_zero, Int.zero_add]
  · have key : ∀ a : Option Nat, ∃ a' : Option Nat, ∀ q, tr7 (lb_d a) q = lb_d a' q := by
      intro a
      cases a with
      | none =>
        refine ⟨none, fun q => ?_⟩
        unfold tr7 lb_d
        simp
      | some v =>
        refine ⟨if v < 7 then some v else none, fun q => ?_⟩
        unfold tr7 lb_d
        grind
    obtain ⟨a', ha⟩ := key a
    obtain ⟨b', hb⟩ := key b
    refine ⟨a', b', ?_⟩
    funext q
    have h1 := ha q
    have h2 := hb q
    unfold lb_e
    rw [← h1, ← h2]
    unfold tr7
    split <;> rfl
theorem deg48 {ps : List Part} (hl : ps.length ≤ 12) (hp : ∀ p ∈ ps, PW p) (k : Nat) : degN ps k ≤ 48 := by
  have : ∀ (qs : List Part) (d : Nat), (∀ p ∈ qs, PW p) → qs.foldl (degS k) d ≤ d + 4 * qs.length := by
    intro qs
    induction qs with
    | nil => exact fun d _ => Nat.le_refl _
    | cons p qs ih =>
      intro d hq
      rw [List.foldl_cons, List.length_cons]
      have := ih (degS k d p) (fun q h => hq q (List.mem_cons_of_mem _ h))
      have hp := hq p List.mem_cons_self
      have : degS k d p ≤ d + 4 := by
        unfold degS
        split
        · rename_i z
          unfold PW at hp
          omega
        · omega
      omega
  have := this ps 0 hp
  unfold degN
  omega
def LWt (T1 T2 : Nat) (A : Mat) : Prop := ∃ w1 w2 e1 e2 : Nat → Nat, (∀ r, r < 7 → lb_W (w1 r : Nat) (tr7 (A r)) ∧ lb_W (w2 r : Nat) (A r)) ∧ (∀ r, r < 7 → (w1 r + 1) ^ 24 ≤ 2 ^ e1 r ∧ (w2 r + 1) ^ 24 ≤ 2 ^ e2 r) ∧ lb_t e1 7 ≤ T1 ∧ lb_t e2 7 ≤ T2
theorem LWt.x {T1 T2 : Nat} {A : Mat} (h : LWt T1 T2 A) {a b : Nat} (ha : a < 7) (hb : b < 7) : LWt T1 T2 (fun r q => A (le_x a b r) q) := by
  obtain ⟨w1, w2, e1, e2, h1, h2, h3, h4⟩ := h
  exact ⟨fun i => w1 (le_x a b i), fun i => w2 (le_x a b i), fun i => e1 (le_x a b i), fun i => e2 (le_x a b i), fun r hr => h1 _ (le_xl ha hb hr), fun r hr => h2 _ (le_xl ha hb hr), by rw [le_tx e1 ha hb]; exact h3, by rw [le_tx e2 ha hb]; exact h4⟩
theorem q24_le {X T b : Nat} (h : X ^ 24 ≤ 2 ^ T) (hb : T ≤ 24 * b) : X ≤ 2 ^ b := by
  refine Nat.le_of_not_lt fun c => ?_
  have q1 : (2 ^ b) ^ 24 < X ^ 24 := Nat.pow_lt_pow_left c (by decide)
  rw [← Nat.pow_mul] at q1
  have q2 : 2 ^ T ≤ 2 ^ (b * 24) := Nat.pow_le_pow_right (by decide) (by omega)
  omega
theorem lb_up {x : Int} {a b : Nat} (h : lb_b x (a : Int)) (hab : a ≤ b) : lb_b x (b : Int) := ⟨by have := h.1; omega, by have := h.2; omega⟩
theorem LWt.b1 {T1 T2 : Nat} {A : Mat} (h : LWt T1 T2 A) {b : Nat} (hb : T1 ≤ 24 * b) {k l j : Nat} (hl : l < 7) (hj : j < 7) : lb_b (la_D 7 (la_c (le_B A k) l (fun i => A i j))) ((2 ^ b : Nat) : Int) := by
  obtain ⟨w1, w2, e1, e2, h1, h2, h3, h4⟩ := h
  have hq := le_bq (n := 7) (fun r => tr7 (A r)) (k := k) (l := l) (j := j) (w := w1) hl (Or.inl hj) (fun r hr => (h1 r hr).1)
  have e : la_D 7 (la_c (le_B (fun r => tr7 (A r)) k) l (fun i => tr7 (A i) j)) = la_D 7 (la_c (le_B A k) l (fun i => A i j)) := by
    refine la_DE fun i q _ hq7 => ?_
    unfold la_c le_B tr7
    simp only [if_pos hj, if_pos hq7]
  rw [e] at hq
  exact lb_up hq (q24_le (Nat.le_trans (lq_e 7 (fun i => w1 i + 1) e1 (fun i hi => (h2 i hi).1)) (Nat.pow_le_pow_right (by decide) h3)) hb)
theorem LWt.b2 {T1 T2 : Nat} {A : Mat} (h : LWt T1 T2 A) {b : Nat} (hb : T2 ≤ 24 * b) {k l j : Nat} (hk : k ≤ 7) (hl : l < 7) : lb_b (la_D 7 (la_c (le_B A k) l (fun i => A i (7 + j)))) ((2 ^ b : Nat) : Int) := by
  obtain ⟨w1, w2, e1, e2, h1, h2, h3, h4⟩ := h
  have hq := le_bq (n := 7) A (k := k) (l := l) (j := 7 + j) (w := w2) hl (Or.inr (by omega)) (fun r hr => (h1 r hr).2)
  exact lb_up hq (q24_le (Nat.le_trans (lq_e 7 (fun i => w2 i + 1) e2 (fun i hi => (h2 i hi).2)) (Nat.pow_le_pow_right (by decide) h4)) hb)
theorem e_sum1 (f : Nat → Bool) (g : Nat → Nat) : ∀ n, lb_t (fun r => if f r = true then 2 * g r + 67 else 24) n ≤ 2 * lb_t g n + 43 * cn f n + 24 * n
  | 0 => Nat.le_refl _
  | n + 1 => by
    have ih := e_sum1 f g n
    rw [lt_sn, lt_sn g, cn_s]
    split <;> omega
theorem e_sum2 (f : Nat → Bool) (g : Nat → Nat) : ∀ n, lb_t (fun r => if f r = true then 2 * g r + 67 else 39) n ≤ 2 * lb_t g n + 28 * cn f n + 39 * n
  | 0 => Nat.le_refl _
  | n + 1 => by
    have ih := e_sum2 f g n
    rw [lt_sn, lt_sn g, cn_s]
    split <;> omega
theorem lwt_rows {ps : List Part} (hG : GdP ps) (m : Nat) : LWt (16 * nR ps + 168 + 43 * cn (kcB ps) 7) (16 * nR ps + 273 + 28 * cn (kcB ps) 7) (rowsM (m : Nat) ps) := by
  have hpw : ∀ p ∈ ps, PW p := fun p hp => (hG.2.2.1 p hp).1
  have hds := deg_sum (ps := ps) (d := fun _ => 0) hpw
  have hd7 : lb_t (fun _ => 0) 7 = 0 := rfl
  have hds' : lb_t (degN ps) 7 ≤ 0 + 8 * nR ps := hds
  refine ⟨fun r => if kcB ps r = true then degN ps r else 1, fun r => if kcB ps r = true then degN ps r else 2, fun r => if kcB ps r = true then 2 * degN ps r + 67 else 24, fun r => if kcB ps r = true then 2 * degN ps r + 67 else 39, fun r hr => ?_, fun r hr => ?_, ?_, ?_⟩
  · show lb_W ((if kcB ps r = true then degN ps r else 1 : Nat) : Int) _ ∧ lb_W ((if kcB ps r = true then degN ps r else 2 : Nat) : Int) _
    rcases row_c hG m hr with ⟨q1, q2⟩ | ⟨q1, a, j, p, q2, q3, q4, q5, q6⟩ | ⟨q1, q2, q3⟩
    · rw [if_pos q1, if_pos q1, q2, List.take_length]
      have hw : lb_W ((degN ps r : Nat) : Int) (kclR ps r) := kcl_W hpw lb_W0
      exact ⟨lb_WT tr7_T hw, hw⟩
    · rw [q1, if_neg (by decide), if_neg (by decide), q6]
      exact ⟨lb_WT tr7_T (lb_W1 _ _), lb_Wm (lb_W1 _ _) (by decide : (1 : Int) ≤ ((2 : Nat) : Int))⟩
    · rw [q1, if_neg (by decide), if_neg (by decide), q3]
      refine ⟨?_, lb_Wm (lb_Wa (c := 1) (by decide) (lb_W1 _ _) (lb_W1 _ _)) (by decide : (1 : Int) * 1 + 1 ≤ ((2 : Nat) : Int))⟩
      have e : tr7 (fun q => 1 * lb_e (some r) none q + lb_e (some (7 + r)) none q) = lb_e (some r) none := by
        funext q
        unfold tr7 lb_e lb_d
        grind
      rw [e]
      exact lb_W1 _ _
  · show ((if kcB ps r = true then degN ps r else 1) + 1) ^ 24 ≤ 2 ^ (if kcB ps r = true then 2 * degN ps r + 67 else 24) ∧ ((if kcB ps r = true then degN ps r else 2) + 1) ^ 24 ≤ 2 ^ (if kcB ps r = true then 2 * degN ps r + 67 else 39)
    have hd := deg48 hG.1 hpw r
    by_cases z : kcB ps r = true
    · rw [if_pos z, if_pos z, if_pos z, if_pos z]
      have := lq_24 (degN ps r + 1) (by omega)
      exact ⟨this, this⟩
    · rw [if_neg z, if_neg z, if_neg z, if_neg z]
      exact ⟨by decide +kernel, by decide +kernel⟩
  · have := e_sum1 (kcB ps) (degN ps) 7
    omega
  · have := e_sum2 (kcB ps) (degN ps) 7
    omega
/-- bounds of all numbers of the law's elimination -/
def BCok (B C : Nat) : Prop := 1 ≤ B ∧ B ≤ 67108864 ∧ C ≤ 46976204800 ∧ B * C ≤ 788129934789836800
def PmOk (γ : Nat → Int) (B C : Nat) (Pm : Mat → Prop) : Prop := (∀ A a b, a < 7 → b < 7 → Pm A → Pm (fun r q => A (le_x a b r) q)) ∧ ∀ A, Pm A → ∀ k l, k ≤ 7 → l < 7 → (∀ j, j < 7 → lb_b (la_D 7 (la_c (le_B A k) l (fun i => A i j))) (B : Int)) ∧ lb_b (la_s (fun g => la_D 7 (la_c (le_B A k) l (fun i => A i (7 + g))) * γ g) 7) (C : Int)
theorem law_bd {ps : List Part} (hG : GdP ps) {γ : Nat → Int} (hγ : GvOk ps γ) (m : Nat) : ∃ (B C : Nat) (Pm : Mat → Prop), BCok B C ∧ Pm (rowsM (m : Nat) ps) ∧ PmOk γ B C Pm := by
  have hk6 := cn6 (kc0 ps)
  have hkn := kinds_le (ps := ps)
  have hl := hG.1
  have hW := lwt_rows hG m
  by_cases z : ∀ g, g < 7 → γ g = 0
  · refine ⟨2 ^ 26, 0, _, ⟨by decide, by decide, by decide, by decide⟩, hW, fun A a b ha hb hA => hA.x ha hb, fun A hA k l hk hl => ⟨fun j hj => hA.b1 (b := 26) (by omega) hl hj, ?_⟩⟩
    rw [la_s0 (fun g hg => by rw [z g hg, Int.mul_zero])]
    exact ⟨by decide, by decide⟩
  · obtain ⟨g, hg7, hg⟩ : ∃ g, g < 7 ∧ γ g ≠ 0 := by
      refine Classical.byContradiction fun y => z fun g hg => ?_
      exact Classical.byContradiction fun w => y ⟨g, hg, w⟩
    obtain ⟨q1, q2, q3⟩ := hγ.1 g hg7 hg
    have hk5 := cn5 (kc0 ps) hg7 q2 q1
    refine ⟨2 ^ 24, 46976204800, _, ⟨by decide, by decide, by decide, by decide⟩, hW, fun A a b ha hb hA => hA.x ha hb, fun A hA k l hk hl => ⟨fun j hj => hA.b1 (b := 24) (by omega) hl hj, ?_⟩⟩
    have hs := lb_sum (n := 7) (c := γ) (d := fun g => la_D 7 (la_c (le_B A k) l (fun i => A i (7 + g)))) (a := fun _ => 200) (B := ((2 ^ 25 : Nat) : Int)) (by decide) (fun x hx => ⟨hγ.2 x hx, Or.inr (hA.b2 (b := 25) (by omega) hk hl)⟩)
    have e : la_s (fun g => la_D 7 (la_c (le_B A k) l (fun i => A i (7 + g))) * γ g) 7 = la_s (fun x => γ x * la_D 7 (la_c (le_B A k) l (fun i => A i (7 + x)))) 7 := la_sE fun g _ => Int.mul_comm _ _
    rw [e]
    exact hs
/-- a row of the class's elimination, with what is given gathered -/
def cl8 (γ : Nat → Int) (M : Mat) (r : Nat) : Nat → Int := fun j => if j < 7 then M r j else la_s (fun g => M r (7 + g) * γ g) 7
def gF (a : Nat → Int) : Nat → Nat
  | 0 => 0
  | n + 1 => Nat.gcd (gF a n) (a n).natAbs
theorem gF_e {a b : Nat → Int} : ∀ {n : Nat}, (∀ j, j < n → a j = b j) → gF a n = gF b n
  | 0, _ => rfl
  | n + 1, h => by
    show Nat.gcd (gF a n) _ = Nat.gcd (gF b n) _
    rw [gF_e (n := n) (fun j hj => h j (by omega)), h n (by omega)]
theorem gF_m (c : Int) (a : Nat → Int) : ∀ n, gF (fun j => c * a j) n = c.natAbs * gF a n
  | 0 => (Nat.mul_zero _).symm
  | n + 1 => by
    show Nat.gcd (gF (fun j => c * a j) n) (c * a n).natAbs = _ * Nat.gcd _ _
    rw [gF_m c a n, Int.natAbs_mul, Nat.gcd_mul_left]
theorem gF_d {a : Nat → Int} {j : Nat} : ∀ {n : Nat}, j < n → gF a n ∣ (a j).natAbs
  | 0, h => absurd h (Nat.not_lt_zero j)
  | n + 1, h => by
    show Nat.gcd (gF a n) (a n).natAbs ∣ _
    by_cases c : j = n
    · rw [c]
      exact Nat.gcd_dvd_right _ _
    · exact Nat.dvd_trans (Nat.gcd_dvd_left _ _) (gF_d (n := n) (by omega))
theorem gF_q {a : Nat → Int} {n g : Nat} (hg : gF a n = g) (h0 : 0 < g) : (∀ j, j < n → a j = (g : Int) * (a j).tdiv g) ∧ gF (fun j => (a j).tdiv g) n = 1 := by
  have h1 : ∀ j, j < n → a j = (g : Int) * (a j).tdiv g := by
    intro j hj
    have hd : ((g : Nat) : Int) ∣ a j := Int.ofNat_dvd_left.mpr (by rw [← hg]; exact gF_d hj)
    obtain ⟨x, hx⟩ := hd
    rw [hx, Int.mul_tdiv_cancel_left _ (by omega)]
  refine ⟨h1, ?_⟩
  have h2 := gF_m (g : Int) (fun j => (a j).tdiv g) n
  rw [← gF_e h1, hg] at h2
  have h3 : g * 1 = g * gF (fun j => (a j).tdiv g) n := by
    rw [Nat.mul_one]
    exact h2
  exact (Nat.eq_of_mul_eq_mul_left h0 h3).symm
def Pr8 (B C : Nat) (v a : Nat → Int) : Prop := (∃ u t : Int, u ≠ 0 ∧ t ≠ 0 ∧ ∀ j, j < 8 → u * v j = t * a j) ∧ (∀ j, j < 7 → lb_b (a j) (B : Int)) ∧ lb_b (a 7) (C : Int)
theorem Pr8.e {B C : Nat} {v a b : Nat → Int} (h : Pr8 B C v a) (e : ∀ j, j < 8 → b j = a j) : Pr8 B C v b := by
  obtain ⟨⟨u, t, h1, h2, h3⟩, h4, h5⟩ := h
  exact ⟨⟨u, t, h1, h2, fun j hj => by rw [e j hj]; exact h3 j hj⟩, fun j hj => by rw [e j (by omega)]; exact h4 j hj, by rw [e 7 (by omega)]; exact h5⟩
/-- a row that is brought down stands under the class's -/
theorem pr_le {u t : Int} {v a : Nat → Int} (hu : u ≠ 0) (ht : t ≠ 0) (h : ∀ j, j < 8 → u * v j = t * a j) (hg : gF a 8 = 1) {j : Nat} (hj : j < 8) : (a j).natAbs ≤ (v j).natAbs := by
  have h1 : u.natAbs * gF v 8 = t.natAbs := by
    rw [← gF_m, gF_e h, gF_m, hg, Nat.mul_one]
  have h2 : u.natAbs * (v j).natAbs = t.natAbs * (a j).natAbs := by
    rw [← Int.natAbs_mul, ← Int.natAbs_mul, h j hj]
  have u0 : 0 < u.natAbs := Int.natAbs_pos.mpr hu
  have g0 : 0 < gF v 8 := by
    refine Nat.pos_of_ne_zero fun z => ?_
    rw [z, Nat.mul_zero] at h1
    omega
  rw [← h1, Nat.mul_assoc] at h2
  have h3 := Nat.eq_of_mul_eq_mul_left u0 h2
  rw [h3]
  exact Nat.le_mul_of_pos_left _ g0
theorem nat_b {x y : Int} {B : Nat} (h : x.natAbs ≤ y.natAbs) (hy : lb_b y (B : Int)) : lb_b x (B : Int) := ⟨by have := hy.1; have := hy.2; omega, by have := hy.1; have := hy.2; omega⟩
/-- a row with nothing in the pivot's column -/
theorem Pr8.skip {B C : Nat} {vr vc v' ar : Nat → Int} {p x : Int} (hr : Pr8 B C vr ar) (hp : p ≠ 0) (hx : x ≠ 0) {c : Nat} (hc : c < 8) (h0 : ar c = 0) (h : ∀ j, j < 8 → p * v' j = x * vr j - vr c * vc j) : Pr8 B C v' ar := by
  obtain ⟨⟨u, t, h1, h2, h3⟩, h4, h5⟩ := hr
  have hz : vr c = 0 := by
    have := h3 c hc
    rw [h0, Int.mul_zero] at this
    exact (Int.mul_eq_zero.mp this).resolve_left h1
  refine ⟨⟨u * p, x * t, Int.mul_ne_zero h1 hp, Int.mul_ne_zero hx h2, fun j hj => ?_⟩, h4, h5⟩
  rw [Int.mul_assoc, h j hj, hz, Int.zero_mul, Int.sub_zero, Int.mul_assoc, ← h3 j hj, Int.mul_left_comm]
/-- a row that the pivot's row clears -/
theorem Pr8.step {B C : Nat} {vr vc v' ar ac : Nat → Int} {p : Int} (hr : Pr8 B C vr ar) (hcc : Pr8 B C vc ac) (hp : p ≠ 0) {c : Nat} (hc : c < 8) (hac : ac c ≠ 0) (h : ∀ j, j < 8 → p * v' j = vc c * vr j - vr c * vc j) (hb : (∀ j, j < 7 → lb_b (v' j) (B : Int)) ∧ lb_b (v' 7) (C : Int)) {f : Nat} (hf : f = Nat.gcd (ac c).natAbs (ar c).natAbs) {raw a' : Nat → Int} (hraw : ∀ j, j < 8 → raw j = ar j * (ac c).tdiv f - ac j * (ar c).tdiv f) (ha' : ∀ j, j < 8 → a' j = if gF raw 8 ≤ 1 then raw j else (raw j).tdiv (gF raw 8)) : Pr8 B C v' a' := by
  obtain ⟨⟨u, t, h1, h2, h3⟩, h4, h5⟩ := hr
  obtain ⟨⟨u', t', g1, g2, g3⟩, g4, g5⟩ := hcc
  have f0 : 0 < f := by
    rw [hf]
    exact Nat.gcd_pos_of_pos_left _ (Int.natAbs_pos.mpr hac)
  have fz : (f : Int) ≠ 0 := by omega
  have e1 : ac c = (f : Int) * (ac c).tdiv f := by
    obtain ⟨x, hx⟩ : ((f : Nat) : Int) ∣ ac c := Int.ofNat_dvd_left.mpr (by rw [hf]; exact Nat.gcd_dvd_left _ _)
    rw [hx, Int.mul_tdiv_cancel_left _ fz]
  have e2 : ar c = (f : Int) * (ar c).tdiv f := by
    obtain ⟨x, hx⟩ : ((f : Nat) : Int) ∣ ar c := Int.ofNat_dvd_left.mpr (by rw [hf]; exact Nat.gcd_dvd_right _ _)
    rw [hx, Int.mul_tdiv_cancel_left _ fz]
  generalize (ac c).tdiv f = up at *
  generalize (ar c).tdiv f = dn at *
  have key : ∀ j, j < 8 → (u * u' * p) * v' j = (t * t' * f) * raw j := by
    intro j hj
    have a1 := h3 j hj
    have a2 := h3 c hc
    have b1 := g3 j hj
    have b2 := g3 c hc
    rw [Int.mul_assoc, h j hj, hraw j hj]
    have : u * u' * (vc c * vr j - vr c * vc j) = (u' * vc c) * (u * vr j) - (u * vr c) * (u' * vc j) := by grind
    rw [this, a1, a2, b1, b2, e1, e2]
    grind
  have U0 : u * u' * p ≠ 0 := Int.mul_ne_zero (Int.mul_ne_zero h1 g1) hp
  have T0 : t * t' * (f : Int) ≠ 0 := Int.mul_ne_zero (Int.mul_ne_zero h2 g2) fz
  generalize hg : gF raw 8 = g at *
  by_cases z : g = 0
  · have rz : ∀ j, j < 8 → raw j = 0 := fun j hj => by
      have := gF_d (a := raw) hj
      rw [hg, z] at this
      exact Int.natAbs_eq_zero.mp (Nat.eq_zero_of_zero_dvd this)
    have az : ∀ j, j < 8 → a' j = 0 := fun j hj => by
      rw [ha' j hj, if_pos (by omega), rz j hj]
    have vz : ∀ j, j < 8 → v' j = 0 := fun j hj => by
      have := key j hj
      rw [rz j hj, Int.mul_zero] at this
      exact (Int.mul_eq_zero.mp this).resolve_left U0
    refine ⟨⟨1, 1, by decide, by decide, fun j hj => by rw [vz j hj, az j hj]⟩, fun j hj => ?_, ?_⟩
    · rw [az j (by omega)]
      exact ⟨by omega, by omega⟩
    · rw [az 7 (by omega)]
      exact ⟨by omega, by omega⟩
  · have gp : 0 < g := by omega
    obtain ⟨q1, q2⟩ := gF_q hg gp
    have aq : ∀ j, j < 8 → a' j = (raw j).tdiv g := fun j hj => by
      rw [ha' j hj]
      split
      · have : g = 1 := by omega
        rw [this]
        exact (Int.tdiv_one _).symm
      · rfl
    have gq : gF a' 8 = 1 := by rw [gF_e aq, q2]
    have gz : (g : Int) ≠ 0 := by omega
    have key2 : ∀ j, j < 8 → (u * u' * p) * v' j = (t * t' * f * g) * a' j := fun j hj => by
      rw [key j hj, aq j hj, Int.mul_assoc (t * t' * f), ← q1 j hj]
    have T1 : t * t' * (f : Int) * g ≠ 0 := Int.mul_ne_zero T0 gz
    exact ⟨⟨_, _, U0, T1, key2⟩, fun j hj => nat_b (pr_le U0 T1 key2 gq (by omega)) (hb.1 j hj), nat_b (pr_le U0 T1 key2 gq (by omega)) hb.2⟩
/-- one step of the class's elimination, exactly -/
theorem bar_eq {k i : Nat} {p : Int} {M A : Mat} (hk : k < 7) (hi : i < 7) (ki : k ≤ i) (hp : p ≠ 0) (hI : lf_I k p M A) {l j : Nat} (hl : l < 7) (hj : j < 14) (hlk : l ≠ k) : p * clearM (swapM M i k) k p l j = swapM M i k k k * swapM M i k l j - swapM M i k l k * swapM M i k k j := by
  have hN : ∀ l j, l < 7 → j < 14 → swapM M i k l j = la_D 7 (la_c (le_B (fun r q => A (le_x i k r) q) k) l (fun r => A (le_x i k r) j)) := by
    intro l j hl hj
    rw [lf_sw, hI.2 _ j (le_xl hi hk hl) hj, le_B2 A hi hk ki (Nat.le_refl k)]
  have hp' : la_D 7 (le_B (fun r q => A (le_x i k r) q) k) = p := by rw [le_B1 A hi hk ki (Nat.le_refl k), hI.1]
  have hI' := lf_st hk hi ki hp hI
  rw [hI'.2 l j hl hj, hN k k hk (by omega), hN l j hl hj, hN l k hl (by omega), hN k j hk hj, ← hp']
  have := la_pl (n := 7) (le_B (fun r q => A (le_x i k r) q) k) (fun r => A (le_x i k r) k) (fun r => A (le_x i k r) j) hk hl (fun z => hlk z.symm)
  rw [this]
  have e := le_Bs (fun r q => A (le_x i k r) q) k
  rw [e]
theorem cl_bar {γ : Nat → Int} {k i : Nat} {p : Int} {M A : Mat} (hk : k < 7) (hi : i < 7) (ki : k ≤ i) (hp : p ≠ 0) (hI : lf_I k p M A) {l : Nat} (hl : l < 7) (hlk : l ≠ k) : ∀ j, j < 8 → p * cl8 γ (clearM (swapM M i k) k p) l j = cl8 γ (swapM M i k) k k * cl8 γ (swapM M i k) l j - cl8 γ (swapM M i k) l k * cl8 γ (swapM M i k) k j := by
  intro j hj
  have b := fun j (hj : j < 14) => bar_eq hk hi ki hp hI hl hj hlk
  generalize clearM (swapM M i k) k p = M' at b
  generalize swapM M i k = N at b
  unfold cl8
  rw [if_pos hk, if_pos hk]
  by_cases c : j < 7
  · rw [if_pos c, if_pos c, if_pos c]
    exact b j (by omega)
  · rw [if_neg c, if_neg c, if_neg c]
    have e1 : p * la_s (fun g => M' l (7 + g) * γ g) 7 = la_s (fun g => N k k * (N l (7 + g) * γ g) + (-N l k) * (N k (7 + g) * γ g)) 7 := by
      rw [← la_smul]
      refine la_sE fun g hg => ?_
      have := b (7 + g) (by omega)
      rw [← Int.mul_assoc, this]
      grind
    rw [e1, la_sadd, la_smul, la_smul]
    grind
theorem cl_bd {γ : Nat → Int} {B C : Nat} {Pm : Mat → Prop} (hP : PmOk γ B C Pm) {k : Nat} {p : Int} {M A : Mat} (hk : k ≤ 7) (hI : lf_I k p M A) (hA : Pm A) {r : Nat} (hr : r < 7) : (∀ j, j < 7 → lb_b (cl8 γ M r j) (B : Int)) ∧ lb_b (cl8 γ M r 7) (C : Int) := by
  obtain ⟨h1, h2⟩ := hP.2 A hA k r hk hr
  refine ⟨fun j hj => ?_, ?_⟩
  · unfold cl8
    rw [if_pos hj, hI.2 r j hr (by omega)]
    exact h1 j hj
  · unfold cl8
    rw [if_neg (by decide)]
    have e : la_s (fun g => M r (7 + g) * γ g) 7 = la_s (fun g => la_D 7 (la_c (le_B A k) r (fun i => A i (7 + g))) * γ g) 7 := la_sE fun g hg => by rw [hI.2 r (7 + g) hr (by omega)]
    rw [e]
    exact h2
/-- the law's rows a stand to the class's elimination at step k -/
def ElI (γ : Nat → Int) (B C : Nat) (Pm : Mat → Prop) (k : Nat) (p : Int) (M A : Mat) (a : Nat → Nat → Int) : Prop := lf_I k p M A ∧ p ≠ 0 ∧ Pm A ∧ ∀ r, r < 7 → Pr8 B C (cl8 γ M r) (a r)
theorem ElI.z {γ : Nat → Int} {B C : Nat} {Pm : Mat → Prop} {k : Nat} {p : Int} {M A : Mat} {a : Nat → Nat → Int} (h : ElI γ B C Pm k p M A a) {r c : Nat} (hr : r < 7) (hc : c < 7) : a r c = 0 ↔ M r c = 0 := by
  obtain ⟨⟨u, t, h1, h2, h3⟩, _⟩ := h.2.2.2 r hr
  have := h3 c (by omega)
  unfold cl8 at this
  rw [if_pos hc] at this
  constructor
  · intro z
    rw [z, Int.mul_zero] at this
    exact (Int.mul_eq_zero.mp this).resolve_left h1
  · intro z
    rw [z, Int.mul_zero] at this
    exact (Int.mul_eq_zero.mp this.symm).resolve_left h2
theorem ElI.sw {γ : Nat → Int} {B C : Nat} {Pm : Mat → Prop} {k i : Nat} {p : Int} {M A : Mat} {a : Nat → Nat → Int} (h : ElI γ B C Pm k p M A a) (hk : k < 7) (hi : i < 7) : ∀ r, r < 7 → Pr8 B C (cl8 γ (swapM M i k) r) (a (le_x i k r)) := by
  intro r hr
  have e : cl8 γ (swapM M i k) r = cl8 γ M (le_x i k r) := by
    funext j
    unfold cl8
    split
    · exact lf_sw
    · exact la_sE fun g _ => by rw [lf_sw]
  rw [e]
  exact h.2.2.2 _ (le_xl hi hk hr)
theorem el_0 {ps : List Part} {γ : Nat → Int} {m B C : Nat} {Pm : Mat → Prop} (hPm : Pm (rowsM (m : Nat) ps)) (hP : PmOk γ B C Pm) {a : Nat → Nat → Int} (h : ∀ r j, r < 7 → j < 8 → a r j = RowL ps m γ r j) : ElI γ B C Pm 0 1 (rowsM (m : Nat) ps) (rowsM (m : Nat) ps) a := by
  have hI : lf_I 0 1 (rowsM (m : Nat) ps) (rowsM (m : Nat) ps) := ⟨le_I1 _ _, fun l j hl hj => (le_Ic _ (fun i => rowsM (m : Nat) ps i j) hl).symm⟩
  refine ⟨hI, by decide, hPm, fun r hr => ?_⟩
  have hb := cl_bd hP (by decide) hI hPm hr
  have e : ∀ j, j < 8 → a r j = cl8 γ (rowsM (m : Nat) ps) r j := fun j hj => by
    rw [h r j hr hj]
    unfold RowL cl8
    by_cases c : j < 7
    · rw [if_pos c, if_pos c]
    · rw [if_neg c, if_neg c, if_pos (by omega)]
  exact ⟨⟨1, 1, by decide, by decide, fun j hj => by rw [e j hj]⟩, fun j hj => by rw [e j (by omega)]; exact hb.1 j hj, by rw [e 7 (by omega)]; exact hb.2⟩
/-- what the law reads of its rows, once they are cleared -/
def SvE (ps : List Part) (m : Nat) (γ : Nat → Int) (E : Nat → Int) : Prop := ∀ k, k < 7 → E (8 * k + k) ≠ 0 ∧ solD ps m * E (8 * k + 7) = numer ps m γ k * E (8 * k + k) ∧ R6p (E (8 * k + 7)) ∧ R6p (E (8 * k + k))
/-- the bounds of the class's answers, for the law's products -/
def BdL (ps : List Part) (m : Nat) (γ : Nat → Int) : Prop := ∃ B C : Nat, BCok B C ∧ lb_b (solD ps m) (B : Int) ∧ ∀ k, k < 7 → lb_b (numer ps m γ k) (C : Int)
theorem elim_sol {ps : List Part} {m : Nat} {p : Int} {M : Mat} (h : elimN 7 0 1 (rowsM (m : Nat) ps) = (p, M)) (γ : Nat → Int) : solD ps m = absZ p ∧ ∀ k, k < 7 → numer ps m γ k = (if 0 ≤ p then 1 else -1) * la_s (fun g => M k (7 + g) * γ g) 7 := by
  refine ⟨by unfold solD; rw [h], fun k hk => ?_⟩
  unfold numer
  rw [sumN_la, ← la_smul]
  refine la_sE fun g hg => ?_
  unfold solN ansF
  rw [h, Nat.mul_add_div (by omega), Nat.div_eq_of_lt hg, Nat.add_zero, Nat.mul_add_mod, Nat.mod_eq_of_lt hg]
  grind
theorem el_7 {ps : List Part} {γ : Nat → Int} {m B C : Nat} {Pm : Mat → Prop} (hBC : BCok B C) (hP : PmOk γ B C Pm) {p : Int} {M A : Mat} {a : Nat → Nat → Int} (h : ElI γ B C Pm 7 p M A a) (he : elimN 7 0 1 (rowsM (m : Nat) ps) = (p, M)) : 0 < solD ps m ∧ BdL ps m γ ∧ ∀ k, k < 7 → a k k ≠ 0 ∧ solD ps m * a k 7 = numer ps m γ k * a k k ∧ R6p (a k 7) ∧ R6p (a k k) := by
  obtain ⟨hI, hp, hA, hrow⟩ := h
  obtain ⟨hs, hn⟩ := elim_sol he γ
  have hB2 := hBC.2.1
  have hC2 := hBC.2.2.1
  have dia : ∀ k, k < 7 → M k k = p := by
    intro k hk
    rw [hI.2 k k hk (by omega), ← hI.1]
    refine congrArg _ ?_
    have : (fun i => A i k) = fun i => le_B A 7 i k := by
      funext i
      unfold le_B
      rw [if_pos hk]
    rw [this, la_cc]
  have hsp : solD ps m = (if 0 ≤ p then 1 else -1) * p := by
    rw [hs]
    unfold absZ
    split <;> omega
  have hb := fun k (hk : k < 7) => cl_bd hP (Nat.le_refl 7) hI hA hk
  refine ⟨by rw [hs]; unfold absZ; split <;> omega, ⟨B, C, hBC, ?_, fun k hk => ?_⟩, fun k hk => ?_⟩
  · have := (hb 0 (by decide)).1 0 (by decide)
    unfold cl8 at this
    rw [if_pos (by decide), dia 0 (by decide)] at this
    rw [hs]
    unfold absZ
    split
    · exact this
    · exact lb_bn this
  · have := (hb k hk).2
    unfold cl8 at this
    rw [if_neg (by decide)] at this
    rw [hn k hk]
    split
    · rw [Int.one_mul]
      exact this
    · rw [show ∀ x : Int, (-1) * x = -x from fun x => by omega]
      exact lb_bn this
  · obtain ⟨⟨u, t, h1, h2, h3⟩, h4, h5⟩ := hrow k hk
    have q1 := h3 k (by omega)
    have q2 := h3 7 (by omega)
    unfold cl8 at q1 q2
    rw [if_pos hk, dia k hk] at q1
    rw [if_neg (by decide)] at q2
    have r1 := h4 k hk
    refine ⟨fun z => ?_, ?_, ⟨by have := h5.1; omega, by have := h5.2; omega⟩, ⟨by have := r1.1; omega, by have := r1.2; omega⟩⟩
    · rw [z, Int.mul_zero] at q1
      rcases Int.mul_eq_zero.mp q1 with y | y
      · exact h1 y
      · exact hp y
    · rw [hsp, hn k hk]
      generalize la_s (fun g => M k (7 + g) * γ g) 7 = N at q2
      have : t * ((if 0 ≤ p then (1 : Int) else -1) * p * a k 7) = t * ((if 0 ≤ p then (1 : Int) else -1) * N * a k k) := by
        have x1 : t * ((if 0 ≤ p then (1 : Int) else -1) * p * a k 7) = (if 0 ≤ p then (1 : Int) else -1) * p * (t * a k 7) := by grind
        have x2 : t * ((if 0 ≤ p then (1 : Int) else -1) * N * a k k) = (if 0 ≤ p then (1 : Int) else -1) * N * (t * a k k) := by grind
        rw [x1, x2, ← q1, ← q2]
        grind
      exact Int.eq_of_mul_eq_mul_left h2 this
