/-! part 81: the reference: unlike, settle -/
theorem chg_3 {c d : Int} {k : Nat} (hk : k ≤ 3) (hc : 0 ≤ c ∧ c < 3 ^ k) (hd : 0 ≤ d ∧ d < 3 ^ k) : chgN c d 3 = chgN c d k := by
  rcases (show k = 0 ∨ k = 1 ∨ k = 2 ∨ k = 3 by omega) with r | r | r | r <;> subst r <;> simp only [chgN] <;> simp only [Int.pow_zero, Int.pow_one] at * <;> grind
theorem chg_0 (c : Int) : ∀ k, chgN c c k = 0
  | 0 => rfl
  | k + 1 => by
    unfold chgN
    rw [chg_0 c k, if_pos rfl]
    rfl
theorem chg_p {c d : Int} {k : Nat} (hk : k ≤ 3) (hc : 0 ≤ c ∧ c < 3 ^ k) (hd : 0 ≤ d ∧ d < 3 ^ k) (h : c ≠ d) : 0 < chgN c d k := by
  rcases (show k = 0 ∨ k = 1 ∨ k = 2 ∨ k = 3 by omega) with r | r | r | r <;> subst r <;> simp only [chgN] <;> simp only [Int.pow_zero, Int.pow_one] at * <;> grind
/-- the reference's search -/
def refL (S : Stt) : Nat → Int → Int → Int
  | 0, _, found => found
  | f + 1, c, found => if (found = -1 ∨ chgN c S.2.2.1 (nA S.1) < chgN found S.2.2.1 (nA S.1)) ∧ (jud S c).1 = 0 then refL S f (c + 1) c else refL S f (c + 1) found
theorem refL_best (S : Stt) (h3 : nA S.1 ≤ 3) : ∀ (f : Nat) (c best few : Int), few = (if best = -1 then 4 else chgN best S.2.2.1 (nA S.1)) → 0 ≤ c → refL S f c best = bestL S f c best few
  | 0, _, _, _, _, _ => rfl
  | f + 1, c, best, few, he, h0 => by
    unfold refL bestL
    have hx := chgN_r c S.2.2.1 (nA S.1)
    by_cases hb : best = -1
    · rw [if_pos hb] at he
      rw [if_neg (show ¬ few ≤ chgN c S.2.2.1 (nA S.1) by omega)]
      by_cases hj : (jud S c).1 = 0
      · rw [if_pos ⟨Or.inl hb, hj⟩, if_pos hj]
        exact refL_best S h3 f (c + 1) c _ (by rw [if_neg (by omega)]) (by omega)
      · rw [if_neg (fun z => hj z.2), if_neg hj]
        exact refL_best S h3 f (c + 1) best few (by rw [if_pos hb]; exact he) (by omega)
    · rw [if_neg hb] at he
      by_cases hl : few ≤ chgN c S.2.2.1 (nA S.1)
      · rw [if_pos hl, if_neg (fun z => by rcases z.1 with w | w; exact hb w; omega)]
        exact refL_best S h3 f (c + 1) best few (by rw [if_neg hb]; exact he) (by omega)
      · rw [if_neg hl]
        by_cases hj : (jud S c).1 = 0
        · rw [if_pos ⟨Or.inr (by omega), hj⟩, if_pos hj]
          exact refL_best S h3 f (c + 1) c _ (by rw [if_neg (by omega)]) (by omega)
        · rw [if_neg (fun z => hj z.2), if_neg hj]
          exact refL_best S h3 f (c + 1) best few (by rw [if_neg hb]; exact he) (by omega)
theorem bestL_pres {S : Stt} (h3 : nA S.1 ≤ 3) (hp : 0 ≤ S.2.2.1 ∧ S.2.2.1 < 3 ^ nA S.1) (hj : (jud S S.2.2.1).1 = 0) : ∀ (f : Nat) (c best few : Int), 0 ≤ c → c + f = 3 ^ nA S.1 → (if S.2.2.1 < c then best = S.2.2.1 ∧ few = 0 else 0 < few) → bestL S f c best few = S.2.2.1
  | 0, c, best, few, h0, hc, h => by
    rw [if_pos (by omega)] at h
    exact h.1
  | f + 1, c, best, few, h0, hc, h => by
    unfold bestL
    have hx := chgN_r c S.2.2.1 (nA S.1)
    by_cases hlt : S.2.2.1 < c
    · rw [if_pos hlt] at h
      rw [if_pos (by omega)]
      exact bestL_pres h3 hp hj f (c + 1) best few (by omega) (by omega) (by rw [if_pos (by omega)]; exact h)
    · rw [if_neg hlt] at h
      by_cases he : c = S.2.2.1
      · subst he
        rw [chg_0, if_neg (by omega), if_pos hj]
        exact bestL_pres h3 hp hj f _ _ _ (by omega) (by omega) (by rw [if_pos (by omega)]; exact ⟨rfl, rfl⟩)
      · have hpos := chg_p h3 (c := c) (d := S.2.2.1) ⟨h0, by omega⟩ hp he
        split
        · exact bestL_pres h3 hp hj f _ _ _ (by omega) (by omega) (by rw [if_neg (by omega)]; exact h)
        · split
          · exact bestL_pres h3 hp hj f _ _ _ (by omega) (by omega) (by rw [if_neg (by omega)]; exact hpos)
          · exact bestL_pres h3 hp hj f _ _ _ (by omega) (by omega) (by rw [if_neg (by omega)]; exact h)
theorem pow_c (k : Nat) : ((3 ^ k : Nat) : Int) = (3 : Int) ^ k := by
  rw [Int.natCast_pow]
  rfl
/-- settling: the state behind it -/
theorem set_ref {S : Stt} (hG : GdS S) : setS S = (S.1, S.2.1, (if refL S (3 ^ nA S.1) 0 (-1) = -1 then S.2.2.1 else refL S (3 ^ nA S.1) 0 (-1)), if refL S (3 ^ nA S.1) 0 (-1) = -1 then 0 else 1) := by
  have h3 := hG.1.2.1
  have hp := hG.2.2.1
  have e := refL_best S h3 (3 ^ nA S.1) 0 (-1) 4 (by rw [if_pos rfl]) (by omega)
  unfold setS bestOf
  rw [← e]
  by_cases hj : (jud S S.2.2.1).1 = 0
  · rw [if_pos hj]
    have := bestL_pres h3 hp hj (3 ^ nA S.1) 0 (-1) 4 (by omega) (by rw [pow_c]; omega) (by rw [if_neg (by omega)]; decide)
    rw [← e] at this
    rw [this, if_neg (by omega), if_neg (by omega)]
  · rw [if_neg hj]
    split <;> rfl
theorem ZPs.up {Z : Nat → Int} {ps : List Part} (h : ZPs Z ps) {k : Nat} (hk : 48 < k) (v : Int) : ZPs (va_up Z k v) ps := by
  have hl := h.2.1
  refine ⟨(up_ne (by omega)).trans h.1, hl, fun i hi => ?_, h.2.2.2⟩
  rw [up_ne (by omega), up_ne (by omega), up_ne (by omega), up_ne (by omega)]
  exact h.2.2.1 i hi
theorem ref_27 {S : Stt} (hG : GdS S) : (3 : Int) ^ nA S.1 ≤ 27 ∧ 0 < (3 : Int) ^ nA S.1 := by
  have h := pow27 hG.1.2.1
  rw [← pow_c]
  have := Nat.pow_pos (n := nA S.1) (show 0 < 3 by decide)
  omega
def KpZ (F F' : Nat → Nat → Int) : Prop := ∀ j, (2 ≤ j ∧ j ≤ 5) ∨ j = 10 → F' j = F j
