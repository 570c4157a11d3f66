/-! part 82: states whose present case holds -/
def StOk (S : Stt) : Prop := S.2.2.2 = 1 → (jud S S.2.2.1).1 = 0
def OkD (q : Dsk) : Prop := StOk q.1 ∧ (∀ S ∈ q.2.1, StOk S) ∧ ∀ j, j < 2 → StOk (q.2.2.1 j)
def BfR (B : Nat → Int) (l : List Int) : Prop := l.length ≤ 60 ∧ ∀ i, i < l.length → l[i]? = some (B i) ∧ 32 ≤ B i ∧ B i ≤ 126
/-- the reference's whole state; the last number is what it threw -/
theorem setS_ok {S : Stt} (hG : GdS S) : StOk (setS S) := by
  have key : ∀ S1 S2 : Stt, S1.1 = S2.1 → S1.2.1 = S2.2.1 → ∀ c, jud S1 c = jud S2 c := by
    rintro ⟨a, b, c, d⟩ ⟨a', b', c', d'⟩ e1 e2 x
    simp only at e1 e2
    subst e1
    subst e2
    have hf : ∀ m G a1 p st, faultF (a, b, c, d) m G a1 p st = faultF (a, b, c', d') m G a1 p st := fun _ _ _ _ _ => rfl
    have hj : ∀ m G (l : List Part) a1, judL (a, b, c, d) m G x l a1 = judL (a, b, c', d') m G x l a1 := by
      intro m G l
      induction l with
      | nil => exact fun _ => rfl
      | cons p l ih =>
        intro a1
        unfold judL
        rw [hf, ih]
    unfold jud
    rw [hj]
    rfl
  have hb : ∀ (f : Nat) (c best few : Int), (best = -1 ∨ (jud S best).1 = 0) → bestL S f c best few = -1 ∨ (jud S (bestL S f c best few)).1 = 0 := by
    intro f
    induction f with
    | zero => exact fun _ _ _ h => h
    | succ f ih =>
      intro c best few h
      unfold bestL
      split
      · exact ih _ _ _ h
      · split
        · rename_i z
          exact ih _ _ _ (Or.inr z)
        · exact ih _ _ _ h
  unfold setS StOk
  by_cases c : (jud S S.2.2.1).1 = 0
  · rw [if_pos c]
    intro _
    rw [key (S.1, S.2.1, S.2.2.1, 1) S rfl rfl]
    exact c
  · rw [if_neg c]
    by_cases d : bestOf S = -1
    · rw [if_pos d]
      intro e
      exact absurd (show (0 : Int) = 1 from e) (by decide)
    · rw [if_neg d]
      intro _
      show (jud _ (bestOf S)).1 = 0
      rw [key (S.1, S.2.1, bestOf S, 1) S rfl rfl]
      exact (hb _ _ _ _ (Or.inl rfl)).resolve_left d
theorem pushH_mem {hist : List Stt} {S T : Stt} (h : T ∈ pushH hist S) : T ∈ hist ∨ T = S := by
  unfold pushH at h
  split at h
  · rcases List.mem_append.mp h with q | q
    · exact Or.inl q
    · exact Or.inr (List.mem_singleton.mp q)
  · rcases List.mem_append.mp h with q | q
    · exact Or.inl (List.mem_of_mem_tail q)
    · exact Or.inr (List.mem_singleton.mp q)
/-- a change: recorded, then another state -/
theorem OkD.push {q : Dsk} (h : OkD q) {S : Stt} (hS : StOk S) : OkD (S, pushH q.2.1 q.1, q.2.2) := ⟨hS, fun T hT => by
  rcases pushH_mem hT with e | e
  · exact h.2.1 T e
  · rw [e]
    exact h.1, h.2.2⟩

theorem jud_sol {S : Stt} {c : Int} (h : (jud S c).1 = 0) : solD S.1 (satN c (nA S.1)) ≠ 0 := by
  intro z
  unfold jud at h
  rw [if_pos z] at h
  exact absurd h (by decide)
