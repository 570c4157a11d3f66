/-! part 67: the reference's memory; its unknowns -/
def mf (I : Nat → Int) : List Value := [.int (i3 (I 0)), .ref 129, .ref 130, .int (i3 (I 3)), .ref 131, .int (i3 (I 5)), .ref 132, .int (i3 (I 7)), .ref 133, .int (i3 (I 9)), .ref 134, .ref 135, .int (i3 (I 12)), .ref 136, .ref 137, .long (i6 (I 15)), .int (i3 (I 16)), .int (i3 (I 17)), .ref 138, .int (i3 (I 19)), .int (i3 (I 20)), .int (i3 (I 21)), .int (i3 (I 22)), .long (i6 (I 23))]
/-- arrays by number: 1 z, 2 aside, 3 history, 4 images, 5 buffer, 6 columnOf, 7 rules, 8 m, 9 voltages, 10 read -/
def mcell (j : Nat) (f : Nat → Int) : AE := match j with
  | 1 => ai 52 f
  | 2 => ai 52 f
  | 3 => ai 416 f
  | 4 => ai 104 f
  | 5 => ai 60 f
  | 6 => ai 7 f
  | 7 => al 42 f
  | 8 => al 36 f
  | 9 => al 7 f
  | _ => ai 80 f
def MAt (h : HP) (n : Nat) (I : Nat → Int) (F : Nat → Nat → Int) : Prop := At h n 128 (.inl (7, mf I)) ∧ ∀ j, 1 ≤ j ∧ j ≤ 10 → At h n (128 + j) (mcell j (F j))
section MAT
variable {h h' : HP} {n lo hi : Nat} {I : Nat → Int} {F : Nat → Nat → Int}
theorem MAt.fr (p : MAt h n I F) (f : Fr h h' lo hi) (d : 138 < lo ∨ hi < 128) : MAt h' n I F := ⟨p.1.fr f (by omega), fun j hj => (p.2 j hj).fr f (by omega)⟩
theorem MAt.o (p : MAt h n I F) : At h n 128 (.inl (7, mf I)) := p.1
theorem MAt.z (p : MAt h n I F) : At h n 129 (ai 52 (F 1)) := p.2 1 ⟨by decide, by decide⟩
theorem MAt.a (p : MAt h n I F) : At h n 130 (ai 52 (F 2)) := p.2 2 ⟨by decide, by decide⟩
theorem MAt.hs (p : MAt h n I F) : At h n 131 (ai 416 (F 3)) := p.2 3 ⟨by decide, by decide⟩
theorem MAt.im (p : MAt h n I F) : At h n 132 (ai 104 (F 4)) := p.2 4 ⟨by decide, by decide⟩
theorem MAt.b (p : MAt h n I F) : At h n 133 (ai 60 (F 5)) := p.2 5 ⟨by decide, by decide⟩
theorem MAt.c (p : MAt h n I F) : At h n 134 (ai 7 (F 6)) := p.2 6 ⟨by decide, by decide⟩
theorem MAt.r (p : MAt h n I F) : At h n 135 (al 42 (F 7)) := p.2 7 ⟨by decide, by decide⟩
theorem MAt.m (p : MAt h n I F) : At h n 136 (al 36 (F 8)) := p.2 8 ⟨by decide, by decide⟩
theorem MAt.v (p : MAt h n I F) : At h n 137 (al 7 (F 9)) := p.2 9 ⟨by decide, by decide⟩
theorem MAt.d (p : MAt h n I F) : At h n 138 (ai 80 (F 10)) := p.2 10 ⟨by decide, by decide⟩
theorem MAt.Z (p : MAt h n I F) : ZAt h n 128 (F 1) := ⟨mf I, 129, p.o, rfl, rfl, p.z⟩
theorem MAt.uo (p : MAt h n I F) (J : Nat → Int) : MAt (va_up h 128 (.inl (7, mf J))) n J F := ⟨p.1.it, fun j hj => (p.2 j hj).up (by omega)⟩
theorem MAt.ua (p : MAt h n I F) {j : Nat} (hj : 1 ≤ j ∧ j ≤ 10) (f : Nat → Int) : MAt (va_up h (128 + j) (mcell j f)) n I (va_up F j f) := ⟨p.1.up (by omega), fun i hi => by
  by_cases e : i = j
  · subst e
    rw [up_self]
    exact (p.2 i hi).it
  · rw [up_ne e]
    exact (p.2 i hi).up (by omega)⟩
theorem MAt.us (p : MAt h n I F) {fs : List Value} (J : Nat → Int) (e : fs = mf J) : MAt (va_up h 128 (.inl (7, fs))) n J F := by
  rw [e]
  exact p.uo J
theorem MAt.uu {j : Nat} {f : Nat → Int} (p : MAt h n I (va_up F j f)) (hj : 1 ≤ j ∧ j ≤ 10) (g : Nat → Int) : MAt (va_up h (128 + j) (mcell j g)) n I (va_up F j g) := by
  have := p.ua hj g
  rw [up_up F j f g] at this
  exact this
theorem MAt.u1 (p : MAt h n I F) {j : Nat} (hj : 1 ≤ j ∧ j ≤ 10) : MAt h n I (va_up F j (F j)) := ⟨p.1, fun i hi => by
  by_cases e : i = j
  · subst e
    rw [up_self]
    exact p.2 i hi
  · rw [up_ne e]
    exact p.2 i hi⟩
end MAT
theorem mf_s {I : Nat → Int} {k : Nat} {v : Int} {fs : List Value} (e : fs = mf (va_up I k v)) : fs = mf (va_up I k v) := e
/-- how many numbers below k have a property -/
def cn (f : Nat → Bool) : Nat → Nat
  | 0 => 0
  | k + 1 => cn f k + if f k = true then 1 else 0
theorem cn_s (f : Nat → Bool) (k : Nat) : cn f (k + 1) = cn f k + if f k = true then 1 else 0 := rfl
def ln (f : Nat → Bool) : Nat → List Nat
  | 0 => []
  | k + 1 => ln f k ++ if f k = true then [k] else []
theorem ln_len (f : Nat → Bool) : ∀ k, (ln f k).length = cn f k
  | 0 => rfl
  | k + 1 => by
    unfold ln cn
    rw [List.length_append, ln_len f k]
    split <;> rfl
theorem cn_mono (f : Nat → Bool) : ∀ {i j : Nat}, i ≤ j → cn f i ≤ cn f j
  | i, 0, h => by
    rw [show i = 0 by omega]
    exact Nat.le_refl _
  | i, j + 1, h => by
    by_cases e : i = j + 1
    · rw [e]
      exact Nat.le_refl _
    · have := cn_mono f (i := i) (j := j) (by omega)
      rw [cn_s]
      omega
theorem cn_lt {f : Nat → Bool} {i j : Nat} (h : i < j) (hf : f i = true) : cn f i < cn f j := by
  have := cn_mono f (i := i + 1) (j := j) (by omega)
  rw [cn_s, if_pos hf] at this
  omega
theorem cn_le (f : Nat → Bool) : ∀ k, cn f k ≤ k
  | 0 => Nat.le_refl _
  | k + 1 => by
    have := cn_le f k
    unfold cn
    split <;> omega
theorem cn_inj {f : Nat → Bool} {i j : Nat} (hi : f i = true) (hj : f j = true) (e : cn f i = cn f j) : i = j := by
  rcases Nat.lt_trichotomy i j with c | c | c
  · have := cn_lt c hi
    omega
  · exact c
  · have := cn_lt c hj
    omega
theorem cn_ex {f : Nat → Bool} {q : Nat} : ∀ {k : Nat}, q < cn f k → ∃ i, i < k ∧ f i = true ∧ cn f i = q
  | 0, h => absurd h (Nat.not_lt_zero _)
  | k + 1, h => by
    by_cases c : q < cn f k
    · obtain ⟨i, h1, h2⟩ := cn_ex c
      exact ⟨i, by omega, h2⟩
    · unfold cn at h
      by_cases d : f k = true
      · rw [if_pos d] at h
        exact ⟨k, by omega, d, by omega⟩
      · rw [if_neg d] at h
        omega
theorem cn_eq {f g : Nat → Bool} : ∀ {k : Nat}, (∀ i, i < k → f i = g i) → cn f k = cn g k
  | 0, _ => rfl
  | k + 1, h => by
    unfold cn
    rw [cn_eq (fun i hi => h i (by omega)), h k (by omega)]
theorem cn_and (f g : Nat → Bool) : ∀ k, cn f k = cn (fun i => f i && !g i) k + cn (fun i => f i && g i) k
  | 0 => rfl
  | k + 1 => by
    unfold cn
    rw [cn_and f g k]
    cases f k <;> cases g k <;> simp <;> omega
/-- the free nodes, their columns -/
def frF (ps : List Part) : Nat → Bool := fun k => freeB ps k
def colF (ps : List Part) (k : Nat) : Int := if frF ps k = true then cn (frF ps) k else -1
theorem fr0 (ps : List Part) : frF ps 0 = false := rfl
theorem fr6 (ps : List Part) : cn (frF ps) 7 ≤ 6 := by
  have h : ∀ k, cn (frF ps) (k + 1) ≤ k := by
    intro k
    induction k with
    | zero => exact Nat.le_refl _
    | succ k ih =>
      unfold cn
      split <;> omega
  exact h 6
