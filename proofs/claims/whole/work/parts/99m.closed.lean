/-! part 99m: what lies in the desk refers to the desk -/
theorem php : ∀ (n : Nat) (f : Nat → Nat), (∀ i, i ≤ n → f i < n) → ∃ i j, i < j ∧ j ≤ n ∧ f i = f j
  | 0, f, h => absurd (h 0 (Nat.le_refl 0)) (Nat.not_lt_zero _)
  | n + 1, f, h => by
    by_cases hx : ∃ i, i ≤ n ∧ f i = f (n + 1)
    · obtain ⟨i, hi, e⟩ := hx
      exact ⟨i, n + 1, by omega, Nat.le_refl _, e⟩
    · have hne : ∀ i, i ≤ n → f i ≠ f (n + 1) := fun i hi e => hx ⟨i, hi, e⟩
      have ha := h (n + 1) (Nat.le_refl _)
      obtain ⟨i, j, h1, h2, h3⟩ := php n (fun i => if f (n + 1) < f i then f i - 1 else f i) (fun i hi => by
        have a1 := h i (by omega)
        have a2 := hne i hi
        show (if f (n + 1) < f i then f i - 1 else f i) < n
        split <;> omega)
      have a1 := hne i (by omega)
      have a2 := hne j h2
      have h3 : (if f (n + 1) < f i then f i - 1 else f i) = (if f (n + 1) < f j then f j - 1 else f j) := h3
      refine ⟨i, j, h1, by omega, ?_⟩
      split at h3 <;> split at h3 <;> omega
theorem surj7 {σ : Nat → Nat} (h1 : ∀ j, j < 7 → σ j < 7) (h2 : ∀ i j, i < 7 → j < 7 → σ i = σ j → i = j) {t : Nat} (ht : t < 7) : ∃ i, i < 7 ∧ σ i = t := by
  by_cases hx : ∃ i, i < 7 ∧ σ i = t
  · exact hx
  · have hne : ∀ i, i < 7 → σ i ≠ t := fun i hi e => hx ⟨i, hi, e⟩
    obtain ⟨i, j, a1, a2, a3⟩ := php 6 (fun i => if t < σ i then σ i - 1 else σ i) (fun i hi => by
      have b1 := h1 i (by omega)
      have b2 := hne i (by omega)
      show (if t < σ i then σ i - 1 else σ i) < 6
      split <;> omega)
    have b1 := hne i (by omega)
    have b2 := hne j (by omega)
    have a3 : (if t < σ i then σ i - 1 else σ i) = (if t < σ j then σ j - 1 else σ j) := a3
    have : σ i = σ j := by
      split at a3 <;> split at a3 <;> omega
    have := h2 i j (by omega) (by omega) this
    omega
theorem Cp.all {h : HP} {lo hi n : Nat} (p : ∀ i, lo ≤ i ∧ i ≤ hi → Cp h i i n) : Cp h lo hi n := fun i hi => p i hi i ⟨Nat.le_refl _, Nat.le_refl _⟩
theorem RpA.cp {h : HP} {n r : Nat} {D : Nat → Int} {N : Nat → Nat → Int} (p : RpA h n r D N) : Cp h r (r + 18) n := by
  obtain ⟨M, d, g, v, ⟨g2, σ, R, h0, h1, h2, h3, h4, h5⟩, k2, k3, k4⟩ := p
  have e0 : Cp h r r n := Cp.ob h0 (ClV.r k2.1 (ClV.r k3.1 (ClV.r h1.1 ClV.z)))
  have e2 : Cp h (r + 2) (r + 2) n := Cp.rf k3 (fun i j hi e => by
    have := (k4 i hi).1
    rw [this] at e
    have := Option.some.inj e
    have := (k4 i hi).2.1.1
    omega)
  have e3 : Cp h (r + 3) (r + 10) n := Cp.all (fun i hi => by
    have := (k4 (i - (r + 3)) (by omega)).2.1
    rw [show r + 3 + (i - (r + 3)) = i by omega] at this
    exact Cp.al this)
  have e4 : Cp h (r + 11) (r + 11) n := Cp.rf h1 (fun i j hi e => by
    have := (h2 i hi).1
    rw [this] at e
    have := Option.some.inj e
    have := (h4 i hi).1
    omega)
  have e5 : Cp h (r + 12) (r + 18) n := Cp.all (fun i hi => by
    obtain ⟨x, hx, ex⟩ := surj7 (fun j hj => (h2 j hj).2) h3 (t := i - (r + 12)) (by omega)
    have := h4 x hx
    rw [ex, show r + 12 + (i - (r + 12)) = i by omega] at this
    exact Cp.al this)
  exact ((((e0.jn (Cp.al k2)).jn e2).jn e3).jn e4).jn e5
theorem BnC.cp {h : HP} {n b : Nat} {S : Stt} {A sat rsn cul : Int} {F D G : Nat → Int} {N : Nat → Nat → Int} (p : BnC h n b S A F D N sat rsn cul G) : Cp h b (b + 27) n := by
  have e0 : Cp h b b n := Cp.ob p.1 (ClV.r p.2.1.1.1 (ClV.r p.2.2.1.1 (ClV.i (fun j z => by cases z) (ClV.r p.2.2.2.1.obj.1 (ClV.r p.2.2.2.2.1 (ClV.i (fun j z => by cases z) (ClV.i (fun j z => by cases z) (ClV.i (fun j z => by cases z) ClV.z))))))))
  exact (((e0.jn p.2.1.cp).jn (Cp.ai p.2.2.1)).jn p.2.2.2.1.cp).jn (Cp.al p.2.2.2.2)
theorem DkA.cl {h : HP} {q : Dsk} (p : DkA h 128 q) : Cl (_root_.Jvm.Pilot.@@N@@.nz h) 128 := by
  obtain ⟨h0, ⟨a1, a2, a3, a4, F, D, N, hB, hr⟩, ⟨T, b1, b2, b3, b4, b5, b6, b7, b8, hT⟩, ⟨tx, hTx, ⟨rq, r1, r2, r3, r4⟩⟩, ⟨o, o1, o2, o3, o4, o5, o6⟩, ⟨m1, m2⟩, hG⟩ := p
  have ci : ∀ {v : Int} {vs : List Value}, ClV vs 128 → ClV (.int (i3 v) :: vs) 128 := fun t => ClV.i (fun j z => by cases z) t
  have e0 : Cp h 0 0 128 := Cp.ob h0 (ClV.r (by omega) (ClV.r (by omega) (ClV.r (by omega) (ClV.r (by omega) (ClV.r (by omega) (ci ClV.z))))))
  have e57 : Cp h 57 57 128 := Cp.ob r1 (ClV.r (by omega) (ClV.r (by omega) (ci (ci (ClV.r (by omega) (ci (ci (ci (ci ClV.z)))))))))
  have e65 : Cp h 65 65 128 := Cp.ob o3 (ClV.r (by omega) (ci (ci ClV.z)))
  have e66 : Cp h 66 66 128 := Cp.rf o4 (fun i j hi e => by
    have e : (if i < 8 then some (67 + 6 * i) else none) = some j := e
    rw [if_pos hi] at e
    have := Option.some.inj e
    omega)
  have e67 : Cp h 67 114 128 := fun i hi => by
    obtain ⟨S, hS⟩ := o5 ((i - 67) / 6) (by omega)
    exact hS.cp i (by omega)
  have e115 : Cp h 115 115 128 := Cp.rf m1 (fun i j hi e => by
    have e : (if i < 2 then some (116 + 6 * i) else none) = some j := e
    rw [if_pos hi] at e
    have := Option.some.inj e
    omega)
  have e116 : Cp h 116 127 128 := fun i hi => (m2 ((i - 116) / 6) (by omega)).cp i (by omega)
  have all : Cp h 0 127 128 := ((((((((((e0.jn hB.cp).jn hT.cp).jn e57).jn (Cp.ac r2)).jn r4.cp).jn (Cp.ai r3)).jn e65).jn e66).jn e67).jn e115).jn e116
  exact fun i hi => all i (by omega)
