/-! part 48: the desk: mixedParts, mixedVoltages, mixedAmplifiers -/
def unL : Int ⊕ String → Int
  | .inl z => z
  | .inr _ => 0
theorem oL_un {r : Int ⊕ String} (h : ∃ z, r = .inl z) : oL r = .inl (some (.long (i6 (unL r)))) := by
  obtain ⟨z, rfl⟩ := h
  rfl
theorem oV_un {r : Int ⊕ String} (h : ∃ z, r = .inl z) : oV r = .inl (some (.int (i3 (unL r)))) := by
  obtain ⟨z, rfl⟩ := h
  rfl
theorem opVolt_ok {q : Dsk} {k w : Int} (hk : 0 ≤ k ∧ k < 7) (hw : w = 0 ∨ w = 1) : ∃ z, opVolt q k w = .inl z := by
  unfold opVolt
  rw [if_neg (fun c => c hk), if_neg (fun c => c hw)]
  split
  · exact ⟨_, rfl⟩
  · exact ⟨_, rfl⟩
/-- j steps of the voltages' hash, from the node k on -/
def mixV (q : Dsk) : Nat → Nat → Int → Int
  | 0, _, x => x
  | j + 1, k, x => mixV q j (k + 1) (31 * (31 * x + unL (opVolt q k 0)) + unL (opVolt q k 1))
theorem opPart_ok {q : Dsk} {k w : Int} (hk : 0 ≤ k ∧ k < q.1.1.length) (hw : 0 ≤ w ∧ w ≤ 3) : ∃ z, opPart q k w = .inl z := by
  unfold opPart
  cases hp : prt q.1.1 k with
  | none => exact absurd hk (prt_none hp)
  | some p =>
    simp only
    rcases (by omega : w = 0 ∨ w = 1 ∨ w = 2 ∨ w = 3) with rfl | rfl | rfl | rfl
    · exact ⟨_, rfl⟩
    · exact ⟨_, rfl⟩
    · exact ⟨_, rfl⟩
    · exact ⟨_, rfl⟩
def mixP (q : Dsk) : Nat → Nat → Int → Int
  | 0, _, x => x
  | j + 1, k, x => mixP q j (k + 1) (31 * (31 * (31 * (31 * x + unL (opPart q k 0)) + unL (opPart q k 1)) + unL (opPart q k 2)) + unL (opPart q k 3))
theorem Ok.up {X : Xt} {cb sb cb' sb' pc n : Nat} {lv : List (Nat × Value)} {st : List Value} {h : HP} (p : Ok X cb sb pc lv st n h) (h1 : cb ≤ cb') (h2 : sb ≤ sb') : Ok X cb' sb' pc lv st n h := by
  obtain ⟨p', l, e, R, s, m, args, below, meth, c, D, bs, A0, n0, Q⟩ := X
  intro A cy H locs ls cells slots g1 g2 g3 g4 hw hS hl g5 g6
  exact p A cy H locs ls cells slots g1 g2 g3 g4 hw hS hl (Nat.le_trans (Nat.add_le_add_left h1 cells) g5) (Nat.le_trans (Nat.add_le_add_left h2 slots) g6)
theorem opPart_r {h : HP} {n : Nat} {q : Dsk} (hq : DkA h n q) {k w : Int} : R3 (unL (opPart q k w)) := by
  unfold opPart
  cases hp : prt q.1.1 k with
  | none => exact R3_0
  | some p =>
    have hPW : PW p := (hq.2.2.2.2.2.2.1.1.2.2.1 p (List.mem_of_getElem? (prt_some hp).2)).1
    have hb := hPW.b
    simp only
    split
    · exact R3_s (by show -1000000 ≤ p.1 ∧ p.1 ≤ 1000000; omega)
    · split
      · exact R3_s (by show -1000000 ≤ p.2.1 ∧ p.2.1 ≤ 1000000; omega)
      · split
        · exact R3_s (by show -1000000 ≤ p.2.2.1 ∧ p.2.2.1 ≤ 1000000; omega)
        · split
          · exact R3_s (by show -1000000 ≤ p.2.2.2 ∧ p.2.2.2 ≤ 1000000; omega)
          · exact R3_0
