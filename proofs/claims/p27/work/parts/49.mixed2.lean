/-! part 49: the desk: mixedAmplifiers -/
theorem opAmp_ok {q : Dsk} {a w : Int} (ha : 0 ≤ a ∧ a < nA q.1.1) (hw : 0 ≤ w ∧ w ≤ 2) : ∃ z, opAmp q a w = .inl z := by
  unfold opAmp
  rw [if_neg (fun c => c ha)]
  rcases (by omega : w = 0 ∨ w = 1 ∨ w = 2) with rfl | rfl | rfl
  · exact ⟨_, rfl⟩
  · exact ⟨_, rfl⟩
  · rw [if_neg (by decide), if_neg (by decide), if_pos rfl]
    split
    · exact ⟨_, rfl⟩
    · exact ⟨_, rfl⟩
theorem ampIx_le : ∀ (ps : List Part) (a : Nat), ampIx ps a ≤ ps.length
  | [], _ => Nat.le_refl _
  | p :: ps, a => by
    unfold ampIx
    rw [List.length_cons]
    split
    · cases a with
      | zero => exact Nat.zero_le _
      | succ a => exact Nat.succ_le_succ (ampIx_le ps a)
    · exact Nat.succ_le_succ (ampIx_le ps a)
theorem opAmp_r {h : HP} {n : Nat} {q : Dsk} (hq : DkA h n q) {a w : Int} : R3 (unL (opAmp q a w)) := by
  have hl12 : q.1.1.length ≤ 12 := hq.2.2.2.2.2.2.1.1.1
  have hi := ampIx_le q.1.1 a.toNat
  have hs := st_r (c := q.1.2.2.1) (a := a.toNat)
  unfold opAmp
  split
  · exact R3_0
  · split
    · exact R3_s (by show -1000000 ≤ ((ampIx q.1.1 a.toNat : Nat) : Int) ∧ ((ampIx q.1.1 a.toNat : Nat) : Int) ≤ 1000000; omega)
    · split
      · exact R3_s (by show -1000000 ≤ q.1.2.2.1 / 3 ^ a.toNat % 3 ∧ q.1.2.2.1 / 3 ^ a.toNat % 3 ≤ 1000000; omega)
      · split
        · split
          · exact R3_0
          · exact R3_cmp
        · exact R3_0
def mixA (q : Dsk) : Nat → Nat → Int → Int
  | 0, _, x => x
  | j + 1, a, x => mixA q j (a + 1) (31 * (31 * (31 * x + unL (opAmp q a 0)) + unL (opAmp q a 1)) + unL (opAmp q a 2))
