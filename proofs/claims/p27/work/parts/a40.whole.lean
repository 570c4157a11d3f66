/-! part a40: the law from its entry -/
theorem whole_start {p : Program} {e : Env} {s : State} {m : MethodId} {below : List Frame} {meth : Method} {c : Code} (l : Launch) (hflags : l.flags = flags0) {b L : Nat} {xs : Nat → Int32} (hL : L ≤ 260) (C0 : lw_At p s m meth c b L xs) : W p l e room_1 s m #[Value.ref b] below meth c s.heap [] 0 0 (lw_Z below #[Value.ref b] s) (entryFrame m ([Value.ref b] : List Value).toArray 13) := by
  have hts := C0.2.2.2.2.2.1
  have hgv := C0.2.2.2.2.2.2.2.2.2
  obtain ⟨D, hK⟩ := vaK_of hts
  obtain ⟨t, hz, ht⟩ := fx_P3 hts hgv
  obtain ⟨w1, w2, w3, w4, w5, w6⟩ := fx_words hts
  obtain ⟨x1, x2⟩ := fx_thr hts hgv
  have hF : Fx (a0S t b) s.heap.size s s.heap := by
    unfold Fx
    rw [a0S_0]
    exact ⟨hz, ht, x1, x2, w1, w2, fx_str hts hgv, w3, w4, fx_nc, w5, w6, L, xs, by rw [a0S_1]; exact C0.2.2.2.2.2.2.1, hL, by rw [a0S_1]; exact Nat.not_le_of_lt C0.2.2.2.2.2.2.2.1⟩
  exact start_of l (by simp [Launch.stackTraces, hflags, flags0]) hL C0 hK hF
