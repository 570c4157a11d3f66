/-! part 99p: the law's start, out of what lies outside of its world -/
def a0S (t0 b : Nat) : Nat → Nat := fun i => if i = SA then t0 else b
theorem a0S_0 {t0 b : Nat} : a0S t0 b SA = t0 := if_pos rfl
theorem a0S_1 {t0 b : Nat} : a0S t0 b (SA + 1) = b := if_neg (Nat.succ_ne_self SA)
theorem start_of {p : Program} {e : Env} {s : State} {m : MethodId} {below : List Frame} {meth : Method} {c : Code} (l : Launch) (hst : l.stackTraces = false) {b L : Nat} {xs : Nat → Int32} (hL : L ≤ 2048) (C0 : lw_At p s m meth c b L xs) {D : va_G} (hK : va_K D vwCl [] s) {t0 : Nat} (hF : Fx (a0S t0 b) s.heap.size s s.heap) : W p l e room_1 s m #[Value.ref b] below meth c s.heap [] 0 0 (lw_Z below #[Value.ref b] s) (entryFrame m ([Value.ref b] : List Value).toArray 9) := by
  obtain ⟨hx, hb, hr, hml, hown, hts, hX, hbl, hlocks, hgv⟩ := C0
  have hc : Cx (p, l, e, room_1, s, m, #[Value.ref b], below, meth, c, D, s.heap.size, a0S t0 b, 0, lw_Z below #[Value.ref b] s) cL_law RL 9 13 302 := ⟨hx, hb, hown, fun w hw => hts w (all_tbl hw), hml, Nat.le_of_ble_eq_true rfl, Nat.le_of_ble_eq_true rfl, hF, hst, hlocks, Nat.le_refl _⟩
  have hS : ScX (p, l, e, room_1, s, m, #[Value.ref b], below, meth, c, D, s.heap.size, a0S t0 b, 0, lw_Z below #[Value.ref b] s) L xs := by
    refine ⟨?_, ?_, ?_⟩
    · rw [a0S_1]; exact hX
    · rw [a0S_1]; exact hbl
    · rw [a0S_1]; exact Nat.not_le_of_lt hbl
  have hE : CxL (p, l, e, room_1, s, m, #[Value.ref b], below, meth, c, D, s.heap.size, a0S t0 b, 0, lw_Z below #[Value.ref b] s) := cxL_of hx hb rfl hr hlocks
  have hk := lw_entry (L9 := L) (xs := xs) hc (Nat.le_refl 13) (Nat.le_refl 302) (fun h q I => lw_loop hc hS hE hL 512 0 h q (by omega) (by omega) I) (fun _ => .inl (0, []))
  have hl := lv_entry [Value.ref b] (n := 9) (Nat.le_of_ble_eq_true rfl)
  rw [lg_entry_eq]
  have hw : Wd D (a0S t0 b) (fun _ => m.cls) s.heap.size 0 (fun _ => .inl (0, [])) s s.heap := by
    refine ⟨fun k q hq => ?_, hK, fun i hi => absurd hi (Nat.not_lt_zero i), fun i j hi => absurd hi (Nat.not_lt_zero i), fun i hi => absurd hi (Nat.not_lt_zero i)⟩
    exact absurd (lst_got hq).1 (Nat.not_lt_zero k)
  have h1 : room_1.cells = 601024 := rfl
  have h2 : room_1.slots = 7293034 := rfl
  refine hk (a0S t0 b) (fun _ => m.cls) s.heap [] _ 0 0 (fun _ _ => rfl) (Nat.le_refl _) (Nat.zero_le _) (fun _ => rfl) hw va_S.rf ?_ (by omega) (by omega)
  rw [hml]
  show lv_has _ 9 [(0, trV (a0S t0 b) (.ref (SA + 1)))]
  rw [show trV (a0S t0 b) (.ref (SA + 1)) = .ref b from congrArg Value.ref a0S_1]
  exact hl
