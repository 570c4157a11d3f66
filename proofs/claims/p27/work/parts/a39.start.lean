/-! part a39: the law's start, out of what lies outside of its world -/
def a0S (t0 b : Nat) : Nat → Nat := fun i => if i = SA then t0 else b
theorem a0S_0 {t0 b : Nat} : a0S t0 b SA = t0 := if_pos rfl
theorem a0S_1 {t0 b : Nat} : a0S t0 b (SA + 1) = b := if_neg (Nat.succ_ne_self SA)
theorem start_of {p : Program} {e : Env} {s : State} {m : MethodId} {below : List Frame} {meth : Method} {c : Code} (l : Launch) (hst : l.stackTraces = false) {b L : Nat} {xs : Nat → Int32} (hL : L ≤ 260) (C0 : lw_At p s m meth c b L xs) {D : va_G} (hK : va_K D vwCl [] s) {t0 : Nat} (hF : Fx (a0S t0 b) s.heap.size s s.heap) : W p l e room_1 s m #[Value.ref b] below meth c s.heap [] 0 0 (lw_Z below #[Value.ref b] s) (entryFrame m ([Value.ref b] : List Value).toArray 13) := by
  obtain ⟨hx, hb, hr, hml, hown, hts, hX, hbl, hlocks, hgv⟩ := C0
  have hc : Cx (p, l, e, room_1, s, m, #[Value.ref b], below, meth, c, D, s.heap.size, a0S t0 b, 0, lw_Z below #[Value.ref b] s) cL_law RL 13 13 510 := ⟨hx, hb, hown, fun w hw => hts w (all_tbl hw), hml, Nat.le_of_ble_eq_true rfl, Nat.le_of_ble_eq_true rfl, hF, hst, hlocks, Nat.le_refl _⟩
  have hS : ScX (p, l, e, room_1, s, m, #[Value.ref b], below, meth, c, D, s.heap.size, a0S t0 b, 0, lw_Z below #[Value.ref b] s) L xs := by
    refine ⟨?_, ?_, ?_⟩
    · rw [a0S_1]; exact hX
    · rw [a0S_1]; exact hbl
    · rw [a0S_1]; exact Nat.not_le_of_lt hbl
  have hE : CxL (p, l, e, room_1, s, m, #[Value.ref b], below, meth, c, D, s.heap.size, a0S t0 b, 0, lw_Z below #[Value.ref b] s) := cxL_of hx hb rfl hr hlocks
  have hk := lw_entry (L9 := L) (xs := xs) hc hS hE (fun _ => .inl (0, []))
  have hl := lv_entry [Value.ref b] (n := 13) (Nat.le_of_ble_eq_true rfl)
  rw [lg_entry_eq]
  have hw : Wd D (a0S t0 b) (fun _ => m.cls) s.heap.size 0 (fun _ => .inl (0, [])) s s.heap := by
    refine ⟨fun k q hq => ?_, hK, fun i hi => absurd hi (Nat.not_lt_zero i), fun i j hi => absurd hi (Nat.not_lt_zero i), fun i hi => absurd hi (Nat.not_lt_zero i)⟩
    exact absurd (lst_got hq).1 (Nat.not_lt_zero k)
  have h1 : room_1.cells = 600130 := rfl
  have h2 : room_1.slots = 7301079 := rfl
  refine hk (a0S t0 b) (fun _ => m.cls) s.heap [] _ 0 0 (fun _ _ => rfl) (Nat.le_refl _) (Nat.zero_le _) (fun _ => rfl) hw va_S.rf ?_ (by omega) (by omega)
  rw [hml]
  show lv_has _ 13 [(0, trV (a0S t0 b) (.ref (SA + 1)))]
  rw [show trV (a0S t0 b) (.ref (SA + 1)) = .ref b from congrArg Value.ref a0S_1]
  exact hl
theorem uk_0 : ∀ w ∈ u_ws RX0 TX0 8, w ∈ lw_tbl := by decide +kernel
theorem ui_0 : ∃ n, Cond.instantiable RX0 n ∈ lw_tbl := ⟨8, by decide +kernel⟩
theorem uk_1 : ∀ w ∈ u_ws RX1 TX1 3, w ∈ lw_tbl := by decide +kernel
theorem ui_1 : ∃ n, Cond.instantiable RX1 n ∈ lw_tbl := ⟨3, by decide +kernel⟩
theorem uk_2 : ∀ w ∈ u_ws RX2 TX2 5, w ∈ lw_tbl := by decide +kernel
theorem ui_2 : ∃ n, Cond.instantiable RX2 n ∈ lw_tbl := ⟨5, by decide +kernel⟩
theorem uk_3 : ∀ w ∈ u_ws RX3 TX3 3, w ∈ lw_tbl := by decide +kernel
theorem ui_3 : ∃ n, Cond.instantiable RX3 n ∈ lw_tbl := ⟨3, by decide +kernel⟩
theorem uk_4 : ∀ w ∈ u_ws RX4 TX4 4, w ∈ lw_tbl := by decide +kernel
theorem ui_4 : ∃ n, Cond.instantiable RX4 n ∈ lw_tbl := ⟨4, by decide +kernel⟩
theorem uk_5 : ∀ w ∈ u_ws RX5 TX5 9, w ∈ lw_tbl := by decide +kernel
theorem ui_5 : ∃ n, Cond.instantiable RX5 n ∈ lw_tbl := ⟨9, by decide +kernel⟩
theorem uk_6 : ∀ w ∈ u_ws RX6 TX6 6, w ∈ lw_tbl := by decide +kernel
theorem ui_6 : ∃ n, Cond.instantiable RX6 n ∈ lw_tbl := ⟨6, by decide +kernel⟩
theorem vaK_of {s : State} {a : Array Value} (hts : ∀ w ∈ lw_tbl, w.before a s = true) : ∃ D : va_G, va_K D vwCl [] s := by
  obtain ⟨n0, m0⟩ := ui_0
  obtain ⟨c0, S0, K0⟩ := u_known (C := RX0) (T := TX0) (N := 8) (n := n0) hts uk_0 (hts _ m0)
  obtain ⟨n1, m1⟩ := ui_1
  obtain ⟨c1, S1, K1⟩ := u_known (C := RX1) (T := TX1) (N := 3) (n := n1) hts uk_1 (hts _ m1)
  obtain ⟨n2, m2⟩ := ui_2
  obtain ⟨c2, S2, K2⟩ := u_known (C := RX2) (T := TX2) (N := 5) (n := n2) hts uk_2 (hts _ m2)
  obtain ⟨n3, m3⟩ := ui_3
  obtain ⟨c3, S3, K3⟩ := u_known (C := RX3) (T := TX3) (N := 3) (n := n3) hts uk_3 (hts _ m3)
  obtain ⟨n4, m4⟩ := ui_4
  obtain ⟨c4, S4, K4⟩ := u_known (C := RX4) (T := TX4) (N := 4) (n := n4) hts uk_4 (hts _ m4)
  obtain ⟨n5, m5⟩ := ui_5
  obtain ⟨c5, S5, K5⟩ := u_known (C := RX5) (T := TX5) (N := 9) (n := n5) hts uk_5 (hts _ m5)
  obtain ⟨n6, m6⟩ := ui_6
  obtain ⟨c6, S6, K6⟩ := u_known (C := RX6) (T := TX6) (N := 6) (n := n6) hts uk_6 (hts _ m6)
  refine ⟨(fun k => if k = 0 then c0 else if k = 1 then c1 else if k = 2 then c2 else if k = 3 then c3 else if k = 4 then c4 else if k = 5 then c5 else c6, fun k => if k = 0 then S0 else if k = 1 then S1 else if k = 2 then S2 else if k = 3 then S3 else if k = 4 then S4 else if k = 5 then S5 else S6), ?_, fun k q h => by simp at h⟩
  intro k q hq
  match k, hq with
  | 0, hq => cases hq; exact K0
  | 1, hq => cases hq; exact K1
  | 2, hq => cases hq; exact K2
  | 3, hq => cases hq; exact K3
  | 4, hq => cases hq; exact K4
  | 5, hq => cases hq; exact K5
  | 6, hq => cases hq; exact K6
  | k + 7, hq => simp [vwCl] at hq
theorem fw_1 : ∀ q ∈ nestw, Cond.methodLinkNest q.1 q.2.1 q.2.2.1 q.2.2.2 ∈ lw_tbl := by decide +kernel
theorem fw_2 : ∀ E ∈ castw, Cond.castable E E ∈ lw_tbl := by decide +kernel
theorem fw_3 : ∀ y ∈ declw, Cond.declares y ∈ lw_tbl := by decide +kernel
theorem fw_4 : ∀ q ∈ nestf, Cond.fieldLinkNest q.1 q.2.1 q.2.2.1 q.2.2.2.1 q.2.2.2.2.1 q.2.2.2.2.2 ∈ lw_tbl := by decide +kernel
theorem fw_5 : Cond.arrayOver (.array .long) ∈ lw_tbl := by decide +kernel
theorem fw_6 : Cond.arrayOver (.object "AmplifierDesk$State") ∈ lw_tbl := by decide +kernel
theorem fw_7 : ∀ q ∈ strw, Cond.stringRef RX6 q.1 q.2 ∈ lw_tbl := by decide +kernel
theorem fx_words {s : State} {a : Array Value} (hts : ∀ w ∈ lw_tbl, w.before a s = true) : (∀ q ∈ nestw, va_Nw (.methodLinkNest q.1 q.2.1 q.2.2.1 q.2.2.2) s) ∧ (∀ E ∈ castw, va_Nw (.castable E E) s) ∧ (∀ y ∈ declw, va_Nw (.declares y) s) ∧ (∀ q ∈ nestf, va_Nw (.fieldLinkNest q.1 q.2.1 q.2.2.1 q.2.2.2.1 q.2.2.2.2.1 q.2.2.2.2.2) s) ∧ va_AOA .long s ∧ va_AO "AmplifierDesk$State" s :=
  ⟨fun q hq => va_Nw.of rfl (hts _ (fw_1 q hq)), fun E hE => va_Nw.of rfl (hts _ (fw_2 E hE)), fun y hy => va_Nw.of rfl (hts _ (fw_3 y hy)), fun q hq => va_Nw.of rfl (hts _ (fw_4 q hq)), hts _ fw_5, hts _ fw_6⟩
theorem fw_9 : ∀ c ∈ [Cond.laysStatic "AmplifierDesk" "POWERS_OF_THREE" "[I", Cond.laysStatic Bundle.tN "UNASSIGNED_STACK" Bundle.steD, Cond.laysStatic Bundle.tN "SUPPRESSED_SENTINEL" Bundle.listD], c ∈ lw_tbl := by decide +kernel
theorem fw_10 : ∀ c ∈ [Cond.isRef (.static Bundle.tN "UNASSIGNED_STACK" Bundle.steD), Cond.isRef (.static Bundle.tN "SUPPRESSED_SENTINEL" Bundle.listD), Cond.arrayOf (.static "AmplifierDesk" "POWERS_OF_THREE" "[I") .int, Cond.eq (.length (.static "AmplifierDesk" "POWERS_OF_THREE" "[I")) (.int 4)], c ∈ flatC (Jvm.Cond.and given_1 narrow_1) := by decide +kernel
theorem fx_nc {s : State} : ∀ q ∈ ncw, va_Nc q.1 q.2 s := fun q hq => absurd hq List.not_mem_nil
theorem fw_11 : ∀ c ∈ [Cond.initialized "AmplifierDesk", Cond.initialized Bundle.tN], c ∈ lw_tbl ∨ c ∈ flatC (Jvm.Cond.and given_1 narrow_1) := by decide +kernel
theorem fx_ini {s : State} {a : Array Value} (hts : ∀ w ∈ lw_tbl, w.before a s = true) (hgv : (Jvm.Cond.and given_1 narrow_1).before a s = true) : ∀ c ∈ [Cond.initialized "AmplifierDesk", Cond.initialized Bundle.tN], c.before a s = true := fun c hc => (fw_11 c hc).elim (hts c) (flat_of_before _ hgv c)
theorem fx_thr {s : State} {a : Array Value} (hts : ∀ w ∈ lw_tbl, w.before a s = true) (hgv : (Jvm.Cond.and given_1 narrow_1).before a s = true) : vx_Zq Bundle.tN "UNASSIGNED_STACK" Bundle.steD (fun q => s.heap.size ≤ q) s s.heap ∧ vx_Zq Bundle.tN "SUPPRESSED_SENTINEL" Bundle.listD (fun q => s.heap.size ≤ q) s s.heap :=
  ⟨vx_Zqof (hts _ (fw_9 _ (by simp))) (fx_ini hts hgv _ (by simp)) (flat_of_before _ hgv _ (fw_10 _ (by simp))) (fun a h => Nat.not_le_of_lt h), vx_Zqof (hts _ (fw_9 _ (by simp))) (fx_ini hts hgv _ (by simp)) (flat_of_before _ hgv _ (fw_10 _ (by simp))) (fun a h => Nat.not_le_of_lt h)⟩
theorem eq_int_ev {tm : Term} {v : Int32} {s : State} {a : Array Value} (h : (Cond.eq tm (.int v)).before a s = true) : tm.eval a s none [] s = some (.int v) := by
  cases hv : tm.eval a s none [] s with
  | none => simp [Cond.before, Cond.holds, Cond.value, hv] at h
  | some w => cases w <;> simp_all [Cond.before, Cond.holds, Cond.value, Term.eval]
theorem fw_12 : ∀ j, j < 4 → Cond.eq (.elem (.static "AmplifierDesk" "POWERS_OF_THREE" "[I") (.int (Int32.ofNat j))) (.int ([1, 3, 9, 27].getD j 0)) ∈ flatC (Jvm.Cond.and given_1 narrow_1) := by decide +kernel
theorem fx_P3 {s : State} {a : Array Value} (hts : ∀ w ∈ lw_tbl, w.before a s = true) (hgv : (Jvm.Cond.and given_1 narrow_1).before a s = true) : ∃ t : Nat, va_Z "AmplifierDesk" "POWERS_OF_THREE" "[I" (.ref t) (fun q => s.heap.size ≤ q) s s.heap ∧ va_T .int t 4 c_P3 (fun q => s.heap.size ≤ q) s s.heap := by
  obtain ⟨t, h1, h2⟩ := va_Tof (tm := .static "AmplifierDesk" "POWERS_OF_THREE" "[I") (ty := .int) (N := 4) (f := c_P3) (A := fun q => s.heap.size ≤ q) (by decide) (flat_of_before _ hgv _ (fw_10 _ (by simp))) (eq_int_ev (flat_of_before _ hgv _ (fw_10 _ (by simp)))) (fun j hj => eq_int_ev (flat_of_before _ hgv _ (fw_12 j hj))) (fun a h => Nat.not_le_of_lt h)
  exact ⟨t, va_Zof (hts _ (fw_9 _ (by simp))) (fx_ini hts hgv _ (by simp)) h1 (fun a h => Nat.not_le_of_lt h), h2⟩
theorem ex_ref {tm : Term} {cls : String} {s : State} {a : Array Value} (h : (Cond.exactly tm cls).before a s = true) : ∃ r : Nat, tm.eval a s none [] s = some (.ref r) := by
  cases hv : tm.eval a s none [] s with
  | none => simp [Cond.before, Cond.holds, Cond.value, hv] at h
  | some w => cases w <;> first | exact ⟨_, rfl⟩ | (cases hc : s.vm.findClass cls <;> simp_all [Cond.before, Cond.holds, Cond.value, Term.eval])
theorem fw_13 : ∀ q ∈ strw, Cond.exactly (.string RX6 q.1) "java/lang/String" ∈ flatC (Jvm.Cond.and given_1 narrow_1) := by decide +kernel
theorem fx_str {s : State} {a : Array Value} (hts : ∀ w ∈ lw_tbl, w.before a s = true) (hgv : (Jvm.Cond.and given_1 narrow_1).before a s = true) : ∀ q ∈ strw, ∃ r, vk_R RX6 q.1 q.2 r s := fun q hq => (ex_ref (flat_of_before _ hgv _ (fw_13 q hq))).elim fun r hr => ⟨r, vk_R.of (hts _ (fw_7 q hq)) hr⟩
