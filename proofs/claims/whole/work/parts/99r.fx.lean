/-! part 99r: the words that Fx keeps -/
theorem fw_1 : ∀ q ∈ nestw, Cond.methodLinkNest q.1 q.2.1 q.2.2.1 q.2.2.2 ∈ lw_tbl := by decide +kernel
theorem fw_2 : ∀ E ∈ castw, Cond.castable E E ∈ lw_tbl := by decide +kernel
theorem fw_3 : ∀ y ∈ declw, Cond.declares y ∈ lw_tbl := by decide +kernel
theorem fw_4 : ∀ q ∈ nestf, Cond.fieldLinkNest q.1 q.2.1 q.2.2.1 q.2.2.2.1 q.2.2.2.2.1 q.2.2.2.2.2 ∈ lw_tbl := by decide +kernel
theorem fw_5 : Cond.arrayOver (.array .long) ∈ lw_tbl := by decide +kernel
theorem fw_6 : Cond.arrayOver (.object "AmplifierDesk$State") ∈ lw_tbl := by decide +kernel
theorem fw_7 : ∀ q ∈ strw, Cond.stringRef RX6 q.1 q.2 ∈ lw_tbl := by decide +kernel
theorem fx_words {s : State} {a : Array Value} (hts : ∀ w ∈ lw_tbl, w.before a s = true) : (∀ q ∈ nestw, va_Nw (.methodLinkNest q.1 q.2.1 q.2.2.1 q.2.2.2) s) ∧ (∀ E ∈ castw, va_Nw (.castable E E) s) ∧ (∀ y ∈ declw, va_Nw (.declares y) s) ∧ (∀ q ∈ nestf, va_Nw (.fieldLinkNest q.1 q.2.1 q.2.2.1 q.2.2.2.1 q.2.2.2.2.1 q.2.2.2.2.2) s) ∧ va_AOA .long s ∧ va_AO "AmplifierDesk$State" s :=
  ⟨fun q hq => va_Nw.of rfl (hts _ (fw_1 q hq)), fun E hE => va_Nw.of rfl (hts _ (fw_2 E hE)), fun y hy => va_Nw.of rfl (hts _ (fw_3 y hy)), fun q hq => va_Nw.of rfl (hts _ (fw_4 q hq)), hts _ fw_5, hts _ fw_6⟩
