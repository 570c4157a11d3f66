/-! part 99s: what the start gives of the statics -/
theorem fw_8 : ∀ q ∈ ncw, Cond.not (.castable q.1 q.2) ∈ flatC (Jvm.Cond.and given_1 narrow_1) := by decide +kernel
theorem fw_9 : ∀ c ∈ [Cond.laysStatic "AmplifierDesk" "POWERS_OF_THREE" "[I", Cond.laysStatic Bundle.tN "UNASSIGNED_STACK" Bundle.steD, Cond.laysStatic Bundle.tN "SUPPRESSED_SENTINEL" Bundle.listD], c ∈ lw_tbl := by decide +kernel
theorem fw_10 : ∀ c ∈ [Cond.isRef (.static Bundle.tN "UNASSIGNED_STACK" Bundle.steD), Cond.isRef (.static Bundle.tN "SUPPRESSED_SENTINEL" Bundle.listD), Cond.arrayOf (.static "AmplifierDesk" "POWERS_OF_THREE" "[I") .int, Cond.eq (.length (.static "AmplifierDesk" "POWERS_OF_THREE" "[I")) (.int 4)], c ∈ flatC (Jvm.Cond.and given_1 narrow_1) := by decide +kernel
theorem fx_nc {s : State} {a : Array Value} (hgv : (Jvm.Cond.and given_1 narrow_1).before a s = true) : ∀ q ∈ ncw, va_Nc q.1 q.2 s := fun q hq => va_Nc.of (flat_of_before _ hgv _ (fw_8 q hq))
