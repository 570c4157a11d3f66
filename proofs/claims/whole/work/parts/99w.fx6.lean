/-! part 99w: the texts -/
theorem ex_ref {tm : Term} {cls : String} {s : State} {a : Array Value} (h : (Cond.exactly tm cls).before a s = true) : ∃ r : Nat, tm.eval a s none [] s = some (.ref r) := by
  cases hv : tm.eval a s none [] s with
  | none => simp [Cond.before, Cond.holds, Cond.value, hv] at h
  | some w => cases w <;> first | exact ⟨_, rfl⟩ | (cases hc : s.vm.findClass cls <;> simp_all [Cond.before, Cond.holds, Cond.value, Term.eval])
theorem fw_13 : ∀ q ∈ strw, Cond.exactly (.string RX6 q.1) "java/lang/String" ∈ flatC (Jvm.Cond.and given_1 narrow_1) := by decide +kernel
theorem fx_str {s : State} {a : Array Value} (hts : ∀ w ∈ lw_tbl, w.before a s = true) (hgv : (Jvm.Cond.and given_1 narrow_1).before a s = true) : ∀ q ∈ strw, ∃ r, vk_R RX6 q.1 q.2 r s := fun q hq => (ex_ref (flat_of_before _ hgv _ (fw_13 q hq))).elim fun r hr => ⟨r, vk_R.of (hts _ (fw_7 q hq)) hr⟩
