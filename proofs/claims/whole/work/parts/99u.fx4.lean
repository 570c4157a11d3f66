/-! part 99u: the table of the powers -/
theorem eq_int_ev {tm : Term} {v : Int32} {s : State} {a : Array Value} (h : (Cond.eq tm (.int v)).before a s = true) : tm.eval a s none [] s = some (.int v) := by
  cases hv : tm.eval a s none [] s with
  | none => simp [Cond.before, Cond.holds, Cond.value, hv] at h
  | some w => cases w <;> simp_all [Cond.before, Cond.holds, Cond.value, Term.eval]
