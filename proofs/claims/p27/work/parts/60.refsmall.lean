/-! part 60: the reference: within, stateIn -/
def inZ (x lo hi : Int) : Int := if lo ≤ x ∧ x ≤ hi then 1 else 0
