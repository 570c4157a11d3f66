/-! part 65: the reference: isOutput -/
def outB (p : Part) (k : Int) : Bool := decide (p.1 = 2) && decide (p.2.2.2 = k)
