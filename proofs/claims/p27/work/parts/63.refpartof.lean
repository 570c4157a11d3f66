/-! part 63: the reference: isAt -/
/-- is the part at the node k -/
def atB (p : Part) (k : Int) : Bool := decide (p.2.1 = k) || (decide (p.1 ≠ 1) && decide (p.2.2.1 = k)) || (decide (p.1 = 2) && decide (p.2.2.2 = k))
