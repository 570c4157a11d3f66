/-! part 61: the reference: of, is, isPart -/
/-- the reference at m holds the numbers Z -/
def ZAt (h : HP) (n m : Nat) (Z : Nat → Int) : Prop := ∃ (fs : List Value) (z : Nat), At h n m (.inl (7, fs)) ∧ fs.length = 24 ∧ fs[1]? = some (.ref z) ∧ At h n z (ai 52 Z)
/-- is the part x of the kind k -/
def isZ (Z : Nat → Int) (x k : Int) : Int := if Z (4 * x).toNat = k then 1 else 0
