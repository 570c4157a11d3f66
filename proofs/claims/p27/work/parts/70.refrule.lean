/-! part 70: the reference: amplifierRule -/
def offT (t : Int) : Int := if t = -1 then 0 else 1
/-- what the output of an amplifier that isn't linear stands against -/
def ampX (c t : Int) (a : Nat) : Nat := if (a : Int) = t then 9 else if c / 3 ^ a % 3 = 1 then 7 else 8
def ampR (ps : List Part) (c t : Int) (a : Nat) : Nat → Int := if c / 3 ^ a % 3 = 0 ∧ (a : Int) ≠ t then fun q => (-1) * lb_d (some (pAt ps (pOf ps a)).2.2.1.toNat) q + (fun q => 1 * lb_d (some (pAt ps (pOf ps a)).2.1.toNat) q + (fun _ => 0) q) q else fun q => (-1) * lb_d (some (ampX c t a)) q + (fun q => 1 * lb_d (some (pAt ps (pOf ps a)).2.2.2.toNat) q + (fun _ => 0) q) q
