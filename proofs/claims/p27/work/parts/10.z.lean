/-! part 10: numbers of the machine as integers: i3 a, i6 a; the rules over them -/
def i3 (a : Int) : Int32 := Int32.ofInt a
def i6 (a : Int) : Int64 := Int64.ofInt a
def R3 (a : Int) : Prop := -2147483648 ≤ a ∧ a ≤ 2147483647
def R6 (a : Int) : Prop := -9223372036854775808 ≤ a ∧ a ≤ 9223372036854775807
theorem i3_toInt {a : Int} (h : R3 a) : (i3 a).toInt = a := Int32.toInt_ofInt_of_le (by unfold R3 at h; omega) (by unfold R3 at h; omega)
theorem i6_toInt {a : Int} (h : R6 a) : (i6 a).toInt = a := Int64.toInt_ofInt_of_le (by unfold R6 at h; omega) (by unfold R6 at h; omega)
theorem i3_add (a b : Int) : i3 a + i3 b = i3 (a + b) := (Int32.ofInt_add a b).symm
theorem i3_sub (a b : Int) : i3 a - i3 b = i3 (a - b) := (Int32.ofInt_sub a b).symm
theorem i3_mul (a b : Int) : i3 a * i3 b = i3 (a * b) := (Int32.ofInt_mul a b).symm
theorem i3_neg (a : Int) : -i3 a = i3 (-a) := (Int32.ofInt_neg a).symm
theorem i6_add (a b : Int) : i6 a + i6 b = i6 (a + b) := (Int64.ofInt_add a b).symm
theorem i6_sub (a b : Int) : i6 a - i6 b = i6 (a - b) := (Int64.ofInt_sub a b).symm
theorem i6_mul (a b : Int) : i6 a * i6 b = i6 (a * b) := (Int64.ofInt_mul a b).symm
theorem i6_neg (a : Int) : -i6 a = i6 (-a) := (Int64.ofInt_neg a).symm
theorem i3_of (x : Int32) : ∃ a : Int, R3 a ∧ x = i3 a := ⟨x.toInt, ⟨by have := x.minValue_le_toInt; simpa using this, by have := x.toInt_lt; omega⟩, (Int32.ofInt_toInt x).symm⟩
theorem i6_of (x : Int64) : ∃ a : Int, R6 a ∧ x = i6 a := ⟨x.toInt, ⟨by have := x.minValue_le_toInt; simpa using this, by have := x.toInt_lt; omega⟩, (Int64.ofInt_toInt x).symm⟩
theorem i3_lt {a b : Int} (ha : R3 a) (hb : R3 b) : i3 a < i3 b ↔ a < b := by rw [Int32.lt_iff_toInt_lt, i3_toInt ha, i3_toInt hb]
theorem i3_le {a b : Int} (ha : R3 a) (hb : R3 b) : i3 a ≤ i3 b ↔ a ≤ b := by rw [Int32.le_iff_toInt_le, i3_toInt ha, i3_toInt hb]
theorem i3_eq {a b : Int} (ha : R3 a) (hb : R3 b) : i3 a = i3 b ↔ a = b := by rw [← Int32.toInt_inj, i3_toInt ha, i3_toInt hb]
theorem i6_lt {a b : Int} (ha : R6 a) (hb : R6 b) : i6 a < i6 b ↔ a < b := by rw [Int64.lt_iff_toInt_lt, i6_toInt ha, i6_toInt hb]
theorem i6_le {a b : Int} (ha : R6 a) (hb : R6 b) : i6 a ≤ i6 b ↔ a ≤ b := by rw [Int64.le_iff_toInt_le, i6_toInt ha, i6_toInt hb]
theorem i6_eq {a b : Int} (ha : R6 a) (hb : R6 b) : i6 a = i6 b ↔ a = b := by rw [← Int64.toInt_inj, i6_toInt ha, i6_toInt hb]
theorem i3_nat {a : Int} (h : R3 a) : (i3 a).toNatClampNeg = a.toNat := by rw [← i3_toInt h]; simp [i3, Int32.toNatClampNeg, Int32.toInt]
theorem i3_in {a : Int} {n : Nat} (h : R3 a) (h0 : 0 ≤ a) (hn : a < n) : vp_in (i3 a) n := by
  rw [vp_in_iff, i3_toInt h]
  exact ⟨h0, hn⟩
theorem R3_0 : R3 0 := ⟨by decide, by decide⟩
theorem i3_64 {a : Int} (h : R3 a) : (i3 a).toInt64 = i6 a := Int32.toInt64_ofInt (show Int32.minValue.toInt ≤ a from h.1) (show a ≤ Int32.maxValue.toInt from h.2)
/-- bits of machine integers, as integers -/
def band (x y : Int) : Int := (i3 x &&& i3 y).toInt
def bor (x y : Int) : Int := (i3 x ||| i3 y).toInt
def bxor (x y : Int) : Int := (i3 x ^^^ i3 y).toInt
def bshl (x y : Int) : Int := (i3 x <<< (i3 y &&& 31)).toInt
def bshr (x y : Int) : Int := (i3 x >>> (i3 y &&& 31)).toInt
def lshl (x y : Int) : Int := (i6 x <<< ((i3 y).toInt64 &&& 63)).toInt
def lbor (x y : Int) : Int := (i6 x ||| i6 y).toInt
theorem i3_T (x : Int32) : i3 x.toInt = x := Int32.ofInt_toInt x
theorem i6_T (x : Int64) : i6 x.toInt = x := Int64.ofInt_toInt x
def cmpZ (x y : Int) : Int := if x < y then -1 else if x = y then 0 else 1
theorem cmp_eq {x y : Int} : cmpZ x y = 0 ↔ x = y := by unfold cmpZ; split <;> (try split) <;> omega
theorem cmp_lt {x y : Int} : cmpZ x y < 0 ↔ x < y := by unfold cmpZ; split <;> (try split) <;> omega
theorem cmp_ge {x y : Int} : 0 ≤ cmpZ x y ↔ y ≤ x := by unfold cmpZ; split <;> (try split) <;> omega
theorem cmp_gt {x y : Int} : 0 < cmpZ x y ↔ y < x := by unfold cmpZ; split <;> (try split) <;> omega
theorem cmp_le {x y : Int} : cmpZ x y ≤ 0 ↔ x ≤ y := by unfold cmpZ; split <;> (try split) <;> omega
theorem R3_cmp {x y : Int} : R3 (cmpZ x y) := by unfold cmpZ R3; split <;> (try split) <;> omega
theorem lg_cmpZ {x y : Int} (hx : R6 x) (hy : R6 y) : lg_cmp (i6 x) (i6 y) = i3 (cmpZ x y) := by
  have e : (i6 x > i6 y) = (y < x) := propext (i6_lt hy hx)
  have e2 : (i6 x = i6 y) = (x = y) := propext (i6_eq hx hy)
  unfold lg_cmp cmpZ
  simp only [e, e2]
  by_cases h1 : y < x
  · rw [if_pos h1, if_neg (by omega), if_neg (by omega)]
    rfl
  · rw [if_neg h1]
    by_cases h2 : x = y
    · rw [if_pos h2, if_neg (by omega), if_pos h2]
      rfl
    · rw [if_neg h2, if_pos (by omega)]
      rfl
