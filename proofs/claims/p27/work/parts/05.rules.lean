/-! part 05: one rule an instruction -/
def stL1 (lv : List (Nat × Value)) (i : Nat) (v : Value) : List (Nat × Value) := (i, v) :: lv.filter (fun q => !(q.1 == i) && !(q.1 + 1 == i && q.2.category == 2))
def stL2 (lv : List (Nat × Value)) (i : Nat) (v : Value) : List (Nat × Value) := (i, v) :: lv.filter (fun q => !(q.1 == i) && (!(q.1 == i + 1) && !(q.1 + 1 == i && q.2.category == 2)))
theorem stL1_map (A : Nat → Nat) (lv : List (Nat × Value)) (i : Nat) (v : Value) : (i, trV A v) :: (lv.map fun q => (q.1, trV A q.2)).filter (fun q => !(q.1 == i) && !(q.1 + 1 == i && q.2.category == 2)) = (stL1 lv i v).map fun q => (q.1, trV A q.2) := by
  rw [stL1, List.map_cons, List.filter_map]
  simp only [Function.comp_def, trV_cat]
theorem stL2_map (A : Nat → Nat) (lv : List (Nat × Value)) (i : Nat) (v : Value) : (i, trV A v) :: (lv.map fun q => (q.1, trV A q.2)).filter (fun q => !(q.1 == i) && (!(q.1 == i + 1) && !(q.1 + 1 == i && q.2.category == 2))) = (stL2 lv i v).map fun q => (q.1, trV A q.2) := by
  rw [stL2, List.map_cons, List.filter_map]
  simp only [Function.comp_def, trV_cat]
theorem pick_map (A : Nat → Nat) (lv : List (Nat × Value)) (ks : List Nat) : lv_pick (lv.map fun q => (q.1, trV A q.2)) ks = (lv_pick lv ks).map fun q => (q.1, trV A q.2) := by
  induction ks with
  | nil => rfl
  | cons k ks ih =>
    unfold lv_pick at ih ⊢
    rw [List.filterMap_cons, List.filterMap_cons, List.getElem?_map]
    cases hq : lv[k]? with
    | none => simpa using ih
    | some q => simpa using ih
theorem ok_iadd {X : Xt} {cc : ByteArray} {own : String} {nL f L cb sb pc n : Nat} {lv : List (Nat × Value)} {st : List Value} {h : HP} (hc : Cx X cc own nL f L) {x y : Int32} (hd : decode cc pc = .ok (.iadd, 1)) (k : Ok X cb sb (pc + 1) lv (.int (x + y) :: st) n h) : Ok X cb sb pc lv (.int y :: .int x :: st) n h := by
  obtain ⟨p, l, e, R, s, m, args, below, meth, c, D, bs, A0, n0, Q⟩ := X
  obtain ⟨hx, hb, hown, hts, hml, hRf, hRl, hF, htr, hlk, hbs⟩ := hc
  intro A cy H locs ls cells slots h1 h2 h3 h4 hw hS hl h5 h6
  exact lv_iadd hx hb hd (k A cy H locs ls cells slots h1 h2 h3 h4 hw hS hl h5 h6)
theorem ok_isub {X : Xt} {cc : ByteArray} {own : String} {nL f L cb sb pc n : Nat} {lv : List (Nat × Value)} {st : List Value} {h : HP} (hc : Cx X cc own nL f L) {x y : Int32} (hd : decode cc pc = .ok (.isub, 1)) (k : Ok X cb sb (pc + 1) lv (.int (x - y) :: st) n h) : Ok X cb sb pc lv (.int y :: .int x :: st) n h := by
  obtain ⟨p, l, e, R, s, m, args, below, meth, c, D, bs, A0, n0, Q⟩ := X
  obtain ⟨hx, hb, hown, hts, hml, hRf, hRl, hF, htr, hlk, hbs⟩ := hc
  intro A cy H locs ls cells slots h1 h2 h3 h4 hw hS hl h5 h6
  exact lv_isub hx hb hd (k A cy H locs ls cells slots h1 h2 h3 h4 hw hS hl h5 h6)
theorem ok_imul {X : Xt} {cc : ByteArray} {own : String} {nL f L cb sb pc n : Nat} {lv : List (Nat × Value)} {st : List Value} {h : HP} (hc : Cx X cc own nL f L) {x y : Int32} (hd : decode cc pc = .ok (.imul, 1)) (k : Ok X cb sb (pc + 1) lv (.int (x * y) :: st) n h) : Ok X cb sb pc lv (.int y :: .int x :: st) n h := by
  obtain ⟨p, l, e, R, s, m, args, below, meth, c, D, bs, A0, n0, Q⟩ := X
  obtain ⟨hx, hb, hown, hts, hml, hRf, hRl, hF, htr, hlk, hbs⟩ := hc
  intro A cy H locs ls cells slots h1 h2 h3 h4 hw hS hl h5 h6
  exact lv_imul hx hb hd (k A cy H locs ls cells slots h1 h2 h3 h4 hw hS hl h5 h6)
theorem ok_iand {X : Xt} {cc : ByteArray} {own : String} {nL f L cb sb pc n : Nat} {lv : List (Nat × Value)} {st : List Value} {h : HP} (hc : Cx X cc own nL f L) {x y : Int32} (hd : decode cc pc = .ok (.iand, 1)) (k : Ok X cb sb (pc + 1) lv (.int (x &&& y) :: st) n h) : Ok X cb sb pc lv (.int y :: .int x :: st) n h := by
  obtain ⟨p, l, e, R, s, m, args, below, meth, c, D, bs, A0, n0, Q⟩ := X
  obtain ⟨hx, hb, hown, hts, hml, hRf, hRl, hF, htr, hlk, hbs⟩ := hc
  intro A cy H locs ls cells slots h1 h2 h3 h4 hw hS hl h5 h6
  exact lv_iand hx hb hd (k A cy H locs ls cells slots h1 h2 h3 h4 hw hS hl h5 h6)
theorem ok_ior {X : Xt} {cc : ByteArray} {own : String} {nL f L cb sb pc n : Nat} {lv : List (Nat × Value)} {st : List Value} {h : HP} (hc : Cx X cc own nL f L) {x y : Int32} (hd : decode cc pc = .ok (.ior, 1)) (k : Ok X cb sb (pc + 1) lv (.int (x ||| y) :: st) n h) : Ok X cb sb pc lv (.int y :: .int x :: st) n h := by
  obtain ⟨p, l, e, R, s, m, args, below, meth, c, D, bs, A0, n0, Q⟩ := X
  obtain ⟨hx, hb, hown, hts, hml, hRf, hRl, hF, htr, hlk, hbs⟩ := hc
  intro A cy H locs ls cells slots h1 h2 h3 h4 hw hS hl h5 h6
  exact lv_ior hx hb hd (k A cy H locs ls cells slots h1 h2 h3 h4 hw hS hl h5 h6)
theorem ok_ixor {X : Xt} {cc : ByteArray} {own : String} {nL f L cb sb pc n : Nat} {lv : List (Nat × Value)} {st : List Value} {h : HP} (hc : Cx X cc own nL f L) {x y : Int32} (hd : decode cc pc = .ok (.ixor, 1)) (k : Ok X cb sb (pc + 1) lv (.int (x ^^^ y) :: st) n h) : Ok X cb sb pc lv (.int y :: .int x :: st) n h := by
  obtain ⟨p, l, e, R, s, m, args, below, meth, c, D, bs, A0, n0, Q⟩ := X
  obtain ⟨hx, hb, hown, hts, hml, hRf, hRl, hF, htr, hlk, hbs⟩ := hc
  intro A cy H locs ls cells slots h1 h2 h3 h4 hw hS hl h5 h6
  exact lv_ixor hx hb hd (k A cy H locs ls cells slots h1 h2 h3 h4 hw hS hl h5 h6)
theorem ok_idiv {X : Xt} {cc : ByteArray} {own : String} {nL f L cb sb pc n : Nat} {lv : List (Nat × Value)} {st : List Value} {h : HP} (hc : Cx X cc own nL f L) {x y : Int32} (hd : decode cc pc = .ok (.idiv, 1)) (hne : ¬ y = 0) (k : Ok X cb sb (pc + 1) lv (.int (x / y) :: st) n h) : Ok X cb sb pc lv (.int y :: .int x :: st) n h := by
  obtain ⟨p, l, e, R, s, m, args, below, meth, c, D, bs, A0, n0, Q⟩ := X
  obtain ⟨hx, hb, hown, hts, hml, hRf, hRl, hF, htr, hlk, hbs⟩ := hc
  intro A cy H locs ls cells slots h1 h2 h3 h4 hw hS hl h5 h6
  exact lv_idiv hx hb hd hne (k A cy H locs ls cells slots h1 h2 h3 h4 hw hS hl h5 h6)
theorem ok_irem {X : Xt} {cc : ByteArray} {own : String} {nL f L cb sb pc n : Nat} {lv : List (Nat × Value)} {st : List Value} {h : HP} (hc : Cx X cc own nL f L) {x y : Int32} (hd : decode cc pc = .ok (.irem, 1)) (hne : ¬ y = 0) (k : Ok X cb sb (pc + 1) lv (.int (x - x / y * y) :: st) n h) : Ok X cb sb pc lv (.int y :: .int x :: st) n h := by
  obtain ⟨p, l, e, R, s, m, args, below, meth, c, D, bs, A0, n0, Q⟩ := X
  obtain ⟨hx, hb, hown, hts, hml, hRf, hRl, hF, htr, hlk, hbs⟩ := hc
  intro A cy H locs ls cells slots h1 h2 h3 h4 hw hS hl h5 h6
  exact lv_irem hx hb hd hne (k A cy H locs ls cells slots h1 h2 h3 h4 hw hS hl h5 h6)
theorem ok_ishl {X : Xt} {cc : ByteArray} {own : String} {nL f L cb sb pc n : Nat} {lv : List (Nat × Value)} {st : List Value} {h : HP} (hc : Cx X cc own nL f L) {x y : Int32} (hd : decode cc pc = .ok (.ishl, 1)) (k : Ok X cb sb (pc + 1) lv (.int (x <<< (y &&& 31)) :: st) n h) : Ok X cb sb pc lv (.int y :: .int x :: st) n h := by
  obtain ⟨p, l, e, R, s, m, args, below, meth, c, D, bs, A0, n0, Q⟩ := X
  obtain ⟨hx, hb, hown, hts, hml, hRf, hRl, hF, htr, hlk, hbs⟩ := hc
  intro A cy H locs ls cells slots h1 h2 h3 h4 hw hS hl h5 h6
  exact lv_ishl hx hb hd (k A cy H locs ls cells slots h1 h2 h3 h4 hw hS hl h5 h6)
theorem ok_ishr {X : Xt} {cc : ByteArray} {own : String} {nL f L cb sb pc n : Nat} {lv : List (Nat × Value)} {st : List Value} {h : HP} (hc : Cx X cc own nL f L) {x y : Int32} (hd : decode cc pc = .ok (.ishr, 1)) (k : Ok X cb sb (pc + 1) lv (.int (x >>> (y &&& 31)) :: st) n h) : Ok X cb sb pc lv (.int y :: .int x :: st) n h := by
  obtain ⟨p, l, e, R, s, m, args, below, meth, c, D, bs, A0, n0, Q⟩ := X
  obtain ⟨hx, hb, hown, hts, hml, hRf, hRl, hF, htr, hlk, hbs⟩ := hc
  intro A cy H locs ls cells slots h1 h2 h3 h4 hw hS hl h5 h6
  exact lv_ishr hx hb hd (k A cy H locs ls cells slots h1 h2 h3 h4 hw hS hl h5 h6)
theorem ok_ladd {X : Xt} {cc : ByteArray} {own : String} {nL f L cb sb pc n : Nat} {lv : List (Nat × Value)} {st : List Value} {h : HP} (hc : Cx X cc own nL f L) {x y : Int64} (hd : decode cc pc = .ok (.ladd, 1)) (k : Ok X cb sb (pc + 1) lv (.long (x + y) :: st) n h) : Ok X cb sb pc lv (.long y :: .long x :: st) n h := by
  obtain ⟨p, l, e, R, s, m, args, below, meth, c, D, bs, A0, n0, Q⟩ := X
  obtain ⟨hx, hb, hown, hts, hml, hRf, hRl, hF, htr, hlk, hbs⟩ := hc
  intro A cy H locs ls cells slots h1 h2 h3 h4 hw hS hl h5 h6
  exact lv_ladd hx hb hd (k A cy H locs ls cells slots h1 h2 h3 h4 hw hS hl h5 h6)
theorem ok_lsub {X : Xt} {cc : ByteArray} {own : String} {nL f L cb sb pc n : Nat} {lv : List (Nat × Value)} {st : List Value} {h : HP} (hc : Cx X cc own nL f L) {x y : Int64} (hd : decode cc pc = .ok (.lsub, 1)) (k : Ok X cb sb (pc + 1) lv (.long (x - y) :: st) n h) : Ok X cb sb pc lv (.long y :: .long x :: st) n h := by
  obtain ⟨p, l, e, R, s, m, args, below, meth, c, D, bs, A0, n0, Q⟩ := X
  obtain ⟨hx, hb, hown, hts, hml, hRf, hRl, hF, htr, hlk, hbs⟩ := hc
  intro A cy H locs ls cells slots h1 h2 h3 h4 hw hS hl h5 h6
  exact lv_lsub hx hb hd (k A cy H locs ls cells slots h1 h2 h3 h4 hw hS hl h5 h6)
theorem ok_lmul {X : Xt} {cc : ByteArray} {own : String} {nL f L cb sb pc n : Nat} {lv : List (Nat × Value)} {st : List Value} {h : HP} (hc : Cx X cc own nL f L) {x y : Int64} (hd : decode cc pc = .ok (.lmul, 1)) (k : Ok X cb sb (pc + 1) lv (.long (x * y) :: st) n h) : Ok X cb sb pc lv (.long y :: .long x :: st) n h := by
  obtain ⟨p, l, e, R, s, m, args, below, meth, c, D, bs, A0, n0, Q⟩ := X
  obtain ⟨hx, hb, hown, hts, hml, hRf, hRl, hF, htr, hlk, hbs⟩ := hc
  intro A cy H locs ls cells slots h1 h2 h3 h4 hw hS hl h5 h6
  exact lv_lmul hx hb hd (k A cy H locs ls cells slots h1 h2 h3 h4 hw hS hl h5 h6)
theorem ok_lor {X : Xt} {cc : ByteArray} {own : String} {nL f L cb sb pc n : Nat} {lv : List (Nat × Value)} {st : List Value} {h : HP} (hc : Cx X cc own nL f L) {x y : Int64} (hd : decode cc pc = .ok (.lor, 1)) (k : Ok X cb sb (pc + 1) lv (.long (x ||| y) :: st) n h) : Ok X cb sb pc lv (.long y :: .long x :: st) n h := by
  obtain ⟨p, l, e, R, s, m, args, below, meth, c, D, bs, A0, n0, Q⟩ := X
  obtain ⟨hx, hb, hown, hts, hml, hRf, hRl, hF, htr, hlk, hbs⟩ := hc
  intro A cy H locs ls cells slots h1 h2 h3 h4 hw hS hl h5 h6
  exact lv_lor hx hb hd (k A cy H locs ls cells slots h1 h2 h3 h4 hw hS hl h5 h6)
theorem ok_ldiv {X : Xt} {cc : ByteArray} {own : String} {nL f L cb sb pc n : Nat} {lv : List (Nat × Value)} {st : List Value} {h : HP} (hc : Cx X cc own nL f L) {x y : Int64} (hd : decode cc pc = .ok (.ldiv, 1)) (hne : ¬ y = 0) (k : Ok X cb sb (pc + 1) lv (.long (x / y) :: st) n h) : Ok X cb sb pc lv (.long y :: .long x :: st) n h := by
  obtain ⟨p, l, e, R, s, m, args, below, meth, c, D, bs, A0, n0, Q⟩ := X
  obtain ⟨hx, hb, hown, hts, hml, hRf, hRl, hF, htr, hlk, hbs⟩ := hc
  intro A cy H locs ls cells slots h1 h2 h3 h4 hw hS hl h5 h6
  exact lv_ldiv hx hb hd hne (k A cy H locs ls cells slots h1 h2 h3 h4 hw hS hl h5 h6)
theorem ok_lrem {X : Xt} {cc : ByteArray} {own : String} {nL f L cb sb pc n : Nat} {lv : List (Nat × Value)} {st : List Value} {h : HP} (hc : Cx X cc own nL f L) {x y : Int64} (hd : decode cc pc = .ok (.lrem, 1)) (hne : ¬ y = 0) (k : Ok X cb sb (pc + 1) lv (.long (x - x / y * y) :: st) n h) : Ok X cb sb pc lv (.long y :: .long x :: st) n h := by
  obtain ⟨p, l, e, R, s, m, args, below, meth, c, D, bs, A0, n0, Q⟩ := X
  obtain ⟨hx, hb, hown, hts, hml, hRf, hRl, hF, htr, hlk, hbs⟩ := hc
  intro A cy H locs ls cells slots h1 h2 h3 h4 hw hS hl h5 h6
  exact lv_lrem hx hb hd hne (k A cy H locs ls cells slots h1 h2 h3 h4 hw hS hl h5 h6)
theorem ok_lcmp {X : Xt} {cc : ByteArray} {own : String} {nL f L cb sb pc n : Nat} {lv : List (Nat × Value)} {st : List Value} {h : HP} (hc : Cx X cc own nL f L) {x y : Int64} (hd : decode cc pc = .ok (.lcmp, 1)) (k : Ok X cb sb (pc + 1) lv (.int (lg_cmp x y) :: st) n h) : Ok X cb sb pc lv (.long y :: .long x :: st) n h := by
  obtain ⟨p, l, e, R, s, m, args, below, meth, c, D, bs, A0, n0, Q⟩ := X
  obtain ⟨hx, hb, hown, hts, hml, hRf, hRl, hF, htr, hlk, hbs⟩ := hc
  intro A cy H locs ls cells slots h1 h2 h3 h4 hw hS hl h5 h6
  exact W.lcmp hx hb hd (k A cy H locs ls cells slots h1 h2 h3 h4 hw hS hl h5 h6)
theorem ok_ineg {X : Xt} {cc : ByteArray} {own : String} {nL f L cb sb pc n : Nat} {lv : List (Nat × Value)} {st : List Value} {h : HP} (hc : Cx X cc own nL f L) {x : Int32} (hd : decode cc pc = .ok (.ineg, 1)) (k : Ok X cb sb (pc + 1) lv (.int (-x) :: st) n h) : Ok X cb sb pc lv (.int x :: st) n h := by
  obtain ⟨p, l, e, R, s, m, args, below, meth, c, D, bs, A0, n0, Q⟩ := X
  obtain ⟨hx, hb, hown, hts, hml, hRf, hRl, hF, htr, hlk, hbs⟩ := hc
  intro A cy H locs ls cells slots h1 h2 h3 h4 hw hS hl h5 h6
  exact lv_ineg hx hb hd (k A cy H locs ls cells slots h1 h2 h3 h4 hw hS hl h5 h6)
theorem ok_lneg {X : Xt} {cc : ByteArray} {own : String} {nL f L cb sb pc n : Nat} {lv : List (Nat × Value)} {st : List Value} {h : HP} (hc : Cx X cc own nL f L) {x : Int64} (hd : decode cc pc = .ok (.lneg, 1)) (k : Ok X cb sb (pc + 1) lv (.long (-x) :: st) n h) : Ok X cb sb pc lv (.long x :: st) n h := by
  obtain ⟨p, l, e, R, s, m, args, below, meth, c, D, bs, A0, n0, Q⟩ := X
  obtain ⟨hx, hb, hown, hts, hml, hRf, hRl, hF, htr, hlk, hbs⟩ := hc
  intro A cy H locs ls cells slots h1 h2 h3 h4 hw hS hl h5 h6
  exact lv_lneg hx hb hd (k A cy H locs ls cells slots h1 h2 h3 h4 hw hS hl h5 h6)
theorem ok_lshl {X : Xt} {cc : ByteArray} {own : String} {nL f L cb sb pc n : Nat} {lv : List (Nat × Value)} {st : List Value} {h : HP} (hc : Cx X cc own nL f L) {x : Int64} {y : Int32} (hd : decode cc pc = .ok (.lshl, 1)) (k : Ok X cb sb (pc + 1) lv (.long (x <<< (y.toInt64 &&& 63)) :: st) n h) : Ok X cb sb pc lv (.int y :: .long x :: st) n h := by
  obtain ⟨p, l, e, R, s, m, args, below, meth, c, D, bs, A0, n0, Q⟩ := X
  obtain ⟨hx, hb, hown, hts, hml, hRf, hRl, hF, htr, hlk, hbs⟩ := hc
  intro A cy H locs ls cells slots h1 h2 h3 h4 hw hS hl h5 h6
  exact lv_lshl hx hb hd rfl (k A cy H locs ls cells slots h1 h2 h3 h4 hw hS hl h5 h6)
theorem ok_i2l {X : Xt} {cc : ByteArray} {own : String} {nL f L cb sb pc n : Nat} {lv : List (Nat × Value)} {st : List Value} {h : HP} (hc : Cx X cc own nL f L) {x : Int32} (hd : decode cc pc = .ok (.i2l, 1)) (k : Ok X cb sb (pc + 1) lv (.long x.toInt64 :: st) n h) : Ok X cb sb pc lv (.int x :: st) n h := by
  obtain ⟨p, l, e, R, s, m, args, below, meth, c, D, bs, A0, n0, Q⟩ := X
  obtain ⟨hx, hb, hown, hts, hml, hRf, hRl, hF, htr, hlk, hbs⟩ := hc
  intro A cy H locs ls cells slots h1 h2 h3 h4 hw hS hl h5 h6
  exact lv_i2l hx hb hd rfl (k A cy H locs ls cells slots h1 h2 h3 h4 hw hS hl h5 h6)
theorem ok_i2c {X : Xt} {cc : ByteArray} {own : String} {nL f L cb sb pc n : Nat} {lv : List (Nat × Value)} {st : List Value} {h : HP} (hc : Cx X cc own nL f L) {x : Int32} (hd : decode cc pc = .ok (.i2c, 1)) (k : Ok X cb sb (pc + 1) lv (.int (x.toUInt32 % 65536).toInt32 :: st) n h) : Ok X cb sb pc lv (.int x :: st) n h := by
  obtain ⟨p, l, e, R, s, m, args, below, meth, c, D, bs, A0, n0, Q⟩ := X
  obtain ⟨hx, hb, hown, hts, hml, hRf, hRl, hF, htr, hlk, hbs⟩ := hc
  intro A cy H locs ls cells slots h1 h2 h3 h4 hw hS hl h5 h6
  exact lv_i2c hx hb hd rfl (k A cy H locs ls cells slots h1 h2 h3 h4 hw hS hl h5 h6)
theorem ok_iconst {X : Xt} {cc : ByteArray} {own : String} {nL f L cb sb pc n : Nat} {lv : List (Nat × Value)} {st : List Value} {h : HP} (hc : Cx X cc own nL f L) {a : Int} {v : Int32} (hd : decode cc pc = .ok (.iconst a, 1)) (hv : Int32.ofInt a = v) (k : Ok X cb sb (pc + 1) lv (.int v :: st) n h) : Ok X cb sb pc lv (st) n h := by
  obtain ⟨p, l, e, R, s, m, args, below, meth, c, D, bs, A0, n0, Q⟩ := X
  obtain ⟨hx, hb, hown, hts, hml, hRf, hRl, hF, htr, hlk, hbs⟩ := hc
  intro A cy H locs ls cells slots h1 h2 h3 h4 hw hS hl h5 h6
  exact lv_iconst hx hb hd hv (k A cy H locs ls cells slots h1 h2 h3 h4 hw hS hl h5 h6)
theorem ok_bipush {X : Xt} {cc : ByteArray} {own : String} {nL f L cb sb pc n : Nat} {lv : List (Nat × Value)} {st : List Value} {h : HP} (hc : Cx X cc own nL f L) {a : Int} {v : Int32} (hd : decode cc pc = .ok (.bipush a, 2)) (hv : (Int8.ofInt a).toInt32 = v) (k : Ok X cb sb (pc + 2) lv (.int v :: st) n h) : Ok X cb sb pc lv (st) n h := by
  obtain ⟨p, l, e, R, s, m, args, below, meth, c, D, bs, A0, n0, Q⟩ := X
  obtain ⟨hx, hb, hown, hts, hml, hRf, hRl, hF, htr, hlk, hbs⟩ := hc
  intro A cy H locs ls cells slots h1 h2 h3 h4 hw hS hl h5 h6
  exact lv_bipush hx hb hd hv (k A cy H locs ls cells slots h1 h2 h3 h4 hw hS hl h5 h6)
theorem ok_sipush {X : Xt} {cc : ByteArray} {own : String} {nL f L cb sb pc n : Nat} {lv : List (Nat × Value)} {st : List Value} {h : HP} (hc : Cx X cc own nL f L) {a : Int} {v : Int32} (hd : decode cc pc = .ok (.sipush a, 3)) (hv : (Int16.ofInt a).toInt32 = v) (k : Ok X cb sb (pc + 3) lv (.int v :: st) n h) : Ok X cb sb pc lv (st) n h := by
  obtain ⟨p, l, e, R, s, m, args, below, meth, c, D, bs, A0, n0, Q⟩ := X
  obtain ⟨hx, hb, hown, hts, hml, hRf, hRl, hF, htr, hlk, hbs⟩ := hc
  intro A cy H locs ls cells slots h1 h2 h3 h4 hw hS hl h5 h6
  exact lv_sipush hx hb hd hv (k A cy H locs ls cells slots h1 h2 h3 h4 hw hS hl h5 h6)
theorem ok_lconst {X : Xt} {cc : ByteArray} {own : String} {nL f L cb sb pc n : Nat} {lv : List (Nat × Value)} {st : List Value} {h : HP} (hc : Cx X cc own nL f L) {a : Fin 2} {v : Int64} (hd : decode cc pc = .ok (.lconst a, 1)) (hv : Int64.ofNat (a : Nat) = v) (k : Ok X cb sb (pc + 1) lv (.long v :: st) n h) : Ok X cb sb pc lv (st) n h := by
  obtain ⟨p, l, e, R, s, m, args, below, meth, c, D, bs, A0, n0, Q⟩ := X
  obtain ⟨hx, hb, hown, hts, hml, hRf, hRl, hF, htr, hlk, hbs⟩ := hc
  intro A cy H locs ls cells slots h1 h2 h3 h4 hw hS hl h5 h6
  exact lv_lconst hx hb hd hv (k A cy H locs ls cells slots h1 h2 h3 h4 hw hS hl h5 h6)
theorem ok_dconst0 {X : Xt} {cc : ByteArray} {own : String} {nL f L cb sb pc n : Nat} {lv : List (Nat × Value)} {st : List Value} {h : HP} (hc : Cx X cc own nL f L)  (hd : decode cc pc = .ok (.dconst 0, 1)) (k : Ok X cb sb (pc + 1) lv (.double FP.dconst0 :: st) n h) : Ok X cb sb pc lv (st) n h := by
  obtain ⟨p, l, e, R, s, m, args, below, meth, c, D, bs, A0, n0, Q⟩ := X
  obtain ⟨hx, hb, hown, hts, hml, hRf, hRl, hF, htr, hlk, hbs⟩ := hc
  intro A cy H locs ls cells slots h1 h2 h3 h4 hw hS hl h5 h6
  exact lv_dconst0 hx hb hd (k A cy H locs ls cells slots h1 h2 h3 h4 hw hS hl h5 h6)
theorem ok_dconst1 {X : Xt} {cc : ByteArray} {own : String} {nL f L cb sb pc n : Nat} {lv : List (Nat × Value)} {st : List Value} {h : HP} (hc : Cx X cc own nL f L)  (hd : decode cc pc = .ok (.dconst 1, 1)) (k : Ok X cb sb (pc + 1) lv (.double FP.dconst1 :: st) n h) : Ok X cb sb pc lv (st) n h := by
  obtain ⟨p, l, e, R, s, m, args, below, meth, c, D, bs, A0, n0, Q⟩ := X
  obtain ⟨hx, hb, hown, hts, hml, hRf, hRl, hF, htr, hlk, hbs⟩ := hc
  intro A cy H locs ls cells slots h1 h2 h3 h4 hw hS hl h5 h6
  exact lv_dconst1 hx hb hd (k A cy H locs ls cells slots h1 h2 h3 h4 hw hS hl h5 h6)
theorem ok_ldc2 {X : Xt} {cc : ByteArray} {own : String} {nL f L cb sb pc n : Nat} {lv : List (Nat × Value)} {st : List Value} {h : HP} (hc : Cx X cc own nL f L) {index : Nat} {v : Int64} (hd : decode cc pc = .ok (.ldc2_w index, 3)) (hw9 : Cond.constantLong own index v ∈ lw_all) (k : Ok X cb sb (pc + 3) lv (.long v :: st) n h) : Ok X cb sb pc lv (st) n h := by
  obtain ⟨p, l, e, R, s, m, args, below, meth, c, D, bs, A0, n0, Q⟩ := X
  obtain ⟨hx, hb, hown, hts, hml, hRf, hRl, hF, htr, hlk, hbs⟩ := hc
  intro A cy H locs ls cells slots h1 h2 h3 h4 hw hS hl h5 h6
  exact lv_ldc2 hx hb hown (hts _ hw9) hd (k A cy H locs ls cells slots h1 h2 h3 h4 hw hS hl h5 h6)
theorem ok_ldc2d {X : Xt} {cc : ByteArray} {own : String} {nL f L cb sb pc n : Nat} {lv : List (Nat × Value)} {st : List Value} {h : HP} (hc : Cx X cc own nL f L) {index : Nat} {v : UInt64} (hd : decode cc pc = .ok (.ldc2_w index, 3)) (hw9 : Cond.constantDouble own index v ∈ lw_all) (k : Ok X cb sb (pc + 3) lv (.double v :: st) n h) : Ok X cb sb pc lv (st) n h := by
  obtain ⟨p, l, e, R, s, m, args, below, meth, c, D, bs, A0, n0, Q⟩ := X
  obtain ⟨hx, hb, hown, hts, hml, hRf, hRl, hF, htr, hlk, hbs⟩ := hc
  intro A cy H locs ls cells slots h1 h2 h3 h4 hw hS hl h5 h6
  exact lv_ldc2d hx hb hown (hts _ hw9) hd (k A cy H locs ls cells slots h1 h2 h3 h4 hw hS hl h5 h6)
theorem ok_l2d {X : Xt} {cc : ByteArray} {own : String} {nL f L cb sb pc n : Nat} {lv : List (Nat × Value)} {st : List Value} {h : HP} (hc : Cx X cc own nL f L) {x : Int64} (hd : decode cc pc = .ok (.l2d, 1)) (k : Ok X cb sb (pc + 1) lv (.double (FP.l2d x) :: st) n h) : Ok X cb sb pc lv (.long x :: st) n h := by
  obtain ⟨p, l, e, R, s, m, args, below, meth, c, D, bs, A0, n0, Q⟩ := X
  obtain ⟨hx, hb, hown, hts, hml, hRf, hRl, hF, htr, hlk, hbs⟩ := hc
  intro A cy H locs ls cells slots h1 h2 h3 h4 hw hS hl h5 h6
  exact lv_l2d hx hb hd (k A cy H locs ls cells slots h1 h2 h3 h4 hw hS hl h5 h6)
theorem ok_i2d {X : Xt} {cc : ByteArray} {own : String} {nL f L cb sb pc n : Nat} {lv : List (Nat × Value)} {st : List Value} {h : HP} (hc : Cx X cc own nL f L) {x : Int32} (hd : decode cc pc = .ok (.i2d, 1)) (k : Ok X cb sb (pc + 1) lv (.double (FP.i2d x) :: st) n h) : Ok X cb sb pc lv (.int x :: st) n h := by
  obtain ⟨p, l, e, R, s, m, args, below, meth, c, D, bs, A0, n0, Q⟩ := X
  obtain ⟨hx, hb, hown, hts, hml, hRf, hRl, hF, htr, hlk, hbs⟩ := hc
  intro A cy H locs ls cells slots h1 h2 h3 h4 hw hS hl h5 h6
  exact lv_i2d hx hb hd (k A cy H locs ls cells slots h1 h2 h3 h4 hw hS hl h5 h6)
theorem ok_d2l {X : Xt} {cc : ByteArray} {own : String} {nL f L cb sb pc n : Nat} {lv : List (Nat × Value)} {st : List Value} {h : HP} (hc : Cx X cc own nL f L) {x : UInt64} (hd : decode cc pc = .ok (.d2l, 1)) (k : Ok X cb sb (pc + 1) lv (.long (FP.d2l x) :: st) n h) : Ok X cb sb pc lv (.double x :: st) n h := by
  obtain ⟨p, l, e, R, s, m, args, below, meth, c, D, bs, A0, n0, Q⟩ := X
  obtain ⟨hx, hb, hown, hts, hml, hRf, hRl, hF, htr, hlk, hbs⟩ := hc
  intro A cy H locs ls cells slots h1 h2 h3 h4 hw hS hl h5 h6
  exact lv_d2l hx hb hd (k A cy H locs ls cells slots h1 h2 h3 h4 hw hS hl h5 h6)
theorem ok_dneg {X : Xt} {cc : ByteArray} {own : String} {nL f L cb sb pc n : Nat} {lv : List (Nat × Value)} {st : List Value} {h : HP} (hc : Cx X cc own nL f L) {x : UInt64} (hd : decode cc pc = .ok (.dneg, 1)) (k : Ok X cb sb (pc + 1) lv (.double (FP.dneg x) :: st) n h) : Ok X cb sb pc lv (.double x :: st) n h := by
  obtain ⟨p, l, e, R, s, m, args, below, meth, c, D, bs, A0, n0, Q⟩ := X
  obtain ⟨hx, hb, hown, hts, hml, hRf, hRl, hF, htr, hlk, hbs⟩ := hc
  intro A cy H locs ls cells slots h1 h2 h3 h4 hw hS hl h5 h6
  exact lv_dneg hx hb hd (k A cy H locs ls cells slots h1 h2 h3 h4 hw hS hl h5 h6)
theorem ok_dcmp {X : Xt} {cc : ByteArray} {own : String} {nL f L cb sb pc n : Nat} {lv : List (Nat × Value)} {st : List Value} {h : HP} (hc : Cx X cc own nL f L) {x y : UInt64} {op : CmpOp} (hd : decode cc pc = .ok (.dcmp op, 1)) (k : Ok X cb sb (pc + 1) lv (.int (Op.cmpValue (FP.dcmp x y) op) :: st) n h) : Ok X cb sb pc lv (.double y :: .double x :: st) n h := by
  obtain ⟨p, l, e, R, s, m, args, below, meth, c, D, bs, A0, n0, Q⟩ := X
  obtain ⟨hx, hb, hown, hts, hml, hRf, hRl, hF, htr, hlk, hbs⟩ := hc
  intro A cy H locs ls cells slots h1 h2 h3 h4 hw hS hl h5 h6
  exact lv_dcmp hx hb hd (k A cy H locs ls cells slots h1 h2 h3 h4 hw hS hl h5 h6)
theorem ok_dadd {X : Xt} {cc : ByteArray} {own : String} {nL f L cb sb pc n : Nat} {lv : List (Nat × Value)} {st : List Value} {h : HP} (hc : Cx X cc own nL f L) {x y : UInt64} (hd : decode cc pc = .ok (.dadd, 1)) (hne : vf_n64 (FP.dadd x y)) (k : Ok X cb sb (pc + 1) lv (.double (FP.dadd x y) :: st) n h) : Ok X cb sb pc lv (.double y :: .double x :: st) n h := by
  obtain ⟨p, l, e, R, s, m, args, below, meth, c, D, bs, A0, n0, Q⟩ := X
  obtain ⟨hx, hb, hown, hts, hml, hRf, hRl, hF, htr, hlk, hbs⟩ := hc
  intro A cy H locs ls cells slots h1 h2 h3 h4 hw hS hl h5 h6
  exact lv_dadd hx hb hd hne (k A cy H locs ls cells slots h1 h2 h3 h4 hw hS hl h5 h6)
theorem ok_dsub {X : Xt} {cc : ByteArray} {own : String} {nL f L cb sb pc n : Nat} {lv : List (Nat × Value)} {st : List Value} {h : HP} (hc : Cx X cc own nL f L) {x y : UInt64} (hd : decode cc pc = .ok (.dsub, 1)) (hne : vf_n64 (FP.dsub x y)) (k : Ok X cb sb (pc + 1) lv (.double (FP.dsub x y) :: st) n h) : Ok X cb sb pc lv (.double y :: .double x :: st) n h := by
  obtain ⟨p, l, e, R, s, m, args, below, meth, c, D, bs, A0, n0, Q⟩ := X
  obtain ⟨hx, hb, hown, hts, hml, hRf, hRl, hF, htr, hlk, hbs⟩ := hc
  intro A cy H locs ls cells slots h1 h2 h3 h4 hw hS hl h5 h6
  exact lv_dsub hx hb hd hne (k A cy H locs ls cells slots h1 h2 h3 h4 hw hS hl h5 h6)
theorem ok_dmul {X : Xt} {cc : ByteArray} {own : String} {nL f L cb sb pc n : Nat} {lv : List (Nat × Value)} {st : List Value} {h : HP} (hc : Cx X cc own nL f L) {x y : UInt64} (hd : decode cc pc = .ok (.dmul, 1)) (hne : vf_n64 (FP.dmul x y)) (k : Ok X cb sb (pc + 1) lv (.double (FP.dmul x y) :: st) n h) : Ok X cb sb pc lv (.double y :: .double x :: st) n h := by
  obtain ⟨p, l, e, R, s, m, args, below, meth, c, D, bs, A0, n0, Q⟩ := X
  obtain ⟨hx, hb, hown, hts, hml, hRf, hRl, hF, htr, hlk, hbs⟩ := hc
  intro A cy H locs ls cells slots h1 h2 h3 h4 hw hS hl h5 h6
  exact lv_dmul hx hb hd hne (k A cy H locs ls cells slots h1 h2 h3 h4 hw hS hl h5 h6)
theorem ok_ddiv {X : Xt} {cc : ByteArray} {own : String} {nL f L cb sb pc n : Nat} {lv : List (Nat × Value)} {st : List Value} {h : HP} (hc : Cx X cc own nL f L) {x y : UInt64} (hd : decode cc pc = .ok (.ddiv, 1)) (hne : vf_n64 (FP.ddiv x y)) (k : Ok X cb sb (pc + 1) lv (.double (FP.ddiv x y) :: st) n h) : Ok X cb sb pc lv (.double y :: .double x :: st) n h := by
  obtain ⟨p, l, e, R, s, m, args, below, meth, c, D, bs, A0, n0, Q⟩ := X
  obtain ⟨hx, hb, hown, hts, hml, hRf, hRl, hF, htr, hlk, hbs⟩ := hc
  intro A cy H locs ls cells slots h1 h2 h3 h4 hw hS hl h5 h6
  exact lv_ddiv hx hb hd hne (k A cy H locs ls cells slots h1 h2 h3 h4 hw hS hl h5 h6)
theorem ok_dup {X : Xt} {cc : ByteArray} {own : String} {nL f L cb sb pc n : Nat} {lv : List (Nat × Value)} {st : List Value} {h : HP} (hc : Cx X cc own nL f L) {a : Value} (hd : decode cc pc = .ok (.dup, 1)) (ha : a.category = 1) (k : Ok X cb sb (pc + 1) lv (a :: a :: st) n h) : Ok X cb sb pc lv (a :: st) n h := by
  obtain ⟨p, l, e, R, s, m, args, below, meth, c, D, bs, A0, n0, Q⟩ := X
  obtain ⟨hx, hb, hown, hts, hml, hRf, hRl, hF, htr, hlk, hbs⟩ := hc
  intro A cy H locs ls cells slots h1 h2 h3 h4 hw hS hl h5 h6
  exact lv_dup hx hb hd ((trV_cat A a).trans ha) (k A cy H locs ls cells slots h1 h2 h3 h4 hw hS hl h5 h6)
theorem ok_dup2_11 {X : Xt} {cc : ByteArray} {own : String} {nL f L cb sb pc n : Nat} {lv : List (Nat × Value)} {st : List Value} {h : HP} (hc : Cx X cc own nL f L) {a b : Value} (hd : decode cc pc = .ok (.dup2, 1)) (ha : a.category = 1) (hb9 : b.category = 1) (k : Ok X cb sb (pc + 1) lv (a :: b :: a :: b :: st) n h) : Ok X cb sb pc lv (a :: b :: st) n h := by
  obtain ⟨p, l, e, R, s, m, args, below, meth, c, D, bs, A0, n0, Q⟩ := X
  obtain ⟨hx, hb, hown, hts, hml, hRf, hRl, hF, htr, hlk, hbs⟩ := hc
  intro A cy H locs ls cells slots h1 h2 h3 h4 hw hS hl h5 h6
  exact lv_dup2_11 hx hb hd ((trV_cat A a).trans ha) ((trV_cat A b).trans hb9) (k A cy H locs ls cells slots h1 h2 h3 h4 hw hS hl h5 h6)
theorem ok_dup2_2 {X : Xt} {cc : ByteArray} {own : String} {nL f L cb sb pc n : Nat} {lv : List (Nat × Value)} {st : List Value} {h : HP} (hc : Cx X cc own nL f L) {a : Value} (hd : decode cc pc = .ok (.dup2, 1)) (ha : a.category = 2) (k : Ok X cb sb (pc + 1) lv (a :: a :: st) n h) : Ok X cb sb pc lv (a :: st) n h := by
  obtain ⟨p, l, e, R, s, m, args, below, meth, c, D, bs, A0, n0, Q⟩ := X
  obtain ⟨hx, hb, hown, hts, hml, hRf, hRl, hF, htr, hlk, hbs⟩ := hc
  intro A cy H locs ls cells slots h1 h2 h3 h4 hw hS hl h5 h6
  exact lv_dup2_2 hx hb hd ((trV_cat A a).trans ha) (k A cy H locs ls cells slots h1 h2 h3 h4 hw hS hl h5 h6)
theorem ok_pop {X : Xt} {cc : ByteArray} {own : String} {nL f L cb sb pc n : Nat} {lv : List (Nat × Value)} {st : List Value} {h : HP} (hc : Cx X cc own nL f L) {a : Value} (hd : decode cc pc = .ok (.pop, 1)) (ha : a.category = 1) (k : Ok X cb sb (pc + 1) lv (st) n h) : Ok X cb sb pc lv (a :: st) n h := by
  obtain ⟨p, l, e, R, s, m, args, below, meth, c, D, bs, A0, n0, Q⟩ := X
  obtain ⟨hx, hb, hown, hts, hml, hRf, hRl, hF, htr, hlk, hbs⟩ := hc
  intro A cy H locs ls cells slots h1 h2 h3 h4 hw hS hl h5 h6
  exact lv_pop hx hb hd ((trV_cat A a).trans ha) (k A cy H locs ls cells slots h1 h2 h3 h4 hw hS hl h5 h6)
theorem ok_iload_n {X : Xt} {cc : ByteArray} {own : String} {nL f L cb sb pc n : Nat} {lv : List (Nat × Value)} {st : List Value} {h : HP} (hc : Cx X cc own nL f L) {k9 : Fin 4} {i : Nat} {x : Int32} (hd : decode cc pc = .ok (.iload_n k9, 1)) (hi : (k9 : Nat) = i) (q : Nat) (hk : lv[q]? = some (i, .int x)) (k : Ok X cb sb (pc + 1) lv (.int x :: st) n h) : Ok X cb sb pc lv st n h := by
  obtain ⟨p, l, e, R, s, m, args, below, meth, c, D, bs, A0, n0, Q⟩ := X
  obtain ⟨hx, hb, hown, hts, hml, hRf, hRl, hF, htr, hlk, hbs⟩ := hc
  intro A cy H locs ls cells slots h1 h2 h3 h4 hw hS hl h5 h6
  exact lv_iload_n hx hb hd hi (lv_at hl q (i := i) (v := .int x) (by rw [List.getElem?_map, hk]; rfl)) (k A cy H locs ls cells slots h1 h2 h3 h4 hw hS hl h5 h6)
theorem ok_iload {X : Xt} {cc : ByteArray} {own : String} {nL f L cb sb pc n : Nat} {lv : List (Nat × Value)} {st : List Value} {h : HP} (hc : Cx X cc own nL f L) {i : Nat} {x : Int32} (hd : decode cc pc = .ok (.iload i, 2)) (q : Nat) (hk : lv[q]? = some (i, .int x)) (k : Ok X cb sb (pc + 2) lv (.int x :: st) n h) : Ok X cb sb pc lv st n h := by
  obtain ⟨p, l, e, R, s, m, args, below, meth, c, D, bs, A0, n0, Q⟩ := X
  obtain ⟨hx, hb, hown, hts, hml, hRf, hRl, hF, htr, hlk, hbs⟩ := hc
  intro A cy H locs ls cells slots h1 h2 h3 h4 hw hS hl h5 h6
  exact lv_iload hx hb hd (lv_at hl q (i := i) (v := .int x) (by rw [List.getElem?_map, hk]; rfl)) (k A cy H locs ls cells slots h1 h2 h3 h4 hw hS hl h5 h6)
theorem ok_istore_n {X : Xt} {cc : ByteArray} {own : String} {nL f L cb sb pc n : Nat} {lv : List (Nat × Value)} {st : List Value} {h : HP} (hc : Cx X cc own nL f L) {k9 : Fin 4} {i : Nat} {x : Int32} {lv' : List (Nat × Value)} (hd : decode cc pc = .ok (.istore_n k9, 1)) (hi : (k9 : Nat) = i) (hn : i < nL) (hl' : stL1 lv i (.int x) = lv') (k : Ok X cb sb (pc + 1) lv' st n h) : Ok X cb sb pc lv (.int x :: st) n h := by
  obtain ⟨p, l, e, R, s, m, args, below, meth, c, D, bs, A0, n0, Q⟩ := X
  obtain ⟨hx, hb, hown, hts, hml, hRf, hRl, hF, htr, hlk, hbs⟩ := hc
  intro A cy H locs ls cells slots h1 h2 h3 h4 hw hS hl h5 h6
  subst hl'
  exact lv_istore_n hx hb hd hi hl (by rw [hml]; exact hn) (stL1_map A lv i (.int x)) (fun ls' hl' => k A cy H locs ls' cells slots h1 h2 h3 h4 hw hS hl' h5 h6)
theorem ok_istore {X : Xt} {cc : ByteArray} {own : String} {nL f L cb sb pc n : Nat} {lv : List (Nat × Value)} {st : List Value} {h : HP} (hc : Cx X cc own nL f L) {i : Nat} {x : Int32} {lv' : List (Nat × Value)} (hd : decode cc pc = .ok (.istore i, 2)) (hn : i < nL) (hl' : stL1 lv i (.int x) = lv') (k : Ok X cb sb (pc + 2) lv' st n h) : Ok X cb sb pc lv (.int x :: st) n h := by
  obtain ⟨p, l, e, R, s, m, args, below, meth, c, D, bs, A0, n0, Q⟩ := X
  obtain ⟨hx, hb, hown, hts, hml, hRf, hRl, hF, htr, hlk, hbs⟩ := hc
  intro A cy H locs ls cells slots h1 h2 h3 h4 hw hS hl h5 h6
  subst hl'
  exact lv_istore hx hb hd hl (by rw [hml]; exact hn) (stL1_map A lv i (.int x)) (fun ls' hl' => k A cy H locs ls' cells slots h1 h2 h3 h4 hw hS hl' h5 h6)
theorem ok_lload_n {X : Xt} {cc : ByteArray} {own : String} {nL f L cb sb pc n : Nat} {lv : List (Nat × Value)} {st : List Value} {h : HP} (hc : Cx X cc own nL f L) {k9 : Fin 4} {i : Nat} {x : Int64} (hd : decode cc pc = .ok (.lload_n k9, 1)) (hi : (k9 : Nat) = i) (q : Nat) (hk : lv[q]? = some (i, .long x)) (k : Ok X cb sb (pc + 1) lv (.long x :: st) n h) : Ok X cb sb pc lv st n h := by
  obtain ⟨p, l, e, R, s, m, args, below, meth, c, D, bs, A0, n0, Q⟩ := X
  obtain ⟨hx, hb, hown, hts, hml, hRf, hRl, hF, htr, hlk, hbs⟩ := hc
  intro A cy H locs ls cells slots h1 h2 h3 h4 hw hS hl h5 h6
  exact lv_lload_n hx hb hd hi (lv_at hl q (i := i) (v := .long x) (by rw [List.getElem?_map, hk]; rfl)) (k A cy H locs ls cells slots h1 h2 h3 h4 hw hS hl h5 h6)
theorem ok_lload {X : Xt} {cc : ByteArray} {own : String} {nL f L cb sb pc n : Nat} {lv : List (Nat × Value)} {st : List Value} {h : HP} (hc : Cx X cc own nL f L) {i : Nat} {x : Int64} (hd : decode cc pc = .ok (.lload i, 2)) (q : Nat) (hk : lv[q]? = some (i, .long x)) (k : Ok X cb sb (pc + 2) lv (.long x :: st) n h) : Ok X cb sb pc lv st n h := by
  obtain ⟨p, l, e, R, s, m, args, below, meth, c, D, bs, A0, n0, Q⟩ := X
  obtain ⟨hx, hb, hown, hts, hml, hRf, hRl, hF, htr, hlk, hbs⟩ := hc
  intro A cy H locs ls cells slots h1 h2 h3 h4 hw hS hl h5 h6
  exact lv_lload hx hb hd (lv_at hl q (i := i) (v := .long x) (by rw [List.getElem?_map, hk]; rfl)) (k A cy H locs ls cells slots h1 h2 h3 h4 hw hS hl h5 h6)
theorem ok_lstore_n {X : Xt} {cc : ByteArray} {own : String} {nL f L cb sb pc n : Nat} {lv : List (Nat × Value)} {st : List Value} {h : HP} (hc : Cx X cc own nL f L) {k9 : Fin 4} {i : Nat} {x : Int64} {lv' : List (Nat × Value)} (hd : decode cc pc = .ok (.lstore_n k9, 1)) (hi : (k9 : Nat) = i) (hn : i + 1 < nL) (hl' : stL2 lv i (.long x) = lv') (k : Ok X cb sb (pc + 1) lv' st n h) : Ok X cb sb pc lv (.long x :: st) n h := by
  obtain ⟨p, l, e, R, s, m, args, below, meth, c, D, bs, A0, n0, Q⟩ := X
  obtain ⟨hx, hb, hown, hts, hml, hRf, hRl, hF, htr, hlk, hbs⟩ := hc
  intro A cy H locs ls cells slots h1 h2 h3 h4 hw hS hl h5 h6
  subst hl'
  exact lv_lstore_n hx hb hd hi hl (by rw [hml]; exact hn) (stL2_map A lv i (.long x)) (fun ls' hl' => k A cy H locs ls' cells slots h1 h2 h3 h4 hw hS hl' h5 h6)
theorem ok_lstore {X : Xt} {cc : ByteArray} {own : String} {nL f L cb sb pc n : Nat} {lv : List (Nat × Value)} {st : List Value} {h : HP} (hc : Cx X cc own nL f L) {i : Nat} {x : Int64} {lv' : List (Nat × Value)} (hd : decode cc pc = .ok (.lstore i, 2)) (hn : i + 1 < nL) (hl' : stL2 lv i (.long x) = lv') (k : Ok X cb sb (pc + 2) lv' st n h) : Ok X cb sb pc lv (.long x :: st) n h := by
  obtain ⟨p, l, e, R, s, m, args, below, meth, c, D, bs, A0, n0, Q⟩ := X
  obtain ⟨hx, hb, hown, hts, hml, hRf, hRl, hF, htr, hlk, hbs⟩ := hc
  intro A cy H locs ls cells slots h1 h2 h3 h4 hw hS hl h5 h6
  subst hl'
  exact lv_lstore hx hb hd hl (by rw [hml]; exact hn) (stL2_map A lv i (.long x)) (fun ls' hl' => k A cy H locs ls' cells slots h1 h2 h3 h4 hw hS hl' h5 h6)
theorem ok_aload_n {X : Xt} {cc : ByteArray} {own : String} {nL f L cb sb pc n : Nat} {lv : List (Nat × Value)} {st : List Value} {h : HP} (hc : Cx X cc own nL f L) {k9 : Fin 4} {i : Nat} {x : Nat} (hd : decode cc pc = .ok (.aload_n k9, 1)) (hi : (k9 : Nat) = i) (q : Nat) (hk : lv[q]? = some (i, .ref x)) (k : Ok X cb sb (pc + 1) lv (.ref x :: st) n h) : Ok X cb sb pc lv st n h := by
  obtain ⟨p, l, e, R, s, m, args, below, meth, c, D, bs, A0, n0, Q⟩ := X
  obtain ⟨hx, hb, hown, hts, hml, hRf, hRl, hF, htr, hlk, hbs⟩ := hc
  intro A cy H locs ls cells slots h1 h2 h3 h4 hw hS hl h5 h6
  exact lv_aload_n hx hb hd hi (lv_at hl q (i := i) (v := .ref (A x)) (by rw [List.getElem?_map, hk]; rfl)) (k A cy H locs ls cells slots h1 h2 h3 h4 hw hS hl h5 h6)
theorem ok_aload {X : Xt} {cc : ByteArray} {own : String} {nL f L cb sb pc n : Nat} {lv : List (Nat × Value)} {st : List Value} {h : HP} (hc : Cx X cc own nL f L) {i : Nat} {x : Nat} (hd : decode cc pc = .ok (.aload i, 2)) (q : Nat) (hk : lv[q]? = some (i, .ref x)) (k : Ok X cb sb (pc + 2) lv (.ref x :: st) n h) : Ok X cb sb pc lv st n h := by
  obtain ⟨p, l, e, R, s, m, args, below, meth, c, D, bs, A0, n0, Q⟩ := X
  obtain ⟨hx, hb, hown, hts, hml, hRf, hRl, hF, htr, hlk, hbs⟩ := hc
  intro A cy H locs ls cells slots h1 h2 h3 h4 hw hS hl h5 h6
  exact lv_aload hx hb hd (lv_at hl q (i := i) (v := .ref (A x)) (by rw [List.getElem?_map, hk]; rfl)) (k A cy H locs ls cells slots h1 h2 h3 h4 hw hS hl h5 h6)
theorem ok_astore_n {X : Xt} {cc : ByteArray} {own : String} {nL f L cb sb pc n : Nat} {lv : List (Nat × Value)} {st : List Value} {h : HP} (hc : Cx X cc own nL f L) {k9 : Fin 4} {i : Nat} {x : Nat} {lv' : List (Nat × Value)} (hd : decode cc pc = .ok (.astore_n k9, 1)) (hi : (k9 : Nat) = i) (hn : i < nL) (hl' : stL1 lv i (.ref x) = lv') (k : Ok X cb sb (pc + 1) lv' st n h) : Ok X cb sb pc lv (.ref x :: st) n h := by
  obtain ⟨p, l, e, R, s, m, args, below, meth, c, D, bs, A0, n0, Q⟩ := X
  obtain ⟨hx, hb, hown, hts, hml, hRf, hRl, hF, htr, hlk, hbs⟩ := hc
  intro A cy H locs ls cells slots h1 h2 h3 h4 hw hS hl h5 h6
  subst hl'
  exact lv_astore_n hx hb hd hi hl (by rw [hml]; exact hn) (stL1_map A lv i (.ref x)) (fun ls' hl' => k A cy H locs ls' cells slots h1 h2 h3 h4 hw hS hl' h5 h6)
theorem ok_astore {X : Xt} {cc : ByteArray} {own : String} {nL f L cb sb pc n : Nat} {lv : List (Nat × Value)} {st : List Value} {h : HP} (hc : Cx X cc own nL f L) {i : Nat} {x : Nat} {lv' : List (Nat × Value)} (hd : decode cc pc = .ok (.astore i, 2)) (hn : i < nL) (hl' : stL1 lv i (.ref x) = lv') (k : Ok X cb sb (pc + 2) lv' st n h) : Ok X cb sb pc lv (.ref x :: st) n h := by
  obtain ⟨p, l, e, R, s, m, args, below, meth, c, D, bs, A0, n0, Q⟩ := X
  obtain ⟨hx, hb, hown, hts, hml, hRf, hRl, hF, htr, hlk, hbs⟩ := hc
  intro A cy H locs ls cells slots h1 h2 h3 h4 hw hS hl h5 h6
  subst hl'
  exact lv_astore hx hb hd hl (by rw [hml]; exact hn) (stL1_map A lv i (.ref x)) (fun ls' hl' => k A cy H locs ls' cells slots h1 h2 h3 h4 hw hS hl' h5 h6)
theorem ok_dload_n {X : Xt} {cc : ByteArray} {own : String} {nL f L cb sb pc n : Nat} {lv : List (Nat × Value)} {st : List Value} {h : HP} (hc : Cx X cc own nL f L) {k9 : Fin 4} {i : Nat} {x : UInt64} (hd : decode cc pc = .ok (.dload_n k9, 1)) (hi : (k9 : Nat) = i) (q : Nat) (hk : lv[q]? = some (i, .double x)) (k : Ok X cb sb (pc + 1) lv (.double x :: st) n h) : Ok X cb sb pc lv st n h := by
  obtain ⟨p, l, e, R, s, m, args, below, meth, c, D, bs, A0, n0, Q⟩ := X
  obtain ⟨hx, hb, hown, hts, hml, hRf, hRl, hF, htr, hlk, hbs⟩ := hc
  intro A cy H locs ls cells slots h1 h2 h3 h4 hw hS hl h5 h6
  exact lv_dload_n hx hb hd hi (lv_at hl q (i := i) (v := .double x) (by rw [List.getElem?_map, hk]; rfl)) (k A cy H locs ls cells slots h1 h2 h3 h4 hw hS hl h5 h6)
theorem ok_dload {X : Xt} {cc : ByteArray} {own : String} {nL f L cb sb pc n : Nat} {lv : List (Nat × Value)} {st : List Value} {h : HP} (hc : Cx X cc own nL f L) {i : Nat} {x : UInt64} (hd : decode cc pc = .ok (.dload i, 2)) (q : Nat) (hk : lv[q]? = some (i, .double x)) (k : Ok X cb sb (pc + 2) lv (.double x :: st) n h) : Ok X cb sb pc lv st n h := by
  obtain ⟨p, l, e, R, s, m, args, below, meth, c, D, bs, A0, n0, Q⟩ := X
  obtain ⟨hx, hb, hown, hts, hml, hRf, hRl, hF, htr, hlk, hbs⟩ := hc
  intro A cy H locs ls cells slots h1 h2 h3 h4 hw hS hl h5 h6
  exact lv_dload hx hb hd (lv_at hl q (i := i) (v := .double x) (by rw [List.getElem?_map, hk]; rfl)) (k A cy H locs ls cells slots h1 h2 h3 h4 hw hS hl h5 h6)
theorem ok_dstore_n {X : Xt} {cc : ByteArray} {own : String} {nL f L cb sb pc n : Nat} {lv : List (Nat × Value)} {st : List Value} {h : HP} (hc : Cx X cc own nL f L) {k9 : Fin 4} {i : Nat} {x : UInt64} {lv' : List (Nat × Value)} (hd : decode cc pc = .ok (.dstore_n k9, 1)) (hi : (k9 : Nat) = i) (hn : i + 1 < nL) (hl' : stL2 lv i (.double x) = lv') (k : Ok X cb sb (pc + 1) lv' st n h) : Ok X cb sb pc lv (.double x :: st) n h := by
  obtain ⟨p, l, e, R, s, m, args, below, meth, c, D, bs, A0, n0, Q⟩ := X
  obtain ⟨hx, hb, hown, hts, hml, hRf, hRl, hF, htr, hlk, hbs⟩ := hc
  intro A cy H locs ls cells slots h1 h2 h3 h4 hw hS hl h5 h6
  subst hl'
  exact lv_dstore_n hx hb hd hi hl (by rw [hml]; exact hn) (stL2_map A lv i (.double x)) (fun ls' hl' => k A cy H locs ls' cells slots h1 h2 h3 h4 hw hS hl' h5 h6)
theorem ok_dstore {X : Xt} {cc : ByteArray} {own : String} {nL f L cb sb pc n : Nat} {lv : List (Nat × Value)} {st : List Value} {h : HP} (hc : Cx X cc own nL f L) {i : Nat} {x : UInt64} {lv' : List (Nat × Value)} (hd : decode cc pc = .ok (.dstore i, 2)) (hn : i + 1 < nL) (hl' : stL2 lv i (.double x) = lv') (k : Ok X cb sb (pc + 2) lv' st n h) : Ok X cb sb pc lv (.double x :: st) n h := by
  obtain ⟨p, l, e, R, s, m, args, below, meth, c, D, bs, A0, n0, Q⟩ := X
  obtain ⟨hx, hb, hown, hts, hml, hRf, hRl, hF, htr, hlk, hbs⟩ := hc
  intro A cy H locs ls cells slots h1 h2 h3 h4 hw hS hl h5 h6
  subst hl'
  exact lv_dstore hx hb hd hl (by rw [hml]; exact hn) (stL2_map A lv i (.double x)) (fun ls' hl' => k A cy H locs ls' cells slots h1 h2 h3 h4 hw hS hl' h5 h6)
theorem ok_iinc {X : Xt} {cc : ByteArray} {own : String} {nL f L cb sb pc n : Nat} {lv : List (Nat × Value)} {st : List Value} {h : HP} (hc : Cx X cc own nL f L) {i q : Nat} {a : Int} {x v : Int32} {lv' : List (Nat × Value)} (hd : decode cc pc = .ok (.iinc i a, 3)) (hk : lv[q]? = some (i, .int x)) (hv : x + Int32.ofInt a = v) (hn : i < nL) (hl' : stL1 lv i (.int v) = lv') (k : Ok X cb sb (pc + 3) lv' st n h) : Ok X cb sb pc lv st n h := by
  obtain ⟨p, l, e, R, s, m, args, below, meth, c, D, bs, A0, n0, Q⟩ := X
  obtain ⟨hx, hb, hown, hts, hml, hRf, hRl, hF, htr, hlk, hbs⟩ := hc
  intro A cy H locs ls cells slots h1 h2 h3 h4 hw hS hl h5 h6
  subst hl'
  exact lv_iinc (k := q) hx hb hd hl (by rw [List.getElem?_map, hk]; rfl) hv (by rw [hml]; exact hn) (stL1_map A lv i (.int v)) (fun ls' hl' => k A cy H locs ls' cells slots h1 h2 h3 h4 hw hS hl' h5 h6)
theorem ok_if_eq {X : Xt} {cc : ByteArray} {own : String} {nL f L cb sb pc n : Nat} {lv : List (Nat × Value)} {st : List Value} {h : HP} (hc : Cx X cc own nL f L) {x : Int32} {off : Int} {tgt : Nat} (hd : decode cc pc = .ok (.ifCond .eq off, 3)) (ht : (pc : Int) + off = (tgt : Int)) (kt : x = 0 → Ok X cb sb tgt lv st n h) (kf : ¬ x = 0 → Ok X cb sb (pc + 3) lv st n h) : Ok X cb sb pc lv (.int x :: st) n h := by
  obtain ⟨p, l, e, R, s, m, args, below, meth, c, D, bs, A0, n0, Q⟩ := X
  obtain ⟨hx, hb, hown, hts, hml, hRf, hRl, hF, htr, hlk, hbs⟩ := hc
  intro A cy H locs ls cells slots h1 h2 h3 h4 hw hS hl h5 h6
  exact lv_if_eq hx hb hd ht (fun q9 => (kt q9) A cy H locs ls cells slots h1 h2 h3 h4 hw hS hl h5 h6) (fun q9 => (kf q9) A cy H locs ls cells slots h1 h2 h3 h4 hw hS hl h5 h6)
theorem ok_if_ne {X : Xt} {cc : ByteArray} {own : String} {nL f L cb sb pc n : Nat} {lv : List (Nat × Value)} {st : List Value} {h : HP} (hc : Cx X cc own nL f L) {x : Int32} {off : Int} {tgt : Nat} (hd : decode cc pc = .ok (.ifCond .ne off, 3)) (ht : (pc : Int) + off = (tgt : Int)) (kt : ¬ x = 0 → Ok X cb sb tgt lv st n h) (kf : x = 0 → Ok X cb sb (pc + 3) lv st n h) : Ok X cb sb pc lv (.int x :: st) n h := by
  obtain ⟨p, l, e, R, s, m, args, below, meth, c, D, bs, A0, n0, Q⟩ := X
  obtain ⟨hx, hb, hown, hts, hml, hRf, hRl, hF, htr, hlk, hbs⟩ := hc
  intro A cy H locs ls cells slots h1 h2 h3 h4 hw hS hl h5 h6
  exact lv_if_ne hx hb hd ht (fun q9 => (kt q9) A cy H locs ls cells slots h1 h2 h3 h4 hw hS hl h5 h6) (fun q9 => (kf q9) A cy H locs ls cells slots h1 h2 h3 h4 hw hS hl h5 h6)
theorem ok_if_lt {X : Xt} {cc : ByteArray} {own : String} {nL f L cb sb pc n : Nat} {lv : List (Nat × Value)} {st : List Value} {h : HP} (hc : Cx X cc own nL f L) {x : Int32} {off : Int} {tgt : Nat} (hd : decode cc pc = .ok (.ifCond .lt off, 3)) (ht : (pc : Int) + off = (tgt : Int)) (kt : x < 0 → Ok X cb sb tgt lv st n h) (kf : ¬ x < 0 → Ok X cb sb (pc + 3) lv st n h) : Ok X cb sb pc lv (.int x :: st) n h := by
  obtain ⟨p, l, e, R, s, m, args, below, meth, c, D, bs, A0, n0, Q⟩ := X
  obtain ⟨hx, hb, hown, hts, hml, hRf, hRl, hF, htr, hlk, hbs⟩ := hc
  intro A cy H locs ls cells slots h1 h2 h3 h4 hw hS hl h5 h6
  exact lv_if_lt hx hb hd ht (fun q9 => (kt q9) A cy H locs ls cells slots h1 h2 h3 h4 hw hS hl h5 h6) (fun q9 => (kf q9) A cy H locs ls cells slots h1 h2 h3 h4 hw hS hl h5 h6)
theorem ok_if_ge {X : Xt} {cc : ByteArray} {own : String} {nL f L cb sb pc n : Nat} {lv : List (Nat × Value)} {st : List Value} {h : HP} (hc : Cx X cc own nL f L) {x : Int32} {off : Int} {tgt : Nat} (hd : decode cc pc = .ok (.ifCond .ge off, 3)) (ht : (pc : Int) + off = (tgt : Int)) (kt : 0 ≤ x → Ok X cb sb tgt lv st n h) (kf : ¬ 0 ≤ x → Ok X cb sb (pc + 3) lv st n h) : Ok X cb sb pc lv (.int x :: st) n h := by
  obtain ⟨p, l, e, R, s, m, args, below, meth, c, D, bs, A0, n0, Q⟩ := X
  obtain ⟨hx, hb, hown, hts, hml, hRf, hRl, hF, htr, hlk, hbs⟩ := hc
  intro A cy H locs ls cells slots h1 h2 h3 h4 hw hS hl h5 h6
  exact lv_if_ge hx hb hd ht (fun q9 => (kt q9) A cy H locs ls cells slots h1 h2 h3 h4 hw hS hl h5 h6) (fun q9 => (kf q9) A cy H locs ls cells slots h1 h2 h3 h4 hw hS hl h5 h6)
theorem ok_if_gt {X : Xt} {cc : ByteArray} {own : String} {nL f L cb sb pc n : Nat} {lv : List (Nat × Value)} {st : List Value} {h : HP} (hc : Cx X cc own nL f L) {x : Int32} {off : Int} {tgt : Nat} (hd : decode cc pc = .ok (.ifCond .gt off, 3)) (ht : (pc : Int) + off = (tgt : Int)) (kt : 0 < x → Ok X cb sb tgt lv st n h) (kf : ¬ 0 < x → Ok X cb sb (pc + 3) lv st n h) : Ok X cb sb pc lv (.int x :: st) n h := by
  obtain ⟨p, l, e, R, s, m, args, below, meth, c, D, bs, A0, n0, Q⟩ := X
  obtain ⟨hx, hb, hown, hts, hml, hRf, hRl, hF, htr, hlk, hbs⟩ := hc
  intro A cy H locs ls cells slots h1 h2 h3 h4 hw hS hl h5 h6
  exact lv_if_gt hx hb hd ht (fun q9 => (kt q9) A cy H locs ls cells slots h1 h2 h3 h4 hw hS hl h5 h6) (fun q9 => (kf q9) A cy H locs ls cells slots h1 h2 h3 h4 hw hS hl h5 h6)
theorem ok_if_le {X : Xt} {cc : ByteArray} {own : String} {nL f L cb sb pc n : Nat} {lv : List (Nat × Value)} {st : List Value} {h : HP} (hc : Cx X cc own nL f L) {x : Int32} {off : Int} {tgt : Nat} (hd : decode cc pc = .ok (.ifCond .le off, 3)) (ht : (pc : Int) + off = (tgt : Int)) (kt : x ≤ 0 → Ok X cb sb tgt lv st n h) (kf : ¬ x ≤ 0 → Ok X cb sb (pc + 3) lv st n h) : Ok X cb sb pc lv (.int x :: st) n h := by
  obtain ⟨p, l, e, R, s, m, args, below, meth, c, D, bs, A0, n0, Q⟩ := X
  obtain ⟨hx, hb, hown, hts, hml, hRf, hRl, hF, htr, hlk, hbs⟩ := hc
  intro A cy H locs ls cells slots h1 h2 h3 h4 hw hS hl h5 h6
  exact lv_if_le hx hb hd ht (fun q9 => (kt q9) A cy H locs ls cells slots h1 h2 h3 h4 hw hS hl h5 h6) (fun q9 => (kf q9) A cy H locs ls cells slots h1 h2 h3 h4 hw hS hl h5 h6)
theorem ok_icmp_eq {X : Xt} {cc : ByteArray} {own : String} {nL f L cb sb pc n : Nat} {lv : List (Nat × Value)} {st : List Value} {h : HP} (hc : Cx X cc own nL f L) {x y : Int32} {off : Int} {tgt : Nat} (hd : decode cc pc = .ok (.if_icmp .eq off, 3)) (ht : (pc : Int) + off = (tgt : Int)) (kt : x = y → Ok X cb sb tgt lv st n h) (kf : ¬ x = y → Ok X cb sb (pc + 3) lv st n h) : Ok X cb sb pc lv (.int y :: .int x :: st) n h := by
  obtain ⟨p, l, e, R, s, m, args, below, meth, c, D, bs, A0, n0, Q⟩ := X
  obtain ⟨hx, hb, hown, hts, hml, hRf, hRl, hF, htr, hlk, hbs⟩ := hc
  intro A cy H locs ls cells slots h1 h2 h3 h4 hw hS hl h5 h6
  exact lv_icmp_eq hx hb hd ht (fun q9 => (kt q9) A cy H locs ls cells slots h1 h2 h3 h4 hw hS hl h5 h6) (fun q9 => (kf q9) A cy H locs ls cells slots h1 h2 h3 h4 hw hS hl h5 h6)
theorem ok_icmp_ne {X : Xt} {cc : ByteArray} {own : String} {nL f L cb sb pc n : Nat} {lv : List (Nat × Value)} {st : List Value} {h : HP} (hc : Cx X cc own nL f L) {x y : Int32} {off : Int} {tgt : Nat} (hd : decode cc pc = .ok (.if_icmp .ne off, 3)) (ht : (pc : Int) + off = (tgt : Int)) (kt : ¬ x = y → Ok X cb sb tgt lv st n h) (kf : x = y → Ok X cb sb (pc + 3) lv st n h) : Ok X cb sb pc lv (.int y :: .int x :: st) n h := by
  obtain ⟨p, l, e, R, s, m, args, below, meth, c, D, bs, A0, n0, Q⟩ := X
  obtain ⟨hx, hb, hown, hts, hml, hRf, hRl, hF, htr, hlk, hbs⟩ := hc
  intro A cy H locs ls cells slots h1 h2 h3 h4 hw hS hl h5 h6
  exact lv_icmp_ne hx hb hd ht (fun q9 => (kt q9) A cy H locs ls cells slots h1 h2 h3 h4 hw hS hl h5 h6) (fun q9 => (kf q9) A cy H locs ls cells slots h1 h2 h3 h4 hw hS hl h5 h6)
theorem ok_icmp_lt {X : Xt} {cc : ByteArray} {own : String} {nL f L cb sb pc n : Nat} {lv : List (Nat × Value)} {st : List Value} {h : HP} (hc : Cx X cc own nL f L) {x y : Int32} {off : Int} {tgt : Nat} (hd : decode cc pc = .ok (.if_icmp .lt off, 3)) (ht : (pc : Int) + off = (tgt : Int)) (kt : x < y → Ok X cb sb tgt lv st n h) (kf : ¬ x < y → Ok X cb sb (pc + 3) lv st n h) : Ok X cb sb pc lv (.int y :: .int x :: st) n h := by
  obtain ⟨p, l, e, R, s, m, args, below, meth, c, D, bs, A0, n0, Q⟩ := X
  obtain ⟨hx, hb, hown, hts, hml, hRf, hRl, hF, htr, hlk, hbs⟩ := hc
  intro A cy H locs ls cells slots h1 h2 h3 h4 hw hS hl h5 h6
  exact lv_icmp_lt hx hb hd ht (fun q9 => (kt q9) A cy H locs ls cells slots h1 h2 h3 h4 hw hS hl h5 h6) (fun q9 => (kf q9) A cy H locs ls cells slots h1 h2 h3 h4 hw hS hl h5 h6)
theorem ok_icmp_ge {X : Xt} {cc : ByteArray} {own : String} {nL f L cb sb pc n : Nat} {lv : List (Nat × Value)} {st : List Value} {h : HP} (hc : Cx X cc own nL f L) {x y : Int32} {off : Int} {tgt : Nat} (hd : decode cc pc = .ok (.if_icmp .ge off, 3)) (ht : (pc : Int) + off = (tgt : Int)) (kt : y ≤ x → Ok X cb sb tgt lv st n h) (kf : ¬ y ≤ x → Ok X cb sb (pc + 3) lv st n h) : Ok X cb sb pc lv (.int y :: .int x :: st) n h := by
  obtain ⟨p, l, e, R, s, m, args, below, meth, c, D, bs, A0, n0, Q⟩ := X
  obtain ⟨hx, hb, hown, hts, hml, hRf, hRl, hF, htr, hlk, hbs⟩ := hc
  intro A cy H locs ls cells slots h1 h2 h3 h4 hw hS hl h5 h6
  exact lv_icmp_ge hx hb hd ht (fun q9 => (kt q9) A cy H locs ls cells slots h1 h2 h3 h4 hw hS hl h5 h6) (fun q9 => (kf q9) A cy H locs ls cells slots h1 h2 h3 h4 hw hS hl h5 h6)
theorem ok_icmp_gt {X : Xt} {cc : ByteArray} {own : String} {nL f L cb sb pc n : Nat} {lv : List (Nat × Value)} {st : List Value} {h : HP} (hc : Cx X cc own nL f L) {x y : Int32} {off : Int} {tgt : Nat} (hd : decode cc pc = .ok (.if_icmp .gt off, 3)) (ht : (pc : Int) + off = (tgt : Int)) (kt : y < x → Ok X cb sb tgt lv st n h) (kf : ¬ y < x → Ok X cb sb (pc + 3) lv st n h) : Ok X cb sb pc lv (.int y :: .int x :: st) n h := by
  obtain ⟨p, l, e, R, s, m, args, below, meth, c, D, bs, A0, n0, Q⟩ := X
  obtain ⟨hx, hb, hown, hts, hml, hRf, hRl, hF, htr, hlk, hbs⟩ := hc
  intro A cy H locs ls cells slots h1 h2 h3 h4 hw hS hl h5 h6
  exact lv_icmp_gt hx hb hd ht (fun q9 => (kt q9) A cy H locs ls cells slots h1 h2 h3 h4 hw hS hl h5 h6) (fun q9 => (kf q9) A cy H locs ls cells slots h1 h2 h3 h4 hw hS hl h5 h6)
theorem ok_icmp_le {X : Xt} {cc : ByteArray} {own : String} {nL f L cb sb pc n : Nat} {lv : List (Nat × Value)} {st : List Value} {h : HP} (hc : Cx X cc own nL f L) {x y : Int32} {off : Int} {tgt : Nat} (hd : decode cc pc = .ok (.if_icmp .le off, 3)) (ht : (pc : Int) + off = (tgt : Int)) (kt : x ≤ y → Ok X cb sb tgt lv st n h) (kf : ¬ x ≤ y → Ok X cb sb (pc + 3) lv st n h) : Ok X cb sb pc lv (.int y :: .int x :: st) n h := by
  obtain ⟨p, l, e, R, s, m, args, below, meth, c, D, bs, A0, n0, Q⟩ := X
  obtain ⟨hx, hb, hown, hts, hml, hRf, hRl, hF, htr, hlk, hbs⟩ := hc
  intro A cy H locs ls cells slots h1 h2 h3 h4 hw hS hl h5 h6
  exact lv_icmp_le hx hb hd ht (fun q9 => (kt q9) A cy H locs ls cells slots h1 h2 h3 h4 hw hS hl h5 h6) (fun q9 => (kf q9) A cy H locs ls cells slots h1 h2 h3 h4 hw hS hl h5 h6)
theorem ok_goto {X : Xt} {cc : ByteArray} {own : String} {nL f L cb sb pc n : Nat} {lv : List (Nat × Value)} {st : List Value} {h : HP} (hc : Cx X cc own nL f L) {off : Int} {tgt : Nat} (hd : decode cc pc = .ok (.goto off, 3)) (ht : (pc : Int) + off = (tgt : Int)) (k : Ok X cb sb tgt lv st n h) : Ok X cb sb pc lv st n h := by
  obtain ⟨p, l, e, R, s, m, args, below, meth, c, D, bs, A0, n0, Q⟩ := X
  obtain ⟨hx, hb, hown, hts, hml, hRf, hRl, hF, htr, hlk, hbs⟩ := hc
  intro A cy H locs ls cells slots h1 h2 h3 h4 hw hS hl h5 h6
  exact lv_goto hx hb hd ht (k A cy H locs ls cells slots h1 h2 h3 h4 hw hS hl h5 h6)
theorem ok_tableIn {X : Xt} {cc : ByteArray} {own : String} {nL f L cb sb pc n : Nat} {lv : List (Nat × Value)} {st : List Value} {h : HP} (hc : Cx X cc own nL f L) {dflt lo hi : Int} {offs : Array Int} {len : Nat} {x : Int32} {off : Int} {tgt : Nat} (hd : decode cc pc = .ok (.tableswitch dflt lo hi offs, len)) (g1 : ¬ x.toInt < lo) (g2 : ¬ hi < x.toInt) (ho : offs[(x.toInt - lo).toNat]? = some off) (ht : (pc : Int) + off = (tgt : Int)) (k : Ok X cb sb tgt lv st n h) : Ok X cb sb pc lv (.int x :: st) n h := by
  obtain ⟨p, l, e, R, s, m, args, below, meth, c, D, bs, A0, n0, Q⟩ := X
  obtain ⟨hx, hb, hown, hts, hml, hRf, hRl, hF, htr, hlk, hbs⟩ := hc
  intro A cy H locs ls cells slots h1 h2 h3 h4 hw hS hl h5 h6
  exact lv_tableIn hx hb hd g1 g2 ho ht (k A cy H locs ls cells slots h1 h2 h3 h4 hw hS hl h5 h6)
theorem ok_tableOut {X : Xt} {cc : ByteArray} {own : String} {nL f L cb sb pc n : Nat} {lv : List (Nat × Value)} {st : List Value} {h : HP} (hc : Cx X cc own nL f L) {dflt lo hi : Int} {offs : Array Int} {len : Nat} {x : Int32} {tgt : Nat} (hd : decode cc pc = .ok (.tableswitch dflt lo hi offs, len)) (g1 : x.toInt < lo ∨ hi < x.toInt) (ht : (pc : Int) + dflt = (tgt : Int)) (k : Ok X cb sb tgt lv st n h) : Ok X cb sb pc lv (.int x :: st) n h := by
  obtain ⟨p, l, e, R, s, m, args, below, meth, c, D, bs, A0, n0, Q⟩ := X
  obtain ⟨hx, hb, hown, hts, hml, hRf, hRl, hF, htr, hlk, hbs⟩ := hc
  intro A cy H locs ls cells slots h1 h2 h3 h4 hw hS hl h5 h6
  exact lv_tableOut hx hb hd g1 ht (k A cy H locs ls cells slots h1 h2 h3 h4 hw hS hl h5 h6)
theorem ok_lookup {X : Xt} {cc : ByteArray} {own : String} {nL f L cb sb pc n : Nat} {lv : List (Nat × Value)} {st : List Value} {h : HP} (hc : Cx X cc own nL f L) {dflt : Int} {ps : Array (Int × Int)} {len : Nat} {x : Int32} {off : Int} {tgt : Nat} (hd : decode cc pc = .ok (.lookupswitch dflt ps, len)) (hp : (ps.toList.zip (ps.toList.drop 1)).all (fun (a, next) => a.1 < next.1) = true) (ho : Op.lookupswitch.offset ps.toList dflt x.toInt = off) (ht : (pc : Int) + off = (tgt : Int)) (k : Ok X cb sb tgt lv st n h) : Ok X cb sb pc lv (.int x :: st) n h := by
  obtain ⟨p, l, e, R, s, m, args, below, meth, c, D, bs, A0, n0, Q⟩ := X
  obtain ⟨hx, hb, hown, hts, hml, hRf, hRl, hF, htr, hlk, hbs⟩ := hc
  intro A cy H locs ls cells slots h1 h2 h3 h4 hw hS hl h5 h6
  exact lv_lookup hx hb hd hp ho ht (k A cy H locs ls cells slots h1 h2 h3 h4 hw hS hl h5 h6)
theorem ok_lv {X : Xt} {cb sb pc n : Nat} {lv lv' : List (Nat × Value)} {st : List Value} {h : HP} (ks : List Nat) (hks : lv_pick lv ks = lv') (k : Ok X cb sb pc lv' st n h) : Ok X cb sb pc lv st n h := by
  obtain ⟨p, l, e, R, s, m, args, below, meth, c, D, bs, A0, n0, Q⟩ := X
  intro A cy H locs ls cells slots h1 h2 h3 h4 hw hS hl h5 h6
  subst hks
  exact k A cy H locs ls cells slots h1 h2 h3 h4 hw hS (lv_sub hl ks (pick_map A lv ks)) h5 h6
def FL (own : String) (idx ci k : Nat) (ty : FieldType) (fin : Bool) : Prop := ∃ (C : String) (T : u_T) (N : Nat) (ty0 : Nat → FieldType), vwCl[ci]? = some (C, T, N) ∧ (∀ w ∈ u_ws C T N, w ∈ lw_all) ∧ k < N ∧ Cond.fieldLink own idx C (T k).2.1 (T k).2.2.1 ∈ lw_all ∧ (T k).1 = C ∧ (∀ j, j < N → parseFieldDescriptor (T j).2.2.1 = some (ty0 j)) ∧ (∀ a, a < N → ∀ b, b < N → a ≠ b → (T a).2.1 ≠ (T b).2.1) ∧ ty0 k = ty ∧ (T k).2.2.2 = fin
theorem ok_get {X : Xt} {cc : ByteArray} {own : String} {nL f L cb sb pc n : Nat} {lv : List (Nat × Value)} {st : List Value} {h : HP} (hc : Cx X cc own nL f L) {idx ci k9 a : Nat} {ty : FieldType} {fin : Bool} {fs : List Value} {v : Value} (hF9 : FL own idx ci k9 ty fin) (hd : decode cc pc = .ok (.getfield idx, 3)) (ha : a < n) (he : h a = .inl (ci, fs)) (hv : fs[k9]? = some v) (k : Ok X cb sb (pc + 3) lv (v :: st) n h) : Ok X cb sb pc lv (.ref a :: st) n h := by
  obtain ⟨p, l, e, R, s, m, args, below, meth, c, D, bs, A0, n0, Q⟩ := X
  obtain ⟨hx, hb, hown, hts, hml, hRf, hRl, hF, htr, hlk, hbs⟩ := hc
  intro A cy H locs ls cells slots h1 h2 h3 h4 hw hS hl h5 h6
  obtain ⟨C, T, N, ty0, f1, f2, f3, f4, f5, f6, f7, f8, f9⟩ := hF9
  refine va_get (D := D) (tys := []) (ws := lst A cy n h) (ci := ci) (fs := fs.map (trV A)) (v := trV A v) hx hb hts f2 hown hw.2.1 hw.1 a ((lst_get ha).trans (by rw [he]; rfl)) f1 k9 f3 (hts _ f4) (fun _ q => by rw [f5] at q; exact q) (by rw [List.getElem?_map, hv]; rfl) hd ?_
  exact k A cy H locs ls cells slots h1 h2 h3 h4 hw hS hl h5 h6
theorem ok_put {X : Xt} {cc : ByteArray} {own : String} {nL f L cb sb pc n : Nat} {lv : List (Nat × Value)} {st : List Value} {h : HP} (hc : Cx X cc own nL f L) {idx ci k9 a : Nat} {ty : FieldType} {fs : List Value} {v : Value} (hF9 : FL own idx ci k9 ty false) (hd : decode cc pc = .ok (.putfield idx, 3)) (ha : a < n) (he : h a = .inl (ci, fs)) (hlen : k9 < fs.length) (hn : ∀ B : Nat → Nat, narrow ty (trV B v) = trV B v) (hft : ∀ B : Nat → Nat, fits ty (trV B v) = true) (k : Ok X cb sb (pc + 3) lv st n (va_up h a (.inl (ci, fs.set k9 v)))) : Ok X cb sb pc lv (v :: .ref a :: st) n h := by
  obtain ⟨p, l, e, R, s, m, args, below, meth, c, D, bs, A0, n0, Q⟩ := X
  obtain ⟨hx, hb, hown, hts, hml, hRf, hRl, hF, htr, hlk, hbs⟩ := hc
  intro A cy H locs ls cells slots h1 h2 h3 h4 hw hS hl h5 h6
  obtain ⟨C, T, N, ty0, f1, f2, f3, f4, f5, f6, f7, f8, f9⟩ := hF9
  refine va_put (D := D) (tys := []) (ws := lst A cy n h) (A := fun q => bs ≤ q) (H0 := s.heap) (ci := ci) (fs := fs.map (trV A)) (v := trV A v) (ty := ty) hx hb hts f2 ty0 f6 f7 hown hw.2.1 hw.1 hw.D hS a ((lst_get ha).trans (by rw [he]; rfl)) f1 k9 f3 (hts _ f4) (fun _ q => by rw [f5] at q; exact q) f9 ((f6 k9 f3).trans (by rw [f8])) (hn A) (hft A) (by rw [List.length_map]; exact hlen) hd (fun H1 locs1 hP1 _ hS1 => ?_)
  have hP2 : va_P D vwCl ((lst A cy n h).set a (A a, trE A (cy a) (.inl (ci, fs.set k9 v)))) H1 := by
    have q : (.inr (ci, (fs.map (trV A)).set k9 (trV A v)) : va_E) = trE A (cy a) (.inl (ci, fs.set k9 v)) := by
      show _ = Sum.inr (ci, (fs.set k9 v).map (trV A))
      rw [List.map_set]
    rw [← q]
    exact hP1
  exact k A cy H1 locs1 ls cells slots h1 h2 h3 h4 (hw.put (by rw [he]; rfl) hP2) hS1 hl h5 h6
theorem ok_iald {X : Xt} {cc : ByteArray} {own : String} {nL f L cb sb pc n : Nat} {lv : List (Nat × Value)} {st : List Value} {h : HP} (hc : Cx X cc own nL f L) {a len : Nat} {f : Nat → Int32} {i : Int32} (hd : decode cc pc = .ok (.iaload, 1)) (ha : a < n) (he : h a = .inr (0, len, .inl f)) (hin : vp_in i len) (k : Ok X cb sb (pc + 1) lv (.int (f i.toNatClampNeg) :: st) n h) : Ok X cb sb pc lv (.int i :: .ref a :: st) n h := by
  obtain ⟨p, l, e, R, s, m, args, below, meth, c, D, bs, A0, n0, Q⟩ := X
  obtain ⟨hx, hb, hown, hts, hml, hRf, hRl, hF, htr, hlk, hbs⟩ := hc
  intro A cy H locs ls cells slots h1 h2 h3 h4 hw hS hl h5 h6
  refine va_iald (D := D) (tys := [(cy a, .int)]) (ws := lst A cy n h) (cA := cy a) (n := len) (f := f) hx hb (hw.K1 ha (by rw [he]; rfl)) hw.1 a 0 ((lst_get ha).trans (by rw [he]; rfl)) rfl hin hd ?_
  exact k A cy H locs ls cells slots h1 h2 h3 h4 hw hS hl h5 h6
theorem ok_cald {X : Xt} {cc : ByteArray} {own : String} {nL f L cb sb pc n : Nat} {lv : List (Nat × Value)} {st : List Value} {h : HP} (hc : Cx X cc own nL f L) {a len : Nat} {f : Nat → Int32} {i : Int32} (hd : decode cc pc = .ok (.caload, 1)) (ha : a < n) (he : h a = .inr (2, len, .inl f)) (hin : vp_in i len) (k : Ok X cb sb (pc + 1) lv (.int (f i.toNatClampNeg) :: st) n h) : Ok X cb sb pc lv (.int i :: .ref a :: st) n h := by
  obtain ⟨p, l, e, R, s, m, args, below, meth, c, D, bs, A0, n0, Q⟩ := X
  obtain ⟨hx, hb, hown, hts, hml, hRf, hRl, hF, htr, hlk, hbs⟩ := hc
  intro A cy H locs ls cells slots h1 h2 h3 h4 hw hS hl h5 h6
  refine va_cald (D := D) (tys := [(cy a, .char)]) (ws := lst A cy n h) (cA := cy a) (n := len) (f := f) hx hb (hw.K1 ha (by rw [he]; rfl)) hw.1 a 0 ((lst_get ha).trans (by rw [he]; rfl)) rfl hin hd ?_
  exact k A cy H locs ls cells slots h1 h2 h3 h4 hw hS hl h5 h6
theorem ok_lald {X : Xt} {cc : ByteArray} {own : String} {nL f L cb sb pc n : Nat} {lv : List (Nat × Value)} {st : List Value} {h : HP} (hc : Cx X cc own nL f L) {a len : Nat} {f : Nat → Int64} {i : Int32} (hd : decode cc pc = .ok (.laload, 1)) (ha : a < n) (he : h a = .inr (1, len, .inr (.inl f))) (hin : vp_in i len) (k : Ok X cb sb (pc + 1) lv (.long (f i.toNatClampNeg) :: st) n h) : Ok X cb sb pc lv (.int i :: .ref a :: st) n h := by
  obtain ⟨p, l, e, R, s, m, args, below, meth, c, D, bs, A0, n0, Q⟩ := X
  obtain ⟨hx, hb, hown, hts, hml, hRf, hRl, hF, htr, hlk, hbs⟩ := hc
  intro A cy H locs ls cells slots h1 h2 h3 h4 hw hS hl h5 h6
  refine va_lald (D := D) (tys := [(cy a, .long)]) (ws := lst A cy n h) (cA := cy a) (n := len) (f := f) hx hb (hw.K1 ha (by rw [he]; rfl)) hw.1 a 0 ((lst_get ha).trans (by rw [he]; rfl)) rfl hin hd ?_
  exact k A cy H locs ls cells slots h1 h2 h3 h4 hw hS hl h5 h6
theorem ok_iast {X : Xt} {cc : ByteArray} {own : String} {nL f L cb sb pc n : Nat} {lv : List (Nat × Value)} {st : List Value} {h : HP} (hc : Cx X cc own nL f L) {a len : Nat} {f : Nat → Int32} {i : Int32} {x : Int32} (hd : decode cc pc = .ok (.iastore, 1)) (ha : a < n) (he : h a = .inr (0, len, .inl f)) (hin : vp_in i len) (k : Ok X cb sb (pc + 1) lv st n (va_up h a (.inr (0, len, .inl (upd f i.toNatClampNeg x))))) : Ok X cb sb pc lv (.int x :: .int i :: .ref a :: st) n h := by
  obtain ⟨p, l, e, R, s, m, args, below, meth, c, D, bs, A0, n0, Q⟩ := X
  obtain ⟨hx, hb, hown, hts, hml, hRf, hRl, hF, htr, hlk, hbs⟩ := hc
  intro A cy H locs ls cells slots h1 h2 h3 h4 hw hS hl h5 h6
  refine va_iast (D := D) (tys := [(cy a, .int)]) (ws := lst A cy n h) (A := fun q => bs ≤ q) (H0 := s.heap) (cA := cy a) (n := len) (f := f) hx hb (hw.K1 ha (by rw [he]; rfl)) hw.1 hw.D hS a 0 ((lst_get ha).trans (by rw [he]; rfl)) rfl hin hd (fun H1 locs1 hP1 _ hS1 => ?_)
  exact k A cy H1 locs1 ls cells slots h1 h2 h3 h4 (hw.put (by rw [he]; rfl) hP1) hS1 hl h5 h6
theorem ok_cast {X : Xt} {cc : ByteArray} {own : String} {nL f L cb sb pc n : Nat} {lv : List (Nat × Value)} {st : List Value} {h : HP} (hc : Cx X cc own nL f L) {a len : Nat} {f : Nat → Int32} {i : Int32} {x : Int32} (hd : decode cc pc = .ok (.castore, 1)) (ha : a < n) (he : h a = .inr (2, len, .inl f)) (hin : vp_in i len) (k : Ok X cb sb (pc + 1) lv st n (va_up h a (.inr (2, len, .inl (upd f i.toNatClampNeg (vp_nar .char x)))))) : Ok X cb sb pc lv (.int x :: .int i :: .ref a :: st) n h := by
  obtain ⟨p, l, e, R, s, m, args, below, meth, c, D, bs, A0, n0, Q⟩ := X
  obtain ⟨hx, hb, hown, hts, hml, hRf, hRl, hF, htr, hlk, hbs⟩ := hc
  intro A cy H locs ls cells slots h1 h2 h3 h4 hw hS hl h5 h6
  refine va_cast (D := D) (tys := [(cy a, .char)]) (ws := lst A cy n h) (A := fun q => bs ≤ q) (H0 := s.heap) (cA := cy a) (n := len) (f := f) hx hb (hw.K1 ha (by rw [he]; rfl)) hw.1 hw.D hS a 0 ((lst_get ha).trans (by rw [he]; rfl)) rfl hin hd (fun H1 locs1 hP1 _ hS1 => ?_)
  exact k A cy H1 locs1 ls cells slots h1 h2 h3 h4 (hw.put (by rw [he]; rfl) hP1) hS1 hl h5 h6
theorem ok_last {X : Xt} {cc : ByteArray} {own : String} {nL f L cb sb pc n : Nat} {lv : List (Nat × Value)} {st : List Value} {h : HP} (hc : Cx X cc own nL f L) {a len : Nat} {f : Nat → Int64} {i : Int32} {x : Int64} (hd : decode cc pc = .ok (.lastore, 1)) (ha : a < n) (he : h a = .inr (1, len, .inr (.inl f))) (hin : vp_in i len) (k : Ok X cb sb (pc + 1) lv st n (va_up h a (.inr (1, len, .inr (.inl (vp_updL f i.toNatClampNeg x)))))) : Ok X cb sb pc lv (.long x :: .int i :: .ref a :: st) n h := by
  obtain ⟨p, l, e, R, s, m, args, below, meth, c, D, bs, A0, n0, Q⟩ := X
  obtain ⟨hx, hb, hown, hts, hml, hRf, hRl, hF, htr, hlk, hbs⟩ := hc
  intro A cy H locs ls cells slots h1 h2 h3 h4 hw hS hl h5 h6
  refine va_last (D := D) (tys := [(cy a, .long)]) (ws := lst A cy n h) (A := fun q => bs ≤ q) (H0 := s.heap) (cA := cy a) (n := len) (f := f) hx hb (hw.K1 ha (by rw [he]; rfl)) hw.1 hw.D hS a 0 ((lst_get ha).trans (by rw [he]; rfl)) rfl hin hd (fun H1 locs1 hP1 _ hS1 => ?_)
  exact k A cy H1 locs1 ls cells slots h1 h2 h3 h4 (hw.put (by rw [he]; rfl) hP1) hS1 hl h5 h6
theorem ok_alen {X : Xt} {cc : ByteArray} {own : String} {nL f L cb sb pc n : Nat} {lv : List (Nat × Value)} {st : List Value} {h : HP} (hc : Cx X cc own nL f L) {a t len : Nat} {f : (Nat → Int32) ⊕ (Nat → Int64) ⊕ (Nat → Option Nat)} {v : Int32} (hd : decode cc pc = .ok (.arraylength, 1)) (ha : a < n) (he : h a = .inr (t, len, f)) (hv : Int32.ofNat len = v) (k : Ok X cb sb (pc + 1) lv (.int v :: st) n h) : Ok X cb sb pc lv (.ref a :: st) n h := by
  obtain ⟨p, l, e, R, s, m, args, below, meth, c, D, bs, A0, n0, Q⟩ := X
  obtain ⟨hx, hb, hown, hts, hml, hRf, hRl, hF, htr, hlk, hbs⟩ := hc
  intro A cy H locs ls cells slots h1 h2 h3 h4 hw hS hl h5 h6
  rcases f with f | f | f
  · exact va_alen (D := D) (tys := [(cy a, tyN t)]) (ws := lst A cy n h) (cA := cy a) (x := (len, .inl f)) hx hb (hw.K1 ha (by rw [he]; rfl)) hw.1 a 0 ((lst_get ha).trans (by rw [he]; rfl)) rfl hv hd (k A cy H locs ls cells slots h1 h2 h3 h4 hw hS hl h5 h6)
  · exact va_alen (D := D) (tys := [(cy a, tyN t)]) (ws := lst A cy n h) (cA := cy a) (x := (len, .inr (.inl f))) hx hb (hw.K1 ha (by rw [he]; rfl)) hw.1 a 0 ((lst_get ha).trans (by rw [he]; rfl)) rfl hv hd (k A cy H locs ls cells slots h1 h2 h3 h4 hw hS hl h5 h6)
  · exact va_alen (D := D) (tys := [(cy a, tyN t)]) (ws := lst A cy n h) (cA := cy a) (x := (len, .inr (.inr (.inr (.inr (fun j => (f j).map A)))))) hx hb (hw.K1 ha (by rw [he]; rfl)) hw.1 a 0 ((lst_get ha).trans (by rw [he]; rfl)) rfl hv hd (k A cy H locs ls cells slots h1 h2 h3 h4 hw hS hl h5 h6)
theorem ok_gets {X : Xt} {cc : ByteArray} {own : String} {nL f L cb sb pc n : Nat} {lv : List (Nat × Value)} {st : List Value} {h : HP} (hc : Cx X cc own nL f L) {idx : Nat} (hl9 : Cond.fieldLink own idx "AmplifierDesk" "POWERS_OF_THREE" "[I" ∈ lw_all) (hd : decode cc pc = .ok (.getstatic idx, 3)) (k : Ok X cb sb (pc + 3) lv (.ref SA :: st) n h) : Ok X cb sb pc lv st n h := by
  obtain ⟨p, l, e, R, s, m, args, below, meth, c, D, bs, A0, n0, Q⟩ := X
  obtain ⟨hx, hb, hown, hts, hml, hRf, hRl, hF, htr, hlk, hbs⟩ := hc
  intro A cy H locs ls cells slots h1 h2 h3 h4 hw hS hl h5 h6
  have hA : A SA = A0 SA := h1 SA (Or.inr (Nat.le_refl _))
  refine va_gets (v := .ref (A SA)) (A := fun q => bs ≤ q) hx hb (by rw [hA]; exact hF.1) hS hown (hts _ hl9) (fun _ q => q) hd ?_
  exact k A cy H locs ls cells slots h1 h2 h3 h4 hw hS hl h5 h6
theorem ok_ti {X : Xt} {cc : ByteArray} {own : String} {nL f L cb sb pc n : Nat} {lv : List (Nat × Value)} {st : List Value} {h : HP} (hc : Cx X cc own nL f L) {i : Int32} {v : Value} (hd : decode cc pc = .ok (.iaload, 1)) (hin : vp_in i 4) (hv : .int ([1, 3, 9, 27].getD i.toNatClampNeg 0) = v) (k : Ok X cb sb (pc + 1) lv (v :: st) n h) : Ok X cb sb pc lv (.int i :: .ref SA :: st) n h := by
  obtain ⟨p, l, e, R, s, m, args, below, meth, c, D, bs, A0, n0, Q⟩ := X
  obtain ⟨hx, hb, hown, hts, hml, hRf, hRl, hF, htr, hlk, hbs⟩ := hc
  intro A cy H locs ls cells slots h1 h2 h3 h4 hw hS hl h5 h6
  have hA : A SA = A0 SA := h1 SA (Or.inr (Nat.le_refl _))
  subst hv
  have k2 := k A cy H locs ls cells slots h1 h2 h3 h4 hw hS hl h5 h6
  rw [show List.map (trV A) (.int i :: .ref SA :: st) = .int i :: .ref (A SA) :: st.map (trV A) from rfl]
  exact va_ti (N := 4) (f := c_P3) (A := fun q => bs ≤ q) (t := A SA) hx hb (by rw [hA]; exact hF.2.1) hS hin rfl hd k2
theorem ok_iret {X : Xt} {cc : ByteArray} {own : String} {nL f L cb sb pc n : Nat} {lv : List (Nat × Value)} {st : List Value} {h : HP} (hc : Cx X cc own nL f L) {K9 : KT} {x : Int32} (hr9 : CxR X (some .int) K9) (hd : decode cc pc = .ok (.ireturn, 1)) (k : K9 (.inl (some (.int x))) n h) : Ok X cb sb pc lv [.int x] n h := by
  obtain ⟨p, l, e, R, s, m, args, below, meth, c, D, bs, A0, n0, Q⟩ := X
  obtain ⟨hx, hb, hown, hts, hml, hRf, hRl, hF, htr, hlk, hbs⟩ := hc
  intro A cy H locs ls cells slots h1 h2 h3 h4 hw hS hl h5 h6
  obtain ⟨r1, rfl, r3⟩ := hr9
  refine vx_ret ?_
  refine W.widen (k := R.cells) (n := R.slots) (by omega) (by omega) ?_
  exact W.iret hx hb r1 (fun t ht hW => ⟨A, cy, (some (.int x)), n, h, rfl, k, h1, h2, h3, h4, by rw [ht]; exact hw.moved hW.alike, hS.F ht⟩) hS.2.2 hd hlk
theorem ok_zret {X : Xt} {cc : ByteArray} {own : String} {nL f L cb sb pc n : Nat} {lv : List (Nat × Value)} {st : List Value} {h : HP} (hc : Cx X cc own nL f L) {K9 : KT} {x : Int32} (hz : narrow .boolean (.int x) = .int x) (hr9 : CxR X (some .boolean) K9) (hd : decode cc pc = .ok (.ireturn, 1)) (k : K9 (.inl (some (.int x))) n h) : Ok X cb sb pc lv [.int x] n h := by
  obtain ⟨p, l, e, R, s, m, args, below, meth, c, D, bs, A0, n0, Q⟩ := X
  obtain ⟨hx, hb, hown, hts, hml, hRf, hRl, hF, htr, hlk, hbs⟩ := hc
  intro A cy H locs ls cells slots h1 h2 h3 h4 hw hS hl h5 h6
  obtain ⟨r1, rfl, r3⟩ := hr9
  refine vx_ret ?_
  refine W.widen (k := R.cells) (n := R.slots) (by omega) (by omega) ?_
  exact W.zret (ty := .boolean) hx hb r1 hz (fun t ht hW => ⟨A, cy, (some (.int x)), n, h, rfl, k, h1, h2, h3, h4, by rw [ht]; exact hw.moved hW.alike, hS.F ht⟩) hS.2.2 hd hlk
theorem ok_lret {X : Xt} {cc : ByteArray} {own : String} {nL f L cb sb pc n : Nat} {lv : List (Nat × Value)} {st : List Value} {h : HP} (hc : Cx X cc own nL f L) {K9 : KT} {x : Int64} (hr9 : CxR X (some .long) K9) (hd : decode cc pc = .ok (.lreturn, 1)) (k : K9 (.inl (some (.long x))) n h) : Ok X cb sb pc lv [.long x] n h := by
  obtain ⟨p, l, e, R, s, m, args, below, meth, c, D, bs, A0, n0, Q⟩ := X
  obtain ⟨hx, hb, hown, hts, hml, hRf, hRl, hF, htr, hlk, hbs⟩ := hc
  intro A cy H locs ls cells slots h1 h2 h3 h4 hw hS hl h5 h6
  obtain ⟨r1, rfl, r3⟩ := hr9
  refine vx_ret ?_
  refine W.widen (k := R.cells) (n := R.slots) (by omega) (by omega) ?_
  exact W.lret hx hb r1 (fun t ht hW => ⟨A, cy, (some (.long x)), n, h, rfl, k, h1, h2, h3, h4, by rw [ht]; exact hw.moved hW.alike, hS.F ht⟩) hS.2.2 hd hlk
theorem ok_dret {X : Xt} {cc : ByteArray} {own : String} {nL f L cb sb pc n : Nat} {lv : List (Nat × Value)} {st : List Value} {h : HP} (hc : Cx X cc own nL f L) {K9 : KT} {x : UInt64} (hr9 : CxR X (some .double) K9) (hd : decode cc pc = .ok (.dreturn, 1)) (k : K9 (.inl (some (.double x))) n h) : Ok X cb sb pc lv [.double x] n h := by
  obtain ⟨p, l, e, R, s, m, args, below, meth, c, D, bs, A0, n0, Q⟩ := X
  obtain ⟨hx, hb, hown, hts, hml, hRf, hRl, hF, htr, hlk, hbs⟩ := hc
  intro A cy H locs ls cells slots h1 h2 h3 h4 hw hS hl h5 h6
  obtain ⟨r1, rfl, r3⟩ := hr9
  refine vx_ret ?_
  refine W.widen (k := R.cells) (n := R.slots) (by omega) (by omega) ?_
  exact W.dret hx hb r1 (fun t ht hW => ⟨A, cy, (some (.double x)), n, h, rfl, k, h1, h2, h3, h4, by rw [ht]; exact hw.moved hW.alike, hS.F ht⟩) hS.2.2 hd hlk
theorem ok_vret {X : Xt} {cc : ByteArray} {own : String} {nL f L cb sb pc n : Nat} {lv : List (Nat × Value)} {st : List Value} {h : HP} (hc : Cx X cc own nL f L) {K9 : KT} (hr9 : CxR X none K9) (hd : decode cc pc = .ok (.return_, 1)) (k : K9 (.inl none) n h) : Ok X cb sb pc lv [] n h := by
  obtain ⟨p, l, e, R, s, m, args, below, meth, c, D, bs, A0, n0, Q⟩ := X
  obtain ⟨hx, hb, hown, hts, hml, hRf, hRl, hF, htr, hlk, hbs⟩ := hc
  intro A cy H locs ls cells slots h1 h2 h3 h4 hw hS hl h5 h6
  obtain ⟨r1, rfl, r3⟩ := hr9
  refine vx_ret ?_
  refine W.widen (k := R.cells) (n := R.slots) (by omega) (by omega) ?_
  exact W.vret hx hb r1 (fun t ht hW => ⟨A, cy, none, n, h, rfl, k, h1, h2, h3, h4, by rw [ht]; exact hw.moved hW.alike, hS.F ht⟩) hS.2.2 hd hlk
theorem ok_aret {X : Xt} {cc : ByteArray} {own : String} {nL f L cb sb pc n : Nat} {lv : List (Nat × Value)} {st : List Value} {h : HP} (hc : Cx X cc own nL f L) {K9 : KT} {x : Nat} {C : String} (hr9 : CxR X (some (.object C)) K9) (hd : decode cc pc = .ok (.areturn, 1)) (k : K9 (.inl (some (.ref x))) n h) : Ok X cb sb pc lv [.ref x] n h := by
  obtain ⟨p, l, e, R, s, m, args, below, meth, c, D, bs, A0, n0, Q⟩ := X
  obtain ⟨hx, hb, hown, hts, hml, hRf, hRl, hF, htr, hlk, hbs⟩ := hc
  intro A cy H locs ls cells slots h1 h2 h3 h4 hw hS hl h5 h6
  obtain ⟨r1, rfl, r3⟩ := hr9
  refine vx_ret ?_
  refine W.widen (k := R.cells) (n := R.slots) (by omega) (by omega) ?_
  exact W.aret hx hb r1 (Or.inl ⟨C, rfl⟩) (Or.inr ⟨A x, rfl⟩) (fun t ht hW => ⟨A, cy, some (.ref x), n, h, rfl, k, h1, h2, h3, h4, by rw [ht]; exact hw.moved hW.alike, hS.F ht⟩) hS.2.2 hd hlk
