/-! part 09: small helps of the segments -/
def p3 (y : Int32) : Int32 := [1, 3, 9, 27].getD y.toNatClampNeg 0
abbrev At (h : HP) (n a : Nat) (e : AE) : Prop := a < n ∧ h a = e
theorem ne_oa {h : HP} {a b : Nat} {x : Nat × List Value} {y : Nat × Nat × ((Nat → Int32) ⊕ (Nat → Int64) ⊕ (Nat → Option Nat))} (p : h a = .inl x) (q : h b = .inr y) : a ≠ b := by
  intro e
  rw [e, q] at p
  cases p
theorem ne_oo {h : HP} {a b i j : Nat} {x y : List Value} (p : h a = .inl (i, x)) (q : h b = .inl (j, y)) (d : i ≠ j) : a ≠ b := by
  intro e
  rw [e, q] at p
  cases p
  exact d rfl
theorem ne_aa {h : HP} {a b i j m n : Nat} {x y : (Nat → Int32) ⊕ (Nat → Int64) ⊕ (Nat → Option Nat)} (p : h a = .inr (i, m, x)) (q : h b = .inr (j, n, y)) (d : i ≠ j) : a ≠ b := by
  intro e
  rw [e, q] at p
  cases p
  exact d rfl
theorem set_self {α : Type} {l : List α} {k : Nat} {v : α} (h : k < l.length) : (l.set k v)[k]? = some v := by simp [h]
theorem set_ne {α : Type} {l : List α} {j k : Nat} {v : α} (h : j ≠ k) : (l.set j v)[k]? = l[k]? := by simp [h]
theorem fits_z {x : Int32} (h : narrow .boolean (.int x) = .int x) : fits .boolean (.int x) = true := by
  have h2 : x &&& 1 = x := by simpa [narrow] using h
  obtain ⟨j, hj, e⟩ := pk_andE x (m := 1) 1 rfl
  rw [h2] at e
  subst e
  match j, hj with
  | 0, _ => rfl
  | 1, _ => rfl
theorem ok_aald {X : Xt} {cc : ByteArray} {own : String} {nL f L cb sb pc n : Nat} {lv : List (Nat × Value)} {st : List Value} {h : HP} (hc : Cx X cc own nL f L) {a t len q : Nat} {g : Nat → Option Nat} {i : Int32} (hd : decode cc pc = .ok (.aaload, 1)) (ha : a < n) (he : h a = .inr (t, len, .inr (.inr g))) (ht : (tyN t).isReference = true) (hin : vp_in i len) (hf : g i.toNatClampNeg = some q) (k : Ok X cb sb (pc + 1) lv (.ref q :: st) n h) : Ok X cb sb pc lv (.int i :: .ref a :: st) n h := by
  obtain ⟨p, l, e, R, s, m, args, below, meth, c, D, bs, A0, n0, Q⟩ := X
  obtain ⟨hx, hb, hown, hts, hml, hRf, hRl, hF, htr, hlk, hbs⟩ := hc
  intro A cy H locs ls cells slots h1 h2 h3 h4 hw hS hl h5 h6
  have hlt : i.toNatClampNeg < len := Nat.not_le.mp fun q => hin (Or.inr q)
  have hcell : va_at D vwCl (A a, trE A (cy a) (h a)) H := hw.1 a _ (lst_get ha)
  rw [he] at hcell
  exact W.aald (v := .ref (A q)) (ty := tyN t) hx hb hcell ((hw.2.2.1 a ha (tyN t) (by rw [he]; rfl)).1 len (fun j => va_rf ((g j).map A))) ht (fun q => by cases q) (by show ¬ (i < 0 ∨ (arrV _ _ _).slots.size ≤ _); rw [arrV_size]; exact hin) (by show (arrV _ _ _).slots[_]? = _; rw [arrV_read _ _ hlt]; show some (va_rf ((g i.toNatClampNeg).map A)) = _; rw [hf]; rfl) rfl rfl hd (k A cy H locs ls cells slots h1 h2 h3 h4 hw hS hl h5 h6)
theorem ok_getsN {X : Xt} {cc : ByteArray} {own : String} {nL f L cb sb pc n : Nat} {lv : List (Nat × Value)} {st : List Value} {h : HP} (hc : Cx X cc own nL f L) {idx : Nat} (hl9 : (own, idx, "AmplifierDesk", "POWERS_OF_THREE", "[I", "AmplifierDesk") ∈ nestf) (hd : decode cc pc = .ok (.getstatic idx, 3)) (k : Ok X cb sb (pc + 3) lv (.ref SA :: st) n h) : Ok X cb sb pc lv st n h := by
  obtain ⟨p, l, e, R, s, m, args, below, meth, c, D, bs, A0, n0, Q⟩ := X
  obtain ⟨hx, hb, hown, hts, hml, hRf, hRl, hF, htr, hlk, hbs⟩ := hc
  intro A cy H locs ls cells slots h1 h2 h3 h4 hw hS hl h5 h6
  have hA : A SA = A0 SA := h1 SA (Or.inr (Nat.le_refl _))
  refine va_getsN (v := .ref (A SA)) (A := fun q => bs ≤ q) hx hb (by rw [hA]; exact hF.1) hS hown (va_Nw.use rfl (hF.2.2.2.2.2.2.2.2.1 _ hl9)) (fun _ q => q) hd ?_
  exact k A cy H locs ls cells slots h1 h2 h3 h4 hw hS hl h5 h6
theorem eq_toInt {x : Int32} {k : Int32} (h : x.toInt = k.toInt) : x = k := Int32.toInt_inj.mp h
theorem sw3 (x : Int32) : (x.toInt < 0 ∨ 2 < x.toInt) ∨ x = 0 ∨ x = 1 ∨ x = 2 := by
  by_cases h : x.toInt < 0 ∨ 2 < x.toInt
  · exact Or.inl h
  · right
    have hh : x.toInt = 0 ∨ x.toInt = 1 ∨ x.toInt = 2 := by omega
    rcases hh with q | q | q
    · exact Or.inl (eq_toInt q)
    · exact Or.inr (Or.inl (eq_toInt q))
    · exact Or.inr (Or.inr ((eq_toInt q)))
theorem sw4 (x : Int32) : (x.toInt < 0 ∨ 3 < x.toInt) ∨ x = 0 ∨ x = 1 ∨ x = 2 ∨ x = 3 := by
  by_cases h : x.toInt < 0 ∨ 3 < x.toInt
  · exact Or.inl h
  · right
    have hh : x.toInt = 0 ∨ x.toInt = 1 ∨ x.toInt = 2 ∨ x.toInt = 3 := by omega
    rcases hh with q | q | q | q
    · exact Or.inl (eq_toInt q)
    · exact Or.inr (Or.inl (eq_toInt q))
    · exact Or.inr (Or.inr (Or.inl (eq_toInt q)))
    · exact Or.inr (Or.inr (Or.inr ((eq_toInt q))))
theorem sw9 (x : Int32) : (x.toInt < 0 ∨ 8 < x.toInt) ∨ x = 0 ∨ x = 1 ∨ x = 2 ∨ x = 3 ∨ x = 4 ∨ x = 5 ∨ x = 6 ∨ x = 7 ∨ x = 8 := by
  by_cases h : x.toInt < 0 ∨ 8 < x.toInt
  · exact Or.inl h
  · right
    have hh : x.toInt = 0 ∨ x.toInt = 1 ∨ x.toInt = 2 ∨ x.toInt = 3 ∨ x.toInt = 4 ∨ x.toInt = 5 ∨ x.toInt = 6 ∨ x.toInt = 7 ∨ x.toInt = 8 := by omega
    rcases hh with q | q | q | q | q | q | q | q | q
    · exact Or.inl (eq_toInt q)
    · exact Or.inr (Or.inl (eq_toInt q))
    · exact Or.inr (Or.inr (Or.inl (eq_toInt q)))
    · exact Or.inr (Or.inr (Or.inr (Or.inl (eq_toInt q))))
    · exact Or.inr (Or.inr (Or.inr (Or.inr (Or.inl (eq_toInt q)))))
    · exact Or.inr (Or.inr (Or.inr (Or.inr (Or.inr (Or.inl (eq_toInt q))))))
    · exact Or.inr (Or.inr (Or.inr (Or.inr (Or.inr (Or.inr (Or.inl (eq_toInt q)))))))
    · exact Or.inr (Or.inr (Or.inr (Or.inr (Or.inr (Or.inr (Or.inr (Or.inl (eq_toInt q))))))))
    · exact Or.inr (Or.inr (Or.inr (Or.inr (Or.inr (Or.inr (Or.inr (Or.inr ((eq_toInt q)))))))))
theorem sw10 (x : Int32) : (x.toInt < 0 ∨ 9 < x.toInt) ∨ x = 0 ∨ x = 1 ∨ x = 2 ∨ x = 3 ∨ x = 4 ∨ x = 5 ∨ x = 6 ∨ x = 7 ∨ x = 8 ∨ x = 9 := by
  by_cases h : x.toInt < 0 ∨ 9 < x.toInt
  · exact Or.inl h
  · right
    have hh : x.toInt = 0 ∨ x.toInt = 1 ∨ x.toInt = 2 ∨ x.toInt = 3 ∨ x.toInt = 4 ∨ x.toInt = 5 ∨ x.toInt = 6 ∨ x.toInt = 7 ∨ x.toInt = 8 ∨ x.toInt = 9 := by omega
    rcases hh with q | q | q | q | q | q | q | q | q | q
    · exact Or.inl (eq_toInt q)
    · exact Or.inr (Or.inl (eq_toInt q))
    · exact Or.inr (Or.inr (Or.inl (eq_toInt q)))
    · exact Or.inr (Or.inr (Or.inr (Or.inl (eq_toInt q))))
    · exact Or.inr (Or.inr (Or.inr (Or.inr (Or.inl (eq_toInt q)))))
    · exact Or.inr (Or.inr (Or.inr (Or.inr (Or.inr (Or.inl (eq_toInt q))))))
    · exact Or.inr (Or.inr (Or.inr (Or.inr (Or.inr (Or.inr (Or.inl (eq_toInt q)))))))
    · exact Or.inr (Or.inr (Or.inr (Or.inr (Or.inr (Or.inr (Or.inr (Or.inl (eq_toInt q))))))))
    · exact Or.inr (Or.inr (Or.inr (Or.inr (Or.inr (Or.inr (Or.inr (Or.inr (Or.inl (eq_toInt q)))))))))
    · exact Or.inr (Or.inr (Or.inr (Or.inr (Or.inr (Or.inr (Or.inr (Or.inr (Or.inr ((eq_toInt q))))))))))
theorem lk2_none {x : Int32} {a b : Int32} {d o1 o2 : Int} (h1 : ¬ x = a) (h2 : ¬ x = b) : Op.lookupswitch.offset [(a.toInt, o1), (b.toInt, o2)] d x.toInt = d := by
  have g1 : ¬ x.toInt = a.toInt := fun q => h1 (eq_toInt q)
  have g2 : ¬ x.toInt = b.toInt := fun q => h2 (eq_toInt q)
  rw [Op.lookupswitch.offset_cons, if_neg (Ne.symm g1), Op.lookupswitch.offset_cons, if_neg (Ne.symm g2), Op.lookupswitch.offset_nil]
