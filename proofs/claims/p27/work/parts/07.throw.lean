/-! part 07: calls of the nest's static methods; throws -/
section NEST
variable {p : Program} {l : Launch} {e : Env} {R : Room} {s : State} {m : MethodId} {args : Array Value} {below : List Frame} {meth : Method} {c : Code}
theorem run_mono {H : Heap} {locs : List Loc} {cells slots mc ms : Nat} {g : JFrame} {rest : List Value} {Qa Qb : State → Outcome → State → Prop} {XC : String → State → State → Prop} {free : Addr → Prop} (hr : va_Run p l e R s m args below meth c H locs cells slots mc ms g rest Qa free) (h : ∀ a o t, Qa a o t → Qb a o t) : vx_Run p l e R s m args below meth c H locs cells slots mc ms g rest Qb XC free := by
  intro T hT X
  obtain ⟨v, st₀, t, T', L, g0, X', hL, e1, e2, hq, go⟩ := hr T hT X
  exact Or.inl ⟨v, st₀, t, T', L, g0, X', hL, e1, e2, h _ _ _ hq, go⟩
end NEST
/-- .. of a callee that doesn't throw -/
def kn (X : Xt) (cb sb pc : Nat) (lv : List (Nat × Value)) (st : List Value) (n : Nat) : KT := fun r n' h' => n' = n ∧ match r with
  | .inl v => Ok X cb sb (pc + 3) lv (v.toList ++ st) n h'
  | .inr _ => False
theorem gQ_mono {D : va_G} {bs n0 : Nat} {A0 : Nat → Nat} {K K' : KT} (h : ∀ v n hp, K (.inl v) n hp → K' (.inl v) n hp) (a : Array Value) (s : State) (o : Outcome) (t : State) (q : gQ D bs A0 n0 K a s o t) : gQ D bs A0 n0 K' a s o t := by
  obtain ⟨A, cy, v, n, hp, g1, g2, g3⟩ := q
  exact ⟨A, cy, v, n, hp, g1, h v n hp g2, g3⟩
/-- a call site's words: static, of the nest's host -/
def CN (own : String) (idx : Nat) (y : MethodName) (host : String) (cc : ByteArray) (nL : Nat) (ret : Option FieldType) (na : Nat) : Prop :=
  (own, idx, y, host) ∈ nestw ∧ Cond.static y ∈ lw_all ∧ Cond.initialized y.cls ∈ lw_all ∧ Cond.code y cc nL ret ∈ lw_all ∧ (y.cls ≠ "java/lang/invoke/MethodHandle" ∧ y.cls ≠ "java/lang/invoke/VarHandle") ∧ (parseMethodDescriptor y.desc).map (fun d => d.parameters.length) = some na
theorem ok_callN {X : Xt} {cc : ByteArray} {own host : String} {nL f L cb sb cb0 sb0 pc n : Nat} {lv : List (Nat × Value)} {st st0 : List Value} {h : HP} (hc : Cx X cc own nL f L) {idx na : Nat} {y : MethodName} {ccy : ByteArray} {nLy fy Ly mcy msy : Nat} {rety : Option FieldType} {spec : List Value → Nat → HP → KT → Prop} (As : List Value)
    (hV : CN own idx y host ccy nLy rety na) (hSp : Sp y ccy nLy rety fy Ly mcy msy spec) (hR : fy + 1 ≤ f ∧ 8 + (nLy + 11) + Ly ≤ L) (hd : decode cc pc = .ok (.invokestatic idx, 3)) (hna : As.length = na) (hcb : cb + mcy = cb0) (hsb : sb + msy = sb0) (hst0 : As.reverse ++ st = st0) (hst : (st.map fun v => v.category).sum ≤ 8)
    (hs : spec As n h (kn X cb sb pc lv st n)) : Ok X cb0 sb0 pc lv st0 n h := by
  obtain ⟨p, l, e, R, s, m, args, below, meth, c, D, bs, A0, n0, Q⟩ := X
  obtain ⟨hx, hb, hown, hts, hml, hRf, hRl, hF, htr, hlk, hbs⟩ := hc
  intro A cy H locs ls cells slots h1 h2 h3 h4 hw hS hl h5 h6
  subst hcb; subst hsb; subst hst0
  obtain ⟨w1, w2, w4, w5, w6, w7⟩ := hV
  have hM := met_of (hSp l D bs A cy As n h _ htr h3 hs) (fun E a b q => by
    obtain ⟨_, _, _, _, hk, _⟩ := q
    exact hk.2)
  have cw : va_CN R s args own idx y host ccy nLy rety (.code y ccy nLy rety :: lw_all) ({ frames := fy, cells := mcy, slots := msy, locals := Ly }) mcy msy na ∧ (Cond.static y).before args s = true ∧ True :=
    ⟨va_cnB na hts (good_cons w5) rfl rfl rfl (hF.2.2.2.2.1 _ w1) (hts _ w4) ⟨w6.1, w6.2, w7⟩ ⟨by show fy + 1 ≤ R.frames; omega, by show 8 + (nLy + 11) + Ly ≤ R.locals; omega⟩, hts _ w2, trivial⟩
  have hr := va_runSN (p := p) (e := e) (below := below) (meth := meth) (As := As.map (trV A)) (rest := st.map (trV A)) (H := H) (locs := locs) (cells := cells) (slots := slots) (g := F0 m pc ls ((As.reverse ++ st).map (trV A))) ⟨hx, hb, hml, hown, hts⟩ hM cw ⟨blind, pre_of h1 hF hbs hw hS⟩ rfl (by rw [List.length_map]; exact hna) (by rw [← hml]; exact hl.1) (by rw [List.map_append, List.map_reverse]) (lv_room (by simpa [Function.comp_def, trV_cat] using hst)) hd ⟨by omega, by omega⟩
  exact run_use (av := (As.map (trV A)).toArray) h1 h2 h3 h4 hS hl h5 h6 (run_mono hr (fun a o t => gQ_mono (fun _ _ _ q => q) _ a o t))
/-- the words of 'throw new E(text)' -/
def TH (own : String) (ik ic : Nat) (E : String) : Prop := Bundle.fit E = true ∧ Cond.classLink own ik E ∈ lw_all ∧ Cond.initialized E ∈ lw_all ∧ E ∈ castw ∧ (∀ w ∈ (vx_atS own ic E ["java/lang/RuntimeException", "java/lang/Exception"]).filter goodWord, w ∈ lw_all) ∧ (∀ w ∈ (vx_atS own ic E ["java/lang/RuntimeException", "java/lang/Exception"]).filter (fun w => !goodWord w), w ∈ Cond.castable E E :: declw.map Cond.declares) ∧ ∀ w ∈ Cond.classLink own ik E :: Cond.initialized E :: vx_atS own ic E ["java/lang/RuntimeException", "java/lang/Exception"], vx_ot w = true
theorem gX_end {D : va_G} {bs n0 n : Nat} {A0 A : Nat → Nat} {cy : Nat → ClassId} {K : KT} {h : HP} {s t : State} {H : Heap} {locs : List Loc} {E : String} (h1 : ∀ i, i < n0 ∨ SA ≤ i → A i = A0 i) (h2 : n0 ≤ n) (h3 : n ≤ SA) (h4 : n = n0 → A = A0) (hw : Wd D A cy bs n h s H) (hS : va_S (fun q => bs ≤ q) s.heap H locs) (k : K (.inr E) n h) (hv : s.vm.Alike t.vm) (hz : H.size ≤ t.heap.size) (hq : ∀ q : Nat, q < H.size → t.heap[q]? = H[q]?) : gX D bs A0 n0 K E s t := by
  refine ⟨A, cy, n, h, k, h1, h2, h3, h4, ?_, Nat.le_trans hS.1 hz, fun q a b => by rw [hq q (Nat.lt_of_lt_of_le a hS.1)]; exact hS.2.1 q a b⟩
  have w2 : Wd D A cy bs n h s t.heap := ⟨fun j q hj => (hw.1 j q hj).kept (hq q.1 (hw.1 j q hj).lt), hw.2⟩
  exact w2.moved hv
theorem ok_throw {X : Xt} {cc : ByteArray} {own : String} {nL f L cb sb pc n : Nat} {lv : List (Nat × Value)} {st : List Value} {h : HP} {K9 : KT} {ret : Option FieldType} (hc : Cx X cc own nL f L) (hr9 : CxR X ret K9) {ik is ic : Nat} {E text : String} (hT : TH own ik ic E) (how : own = RX6) (hs9 : (is, text) ∈ strw) (d0 : decode cc pc = .ok (.new ik, 3)) (d3 : decode cc (pc + 3) = .ok (.dup, 1)) (d4 : decode cc (pc + 4) = .ok (.ldc is, 2)) (d6 : decode cc (pc + 6) = .ok (.invokespecial ic, 3)) (d9 : decode cc (pc + 9) = .ok (.athrow, 1))
    (hRf9 : 6 ≤ f) (hRl9 : 82 + (st.map fun v => v.category).sum ≤ L) (hcb : 1 ≤ cb) (hsb : 6 ≤ sb) (k : K9 (.inr E) n h) : Ok X cb sb pc lv st n h := by
  obtain ⟨p, l, e, R, s, m, args, below, meth, c, D, bs, A0, n0, Q⟩ := X
  obtain ⟨hx, hb, hown, hts, hml, hRf, hRl, hF, htr, hlk, hbs⟩ := hc
  intro A cy H locs ls cells slots h1 h2 h3 h4 hw hS hl h5 h6
  obtain ⟨r1, rfl, r3⟩ := hr9
  obtain ⟨t1, t2, t3, t4, t5, t6, t7⟩ := hT
  subst how
  obtain ⟨sa, hsa⟩ := hF.2.2.2.2.2.2.1 _ hs9
  have hsum : (List.map (fun v => v.category) (st.map (trV A))).sum = (st.map fun v => v.category).sum := by simp [Function.comp_def, trV_cat]
  exact vx_throwS (A := fun q => bs ≤ q) (names := ["java/lang/RuntimeException", "java/lang/Exception"]) hx hb htr hown t1 (by decide) (hts _ t2) (hts _ t3) hsa (vx_hat (B := Cond.castable E E :: declw.map Cond.declares) (fun w hw => hts w (t5 w hw)) t6 (vx_c (va_Nw.use rfl (hF.2.2.2.2.2.1 E t4)) (fun w hw => by obtain ⟨y, hy, rfl⟩ := List.mem_map.mp hw; exact va_Nw.use rfl (hF.2.2.2.2.2.2.2.1 y hy)))) t7 hF.2.2.1 hF.2.2.2.1 hS hl.1 d0 d3 d4 d6 d9 (fun x hx => (r3 x hx).elim)
    (by show 2 + 3 < R.frames; omega) (by rw [hsum]; show _ + 82 ≤ R.locals; omega) (by omega) (by omega) hlk (fun t hv hz hq => gX_end h1 h2 h3 h4 hw hS k hv hz hq) hS.2.2 (by omega) (by omega)
theorem ok_throwW {X : Xt} {cc : ByteArray} {own : String} {nL f L cb sb pc n : Nat} {lv : List (Nat × Value)} {st : List Value} {h : HP} {K9 : KT} {ret : Option FieldType} (hc : Cx X cc own nL f L) (hr9 : CxR X ret K9) {ik is ic : Nat} {E text : String} (hT : TH own ik ic E) (how : own = RX6) (hs9 : (is, text) ∈ strw) (d0 : decode cc pc = .ok (.new ik, 3)) (d3 : decode cc (pc + 3) = .ok (.dup, 1)) (d4 : decode cc (pc + 4) = .ok (.ldc_w is, 3)) (d6 : decode cc (pc + 7) = .ok (.invokespecial ic, 3)) (d9 : decode cc (pc + 10) = .ok (.athrow, 1))
    (hRf9 : 6 ≤ f) (hRl9 : 82 + (st.map fun v => v.category).sum ≤ L) (hcb : 1 ≤ cb) (hsb : 6 ≤ sb) (k : K9 (.inr E) n h) : Ok X cb sb pc lv st n h := by
  obtain ⟨p, l, e, R, s, m, args, below, meth, c, D, bs, A0, n0, Q⟩ := X
  obtain ⟨hx, hb, hown, hts, hml, hRf, hRl, hF, htr, hlk, hbs⟩ := hc
  intro A cy H locs ls cells slots h1 h2 h3 h4 hw hS hl h5 h6
  obtain ⟨r1, rfl, r3⟩ := hr9
  obtain ⟨t1, t2, t3, t4, t5, t6, t7⟩ := hT
  subst how
  obtain ⟨sa, hsa⟩ := hF.2.2.2.2.2.2.1 _ hs9
  have hsum : (List.map (fun v => v.category) (st.map (trV A))).sum = (st.map fun v => v.category).sum := by simp [Function.comp_def, trV_cat]
  exact vx_throwSW (A := fun q => bs ≤ q) (names := ["java/lang/RuntimeException", "java/lang/Exception"]) hx hb htr hown t1 (by decide) (hts _ t2) (hts _ t3) hsa (vx_hat (B := Cond.castable E E :: declw.map Cond.declares) (fun w hw => hts w (t5 w hw)) t6 (vx_c (va_Nw.use rfl (hF.2.2.2.2.2.1 E t4)) (fun w hw => by obtain ⟨y, hy, rfl⟩ := List.mem_map.mp hw; exact va_Nw.use rfl (hF.2.2.2.2.2.2.2.1 y hy)))) t7 hF.2.2.1 hF.2.2.2.1 hS hl.1 d0 d3 d4 d6 d9 (fun x hx => (r3 x hx).elim)
    (by show 2 + 3 < R.frames; omega) (by rw [hsum]; show _ + 82 ≤ R.locals; omega) (by omega) (by omega) hlk (fun t hv hz hq => gX_end h1 h2 h3 h4 hw hS k hv hz hq) hS.2.2 (by omega) (by omega)
/-- a callee's exception goes on to the caller -/
theorem okT_out {X : Xt} {cc : ByteArray} {own : String} {nL f L cb sb pc n : Nat} {lv : List (Nat × Value)} {h : HP} {K9 : KT} {ret : Option FieldType} {E : String} (hc : Cx X cc own nL f L) (hr9 : CxR X ret K9) (k : K9 (.inr E) n h) : OkT X cb sb pc lv E n h := by
  obtain ⟨p, l, e, R, s, m, args, below, meth, c, D, bs, A0, n0, Q⟩ := X
  obtain ⟨hx, hb, hown, hts, hml, hRf, hRl, hF, htr, hlk, hbs⟩ := hc
  intro A cy H locs ls cells slots rest q ce h1 h2 h3 h4 hw hS hl h5 h6 hce hcv hcl
  obtain ⟨r1, rfl, r3⟩ := hr9
  exact vx_out (fun x hx => (r3 x hx).elim) hlk hce hcv hcl (fun t ht hv => gX_end h1 h2 h3 h4 hw hS k hv (by rw [ht]; exact Nat.le_refl _) (fun q _ => by rw [ht])) hS.2.2 (by omega) (by omega)
theorem th_IAE : TH RX6 75 79 "java/lang/IllegalArgumentException" := ⟨by decide +kernel, by decide +kernel, by decide +kernel, by decide, by decide +kernel, by decide +kernel, by decide +kernel⟩
theorem th_ISE : TH RX6 86 90 "java/lang/IllegalStateException" := ⟨by decide +kernel, by decide +kernel, by decide +kernel, by decide, by decide +kernel, by decide +kernel, by decide +kernel⟩
theorem th_IOE : TH RX6 216 220 "java/lang/IndexOutOfBoundsException" := ⟨by decide +kernel, by decide +kernel, by decide +kernel, by decide, by decide +kernel, by decide +kernel, by decide +kernel⟩
