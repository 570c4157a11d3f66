/-! part 99g: methods that catch: contracts, catching, calls -/
def CxW (X : Xt) (hh : List (Nat × Nat × Nat × Nat)) (K : KT) : Prop := match X with
  | (_, _, _, R, s, _, args, below, meth, c, D, bs, A0, n0, Q) =>
    meth.sig.returnType = some .int ∧ Q = vx_MQ below (gQ D bs A0 n0 K) (gX D bs A0 n0 K) args s R.cells R.slots (fun q => bs ≤ q) ∧ c.exceptionTable.toList = tableOf hh
theorem ok_iretW {X : Xt} {cc : ByteArray} {own : String} {nL f L cb sb pc n : Nat} {lv : List (Nat × Value)} {st : List Value} {h : HP} (hc : Cx X cc own nL f L) {K9 : KT} {hh : List (Nat × Nat × Nat × Nat)} {x : Int32} (hr9 : CxW X hh K9) (hd : decode cc pc = .ok (.ireturn, 1)) (k : K9 (.inl (some (.int x))) n h) : Ok X cb sb pc lv [.int x] n h := by
  obtain ⟨p, l, e, R, s, m, args, below, meth, c, D, bs, A0, n0, Q⟩ := X
  obtain ⟨hx, hb, hown, hts, hml, hRf, hRl, hF, htr, hlk, hbs⟩ := hc
  intro A cy H locs ls cells slots h1 h2 h3 h4 hw hS hl h5 h6
  obtain ⟨r1, rfl, r3⟩ := hr9
  refine vx_ret ?_
  refine W.widen (k := R.cells) (n := R.slots) (by omega) (by omega) ?_
  exact W.iret hx hb r1 (fun t ht hW => ⟨A, cy, (some (.int x)), n, h, rfl, k, h1, h2, h3, h4, by rw [ht]; exact hw.moved hW.alike, hS.F ht⟩) hS.2.2 hd hlk
/-- the handler: store what was thrown, answer a number -/
def Hd (cc : ByteArray) (nL hp v : Nat) : Prop := ∃ (k : Nat) (a : Int) (d9 : Nat), ((∃ k9 : Fin 4, decode cc hp = .ok (.astore_n k9, 1) ∧ (k9 : Nat) = k ∧ d9 = 1) ∨ (decode cc hp = .ok (.astore k, 2) ∧ d9 = 2)) ∧ k < nL ∧ decode cc (hp + d9) = .ok (.iconst a, 1) ∧ Int32.ofInt a = i3 (v : Int) ∧ decode cc (hp + d9 + 1) = .ok (.ireturn, 1)
theorem okT_catch {X : Xt} {cc : ByteArray} {own : String} {nL f L cb sb pc n : Nat} {lv : List (Nat × Value)} {h : HP} {K9 : KT} {hh : List (Nat × Nat × Nat × Nat)} {E : String} {v : Nat} (hc : Cx X cc own nL f L) (hr9 : CxW X hh K9) (pre : List ExceptionTableEntry) (x : ExceptionTableEntry) (suf : List ExceptionTableEntry) (hsp : tableOf hh = pre ++ x :: suf) (hpass : ∀ z ∈ pre, z.catchType ≠ 0 ∧ ∃ nm : String, Cond.classLink own z.catchType nm ∈ lw_all ∧ (E, nm) ∈ ncw) (hx9 : covers x pc = true) (h09 : x.catchType ≠ 0) (hl9 : Cond.classLink own x.catchType E ∈ lw_all) (hE : E ∈ castw) (hH : Hd cc nL x.handlerPc v)
    (k : K9 (.inl (some (.int (i3 (v : Int))))) n h) : OkT X cb sb pc lv E n h := by
  obtain ⟨p, l, e, R, s, m, args, below, meth, c, D, bs, A0, n0, Q⟩ := X
  have hc9 := hc
  obtain ⟨hx, hb, hown, hts, hml, hRf, hRl, hF, htr, hlk, hbs⟩ := hc
  intro A cy H locs ls cells slots rest q ce h1 h2 h3 h4 hw hS hl h5 h6 hce hcv hcl
  obtain ⟨k9, a9, d9, hst, hk9, hi9, hv9, hr⟩ := hH
  refine vx_catch hown pre x suf (hr9.2.2.trans hsp) (fun z hz => ?_) hx9 h09 (hts _ hl9) (va_Nw.use rfl (hF.2.2.2.2.2.1 E hE)) hce hcv hcl ?_
  · obtain ⟨a1, nm, a2, a3⟩ := hpass z hz
    exact Or.inr ⟨a1, nm, hts _ a2, hF.2.2.2.2.2.2.2.2.2.1 _ a3⟩
  · have fin : ∀ (ls' : Array Slot) (lv' : List (Nat × Value)), lv_has ls' c.maxLocals lv' → W p l e R s m args below meth c H locs cells slots Q (F0 m (x.handlerPc + d9) ls' []) := by
      intro ls' lv' hl'
      have hlz : lv_has ls' c.maxLocals (([] : List (Nat × Value)).map fun q => (q.1, trV A q.2)) := ⟨hl'.1, hl'.2.1, fun q hq => absurd hq List.not_mem_nil⟩
      have o1 : Ok (p, l, e, R, s, m, args, below, meth, c, D, bs, A0, n0, Q) 0 0 (x.handlerPc + d9) [] [] n h := ok_iconst hc9 hi9 hv9 (ok_iretW (st := []) hc9 hr9 hr k)
      exact o1 A cy H locs ls' cells slots h1 h2 h3 h4 hw hS hlz (by omega) (by omega)
    rcases hst with ⟨kf, s1, s2, rfl⟩ | ⟨s1, rfl⟩
    · exact lv_astore_n hx hb s1 s2 hl (by rw [hml]; exact hk9) rfl (fun ls' hl' => fin ls' _ hl')
    · exact lv_astore hx hb s1 hl (by rw [hml]; exact hk9) rfl (fun ls' hl' => fin ls' _ hl')
def SpW (y : MethodName) (cc : ByteArray) (nL : Nat) (hh : List (Nat × Nat × Nat × Nat)) (f L mc ms : Nat) (spec : List Value → Nat → HP → KT → Prop) : Prop :=
  ∀ (l : Launch) (D : va_G) (bs : Nat) (A : Nat → Nat) (cy : Nat → ClassId) (args : List Value) (n : Nat) (h : HP) (K : KT), l.stackTraces = false → n ≤ SA → spec args n h K →
    vx_Met l y (.codeWith y cc nL (some .int) hh :: lw_all) ({ frames := f, cells := mc, slots := ms, locals := L }) (va_Pc (args.map (trV A)) (fun U => Wd D A cy bs n h U U.heap ∧ Fx A bs U U.heap ∧ bs ≤ U.heap.size)) (gQ D bs A n K) (gX D bs A n K) mc ms (fun q => bs ≤ q)
theorem sp_introW {y : MethodName} {cc : ByteArray} {nL : Nat} {hh : List (Nat × Nat × Nat × Nat)} {f L mc ms : Nat} {spec : List Value → Nat → HP → KT → Prop} (hy : plainName y.cls = true) (hsz : ∀ args n h K, spec args n h K → (lg_sl args).length ≤ nL)
    (body : ∀ (X : Xt) (args : List Value) (n : Nat) (h : HP) (K : KT), Cx X cc y.cls nL f L → CxW X hh K → spec args n h K → Ok X mc ms 0 (lv_args 0 args) [] n h) : SpW y cc nL hh f L mc ms spec := by
  intro l D bs A cy args n h K hst hn hs
  refine vx_ofWH (cc := cc) (maxL := nL) (ret := some .int) (hh := hh) hy rfl ?_
  intro p e s m av below meth c s₁ B hml hv
  obtain ⟨hav, hw, hF, hbs⟩ := hv
  have hts := atoms_spec (ws := .codeWith y cc nL (some .int) hh :: lw_all) B.pre
  have hown : s.vm.findClass y.cls = some m.cls := findClass_of_methodNamed B.named
  have htab : c.exceptionTable.toList = tableOf hh := vx_table (x := y) B (hts _ List.mem_cons_self)
  have hX := body (p, l, e, { frames := f, cells := mc, slots := ms, locals := L }, s, m, av, below, meth, c, D, bs, A, n, vx_MQ below (gQ D bs A n K) (gX D bs A n K) av s mc ms (fun q => bs ≤ q)) args n h K ⟨B.exec, B.bytes, hown, fun w hw => hts w (List.mem_cons_of_mem _ hw), hml, Nat.le_refl _, Nat.le_refl _, hF, hst, B.notSynchronized, hbs⟩ ⟨B.returns, rfl, htab⟩ hs
  have hl := lv_entry (args.map (trV A)) (n := nL) (by rw [sl_map]; exact hsz args n h K hs)
  rw [args_map] at hl
  rw [hav] at hX ⊢
  rw [lg_entry_eq]
  exact hX A cy s.heap [] _ 0 0 (fun _ _ => rfl) (Nat.le_refl _) hn (fun _ => rfl) hw va_S.rf (by rw [hml]; exact hl) (by simp) (by simp)
/-- the words of a call of such a method -/
def CW (own : String) (idx : Nat) (y : MethodName) (cc : ByteArray) (nL : Nat) (hh : List (Nat × Nat × Nat × Nat)) (na : Nat) : Prop :=
  Cond.methodLink own idx y ∈ lw_all ∧ Cond.static y ∈ lw_all ∧ Cond.initialized y.cls ∈ lw_all ∧ Cond.codeWith y cc nL (some .int) hh ∈ lw_all ∧ (y.cls ≠ "java/lang/invoke/MethodHandle" ∧ y.cls ≠ "java/lang/invoke/VarHandle") ∧ (parseMethodDescriptor y.desc).map (fun d => d.parameters.length) = some na
theorem ok_callSW {X : Xt} {cc : ByteArray} {own : String} {nL f L cb sb cb0 sb0 pc n : Nat} {lv : List (Nat × Value)} {st st0 : List Value} {h : HP} (hc : Cx X cc own nL f L) {idx na : Nat} {y : MethodName} {ccy : ByteArray} {nLy fy Ly mcy msy : Nat} {hh : List (Nat × Nat × Nat × Nat)} {spec : List Value → Nat → HP → KT → Prop} (As : List Value)
    (hV : CW own idx y ccy nLy hh na) (hSp : SpW y ccy nLy hh fy Ly mcy msy spec) (hR : fy + 1 ≤ f ∧ 8 + (nLy + 11) + Ly ≤ L) (hd : decode cc pc = .ok (.invokestatic idx, 3)) (hna : As.length = na) (hcb : cb + mcy = cb0) (hsb : sb + msy = sb0) (hst0 : As.reverse ++ st = st0) (hst : (st.map fun v => v.category).sum ≤ 8)
    (hs : spec As n h (kn X cb sb pc lv st n)) : Ok X cb0 sb0 pc lv st0 n h := by
  obtain ⟨p, l, e, R, s, m, args, below, meth, c, D, bs, A0, n0, Q⟩ := X
  obtain ⟨hx, hb, hown, hts, hml, hRf, hRl, hF, htr, hlk, hbs⟩ := hc
  intro A cy H locs ls cells slots h1 h2 h3 h4 hw hS hl h5 h6
  subst hcb; subst hsb; subst hst0
  obtain ⟨w1, w2, w4, w5, w6, w7⟩ := hV
  have hM := met_of (hSp l D bs A cy As n h _ htr h3 hs) (fun E a b q => by
    obtain ⟨_, _, _, _, hk, _⟩ := q
    exact hk.2)
  have cw := vx_cwSW (s := s) (R := R) (args := args) (own := own) (index := idx) (maxL := nLy) (mc := mcy) (ms := msy) (y := y) (bytes := ccy) (ret := some .int) (hh := hh) (Ts := lw_all) (ws := .codeWith y ccy nLy (some .int) hh :: lw_all) (ws' := lw_all) (rm := { frames := fy, cells := mcy, slots := msy, locals := Ly }) na hts (good_sub (fun w hw => by
    unfold va_wsS at hw
    simp only [List.mem_append, List.mem_cons, List.not_mem_nil, or_false] at hw
    rcases hw with (rfl | rfl | rfl) | rfl | hw <;> assumption)) rfl rfl rfl ⟨w6.1, w6.2, w7⟩ ⟨by show fy + 1 ≤ R.frames; omega, by show 8 + (nLy + 11) + Ly ≤ R.locals; omega⟩
  have hr := vx_runSW (p := p) (e := e) (below := below) (meth := meth) (As := As.map (trV A)) (rest := st.map (trV A)) (H := H) (locs := locs) (cells := cells) (slots := slots) (g := F0 m pc ls ((As.reverse ++ st).map (trV A))) ⟨hx, hb, hml, hown, hts⟩ hM cw ⟨blind, pre_of h1 hF hbs hw hS⟩ rfl (by rw [List.length_map]; exact hna) (by rw [← hml]; exact hl.1) (by rw [List.map_append, List.map_reverse]) (lv_room (by simpa [Function.comp_def, trV_cat] using hst)) hd ⟨by omega, by omega⟩
  exact run_use (av := (As.map (trV A)).toArray) h1 h2 h3 h4 hS hl h5 h6 (run_mono hr (fun a o t => gQ_mono (fun _ _ _ q => q) _ a o t))
