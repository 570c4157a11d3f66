/-! part 06: contracts of methods (Sp) and the rules of calls -/
/-- E was thrown at pc -/
def OkT (X : Xt) (cb sb pc : Nat) (lv : List (Nat × Value)) (E : String) (n : Nat) (h : HP) : Prop := match X with
  | (p, l, e, R, s, m, args, below, meth, c, D, bs, A0, n0, Q) =>
    ∀ (A : Nat → Nat) (cy : Nat → ClassId) (H : Heap) (locs : List Loc) (ls : Array Slot) (cells slots : Nat) (rest : List Value) (q : Addr) (ce : Cell),
      (∀ i, i < n0 ∨ SA ≤ i → A i = A0 i) → n0 ≤ n → n ≤ SA → (n = n0 → A = A0) → Wd D A cy bs n h s H → va_S (fun q => bs ≤ q) s.heap H locs → lv_has ls c.maxLocals (lv.map fun q => (q.1, trV A q.2)) →
      cells + cb ≤ R.cells → slots + sb ≤ R.slots → H[q]? = some ce → ce.vm = .none → s.vm.findClass E = some ce.cls → vx_W p l e R s m args below meth c H locs cells slots Q (F0 m pc ls rest) q
/-- what comes behind a call that makes no places -/
def kc (X : Xt) (cb sb pc : Nat) (lv : List (Nat × Value)) (st : List Value) (n : Nat) : KT := fun r n' h' => n' = n ∧ match r with
  | .inl v => Ok X cb sb (pc + 3) lv (v.toList ++ st) n h'
  | .inr E => OkT X cb sb pc lv E n h'
def Sp (y : MethodName) (cc : ByteArray) (nL : Nat) (ret : Option FieldType) (f L mc ms : Nat) (spec : List Value → Nat → HP → KT → Prop) : Prop :=
  ∀ (l : Launch) (D : va_G) (bs : Nat) (A : Nat → Nat) (cy : Nat → ClassId) (args : List Value) (n : Nat) (h : HP) (K : KT), l.stackTraces = false → n ≤ SA → spec args n h K →
    vx_Met l y (.code y cc nL ret :: lw_all) ({ frames := f, cells := mc, slots := ms, locals := L }) (va_Pc (args.map (trV A)) (fun U => Wd D A cy bs n h U U.heap ∧ Fx A bs U U.heap ∧ bs ≤ U.heap.size)) (gQ D bs A n K) (gX D bs A n K) mc ms (fun q => bs ≤ q)
theorem sl_map (A : Nat → Nat) (vs : List Value) : (lg_sl (vs.map (trV A))).length = (lg_sl vs).length := by
  induction vs with
  | nil => rfl
  | cons v vs ih =>
    unfold lg_sl at ih ⊢
    rw [List.map_cons, List.flatMap_cons, List.flatMap_cons, List.length_append, List.length_append, ih, trV_cat]
    split <;> rfl
theorem args_map (A : Nat → Nat) : ∀ (vs : List Value) (i : Nat), lv_args i (vs.map (trV A)) = (lv_args i vs).map fun q => (q.1, trV A q.2)
  | [], _ => rfl
  | v :: vs, i => by
    rw [List.map_cons]
    unfold lv_args
    rw [List.map_cons, trV_cat, args_map A vs]
theorem sp_intro {y : MethodName} {cc : ByteArray} {nL : Nat} {ret : Option FieldType} {f L mc ms : Nat} {spec : List Value → Nat → HP → KT → Prop} (hy : plainName y.cls = true) (hsz : ∀ args n h K, spec args n h K → (lg_sl args).length ≤ nL)
    (body : ∀ (X : Xt) (args : List Value) (n : Nat) (h : HP) (K : KT), Cx X cc y.cls nL f L → CxR X ret K → spec args n h K → Ok X mc ms 0 (lv_args 0 args) [] n h) : Sp y cc nL ret f L mc ms spec := by
  intro l D bs A cy args n h K hst hn hs
  refine vx_ofW (cc := cc) (maxL := nL) (ret := ret) hy rfl ?_
  intro p e s m av below meth c s₁ B hml hno hv
  obtain ⟨hav, hw, hF, hbs⟩ := hv
  have hts := atoms_spec (ws := .code y cc nL ret :: lw_all) B.pre
  have hown : s.vm.findClass y.cls = some m.cls := findClass_of_methodNamed B.named
  have hX := body (p, l, e, { frames := f, cells := mc, slots := ms, locals := L }, s, m, av, below, meth, c, D, bs, A, n, vx_MQ below (gQ D bs A n K) (gX D bs A n K) av s mc ms (fun q => bs ≤ q)) args n h K ⟨B.exec, B.bytes, hown, fun w hw => hts w (List.mem_cons_of_mem _ hw), hml, Nat.le_refl _, Nat.le_refl _, hF, hst, B.notSynchronized, hbs⟩ ⟨B.returns, rfl, hno⟩ hs
  have hl := lv_entry (args.map (trV A)) (n := nL) (by rw [sl_map]; exact hsz args n h K hs)
  rw [args_map] at hl
  rw [hav] at hX ⊢
  rw [lg_entry_eq]
  exact hX A cy s.heap [] _ 0 0 (fun _ _ => rfl) (Nat.le_refl _) hn (fun _ => rfl) hw va_S.rf (by rw [hml]; exact hl) (by simp) (by simp)
theorem blind {D : va_G} {A : Nat → Nat} {cy : Nat → ClassId} {bs n : Nat} {h : HP} {av : List Value} : FrameBlind (va_Pc av (fun U => Wd D A cy bs n h U U.heap ∧ Fx A bs U U.heap ∧ bs ≤ U.heap.size)) := by
  intro a U g mk q
  obtain ⟨q0, q1, q2, q3⟩ := q
  exact ⟨q0, Wd.moved (u := U) (U := U.calling g mk a) (Vm.Alike.refl U.vm) q1, Fx.moved (u := U) (U := U.calling g mk a) (State.WarmedH.refl U) q2, q3⟩
theorem list_opt (A : Nat → Nat) (v : Option Value) (st : List Value) : (v.map (trV A)).toList ++ st.map (trV A) = (v.toList ++ st).map (trV A) := by cases v <;> simp
section RUN
variable {p : Program} {l : Launch} {e : Env} {R : Room} {s : State} {m : MethodId} {args : Array Value} {below : List Frame} {meth : Method} {c : Code} {D : va_G} {bs n0 : Nat} {A0 : Nat → Nat} {Q : State → Prop}
/-- behind a run of a callee that makes no places -/
theorem run_use {cb sb pc n mc ms : Nat} {lv : List (Nat × Value)} {st st0 : List Value} {H : Heap} {locs : List Loc} {ls : Array Slot} {cells slots : Nat} {A : Nat → Nat} {av : Array Value}
    (h1 : ∀ i, i < n0 ∨ SA ≤ i → A i = A0 i) (h2 : n0 ≤ n) (h3 : n ≤ SA) (h4 : n = n0 → A = A0) (hS : va_S (fun q => bs ≤ q) s.heap H locs) (hl : lv_has ls c.maxLocals (lv.map fun q => (q.1, trV A q.2))) (h5 : cells + (cb + mc) ≤ R.cells) (h6 : slots + (sb + ms) ≤ R.slots)
    (hr : vx_Run p l e R s m args below meth c H locs cells slots mc ms (F0 m pc ls st0) (st.map (trV A)) (gQ D bs A n (kc (p, l, e, R, s, m, args, below, meth, c, D, bs, A0, n0, Q) cb sb pc lv st n) av) (gX D bs A n (kc (p, l, e, R, s, m, args, below, meth, c, D, bs, A0, n0, Q) cb sb pc lv st n)) (fun q => bs ≤ q)) :
    W p l e R s m args below meth c H locs cells slots Q (F0 m pc ls st0) := by
  intro T hT Xs
  rcases hr T hT Xs with ⟨v, st₀, t, T', L, g0, X', hL, e1, e2, hq, go⟩ | ⟨q, st₀, t, T', L, E, ce, g0, X', hL, e1, e2, hx, hce, hcv, hcl, go⟩
  · obtain ⟨A', cy', w, n', h', hv, hk, g1, g2, g3, g4, hw', hF⟩ := hq
    obtain ⟨hnn, hk⟩ := hk
    subst hnn
    have hAA : A' = A := g4 rfl
    subst hAA
    cases hv
    obtain ⟨k1, k2, k3⟩ := vx_keep g0 e1 hS (fun _ _ z => z) (fun _ z => z) hL hF
    have hal : s.vm.Alike t.vm := by rw [← e2]; exact X'.warmed.alike
    have hwn : Wd D A' cy' bs n' h' s T'.heap := by rw [e1]; exact hw'.moved hal.symm
    obtain ⟨t2, a1, b1⟩ := hk A' cy' T'.heap (locs ++ L) ls (cells + mc) (slots + ms) h1 h2 h3 h4 hwn k3 hl (by omega) (by omega) T' rfl X'
    refine ⟨t2, go t2 ?_, b1⟩
    show Steps p.tables e below (T'.setTop (F0 m (pc + 3) ls ((w.map (trV A')).toList ++ st.map (trV A')))) t2
    rw [list_opt]
    exact a1
  · obtain ⟨A', cy', n', h', hk, g1, g2, g3, g4, hw', hF⟩ := hx
    obtain ⟨hnn, hk⟩ := hk
    subst hnn
    have hAA : A' = A := g4 rfl
    subst hAA
    obtain ⟨k1, k2, k3⟩ := vx_keep g0 e1 hS (fun _ _ z => z) (fun _ z => z) hL hF
    have hal : s.vm.Alike t.vm := by rw [← e2]; exact X'.warmed.alike
    have hwn : Wd D A' cy' bs n' h' s T'.heap := by rw [e1]; exact hw'.moved hal.symm
    obtain ⟨t2, a1, b1⟩ := hk A' cy' T'.heap (locs ++ L) ls (cells + mc) (slots + ms) (st.map (trV A')) q ce h1 h2 h3 h4 hwn k3 hl (by omega) (by omega) (by rw [e1]; exact hce) hcv hcl T' rfl X'
    exact ⟨t2, go.trans a1, b1⟩
/-- a callee that doesn't throw: as one that may -/
theorem run_of {H : Heap} {locs : List Loc} {cells slots mc ms : Nat} {g : JFrame} {rest : List Value} {Qa : State → Outcome → State → Prop} {XC : String → State → State → Prop} {free : Addr → Prop} (hr : va_Run p l e R s m args below meth c H locs cells slots mc ms g rest Qa free) : vx_Run p l e R s m args below meth c H locs cells slots mc ms g rest Qa XC free :=
  fun T hT X => Or.inl (hr T hT X)
/-- what a callee asks of the world at its start -/
theorem pre_of {n : Nat} {h : HP} {H : Heap} {locs : List Loc} {A : Nat → Nat} {cy : Nat → ClassId} {as : List Value} (h1 : ∀ i, i < n0 ∨ SA ≤ i → A i = A0 i) (hF : Fx A0 bs s s.heap) (hbs : bs ≤ s.heap.size) (hw : Wd D A cy bs n h s H) (hS : va_S (fun q => bs ≤ q) s.heap H locs) :
    ∀ U : State, U.heap = H → s.WarmedH U.vm → va_Pc (as.map (trV A)) (fun U => Wd D A cy bs n h U U.heap ∧ Fx A bs U U.heap ∧ bs ≤ U.heap.size) (as.map (trV A)).toArray U := by
  intro U hU hW
  refine ⟨rfl, by rw [hU]; exact hw.moved hW.alike, ?_, by rw [hU]; exact Nat.le_trans hbs hS.1⟩
  rw [hU]
  exact ((hF.kept (fun a ha hn => hS.2.1 a ha hn)).moved hW).same (h1 SA (Or.inr (Nat.le_refl _))) (h1 (SA + 1) (Or.inr (Nat.le_succ _)))
end RUN
theorem met_of {l : Launch} {y : MethodName} {ws : List Cond} {rm : Room} {Pc : Array Value → State → Prop} {Qc : Array Value → State → Outcome → State → Prop} {XC : String → State → State → Prop} {mc ms : Nat} {free : Addr → Prop} (h : vx_Met l y ws rm Pc Qc XC mc ms free) (hX : ∀ E a b, ¬ XC E a b) : Met l y ws rm Pc Qc mc ms free := by
  intro p e ha hc hk s m args below hf happ hP hK
  obtain ⟨k, o, h1, h2, h3, h4⟩ := h p e ha hc hk s m args below hf happ hP hK
  refine ⟨k, o, h1, h2, h3, ?_⟩
  rcases h4 with h4 | ⟨q, _, E, ce, L, hx, _⟩
  · exact h4
  · exact absurd hx (hX E _ _)
/-- a call site's words: virtual -/
def CV (own : String) (idx ci : Nat) (y : MethodName) (cc : ByteArray) (nL : Nat) (ret : Option FieldType) (na : Nat) : Prop :=
  Cond.methodLink own idx y ∈ lw_all ∧ Cond.instanceMethod y ∈ lw_all ∧ Cond.selects y.cls y y ∈ lw_all ∧ Cond.initialized y.cls ∈ lw_all ∧ Cond.code y cc nL ret ∈ lw_all ∧ (y.cls ≠ "java/lang/invoke/MethodHandle" ∧ y.cls ≠ "java/lang/invoke/VarHandle") ∧ (parseMethodDescriptor y.desc).map (fun d => d.parameters.length) = some na ∧ ∃ (T : u_T) (N : Nat), vwCl[ci]? = some (y.cls, T, N)
/-- .. static -/
def CS (own : String) (idx : Nat) (y : MethodName) (cc : ByteArray) (nL : Nat) (ret : Option FieldType) (na : Nat) : Prop :=
  Cond.methodLink own idx y ∈ lw_all ∧ Cond.static y ∈ lw_all ∧ Cond.initialized y.cls ∈ lw_all ∧ Cond.code y cc nL ret ∈ lw_all ∧ (y.cls ≠ "java/lang/invoke/MethodHandle" ∧ y.cls ≠ "java/lang/invoke/VarHandle") ∧ (parseMethodDescriptor y.desc).map (fun d => d.parameters.length) = some na
theorem good_cons {y : MethodName} {cc : ByteArray} {nL : Nat} {ret : Option FieldType} (h : Cond.code y cc nL ret ∈ lw_all) : GoodIn lw_all (Cond.code y cc nL ret :: lw_all) := good_sub (fun w hw => (List.mem_cons.mp hw).elim (fun e => e ▸ h) id)
theorem ok_callV {X : Xt} {cc : ByteArray} {own : String} {nL f L cb sb cb0 sb0 pc n : Nat} {lv : List (Nat × Value)} {st st0 : List Value} {h : HP} (hc : Cx X cc own nL f L) {idx ci a na : Nat} {y : MethodName} {ccy : ByteArray} {nLy fy Ly mcy msy : Nat} {rety : Option FieldType} {spec : List Value → Nat → HP → KT → Prop} {fs : List Value} (As : List Value)
    (hV : CV own idx ci y ccy nLy rety na) (hSp : Sp y ccy nLy rety fy Ly mcy msy spec) (hR : fy + 1 ≤ f ∧ 8 + (nLy + 11) + Ly ≤ L) (hd : decode cc pc = .ok (.invokevirtual idx, 3)) (hna : As.length = na) (ha : a < n) (he : h a = .inl (ci, fs)) (hcb : cb + mcy = cb0) (hsb : sb + msy = sb0) (hst0 : As.reverse ++ .ref a :: st = st0) (hst : (st.map fun v => v.category).sum ≤ 8)
    (hs : spec (.ref a :: As) n h (kc X cb sb pc lv st n)) : Ok X cb0 sb0 pc lv st0 n h := by
  obtain ⟨p, l, e, R, s, m, args, below, meth, c, D, bs, A0, n0, Q⟩ := X
  obtain ⟨hx, hb, hown, hts, hml, hRf, hRl, hF, htr, hlk, hbs⟩ := hc
  intro A cy H locs ls cells slots h1 h2 h3 h4 hw hS hl h5 h6
  subst hcb; subst hsb; subst hst0
  obtain ⟨w1, w2, w3, w4, w5, w6, w7, T, N, w8⟩ := hV
  have hM := hSp l D bs A cy (.ref a :: As) n h _ htr h3 hs
  have cw : CallW R s args own y.cls idx y ccy nLy rety (.code y ccy nLy rety :: lw_all) ({ frames := fy, cells := mcy, slots := msy, locals := Ly }) mcy msy na :=
    cwV na hts (goodIn_app (good_sub (fun w hw => by
      simp only [List.mem_cons, List.not_mem_nil, or_false] at hw
      rcases hw with rfl | rfl | rfl | rfl <;> assumption)) (good_cons w5)) rfl rfl rfl ⟨rfl, w6.1, w6.2, w7⟩ ⟨by show fy + 1 ≤ R.frames; omega, by show 8 + (nLy + 11) + Ly ≤ R.locals; omega⟩
  have hrv := va_recv hw.2.1 hw.1 w8 (q0 := a) (a := A a) (fs := fs.map (trV A)) ((lst_get ha).trans (by rw [he]; rfl))
  refine run_use (av := (Value.ref (A a) :: As.map (trV A)).toArray) h1 h2 h3 h4 hS hl h5 h6 (vx_runV (As := As.map (trV A)) ⟨hx, hb, hml, hown, hts⟩ hM cw ⟨blind, hrv, pre_of (as := .ref a :: As) h1 hF hbs hw hS⟩ rfl (by rw [List.length_map]; exact hna) (by rw [← hml]; exact hl.1) ?_ (lv_room (by simpa [Function.comp_def, trV_cat] using hst)) hd ⟨by omega, by omega⟩)
  show (As.reverse ++ .ref a :: st).map (trV A) = (As.map (trV A)).reverse ++ .ref (A a) :: st.map (trV A)
  rw [List.map_append, List.map_reverse]
  rfl
theorem ok_callS {X : Xt} {cc : ByteArray} {own : String} {nL f L cb sb cb0 sb0 pc n : Nat} {lv : List (Nat × Value)} {st st0 : List Value} {h : HP} (hc : Cx X cc own nL f L) {idx na : Nat} {y : MethodName} {ccy : ByteArray} {nLy fy Ly mcy msy : Nat} {rety : Option FieldType} {spec : List Value → Nat → HP → KT → Prop} (As : List Value)
    (hV : CS own idx y ccy nLy rety na) (hSp : Sp y ccy nLy rety fy Ly mcy msy spec) (hR : fy + 1 ≤ f ∧ 8 + (nLy + 11) + Ly ≤ L) (hd : decode cc pc = .ok (.invokestatic idx, 3)) (hna : As.length = na) (hcb : cb + mcy = cb0) (hsb : sb + msy = sb0) (hst0 : As.reverse ++ st = st0) (hst : (st.map fun v => v.category).sum ≤ 8)
    (hs : spec As n h (kc X cb sb pc lv st n)) : Ok X cb0 sb0 pc lv st0 n h := by
  obtain ⟨p, l, e, R, s, m, args, below, meth, c, D, bs, A0, n0, Q⟩ := X
  obtain ⟨hx, hb, hown, hts, hml, hRf, hRl, hF, htr, hlk, hbs⟩ := hc
  intro A cy H locs ls cells slots h1 h2 h3 h4 hw hS hl h5 h6
  subst hcb; subst hsb; subst hst0
  obtain ⟨w1, w2, w4, w5, w6, w7⟩ := hV
  have hM := hSp l D bs A cy As n h _ htr h3 hs
  have cw : CallB R s args own idx y ccy nLy rety (.code y ccy nLy rety :: lw_all) ({ frames := fy, cells := mcy, slots := msy, locals := Ly }) mcy msy na ∧ (Cond.static y).before args s = true :=
    va_cwS na hts (goodIn_app (good_sub (fun w hw => by
      simp only [List.mem_cons, List.not_mem_nil, or_false] at hw
      rcases hw with rfl | rfl | rfl <;> assumption)) (good_cons w5)) rfl rfl rfl ⟨w6.1, w6.2, w7⟩ ⟨by show fy + 1 ≤ R.frames; omega, by show 8 + (nLy + 11) + Ly ≤ R.locals; omega⟩
  refine run_use (av := (As.map (trV A)).toArray) h1 h2 h3 h4 hS hl h5 h6 (vx_runS (As := As.map (trV A)) ⟨hx, hb, hml, hown, hts⟩ hM cw ⟨blind, pre_of h1 hF hbs hw hS⟩ rfl (by rw [List.length_map]; exact hna) (by rw [← hml]; exact hl.1) ?_ (lv_room (by simpa [Function.comp_def, trV_cat] using hst)) hd ⟨by omega, by omega⟩)
  show (As.reverse ++ st).map (trV A) = (As.map (trV A)).reverse ++ st.map (trV A)
  rw [List.map_append, List.map_reverse]
