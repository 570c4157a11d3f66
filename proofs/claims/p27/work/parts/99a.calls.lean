/-! part 99a: calls of constructors; arrays of arrays -/
/-- what comes behind a call that may make places -/
def kg (X : Xt) (cb sb pc : Nat) (lv : List (Nat × Value)) (st : List Value) (n : Nat) : KT := fun r n' h' => n ≤ n' ∧ match r with
  | .inl v => Ok X cb sb (pc + 3) lv (v.toList ++ st) n' h'
  | .inr _ => False
section RUNG
variable {p : Program} {l : Launch} {e : Env} {R : Room} {s : State} {m : MethodId} {args : Array Value} {below : List Frame} {meth : Method} {c : Code} {D : va_G} {bs n0 : Nat} {A0 : Nat → Nat} {Q : State → Prop}
theorem run_useG {cb sb pc n mc ms : Nat} {lv : List (Nat × Value)} {st st0 : List Value} {H : Heap} {locs : List Loc} {ls : Array Slot} {cells slots : Nat} {A : Nat → Nat} {av : Array Value}
    (h1 : ∀ i, i < n0 ∨ SA ≤ i → A i = A0 i) (h2 : n0 ≤ n) (h4 : n = n0 → A = A0) (hS : va_S (fun q => bs ≤ q) s.heap H locs) (hl : lv_has ls c.maxLocals (lv.map fun q => (q.1, trV A q.2))) (h5 : cells + (cb + mc) ≤ R.cells) (h6 : slots + (sb + ms) ≤ R.slots) (hlv : ClV (lv.map fun q => q.2) n) (hst : ClV st n)
    (hr : va_Run p l e R s m args below meth c H locs cells slots mc ms (F0 m pc ls st0) (st.map (trV A)) (gQ D bs A n (kg (p, l, e, R, s, m, args, below, meth, c, D, bs, A0, n0, Q) cb sb pc lv st n) av) (fun q => bs ≤ q)) :
    W p l e R s m args below meth c H locs cells slots Q (F0 m pc ls st0) := by
  intro T hT Xs
  obtain ⟨v, st₀, t, T', L, g0, X', hL, e1, e2, hq, go⟩ := hr T hT Xs
  obtain ⟨A', cy', w, n', h', hv, hk, g1, g2, g3, g4, hw', hF⟩ := hq
  obtain ⟨hnn, hk⟩ := hk
  cases hv
  obtain ⟨k1, k2, k3⟩ := vx_keep g0 e1 hS (fun _ _ z => z) (fun _ z => z) hL hF
  have hal : s.vm.Alike t.vm := by rw [← e2]; exact X'.warmed.alike
  have hwn : Wd D A' cy' bs n' h' s T'.heap := by rw [e1]; exact hw'.moved hal.symm
  obtain ⟨t2, a1, b1⟩ := hk A' cy' T'.heap (locs ++ L) ls (cells + mc) (slots + ms) (fun i hi => by rw [g1 i (by omega)]; exact h1 i hi) (by omega) g3 (fun z => by rw [g4 (by omega)]; exact h4 (by omega)) hwn k3 (by rw [lvs_eq g1 hlv]; exact hl) (by omega) (by omega) T' rfl X'
  refine ⟨t2, go t2 ?_, b1⟩
  show Steps p.tables e below (T'.setTop (F0 m (pc + 3) ls ((w.map (trV A')).toList ++ st.map (trV A)))) t2
  rw [← map_eq g1 hst, list_opt]
  exact a1
end RUNG
/-- a call site's words: a constructor -/
def CI (own : String) (idx : Nat) (y : MethodName) (cc : ByteArray) (nL na : Nat) : Prop :=
  Cond.methodLink own idx y ∈ lw_all ∧ Cond.instanceMethod y ∈ lw_all ∧ Cond.initialized y.cls ∈ lw_all ∧ Cond.code y cc nL none ∈ lw_all ∧ y.name = "<init>" ∧ (y.cls ≠ "java/lang/invoke/MethodHandle" ∧ y.cls ≠ "java/lang/invoke/VarHandle") ∧ (parseMethodDescriptor y.desc).map (fun d => d.parameters.length) = some na
theorem ok_callI {X : Xt} {cc : ByteArray} {own : String} {nL f L cb sb cb0 sb0 pc n : Nat} {lv : List (Nat × Value)} {st st0 : List Value} {h : HP} (hc : Cx X cc own nL f L) {idx na a : Nat} {y : MethodName} {ccy : ByteArray} {nLy fy Ly mcy msy : Nat} {spec : List Value → Nat → HP → KT → Prop} (As : List Value)
    (hV : CI own idx y ccy nLy na) (hSp : Sp y ccy nLy none fy Ly mcy msy spec) (hR : fy + 1 ≤ f ∧ 8 + (nLy + 11) + Ly ≤ L) (hd : decode cc pc = .ok (.invokespecial idx, 3)) (hna : As.length = na) (hcb : cb + mcy = cb0) (hsb : sb + msy = sb0) (hst0 : As.reverse ++ .ref a :: st = st0) (hst : (st.map fun v => v.category).sum ≤ 8) (hlv : ClV (lv.map fun q => q.2) n) (hcst : ClV st n)
    (hs : spec (.ref a :: As) n h (kg X cb sb pc lv st n)) : Ok X cb0 sb0 pc lv st0 n h := by
  obtain ⟨p, l, e, R, s, m, args, below, meth, c, D, bs, A0, n0, Q⟩ := X
  obtain ⟨hx, hb, hown, hts, hml, hRf, hRl, hF, htr, hlk, hbs⟩ := hc
  intro A cy H locs ls cells slots h1 h2 h3 h4 hw hS hl h5 h6
  subst hcb; subst hsb; subst hst0
  obtain ⟨w1, w2, w4, w5, w8, w6, w7⟩ := hV
  have hM := met_of (hSp l D bs A cy (.ref a :: As) n h _ htr h3 hs) (fun E x y q => by
    obtain ⟨_, _, _, _, hk, _⟩ := q
    exact hk.2)
  have cw := cwI (s := s) (R := R) (args := args) (Ts := lw_all) (ws := .code y ccy nLy none :: lw_all) (ws' := lw_all) (y := y) (bytes := ccy) (maxL := nLy) (index := idx) (mc := mcy) (ms := msy) (own := own) (rm := { frames := fy, cells := mcy, slots := msy, locals := Ly }) na hts (good_cons w5) rfl rfl rfl (hts _ w4) (hts _ w1) (hts _ w2) w8 ⟨w6.1, w6.2, w7⟩ ⟨by show fy + 1 ≤ R.frames; omega, by show 8 + (nLy + 11) + Ly ≤ R.locals; omega⟩
  refine run_useG (av := (Value.ref (A a) :: As.map (trV A)).toArray) h1 h2 h4 hS hl h5 h6 hlv hcst (va_runI (As := As.map (trV A)) ⟨hx, hb, hml, hown, hts⟩ hM cw ⟨blind, pre_of (as := .ref a :: As) h1 hF hbs hw hS⟩ rfl (by rw [List.length_map]; exact hna) (by rw [← hml]; exact hl.1) ?_ (lv_room (by simpa [Function.comp_def, trV_cat] using hst)) hd ⟨by omega, by omega⟩)
  show (As.reverse ++ .ref a :: st).map (trV A) = (As.map (trV A)).reverse ++ .ref (A a) :: st.map (trV A)
  rw [List.map_append, List.map_reverse]
  rfl
theorem sp_introI {y : MethodName} {cc : ByteArray} {nL : Nat} {ret : Option FieldType} {f L mc ms : Nat} {spec : List Value → Nat → HP → KT → Prop} (hy : plainName y.cls = true) (hy1 : y.name = "<init>") (hsz : ∀ args n h K, spec args n h K → (lg_sl args).length ≤ nL)
    (body : ∀ (X : Xt) (args : List Value) (n : Nat) (h : HP) (K : KT), Nm X → Cx X cc y.cls nL f L → CxR X ret K → spec args n h K → Ok X mc ms 0 (lv_args 0 args) [] n h) : Sp y cc nL ret f L mc ms spec := by
  intro l D bs A cy args n h K hst hn hs
  refine vx_ofW (cc := cc) (maxL := nL) (ret := ret) hy rfl ?_
  intro p e s m av below meth c s₁ B hml hno hv
  obtain ⟨hav, hw, hF, hbs⟩ := hv
  have hts := atoms_spec (ws := .code y cc nL ret :: lw_all) B.pre
  have hown : s.vm.findClass y.cls = some m.cls := findClass_of_methodNamed B.named
  have hin : meth.name = "<init>" := (name_of_methodNamed B.named B.method).1.trans hy1
  have hX := body (p, l, e, { frames := f, cells := mc, slots := ms, locals := L }, s, m, av, below, meth, c, D, bs, A, n, vx_MQ below (gQ D bs A n K) (gX D bs A n K) av s mc ms (fun q => bs ≤ q)) args n h K hin ⟨B.exec, B.bytes, hown, fun w hw => hts w (List.mem_cons_of_mem _ hw), hml, Nat.le_refl _, Nat.le_refl _, hF, hst, B.notSynchronized, hbs⟩ ⟨B.returns, rfl, hno⟩ hs
  have hl := lv_entry (args.map (trV A)) (n := nL) (by rw [sl_map]; exact hsz args n h K hs)
  rw [args_map] at hl
  rw [hav] at hX ⊢
  rw [lg_entry_eq]
  exact hX A cy s.heap [] _ 0 0 (fun _ _ => rfl) (Nat.le_refl _) hn (fun _ => rfl) hw va_S.rf (by rw [hml]; exact hl) (by simp) (by simp)
def mnH (h : HP) (n N K : Nat) : HP := fun i => if i = n then .inr (4, N, .inr (.inr (fun j => if j < N then some (n + 1 + j) else none))) else if n < i ∧ i ≤ n + N then al K (fun _ => 0) else h i
theorem ok_mna {X : Xt} {cc : ByteArray} {own : String} {nL f L cb sb pc n : Nat} {lv : List (Nat × Value)} {st : List Value} {h : HP} (hc : Cx X cc own nL f L) {idx N K : Nat} (hd : decode cc pc = .ok (.multianewarray idx 2, 4)) (w1 : Cond.classLink own idx "[[J" ∈ lw_all) (w2 : Cond.arrayClass .long ∈ lw_all) (hN : N ≤ 100) (hK : K ≤ 100) (hcl : Cl h n) (hlv : ClV (lv.map fun q => q.2) n) (hst : ClV st n) (hn : n + N < SA) (k : Ok X cb sb (pc + 4) lv (.ref n :: st) (n + 1 + N) (mnH h n N K)) : Ok X (cb + (1 + N)) (sb + (N + N * K)) pc lv (.int (i3 (K : Int)) :: .int (i3 (N : Int)) :: st) n h := by
  obtain ⟨p, l, e, R, s, m, args, below, meth, c, D, bs, A0, n0, Q⟩ := X
  obtain ⟨hx, hb, hown, hts, hml, hRf, hRl, hF, htr, hlk, hbs⟩ := hc
  intro A cy H locs ls cells slots h1 h2 h3 h4 hw hS hl h5 h6
  have hLN := len_i3 (len := N) (by omega)
  have hLK := len_i3 (len := K) (by omega)
  obtain ⟨comp, cA0, kA, o1, o2, o3, o4, o5⟩ := ao_spec (va_AOA.use (A := #[]) hF.2.2.2.2.2.2.2.2.2.2.1)
  have hb2 : K * 8 ≤ 536870912 := by omega
  refine va_mna (X := lst A cy n h) (L := []) (f := fun _ => .inl (0, 0, .inl (fun _ => 0))) (ty := .long) (cy := comp) (tys := []) (A := fun q => bs ≤ q) (H0 := s.heap) (N' := N) (K' := K) (z := (K, .inr (.inl (fun _ => i6 0)))) hx hb hown (hts _ w1) hF.2.2.2.2.2.2.2.2.2.2.1 (hts _ w2) o1 hw.2.1 (by simpa [va_pl] using hw.1) (by simpa [va_pl] using hw.D) hS (fun q hq => Nat.le_trans hbs hq) hLN.1 hLK.1 hLN.2 hLK.2 (by omega) hb2 (by omega) rfl rfl (by omega) (by omega) (fun c => arrV_new c K _) hd (fun q r cA H1 hinj _ hK' hP' hD' hS1 => ?_)
  have hA' : ∀ i, i < n ∨ SA ≤ i → (fun i => if i = n then q else if n < i ∧ i ≤ n + N then r (i - n - 1) else A i) i = A i := fun i hi => by
    show (if i = n then q else if n < i ∧ i ≤ n + N then r (i - n - 1) else A i) = A i
    rw [if_neg (by omega), if_neg (by omega)]
  generalize hAe : (fun i => if i = n then q else if n < i ∧ i ≤ n + N then r (i - n - 1) else A i) = A' at hA'
  have hAn : A' n = q := by
    rw [← hAe]
    exact if_pos rfl
  have hAr : ∀ i, i < N → A' (n + 1 + i) = r i := fun i hi => by
    rw [← hAe]
    show (if n + 1 + i = n then q else if n < n + 1 + i ∧ n + 1 + i ≤ n + N then r (n + 1 + i - n - 1) else A (n + 1 + i)) = r i
    rw [if_neg (by omega), if_pos (by omega), show n + 1 + i - n - 1 = i by omega]
  have eL : lst A' (fun i => if i = n then cA else if n < i ∧ i ≤ n + N then comp else cy i) (n + 1 + N) (mnH h n N K) = (lst A cy n h ++ [(q, .inl (cA, N, .inr (.inr (.inr (.inr (fun i => if i < N then some (r i) else none))))))]) ++ va_pl ([] ++ (List.range N).map r) (vr_up (fun _ => .inl (0, 0, .inl (fun _ => 0))) ((List.range N).map r) (.inl (comp, (K, .inr (.inl (fun _ => i6 0)))))) := by
    unfold lst va_pl
    rw [List.range_add, List.range_succ, List.map_append, List.map_append, List.nil_append]
    have p1 : (List.range n).map (fun i => (A' i, trE A' (if i = n then cA else if n < i ∧ i ≤ n + N then comp else cy i) (mnH h n N K i))) = (List.range n).map (fun i => (A i, trE A (cy i) (h i))) := List.map_congr_left fun i hi => by
      have hi' := List.mem_range.mp hi
      have em : mnH h n N K i = h i := by
        unfold mnH
        rw [if_neg (by omega), if_neg (by omega)]
      rw [em, hA' i (Or.inl hi'), if_neg (by omega), if_neg (by omega), trE_eq hA' (hcl i hi')]
    rw [p1, List.map_map, List.map_map]
    refine congr (congrArg HAppend.hAppend (congrArg (fun z => (List.range n).map (fun i => (A i, trE A (cy i) (h i))) ++ z) ?_)) ?_
    · show [(A' n, trE A' (if n = n then cA else _) (mnH h n N K n))] = _
      have em : mnH h n N K n = .inr (4, N, .inr (.inr (fun j => if j < N then some (n + 1 + j) else none))) := if_pos rfl
      rw [em, hAn, if_pos rfl]
      refine congrArg (fun g => [(q, (Sum.inl (cA, N, Sum.inr (Sum.inr (Sum.inr (Sum.inr g)))) : va_E))]) (funext fun j => ?_)
      show Option.map A' (if j < N then some (n + 1 + j) else none) = (if j < N then some (r j) else none)
      by_cases z : j < N
      · rw [if_pos z, if_pos z]
        exact congrArg some (hAr j z)
      · rw [if_neg z, if_neg z]
        rfl
    · refine List.map_congr_left fun i hi => ?_
      have hi' := List.mem_range.mp hi
      show (A' (n + 1 + i), trE A' (if n + 1 + i = n then cA else if n < n + 1 + i ∧ n + 1 + i ≤ n + N then comp else cy (n + 1 + i)) (mnH h n N K (n + 1 + i))) = (r i, vr_up _ _ _ (r i))
      have em : mnH h n N K (n + 1 + i) = al K (fun _ => 0) := by
        unfold mnH
        rw [if_neg (by omega), if_pos (by omega)]
      rw [em, hAr i hi', if_neg (by omega), if_pos (by omega)]
      unfold vr_up
      rw [if_pos (List.mem_map.mpr ⟨i, hi, rfl⟩)]
      rfl
  rw [← eL] at hP' hD'
  have := k A' (fun i => if i = n then cA else if n < i ∧ i ≤ n + N then comp else cy i) H1 locs ls (cells + 1 + N) (slots + N + N * K) (fun i hi => by rw [hA' i (by omega)]; exact h1 i hi) (by omega) (by omega) (fun z => absurd z (by omega)) ⟨hP', hw.2.1, fun i hi ty hty => ?_, fun i j hi hj hij => hD'.1 i j _ _ (lst_get hi) (lst_get hj) hij, fun i hi => hD'.2 i _ (lst_get hi)⟩ hS1 (by rw [lvs_eq hA' (fun j hj => by have := hlv j hj; omega)]; exact hl) (by omega) (by omega)
  · rw [List.map_cons, map_eq hA' (fun j hj => by have := hst j hj; omega), show trV A' (.ref n) = .ref q from congrArg Value.ref hAn] at this
    exact this
  · show ArrOfT s (if i = n then cA else if n < i ∧ i ≤ n + N then comp else cy i) ty ∧ va_RA s (if i = n then cA else if n < i ∧ i ≤ n + N then comp else cy i) ty
    by_cases z : i = n
    · have em : mnH h n N K i = .inr (4, N, .inr (.inr (fun j => if j < N then some (n + 1 + j) else none))) := by rw [z]; exact if_pos rfl
      rw [em] at hty
      have : ty = .array .long := (Option.some.inj hty).symm
      subst this
      rw [if_pos z]
      exact hK'.2 0 _ rfl
    · by_cases y : n < i ∧ i ≤ n + N
      · have em : mnH h n N K i = al K (fun _ => 0) := by
          unfold mnH
          rw [if_neg z, if_pos y]
        rw [em] at hty
        have : ty = .long := (Option.some.inj hty).symm
        subst this
        rw [if_neg z, if_pos y]
        obtain ⟨cB, kB, cp, b1, b2, b3⟩ := Cond.arrayClass_spec (hts _ w2)
        have eB : cB = comp := Option.some.inj (b1.symm.trans o1)
        subst eB
        exact ⟨fun n z => ⟨fun k h => (by cases h), kB, b2, cp, b3⟩, b1⟩
      · have em : mnH h n N K i = h i := by
          unfold mnH
          rw [if_neg z, if_neg y]
        rw [em] at hty
        rw [if_neg z, if_neg y]
        exact hw.2.2.1 i (by omega) ty hty
