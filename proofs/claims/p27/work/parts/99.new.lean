/-! part 99: making things: the rules -/
def Rf (e : AE) (j : Nat) : Prop := match e with
  | .inl q => Value.ref j ∈ q.2
  | .inr (_, _, .inr (.inr f)) => ∃ i, f i = some j
  | _ => False
/-- what lies in the places refers to places that are -/
def Cl (h : HP) (n : Nat) : Prop := ∀ i, i < n → ∀ j, Rf (h i) j → j < n ∨ SA ≤ j
def ClV (vs : List Value) (n : Nat) : Prop := ∀ j, Value.ref j ∈ vs → j < n ∨ SA ≤ j
theorem trV_eq {A B : Nat → Nat} {n : Nat} (hA : ∀ i, i < n ∨ SA ≤ i → B i = A i) {v : Value} (h : ∀ j, v = .ref j → j < n ∨ SA ≤ j) : trV B v = trV A v := by
  cases v with
  | ref i => exact congrArg Value.ref (hA i (h i rfl))
  | _ => rfl
theorem map_eq {A B : Nat → Nat} {n : Nat} (hA : ∀ i, i < n ∨ SA ≤ i → B i = A i) {vs : List Value} (h : ClV vs n) : vs.map (trV B) = vs.map (trV A) := List.map_congr_left fun v hv => trV_eq hA (fun j e => h j (by rw [← e]; exact hv))
theorem lvs_eq {A B : Nat → Nat} {n : Nat} (hA : ∀ i, i < n ∨ SA ≤ i → B i = A i) {lv : List (Nat × Value)} (h : ClV (lv.map fun q => q.2) n) : (lv.map fun q => (q.1, trV B q.2)) = lv.map fun q => (q.1, trV A q.2) := List.map_congr_left fun q hq => by
  rw [trV_eq hA (fun j e => h j (by rw [← e]; exact List.mem_map.mpr ⟨q, hq, rfl⟩))]
theorem trE_eq {A B : Nat → Nat} {n : Nat} (hA : ∀ i, i < n ∨ SA ≤ i → B i = A i) {c : ClassId} {e : AE} (h : ∀ j, Rf e j → j < n ∨ SA ≤ j) : trE B c e = trE A c e := by
  rcases e with ⟨ci, fs⟩ | ⟨t, len, f | f | f⟩
  · exact congrArg (fun z => Sum.inr (ci, z)) (map_eq hA h)
  · rfl
  · rfl
  · refine congrArg (fun g => Sum.inl (c, len, Sum.inr (Sum.inr (Sum.inr (Sum.inr g))))) (funext fun j => ?_)
    cases e : f j with
    | none => rfl
    | some k => exact congrArg some (hA k (h k ⟨j, e⟩))
theorem up_out {A : Nat → Nat} {n q : Nat} (hn : n < SA) : ∀ i, i < n ∨ SA ≤ i → va_up A n q i = A i := fun i hi => up_ne (by omega)
theorem lst_push {A : Nat → Nat} {cy : Nat → ClassId} {n q : Nat} {h : HP} {c : ClassId} {e : AE} (hcl : Cl h n) (hn : n < SA) : lst (va_up A n q) (va_up cy n c) (n + 1) (va_up h n e) = lst A cy n h ++ [(q, trE (va_up A n q) c e)] := by
  unfold lst
  rw [List.range_succ, List.map_append]
  have e1 : (List.range n).map (fun i => (va_up A n q i, trE (va_up A n q) (va_up cy n c i) (va_up h n e i))) = (List.range n).map (fun i => (A i, trE A (cy i) (h i))) := List.map_congr_left fun i hi => by
    have hi' := List.mem_range.mp hi
    rw [up_ne (show i ≠ n by omega), up_ne (show i ≠ n by omega), up_ne (show i ≠ n by omega), trE_eq (up_out hn) (hcl i hi')]
  rw [e1]
  simp [up_self]
theorem Wd.push {D : va_G} {A : Nat → Nat} {cy : Nat → ClassId} {bs n q : Nat} {h : HP} {U : State} {H H1 : Heap} {c : ClassId} {e : AE} (w : Wd D A cy bs n h U H) (hcl : Cl h n) (hn : n < SA) (hP : va_P D vwCl (lst A cy n h ++ [(q, trE (va_up A n q) c e)]) H1) (hD : va_D (fun q => bs ≤ q) (lst A cy n h ++ [(q, trE (va_up A n q) c e)])) (hK : ∀ ty, tyE e = some ty → ArrOfT U c ty ∧ va_RA U c ty) : Wd D (va_up A n q) (va_up cy n c) bs (n + 1) (va_up h n e) U H1 := by
  rw [← lst_push hcl hn] at hP hD
  refine ⟨hP, w.2.1, fun i hi ty hty => ?_, fun i j hi hj hij => ?_, fun i hi => ?_⟩
  · by_cases z : i = n
    · subst z
      rw [up_self] at hty ⊢
      exact hK ty hty
    · rw [up_ne z] at hty ⊢
      exact w.2.2.1 i (by omega) ty hty
  · exact hD.1 i j _ _ (lst_get hi) (lst_get hj) hij
  · exact hD.2 i _ (lst_get hi)
/-- a new place -/
theorem ok_at {X : Xt} {cb sb pc n : Nat} {lv : List (Nat × Value)} {st : List Value} {h : HP} {e : AE} (k : Ok X cb sb pc lv (.ref n :: st) (n + 1) (va_up h n e)) (hcl : Cl h n) (hlv : ClV (lv.map fun q => q.2) n) (hst : ClV st n) (hn : n < SA) : match X with
  | (p, l, ev, R, s, m, args, below, meth, c, D, bs, A0, n0, Q) =>
    ∀ (A : Nat → Nat) (cy : Nat → ClassId) (H1 : Heap) (locs : List Loc) (ls : Array Slot) (cells slots q : Nat) (c0 : ClassId),
      (∀ i, i < n0 ∨ SA ≤ i → A i = A0 i) → n0 ≤ n → Wd D (va_up A n q) (va_up cy n c0) bs (n + 1) (va_up h n e) s H1 → va_S (fun q => bs ≤ q) s.heap H1 locs → lv_has ls c.maxLocals (lv.map fun q => (q.1, trV A q.2)) →
      cells + cb ≤ R.cells → slots + sb ≤ R.slots → W p l ev R s m args below meth c H1 locs cells slots Q (F0 m pc ls (.ref q :: st.map (trV A))) := by
  obtain ⟨p, l, ev, R, s, m, args, below, meth, c, D, bs, A0, n0, Q⟩ := X
  intro A cy H1 locs ls cells slots q c0 h1 h2 hw hS hl h5 h6
  have := k (va_up A n q) (va_up cy n c0) H1 locs ls cells slots (fun i hi => by rw [up_ne (by omega)]; exact h1 i hi) (by omega) (by omega) (fun z => absurd z (by omega)) hw hS (by rw [lvs_eq (up_out hn) hlv]; exact hl) h5 h6
  rw [List.map_cons, map_eq (up_out hn) hst] at this
  rw [show trV (va_up A n q) (.ref n) = .ref q from congrArg Value.ref up_self] at this
  exact this
/-- the words of 'new' -/
def NW (own : String) (idx ci N : Nat) (fs : List Value) : Prop := ∃ (C : String) (T : u_T) (ty0 : Nat → FieldType), vwCl[ci]? = some (C, T, N) ∧ (∀ w ∈ u_ws C T N, w ∈ lw_all) ∧ (∀ j, j < N → parseFieldDescriptor (T j).2.2.1 = some (ty0 j)) ∧ Cond.classLink own idx C ∈ lw_all ∧ Cond.instantiable C N ∈ lw_all ∧ Cond.initialized C ∈ lw_all ∧ ∀ j, j < N → defaultValue (ty0 j) = vp_V fs j
theorem ok_new {X : Xt} {cc : ByteArray} {own : String} {nL f L cb sb pc n : Nat} {lv : List (Nat × Value)} {st : List Value} {h : HP} (hc : Cx X cc own nL f L) {idx ci N : Nat} {fs : List Value} (hN : NW own idx ci N fs) (hd : decode cc pc = .ok (.new idx, 3)) (hfs : ∀ j, .ref j ∉ fs) (hcl : Cl h n) (hlv : ClV (lv.map fun q => q.2) n) (hst : ClV st n) (hn : n < SA) (k : Ok X cb sb (pc + 3) lv (.ref n :: st) (n + 1) (va_up h n (.inl (ci, fs)))) : Ok X (cb + 1) (sb + N) pc lv st n h := by
  have kk := ok_at k hcl hlv hst hn
  obtain ⟨p, l, e, R, s, m, args, below, meth, c, D, bs, A0, n0, Q⟩ := X
  obtain ⟨hx, hb, hown, hts, hml, hRf, hRl, hF, htr, hlk, hbs⟩ := hc
  intro A cy H locs ls cells slots h1 h2 h3 h4 hw hS hl h5 h6
  obtain ⟨C, T, ty0, f1, f2, f3, f4, f5, f6, f7⟩ := hN
  have hfm : ∀ B : Nat → Nat, fs.map (trV B) = fs := fun B => by
    have : ∀ v ∈ fs, trV B v = v := fun v hv => by
      cases v with
      | ref j => exact absurd hv (hfs j)
      | _ => rfl
    rw [List.map_congr_left this, List.map_id']
  refine va_new (tys := []) (ws := lst A cy n h) (A := fun q => bs ≤ q) (H0 := s.heap) (Ts := lw_all) hx hb hts f2 ty0 f3 hown (hts _ f4) (hts _ f5) (hts _ f6) hw.2.1 hw.1 hw.D hS (fun q hq => Nat.le_trans hbs hq) f1 f7 (by omega) (by omega) hd (fun q H1 hP hD hS1 => ?_)
  have eE : (.inr (ci, fs) : va_E) = trE (va_up A n q) 0 (.inl (ci, fs)) := by
    show _ = Sum.inr (ci, fs.map _)
    rw [hfm]
  rw [eE] at hP hD
  exact kk A cy H1 locs ls (cells + 1) (slots + N) q 0 h1 h2 (hw.push hcl hn hP hD (fun ty z => by cases z)) hS1 hl (by omega) (by omega)
theorem len_i3 {len : Nat} (h : len ≤ 1000) : ¬ (i3 (len : Int)) < 0 ∧ (i3 (len : Int)).toNatClampNeg = len := by
  have hr : R3 (len : Int) := R3_s (by omega)
  refine ⟨?_, ?_⟩
  · rw [Int32.lt_iff_toInt_lt, i3_toInt hr]
    show ¬ ((len : Int) < 0)
    omega
  · rw [i3_nat hr]
    omega
theorem ok_newI {X : Xt} {cc : ByteArray} {own : String} {nL f L cb sb pc n : Nat} {lv : List (Nat × Value)} {st : List Value} {h : HP} (hc : Cx X cc own nL f L) {len : Nat} (hd : decode cc pc = .ok (.newarray .int, 2)) (hw9 : Cond.arrayClass .int ∈ lw_all) (hlen : len ≤ 1000) (hcl : Cl h n) (hlv : ClV (lv.map fun q => q.2) n) (hst : ClV st n) (hn : n < SA) (k : Ok X cb sb (pc + 2) lv (.ref n :: st) (n + 1) (va_up h n (ai len (fun _ => 0)))) : Ok X (cb + 1) (sb + len) pc lv (.int (i3 (len : Int)) :: st) n h := by
  have kk := ok_at k hcl hlv hst hn
  obtain ⟨p, l, e, R, s, m, args, below, meth, c, D, bs, A0, n0, Q⟩ := X
  obtain ⟨hx, hb, hown, hts, hml, hRf, hRl, hF, htr, hlk, hbs⟩ := hc
  intro A cy H locs ls cells slots h1 h2 h3 h4 hw hS hl h5 h6
  have hL := len_i3 hlen
  refine va_newa (atype := .int) (ty := .int) (tys := []) (ws := lst A cy n h) (A := fun q => bs ≤ q) (H0 := s.heap) (N' := len) (a0 := (len, .inl (fun _ => i3 0))) hx hb (hts _ hw9) rfl hw.2.1 hw.1 hw.D hS (fun q hq => Nat.le_trans hbs hq) (fun _ => rfl) hL.1 hL.2 (by show len * 4 ≤ 536870912; omega) (by omega) (by omega) hd (fun q cA H1 hK hP hD hS1 => ?_)
  exact kk A cy H1 locs ls (cells + 1) (slots + len) q cA h1 h2 (hw.push hcl hn hP hD (fun ty z => by
    have : ty = .int := (Option.some.inj z).symm
    subst this
    exact hK.2 0 _ rfl)) hS1 hl (by omega) (by omega)
theorem ok_newC {X : Xt} {cc : ByteArray} {own : String} {nL f L cb sb pc n : Nat} {lv : List (Nat × Value)} {st : List Value} {h : HP} (hc : Cx X cc own nL f L) {len : Nat} (hd : decode cc pc = .ok (.newarray .char, 2)) (hw9 : Cond.arrayClass .char ∈ lw_all) (hlen : len ≤ 1000) (hcl : Cl h n) (hlv : ClV (lv.map fun q => q.2) n) (hst : ClV st n) (hn : n < SA) (k : Ok X cb sb (pc + 2) lv (.ref n :: st) (n + 1) (va_up h n (ac len (fun _ => 0)))) : Ok X (cb + 1) (sb + len) pc lv (.int (i3 (len : Int)) :: st) n h := by
  have kk := ok_at k hcl hlv hst hn
  obtain ⟨p, l, e, R, s, m, args, below, meth, c, D, bs, A0, n0, Q⟩ := X
  obtain ⟨hx, hb, hown, hts, hml, hRf, hRl, hF, htr, hlk, hbs⟩ := hc
  intro A cy H locs ls cells slots h1 h2 h3 h4 hw hS hl h5 h6
  have hL := len_i3 hlen
  refine va_newa (atype := .char) (ty := .char) (tys := []) (ws := lst A cy n h) (A := fun q => bs ≤ q) (H0 := s.heap) (N' := len) (a0 := (len, .inl (fun _ => i3 0))) hx hb (hts _ hw9) rfl hw.2.1 hw.1 hw.D hS (fun q hq => Nat.le_trans hbs hq) (fun _ => rfl) hL.1 hL.2 (by show len * 2 ≤ 536870912; omega) (by omega) (by omega) hd (fun q cA H1 hK hP hD hS1 => ?_)
  exact kk A cy H1 locs ls (cells + 1) (slots + len) q cA h1 h2 (hw.push hcl hn hP hD (fun ty z => by
    have : ty = .char := (Option.some.inj z).symm
    subst this
    exact hK.2 0 _ rfl)) hS1 hl (by omega) (by omega)
theorem ok_newJ {X : Xt} {cc : ByteArray} {own : String} {nL f L cb sb pc n : Nat} {lv : List (Nat × Value)} {st : List Value} {h : HP} (hc : Cx X cc own nL f L) {len : Nat} (hd : decode cc pc = .ok (.newarray .long, 2)) (hw9 : Cond.arrayClass .long ∈ lw_all) (hlen : len ≤ 1000) (hcl : Cl h n) (hlv : ClV (lv.map fun q => q.2) n) (hst : ClV st n) (hn : n < SA) (k : Ok X cb sb (pc + 2) lv (.ref n :: st) (n + 1) (va_up h n (al len (fun _ => 0)))) : Ok X (cb + 1) (sb + len) pc lv (.int (i3 (len : Int)) :: st) n h := by
  have kk := ok_at k hcl hlv hst hn
  obtain ⟨p, l, e, R, s, m, args, below, meth, c, D, bs, A0, n0, Q⟩ := X
  obtain ⟨hx, hb, hown, hts, hml, hRf, hRl, hF, htr, hlk, hbs⟩ := hc
  intro A cy H locs ls cells slots h1 h2 h3 h4 hw hS hl h5 h6
  have hL := len_i3 hlen
  refine va_newa (atype := .long) (ty := .long) (tys := []) (ws := lst A cy n h) (A := fun q => bs ≤ q) (H0 := s.heap) (N' := len) (a0 := (len, .inr (.inl (fun _ => i6 0)))) hx hb (hts _ hw9) rfl hw.2.1 hw.1 hw.D hS (fun q hq => Nat.le_trans hbs hq) (fun _ => rfl) hL.1 hL.2 (by show len * 8 ≤ 536870912; omega) (by omega) (by omega) hd (fun q cA H1 hK hP hD hS1 => ?_)
  exact kk A cy H1 locs ls (cells + 1) (slots + len) q cA h1 h2 (hw.push hcl hn hP hD (fun ty z => by
    have : ty = .long := (Option.some.inj z).symm
    subst this
    exact hK.2 0 _ rfl)) hS1 hl (by omega) (by omega)
/-- .. an array of States -/
theorem ok_newS {X : Xt} {cc : ByteArray} {own : String} {nL f L cb sb pc n : Nat} {lv : List (Nat × Value)} {st : List Value} {h : HP} (hc : Cx X cc own nL f L) {idx len : Nat} (hd : decode cc pc = .ok (.anewarray idx, 3)) (hw9 : Cond.classLink own idx "AmplifierDesk$State" ∈ lw_all) (hlen : len ≤ 1000) (hcl : Cl h n) (hlv : ClV (lv.map fun q => q.2) n) (hst : ClV st n) (hn : n < SA) (k : Ok X cb sb (pc + 3) lv (.ref n :: st) (n + 1) (va_up h n (.inr (3, len, .inr (.inr (fun _ => none)))))) : Ok X (cb + 1) (sb + len) pc lv (.int (i3 (len : Int)) :: st) n h := by
  have kk := ok_at k hcl hlv hst hn
  obtain ⟨p, l, e, R, s, m, args, below, meth, c, D, bs, A0, n0, Q⟩ := X
  obtain ⟨hx, hb, hown, hts, hml, hRf, hRl, hF, htr, hlk, hbs⟩ := hc
  intro A cy H locs ls cells slots h1 h2 h3 h4 hw hS hl h5 h6
  have hL := len_i3 hlen
  refine va_newq (tys := []) (ws := lst A cy n h) (A := fun q => bs ≤ q) (H0 := s.heap) (N' := len) hx hb hown (hts _ hw9) hF.2.2.2.2.2.2.2.2.2.2.2.1 hw.2.1 hw.1 hw.D hS (fun q hq => Nat.le_trans hbs hq) hL.1 hL.2 (by omega) (by omega) (by omega) hd (fun q cA H1 hK hP hD hS1 => ?_)
  exact kk A cy H1 locs ls (cells + 1) (slots + len) q cA h1 h2 (hw.push hcl hn hP hD (fun ty z => by
    have : ty = .object "AmplifierDesk$State" := (Option.some.inj z).symm
    subst this
    exact hK.2 0 _ rfl)) hS1 hl (by omega) (by omega)
theorem ok_aastS {X : Xt} {cc : ByteArray} {own : String} {nL f L cb sb pc n : Nat} {lv : List (Nat × Value)} {st : List Value} {h : HP} (hc : Cx X cc own nL f L) {a v len : Nat} {g : Nat → Option Nat} {fs : List Value} {i : Int} (hd : decode cc pc = .ok (.aastore, 1)) (ha : a < n) (he : h a = .inr (3, len, .inr (.inr g))) (hv : v < n) (hev : h v = .inl (4, fs)) (r : Ix i len) (k : Ok X cb sb (pc + 1) lv st n (va_up h a (.inr (3, len, .inr (.inr (va_up g i.toNat (some v))))))) : Ok X cb sb pc lv (.ref v :: .int (i3 i) :: .ref a :: st) n h := by
  obtain ⟨p, l, e, R, s, m, args, below, meth, c, D, bs, A0, n0, Q⟩ := X
  obtain ⟨hx, hb, hown, hts, hml, hRf, hRl, hF, htr, hlk, hbs⟩ := hc
  intro A cy H locs ls cells slots h1 h2 h3 h4 hw hS hl h5 h6
  refine va_astq (tys := [(cy a, .object "AmplifierDesk$State")]) (ws := lst A cy n h) (A := fun q => bs ≤ q) (H0 := s.heap) (r := (RX4, TX4, 4)) (n := len) (v := A v) (vs := fs.map (trV A)) (f := fun j => (g j).map A) hx hb (hw.K1 ha (by rw [he]; rfl)) hw.1 hw.D hS a 0 v 4 ((lst_get ha).trans (by rw [he]; rfl)) rfl ((lst_get hv).trans (by rw [hev]; rfl)) rfl r.v hd (fun H1 locs1 hP1 _ hS1 => ?_)
  have hP2 : va_P D vwCl ((lst A cy n h).set a (A a, trE A (cy a) (.inr (3, len, .inr (.inr (va_up g i.toNat (some v))))))) H1 := by
    have q : (.inl (cy a, len, .inr (.inr (.inr (.inr (va_up (fun j => (g j).map A) (i3 i).toNatClampNeg (some (A v))))))) : va_E) = trE A (cy a) (.inr (3, len, .inr (.inr (va_up g i.toNat (some v))))) := by
      refine congrArg (fun z => Sum.inl (cy a, len, Sum.inr (Sum.inr (Sum.inr (Sum.inr z))))) (funext fun j => ?_)
      rw [i3_nat r.r]
      by_cases e : j = i.toNat
      · subst e
        rw [up_self, up_self]
        rfl
      · rw [up_ne e, up_ne e]
    rw [← q]
    exact hP1
  exact k A cy H1 locs1 ls cells slots h1 h2 h3 h4 (hw.put (by rw [he]; rfl) hP2) hS1 hl h5 h6
def Nm (X : Xt) : Prop := match X with
  | (_, _, _, _, _, _, _, _, meth, _, _, _, _, _, _) => meth.name = "<init>"
theorem ok_putF {X : Xt} {cc : ByteArray} {own : String} {nL f L cb sb pc n : Nat} {lv : List (Nat × Value)} {st : List Value} {h : HP} (hc : Cx X cc own nL f L) (hNm : Nm X) {idx ci k9 a : Nat} {ty : FieldType} {fs : List Value} {v : Value} (hF9 : FL own idx ci k9 ty true) (ho9 : ∃ T N, vwCl[ci]? = some (own, T, N)) (hd : decode cc pc = .ok (.putfield idx, 3)) (ha : a < n) (he : h a = .inl (ci, fs)) (hlen : k9 < fs.length) (hn : ∀ B : Nat → Nat, narrow ty (trV B v) = trV B v) (hft : ∀ B : Nat → Nat, fits ty (trV B v) = true) (k : Ok X cb sb (pc + 3) lv st n (va_up h a (.inl (ci, fs.set k9 v)))) : Ok X cb sb pc lv (v :: .ref a :: st) n h := by
  obtain ⟨p, l, e, R, s, m, args, below, meth, c, D, bs, A0, n0, Q⟩ := X
  obtain ⟨hx, hb, hown, hts, hml, hRf, hRl, hF, htr, hlk, hbs⟩ := hc
  intro A cy H locs ls cells slots h1 h2 h3 h4 hw hS hl h5 h6
  obtain ⟨C, T, N, ty0, f1, f2, f3, f4, f5, f6, f7, f8, f9⟩ := hF9
  obtain ⟨T', N', f10⟩ := ho9
  have ec : C = own := congrArg (fun q : vw_C => q.1) (Option.some.inj (f1.symm.trans f10))
  refine va_putF (D := D) (tys := []) (ws := lst A cy n h) (A := fun q => bs ≤ q) (H0 := s.heap) (ci := ci) (fs := fs.map (trV A)) (v := trV A v) (ty := ty) hx hb hts f2 ty0 f6 f7 hown hw.2.1 hw.1 hw.D hS a ((lst_get ha).trans (by rw [he]; rfl)) f1 k9 f3 (hts _ f4) (fun _ q => by rw [f5] at q; exact q) f9 hNm (f5.trans ec) ((f6 k9 f3).trans (by rw [f8])) (hn A) (hft A) (by rw [List.length_map]; exact hlen) hd (fun H1 locs1 hP1 _ hS1 => ?_)
  have hP2 : va_P D vwCl ((lst A cy n h).set a (A a, trE A (cy a) (.inl (ci, fs.set k9 v)))) H1 := by
    have q : (.inr (ci, (fs.map (trV A)).set k9 (trV A v)) : va_E) = trE A (cy a) (.inl (ci, fs.set k9 v)) := by
      show _ = Sum.inr (ci, (fs.set k9 v).map (trV A))
      rw [List.map_set]
    rw [← q]
    exact hP1
  exact k A cy H1 locs1 ls cells slots h1 h2 h3 h4 (hw.put (by rw [he]; rfl) hP2) hS1 hl h5 h6
theorem ok_objI {X : Xt} {cc : ByteArray} {own : String} {nL f L cb sb pc n : Nat} {lv : List (Nat × Value)} {st : List Value} {h : HP} (hc : Cx X cc own nL f L) {idx a : Nat} (hd : decode cc pc = .ok (.invokespecial idx, 3)) (w1 : Cond.methodLink own idx Lib.objectInit ∈ lw_all) (w2 : Cond.instanceMethod Lib.objectInit ∈ lw_all) (w3 : Cond.code Lib.objectInit ⟨#[0xb1]⟩ 1 none ∈ lw_all) (hf : 1 ≤ f) (hL : 20 ≤ L) (hst : (st.map fun v => v.category).sum ≤ 8) (k : Ok X cb sb (pc + 3) lv st n h) : Ok X cb sb pc lv (.ref a :: st) n h := by
  obtain ⟨p, l, e, R, s, m, args, below, meth, c, D, bs, A0, n0, Q⟩ := X
  obtain ⟨hx, hb, hown, hts, hml, hRf, hRl, hF, htr, hlk, hbs⟩ := hc
  intro A cy H locs ls cells slots h1 h2 h3 h4 hw hS hl h5 h6
  have hsum : ((st.map (trV A)).map fun v => v.category).sum ≤ 8 := by simpa [Function.comp_def, trV_cat] using hst
  exact W.objInit (g := F0 m pc ls (.ref (A a) :: st.map (trV A))) hx hb hown (hts _ w1) (hts _ w2) (hts _ w3) rfl hl.1 rfl hd (by omega) (by show 2 * 0 + _ + 12 ≤ R.locals; omega) (k A cy H locs ls cells slots h1 h2 h3 h4 hw hS hl h5 h6)
