/-! part 04: an abstract machine over the kit's rows: references are places 0, 1, 2 .. of a row of cells h, A says which address each place has; Ok X .. : from here the method comes to an end that its K allows -/
abbrev AE : Type := (Nat × List Value) ⊕ (Nat × Nat × ((Nat → Int32) ⊕ (Nat → Int64) ⊕ (Nat → Option Nat)))
abbrev HP : Type := Nat → AE
abbrev RS : Type := Option Value ⊕ String
abbrev KT : Type := RS → Nat → HP → Prop
def SA : Nat := 999999
def lw_all : List Cond := lw_tbl.filter goodWord
theorem in_all {w : Cond} {i : Nat} (h : lw_tbl[i]? = some w) (g : goodWord w = true) : w ∈ lw_all := List.mem_filter.mpr ⟨List.mem_of_getElem? h, g⟩
theorem all_tbl {w : Cond} (h : w ∈ lw_all) : w ∈ lw_tbl := (List.mem_filter.mp h).1
theorem all_good : ∀ w, w ∈ lw_all → goodWord w = true := fun _ h => (List.mem_filter.mp h).2
theorem good_all : GoodIn lw_all lw_all := fun w h => ⟨h, good_of_word (all_good w h)⟩
theorem good_sub {ws : List Cond} (h : ∀ w ∈ ws, w ∈ lw_all) : GoodIn lw_all ws := fun w hw => good_all w (h w hw)
def trV (A : Nat → Nat) (v : Value) : Value := match v with
  | .ref i => .ref (A i)
  | w => w
theorem trV_cat (A : Nat → Nat) (v : Value) : (trV A v).category = v.category := by cases v <;> rfl
def tyN (t : Nat) : FieldType := match t with
  | 0 => .int
  | 1 => .long
  | 2 => .char
  | 3 => .object "AmplifierDesk$State"
  | _ => .array .long
def tyE (e : AE) : Option FieldType := match e with
  | .inl _ => none
  | .inr q => some (tyN q.1)
def trE (A : Nat → Nat) (c : ClassId) (e : AE) : va_E := match e with
  | .inl q => .inr (q.1, q.2.map (trV A))
  | .inr (_, n, .inl f) => .inl (c, n, .inl f)
  | .inr (_, n, .inr (.inl f)) => .inl (c, n, .inr (.inl f))
  | .inr (_, n, .inr (.inr f)) => .inl (c, n, .inr (.inr (.inr (.inr (fun j => (f j).map A)))))
def lst (A : Nat → Nat) (cy : Nat → ClassId) (n : Nat) (h : HP) : va_W := (List.range n).map fun i => (A i, trE A (cy i) (h i))
theorem lst_get {A : Nat → Nat} {cy : Nat → ClassId} {n i : Nat} {h : HP} (hi : i < n) : (lst A cy n h)[i]? = some (A i, trE A (cy i) (h i)) := by simp [lst, hi]
theorem lst_got {A : Nat → Nat} {cy : Nat → ClassId} {n i : Nat} {h : HP} {q : Nat × va_E} (hq : (lst A cy n h)[i]? = some q) : i < n ∧ q = (A i, trE A (cy i) (h i)) := by
  by_cases hi : i < n
  · rw [lst_get hi] at hq
    exact ⟨hi, (Option.some.inj hq).symm⟩
  · simp [lst, hi] at hq
theorem lst_set {A : Nat → Nat} {cy : Nat → ClassId} {n i : Nat} {h : HP} {e : AE} : (lst A cy n h).set i (A i, trE A (cy i) e) = lst A cy n (va_up h i e) := by
  apply List.ext_getElem?
  intro j
  rw [List.getElem?_set]
  by_cases hij : i = j
  · subst hij
    by_cases hi : i < n <;> simp [lst, va_up, hi]
  · have hji : ¬ j = i := fun q => hij q.symm
    by_cases hj : j < n <;> simp [lst, va_up, hij, hji, hj]
theorem up_self {α : Type} {f : Nat → α} {k : Nat} {v : α} : va_up f k v k = v := if_pos rfl
theorem up_ne {α : Type} {f : Nat → α} {k j : Nat} {v : α} (h : j ≠ k) : va_up f k v j = f j := if_neg h
def Wd (D : va_G) (A : Nat → Nat) (cy : Nat → ClassId) (bs n : Nat) (h : HP) (U : State) (H : Heap) : Prop :=
  va_P D vwCl (lst A cy n h) H ∧ va_K D vwCl [] U ∧ (∀ i, i < n → ∀ ty, tyE (h i) = some ty → ArrOfT U (cy i) ty ∧ va_RA U (cy i) ty) ∧ (∀ i j, i < n → j < n → A i = A j → i = j) ∧ ∀ i, i < n → bs ≤ A i
theorem Wd.K1 {D : va_G} {A : Nat → Nat} {cy : Nat → ClassId} {bs n : Nat} {h : HP} {U : State} {H : Heap} (w : Wd D A cy bs n h U H) {i : Nat} (hi : i < n) {ty : FieldType} (ht : tyE (h i) = some ty) : va_K D vwCl [(cy i, ty)] U := by
  refine ⟨w.2.1.1, fun k q hq => ?_⟩
  have hm : q = (cy i, ty) := by
    have := List.mem_of_getElem? hq
    simpa using this
  subst hm
  exact w.2.2.1 i hi ty ht
theorem Wd.D {D : va_G} {A : Nat → Nat} {cy : Nat → ClassId} {bs n : Nat} {h : HP} {U : State} {H : Heap} (w : Wd D A cy bs n h U H) : va_D (fun q => bs ≤ q) (lst A cy n h) := by
  refine ⟨fun i j p q hp hq hpq => ?_, fun k q hq => ?_⟩
  · obtain ⟨hi, rfl⟩ := lst_got hp
    obtain ⟨hj, rfl⟩ := lst_got hq
    exact w.2.2.2.1 i j hi hj hpq
  · obtain ⟨hk, rfl⟩ := lst_got hq
    exact w.2.2.2.2 k hk
/-- the world with another thing of the same kind in a place -/
theorem Wd.put {D : va_G} {A : Nat → Nat} {cy : Nat → ClassId} {bs n : Nat} {h : HP} {U : State} {H H1 : Heap} (w : Wd D A cy bs n h U H) {i : Nat} {e : AE} (ht : tyE e = tyE (h i)) (hP : va_P D vwCl ((lst A cy n h).set i (A i, trE A (cy i) e)) H1) : Wd D A cy bs n (va_up h i e) U H1 := by
  rw [lst_set] at hP
  refine ⟨hP, w.2.1, fun j hj ty hty => ?_, w.2.2.2.1, w.2.2.2.2⟩
  by_cases q : j = i
  · subst q
    rw [up_self, ht] at hty
    exact w.2.2.1 j hj ty hty
  · rw [up_ne q] at hty
    exact w.2.2.1 j hj ty hty
theorem Wd.moved {D : va_G} {A : Nat → Nat} {cy : Nat → ClassId} {bs n : Nat} {h : HP} {u U : State} {H : Heap} (hv : u.vm.Alike U.vm) (w : Wd D A cy bs n h u H) : Wd D A cy bs n h U H :=
  ⟨w.1, va_K.moved hv w.2.1, fun i hi ty hty => ⟨arrOfT_moved hv (w.2.2.1 i hi ty hty).1, (w.2.2.1 i hi ty hty).2.moved hv⟩, w.2.2.2.1, w.2.2.2.2⟩
abbrev c_P3 : Nat → Value := fun j => .int ([1, 3, 9, 27].getD j 0)
def nestw : List (String × Nat × MethodName × String) := [(RX2, 51, yX6_contains, RX6), (RX3, 56, yX6_contains, RX6), (RX0, 81, yX6_stateIn, RX6), (RX0, 116, yX6_contains, RX6), (RX0, 133, yX6_lowestTerms, RX6)]
def castw : List String := ["java/lang/IllegalArgumentException", "java/lang/IllegalStateException", "java/lang/IndexOutOfBoundsException"]
def declw : List MethodName := [⟨"java/lang/RuntimeException", "<init>", "(Ljava/lang/String;)V"⟩, ⟨"java/lang/Exception", "<init>", "(Ljava/lang/String;)V"⟩, ⟨"java/lang/Throwable", "<init>", "(Ljava/lang/String;)V"⟩]
def nestf : List (String × Nat × String × String × String × String) := [(RX0, 59, "AmplifierDesk", "POWERS_OF_THREE", "[I", "AmplifierDesk"), (RX4, 42, "AmplifierDesk", "POWERS_OF_THREE", "[I", "AmplifierDesk")]
def ncw : List (String × String) := []
def strw : List (Nat × String) := [(77, "the buffer is not a complete text of parts that can be"), (88, "there is no room for these parts"), (106, "the rail is 10 to 200"), (125, "the target is -200 to 200"), (137, "the history is empty"), (161, "the code is 32 to 126"), (163, "the buffer is full"), (190, "the part is no resistor"), (218, "there is no such amplifier"), (231, "what is 0 to 2"), (245, "what is 0 to 3"), (256, "what is 0 to 9"), (312, "there is no such part"), (314, "the part is no source"), (316, "an amplifier has no value"), (318, "the value is out of range"), (322, "there is no such case"), (324, "there is no such node"), (326, "what is 0 or 1")]
/-- the law's script -/
def ScF (A : Nat → Nat) (bs : Nat) (U : State) (H : Heap) : Prop := ∃ (L : Nat) (xs : Nat → Int32), va_X (A (SA + 1)) L xs U H ∧ L ≤ 260 ∧ ¬ bs ≤ A (SA + 1)
theorem ScF.moved {A : Nat → Nat} {bs : Nat} {u U : State} {H : Heap} (hv : u.vm.Alike U.vm) (w : ScF A bs u H) : ScF A bs U H := by
  obtain ⟨L, xs, h1, h2⟩ := w
  exact ⟨L, xs, h1.moved hv, h2⟩
theorem ScF.kept {A : Nat → Nat} {bs : Nat} {U : State} {H H1 : Heap} (w : ScF A bs U H) (hq : ∀ a : Nat, a < H.size → ¬ bs ≤ a → H1[a]? = H[a]?) : ScF A bs U H1 := by
  obtain ⟨L, xs, h1, h2, h3⟩ := w
  have hlt : A (SA + 1) < H.size := by
    obtain ⟨scr, hs, -⟩ := id h1
    exact (Array.getElem?_eq_some_iff.mp hs).1
  exact ⟨L, xs, h1.kept (hq _ hlt h3), h2, h3⟩
/-- what lies outside of the world and never changes: the one static table, two of the JDK's statics, some words of the tables, the written texts -/
def Fx (A : Nat → Nat) (bs : Nat) (U : State) (H : Heap) : Prop :=
  va_Z "AmplifierDesk" "POWERS_OF_THREE" "[I" (.ref (A SA)) (fun q => bs ≤ q) U H ∧ va_T .int (A SA) 4 c_P3 (fun q => bs ≤ q) U H ∧ vx_Zq Bundle.tN "UNASSIGNED_STACK" Bundle.steD (fun q => bs ≤ q) U H ∧ vx_Zq Bundle.tN "SUPPRESSED_SENTINEL" Bundle.listD (fun q => bs ≤ q) U H ∧
    (∀ q ∈ nestw, va_Nw (.methodLinkNest q.1 q.2.1 q.2.2.1 q.2.2.2) U) ∧ (∀ E ∈ castw, va_Nw (.castable E E) U) ∧ (∀ q ∈ strw, ∃ a, vk_R RX6 q.1 q.2 a U) ∧ (∀ y ∈ declw, va_Nw (.declares y) U) ∧ (∀ q ∈ nestf, va_Nw (.fieldLinkNest q.1 q.2.1 q.2.2.1 q.2.2.2.1 q.2.2.2.2.1 q.2.2.2.2.2) U) ∧ (∀ q ∈ ncw, va_Nc q.1 q.2 U) ∧ va_AOA .long U ∧ va_AO "AmplifierDesk$State" U ∧ ScF A bs U H
theorem Fx.moved {A : Nat → Nat} {bs : Nat} {u U : State} {H : Heap} (hW : u.WarmedH U.vm) (w : Fx A bs u H) : Fx A bs U H :=
  ⟨va_Z.moved hW.alike w.1, va_T.moved hW.alike w.2.1, vx_Zq.moved hW.alike w.2.2.1, vx_Zq.moved hW.alike w.2.2.2.1, fun q hq => va_Nw.warmM hW (w.2.2.2.2.1 q hq), fun E hE => va_Nw.warmC hW (w.2.2.2.2.2.1 E hE), fun q hq => (w.2.2.2.2.2.2.1 q hq).elim fun a ha => ⟨a, ha.warm hW⟩, fun y hy => va_Nw.warmD hW (w.2.2.2.2.2.2.2.1 y hy), fun q hq => va_Nw.warmF hW (w.2.2.2.2.2.2.2.2.1 q hq), fun q hq => va_Nc.moved hW.alike (w.2.2.2.2.2.2.2.2.2.1 q hq), va_AOA.moved hW.alike w.2.2.2.2.2.2.2.2.2.2.1, va_AO.moved hW.alike w.2.2.2.2.2.2.2.2.2.2.2.1, ScF.moved hW.alike w.2.2.2.2.2.2.2.2.2.2.2.2⟩
theorem Fx.kept {A : Nat → Nat} {bs : Nat} {U : State} {H H1 : Heap} (w : Fx A bs U H) (hq : ∀ a : Nat, a < H.size → ¬ bs ≤ a → H1[a]? = H[a]?) : Fx A bs U H1 := ⟨va_Z.kept w.1 hq, va_T.kept w.2.1 hq, vx_Zq.kept w.2.2.1 hq, vx_Zq.kept w.2.2.2.1 hq, w.2.2.2.2.1, w.2.2.2.2.2.1, w.2.2.2.2.2.2.1, w.2.2.2.2.2.2.2.1, w.2.2.2.2.2.2.2.2.1, w.2.2.2.2.2.2.2.2.2.1, w.2.2.2.2.2.2.2.2.2.2.1, w.2.2.2.2.2.2.2.2.2.2.2.1, ScF.kept w.2.2.2.2.2.2.2.2.2.2.2.2 hq⟩
theorem Fx.same {A B : Nat → Nat} {bs : Nat} {U : State} {H : Heap} (w : Fx A bs U H) (h : B SA = A SA) (h2 : B (SA + 1) = A (SA + 1)) : Fx B bs U H := by
  unfold Fx ScF at w ⊢
  rw [h, h2]
  exact w
abbrev Xt : Type := Program × Launch × Env × Room × State × MethodId × Array Value × List Frame × Method × Code × va_G × Nat × (Nat → Nat) × Nat × (State → Prop)
def Ok (X : Xt) (cb sb pc : Nat) (lv : List (Nat × Value)) (st : List Value) (n : Nat) (h : HP) : Prop := match X with
  | (p, l, e, R, s, m, args, below, meth, c, D, bs, A0, n0, Q) =>
    ∀ (A : Nat → Nat) (cy : Nat → ClassId) (H : Heap) (locs : List Loc) (ls : Array Slot) (cells slots : Nat),
      (∀ i, i < n0 ∨ SA ≤ i → A i = A0 i) → n0 ≤ n → n ≤ SA → (n = n0 → A = A0) → Wd D A cy bs n h s H → va_S (fun q => bs ≤ q) s.heap H locs → lv_has ls c.maxLocals (lv.map fun q => (q.1, trV A q.2)) →
      cells + cb ≤ R.cells → slots + sb ≤ R.slots → W p l e R s m args below meth c H locs cells slots Q (F0 m pc ls (st.map (trV A)))
/-- what a method's rows stand on -/
def Cx (X : Xt) (cc : ByteArray) (own : String) (nL f L : Nat) : Prop := match X with
  | (p, l, _, R, s, m, args, _, meth, c, _, bs, A0, _, _) =>
    p.tables.exec = Jvm.exec ∧ c.code = cc ∧ s.vm.findClass own = some m.cls ∧ (∀ w ∈ lw_all, w.before args s = true) ∧ c.maxLocals = nL ∧ f ≤ R.frames ∧ L ≤ R.locals ∧ Fx A0 bs s s.heap ∧ l.stackTraces = false ∧ meth.locks = false ∧ bs ≤ s.heap.size
def gQ (D : va_G) (bs : Nat) (A0 : Nat → Nat) (n0 : Nat) (K : KT) : Array Value → State → Outcome → State → Prop := fun _ st o t =>
  ∃ (A : Nat → Nat) (cy : Nat → ClassId) (v : Option Value) (n : Nat) (h : HP), o = .returned (v.map (trV A)) ∧ K (.inl v) n h ∧ (∀ i, i < n0 ∨ SA ≤ i → A i = A0 i) ∧ n0 ≤ n ∧ n ≤ SA ∧ (n = n0 → A = A0) ∧ Wd D A cy bs n h t t.heap ∧ va_F (fun q => bs ≤ q) st t
def gX (D : va_G) (bs : Nat) (A0 : Nat → Nat) (n0 : Nat) (K : KT) : String → State → State → Prop := fun E st t =>
  ∃ (A : Nat → Nat) (cy : Nat → ClassId) (n : Nat) (h : HP), K (.inr E) n h ∧ (∀ i, i < n0 ∨ SA ≤ i → A i = A0 i) ∧ n0 ≤ n ∧ n ≤ SA ∧ (n = n0 → A = A0) ∧ Wd D A cy bs n h t t.heap ∧ va_F (fun q => bs ≤ q) st t
/-- how the method ends -/
def CxR (X : Xt) (ret : Option FieldType) (K : KT) : Prop := match X with
  | (_, _, _, R, s, _, args, below, meth, c, D, bs, A0, n0, Q) =>
    meth.sig.returnType = ret ∧ Q = vx_MQ below (gQ D bs A0 n0 K) (gX D bs A0 n0 K) args s R.cells R.slots (fun q => bs ≤ q) ∧ ∀ x ∈ c.exceptionTable.toList, False
