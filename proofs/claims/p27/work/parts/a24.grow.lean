/-! part a24: arrays of references, cut to their length; what is closed; calls that make places -/
def nzE (e : AE) : AE := match e with
  | .inr (t, len, .inr (.inr f)) => .inr (t, len, .inr (.inr (fun j => if j < len then f j else none)))
  | .inr (t, len, .inr (.inl f)) => .inr (t, len, .inr (.inl f))
  | .inr (t, len, .inl f) => .inr (t, len, .inl f)
  | .inl o => .inl o
def nz (h : HP) : HP := fun i => nzE (h i)
theorem arrV_cg {c : ClassId} {N : Nat} {f g : Nat → Value} (h : ∀ j, j < N → f j = g j) : arrV c N f = arrV c N g := by
  unfold arrV
  have : (fun j : Fin N => f j.val) = (fun j : Fin N => g j.val) := funext fun j => h j.val j.isLt
  rw [this]
theorem tyE_nz (e : AE) : tyE (nzE e) = tyE e := by
  rcases e with o | ⟨t, len, f | f | f⟩ <;> rfl
theorem Wd.nz {D : va_G} {A : Nat → Nat} {cy : Nat → ClassId} {bs n : Nat} {h : HP} {U : State} {H : Heap} (w : Wd D A cy bs n h U H) : Wd D A cy bs n (_root_.Jvm.Pilot.@@N@@.nz h) U H := by
  refine ⟨fun k q hq => ?_, w.2.1, fun i hi ty hty => w.2.2.1 i hi ty (by rw [← tyE_nz]; exact hty), w.2.2.2⟩
  obtain ⟨hk, rfl⟩ := lst_got hq
  have := w.1 k _ (lst_get hk)
  show va_at D vwCl (A k, trE A (cy k) (nzE (h k))) H
  generalize h k = e at this
  rcases e with o | ⟨t, len, f | f | f⟩
  · exact this
  · exact this
  · exact this
  · have h1 : H[A k]? = some (vp_cell (cy k) (len, .inr (.inr (.inr (.inr (fun j => (f j).map A)))))) := this
    show H[A k]? = some (vp_cell (cy k) (len, .inr (.inr (.inr (.inr (fun j => (if j < len then f j else none).map A))))))
    rw [h1, vp_cell_q, vp_cell_q]
    exact congrArg some (arrV_cg fun j hj => by rw [if_pos hj])
theorem ok_nz {X : Xt} {cb sb pc n : Nat} {lv : List (Nat × Value)} {st : List Value} {h : HP} (k : Ok X cb sb pc lv st n (nz h)) : Ok X cb sb pc lv st n h := by
  obtain ⟨p, l, e, R, s, m, args, below, meth, c, D, bs, A0, n0, Q⟩ := X
  intro A cy H locs ls cells slots h1 h2 h3 h4 hw hS hl h5 h6
  exact k A cy H locs ls cells slots h1 h2 h3 h4 hw.nz hS hl h5 h6
theorem At.nz {h : HP} {n a : Nat} {e : AE} (p : At h n a e) (he : nzE e = e) : At (_root_.Jvm.Pilot.@@N@@.nz h) n a e := ⟨p.1, (congrArg nzE p.2).trans he⟩
theorem PtA.nz {h : HP} {n a cap : Nat} {ps : List Part} (p : PtA h n a cap ps) : PtA (_root_.Jvm.Pilot.@@N@@.nz h) n a cap ps := by
  obtain ⟨k, f, s, t, E, E1, E2, E3, E4, r⟩ := p
  exact ⟨k, f, s, t, E.nz rfl, E1.nz rfl, E2.nz rfl, E3.nz rfl, E4.nz rfl, r⟩
theorem StA.nz {h : HP} {n a : Nat} {S : Stt} (p : StA h n a S) : StA (_root_.Jvm.Pilot.@@N@@.nz h) n a S := ⟨p.1.nz rfl, p.2.1.nz, p.2.2⟩
theorem RwA.nz {h : HP} {n r : Nat} {M : Mat} (p : RwA h n r M) : RwA (_root_.Jvm.Pilot.@@N@@.nz h) n r M := by
  obtain ⟨g, σ, R, h0, h1, h2, h3, h4, h5⟩ := p
  exact ⟨fun j => if j < 7 then g j else none, σ, R, h0.nz rfl, ⟨h1.1, congrArg nzE h1.2⟩, fun j hj => ⟨(if_pos hj).trans (h2 j hj).1, (h2 j hj).2⟩, h3, fun i hi => (h4 i hi).nz rfl, h5⟩
theorem RpA.nz {h : HP} {n r : Nat} {D : Nat → Int} {N : Nat → Nat → Int} (p : RpA h n r D N) : RpA (_root_.Jvm.Pilot.@@N@@.nz h) n r D N := by
  obtain ⟨M, d, g, v, h1, h2, h3, h4⟩ := p
  exact ⟨M, d, fun j => if j < 8 then g j else none, v, h1.nz, h2.nz rfl, ⟨h3.1, congrArg nzE h3.2⟩, fun j hj => ⟨(if_pos hj).trans (h4 j hj).1, (h4 j hj).2.1.nz rfl, (h4 j hj).2.2⟩⟩
theorem BnC.nz {h : HP} {n b : Nat} {S : Stt} {A sat rsn cul : Int} {F D G : Nat → Int} {N : Nat → Nat → Int} (p : BnC h n b S A F D N sat rsn cul G) : BnC (_root_.Jvm.Pilot.@@N@@.nz h) n b S A F D N sat rsn cul G := ⟨p.1.nz rfl, p.2.1.nz, p.2.2.1.nz rfl, p.2.2.2.1.nz, p.2.2.2.2.nz rfl⟩
theorem nz_ref {t len : Nat} {f : Nat → Option Nat} (h : ∀ j, ¬ j < len → f j = none) : nzE (.inr (t, len, .inr (.inr f))) = .inr (t, len, .inr (.inr f)) := by
  refine congrArg (fun g => Sum.inr (t, len, Sum.inr (Sum.inr g))) (funext fun j => ?_)
  by_cases z : j < len
  · exact if_pos z
  · exact (if_neg z).trans (h j z).symm
theorem DkA.nz {h : HP} {n : Nat} {q : Dsk} (p : DkA h n q) : DkA (_root_.Jvm.Pilot.@@N@@.nz h) n q := by
  obtain ⟨h0, ⟨a1, a2, a3, a4, F, D, N, hB, hr⟩, ⟨T, b1, b2, b3, b4, b5, b6, b7, b8, hT⟩, ⟨tx, hTx, ⟨rq, r1, r2, r3, r4⟩⟩, ⟨o, o1, o2, o3, o4, o5, o6⟩, ⟨m1, m2⟩, hG⟩ := p
  refine ⟨h0.nz rfl, ⟨a1, a2, a3, a4, F, D, N, hB.nz, hr⟩, ⟨T, b1, b2, b3, b4, b5, b6, b7, b8, hT.nz⟩, ⟨tx, hTx, ⟨rq, r1.nz rfl, r2.nz rfl, r3.nz rfl, r4.nz⟩⟩, ⟨o, o1, o2, o3.nz rfl, o4.nz (nz_ref fun j hj => if_neg hj), fun j hj => ?_, fun i hi => ?_⟩, ⟨m1.nz (nz_ref fun j hj => if_neg hj), fun j hj => (m2 j hj).nz⟩, hG⟩
  · obtain ⟨S, hS⟩ := o5 j hj
    exact ⟨S, hS.nz⟩
  · obtain ⟨S, hS1, hS2⟩ := o6 i hi
    exact ⟨S, hS1, hS2.nz⟩
/-- the places from lo to hi refer to places that are -/
def Cp (h : HP) (lo hi n : Nat) : Prop := ∀ i, lo ≤ i ∧ i ≤ hi → ∀ j, Rf (nz h i) j → j < n ∨ SA ≤ j
theorem Cp.one {h : HP} {n a : Nat} {e : AE} (p : At h n a e) (he : ∀ j, Rf (nzE e) j → j < n ∨ SA ≤ j) : Cp h a a n := fun i hi j hj => by
  have : i = a := by omega
  subst this
  refine he j ?_
  rw [← p.2]
  exact hj
theorem Cp.ai {h : HP} {n a len : Nat} {f : Nat → Int} (p : At h n a (ai len f)) : Cp h a a n := Cp.one p (fun _ z => False.elim z)
theorem Cp.ac {h : HP} {n a len : Nat} {f : Nat → Int} (p : At h n a (ac len f)) : Cp h a a n := Cp.one p (fun _ z => False.elim z)
theorem Cp.al {h : HP} {n a len : Nat} {f : Nat → Int} (p : At h n a (al len f)) : Cp h a a n := Cp.one p (fun _ z => False.elim z)
theorem Cp.ob {h : HP} {n a ci : Nat} {fs : List Value} (p : At h n a (.inl (ci, fs))) (hf : ClV fs n) : Cp h a a n := Cp.one p hf
theorem Cp.rf {h : HP} {n a t len : Nat} {g : Nat → Option Nat} (p : At h n a (.inr (t, len, .inr (.inr g)))) (hg : ∀ i j, i < len → g i = some j → j < n) : Cp h a a n := Cp.one p (fun j z => by
  obtain ⟨i, hi⟩ := z
  have hi : (if i < len then g i else none) = some j := hi
  by_cases y : i < len
  · rw [if_pos y] at hi
    exact Or.inl (hg i j y hi)
  · rw [if_neg y] at hi
    cases hi)
theorem Cp.jn {h : HP} {a b c n : Nat} (p : Cp h a b n) (q : Cp h (b + 1) c n) : Cp h a c n := fun i hi => by
  by_cases z : i ≤ b
  · exact p i (by omega)
  · exact q i (by omega)
theorem PtA.cp {h : HP} {n a cap : Nat} {ps : List Part} (p : PtA h n a cap ps) : Cp h a (a + 4) n := by
  obtain ⟨k, f, s, t, E, E1, E2, E3, E4, r⟩ := p
  exact ((((Cp.ob E (ClV.r E1.1 (ClV.r E2.1 (ClV.r E3.1 (ClV.r E4.1 (ClV.i (fun j z => by cases z) ClV.z)))))).jn (Cp.ai E1)).jn (Cp.ai E2)).jn (Cp.ai E3)).jn (Cp.ai E4)
theorem StA.cp {h : HP} {n a : Nat} {S : Stt} (p : StA h n a S) : Cp h a (a + 5) n := by
  have hb : a + 1 < n := by
    obtain ⟨k, f, s, t, E, -⟩ := p.2.1
    exact E.1
  exact (Cp.ob p.1 (ClV.r hb (ClV.i (fun j z => by cases z) (ClV.i (fun j z => by cases z) (ClV.i (fun j z => by cases z) ClV.z))))).jn p.2.1.cp
theorem DkA.out {h h' : HP} {n lo hi : Nat} {q : Dsk} (p : DkA h n q) (f : Fr h h' lo hi) (d : 127 < lo) : DkA h' n q := by
  obtain ⟨h0, hN, ⟨T, hT⟩, hI, hH, hM, hG⟩ := p
  exact ⟨h0.fr f (by omega), hN.fr f (by omega), ⟨T, hT.fr f (by omega)⟩, hI.fr f (by omega), hH.fr f (by omega), hM.fr f (by omega), hG⟩
theorem php : ∀ (n : Nat) (f : Nat → Nat), (∀ i, i ≤ n → f i < n) → ∃ i j, i < j ∧ j ≤ n ∧ f i = f j
  | 0, f, h => absurd (h 0 (Nat.le_refl 0)) (Nat.not_lt_zero _)
  | n + 1, f, h => by
    by_cases hx : ∃ i, i ≤ n ∧ f i = f (n + 1)
    · obtain ⟨i, hi, e⟩ := hx
      exact ⟨i, n + 1, by omega, Nat.le_refl _, e⟩
    · have hne : ∀ i, i ≤ n → f i ≠ f (n + 1) := fun i hi e => hx ⟨i, hi, e⟩
      have ha := h (n + 1) (Nat.le_refl _)
      obtain ⟨i, j, h1, h2, h3⟩ := php n (fun i => if f (n + 1) < f i then f i - 1 else f i) (fun i hi => by
        have a1 := h i (by omega)
        have a2 := hne i hi
        show (if f (n + 1) < f i then f i - 1 else f i) < n
        split <;> omega)
      have a1 := hne i (by omega)
      have a2 := hne j h2
      have h3 : (if f (n + 1) < f i then f i - 1 else f i) = (if f (n + 1) < f j then f j - 1 else f j) := h3
      refine ⟨i, j, h1, by omega, ?_⟩
      split at h3 <;> split at h3 <;> omega
theorem surj7 {σ : Nat → Nat} (h1 : ∀ j, j < 7 → σ j < 7) (h2 : ∀ i j, i < 7 → j < 7 → σ i = σ j → i = j) {t : Nat} (ht : t < 7) : ∃ i, i < 7 ∧ σ i = t := by
  by_cases hx : ∃ i, i < 7 ∧ σ i = t
  · exact hx
  · have hne : ∀ i, i < 7 → σ i ≠ t := fun i hi e => hx ⟨i, hi, e⟩
    obtain ⟨i, j, a1, a2, a3⟩ := php 6 (fun i => if t < σ i then σ i - 1 else σ i) (fun i hi => by
      have b1 := h1 i (by omega)
      have b2 := hne i (by omega)
      show (if t < σ i then σ i - 1 else σ i) < 6
      split <;> omega)
    have b1 := hne i (by omega)
    have b2 := hne j (by omega)
    have a3 : (if t < σ i then σ i - 1 else σ i) = (if t < σ j then σ j - 1 else σ j) := a3
    have : σ i = σ j := by
      split at a3 <;> split at a3 <;> omega
    have := h2 i j (by omega) (by omega) this
    omega
theorem Cp.all {h : HP} {lo hi n : Nat} (p : ∀ i, lo ≤ i ∧ i ≤ hi → Cp h i i n) : Cp h lo hi n := fun i hi => p i hi i ⟨Nat.le_refl _, Nat.le_refl _⟩
theorem RpA.cp {h : HP} {n r : Nat} {D : Nat → Int} {N : Nat → Nat → Int} (p : RpA h n r D N) : Cp h r (r + 18) n := by
  obtain ⟨M, d, g, v, ⟨g2, σ, R, h0, h1, h2, h3, h4, h5⟩, k2, k3, k4⟩ := p
  have e0 : Cp h r r n := Cp.ob h0 (ClV.r k2.1 (ClV.r k3.1 (ClV.r h1.1 ClV.z)))
  have e2 : Cp h (r + 2) (r + 2) n := Cp.rf k3 (fun i j hi e => by
    have := (k4 i hi).1
    rw [this] at e
    have := Option.some.inj e
    have := (k4 i hi).2.1.1
    omega)
  have e3 : Cp h (r + 3) (r + 10) n := Cp.all (fun i hi => by
    have := (k4 (i - (r + 3)) (by omega)).2.1
    rw [show r + 3 + (i - (r + 3)) = i by omega] at this
    exact Cp.al this)
  have e4 : Cp h (r + 11) (r + 11) n := Cp.rf h1 (fun i j hi e => by
    have := (h2 i hi).1
    rw [this] at e
    have := Option.some.inj e
    have := (h4 i hi).1
    omega)
  have e5 : Cp h (r + 12) (r + 18) n := Cp.all (fun i hi => by
    obtain ⟨x, hx, ex⟩ := surj7 (fun j hj => (h2 j hj).2) h3 (t := i - (r + 12)) (by omega)
    have := h4 x hx
    rw [ex, show r + 12 + (i - (r + 12)) = i by omega] at this
    exact Cp.al this)
  exact ((((e0.jn (Cp.al k2)).jn e2).jn e3).jn e4).jn e5
theorem BnC.cp {h : HP} {n b : Nat} {S : Stt} {A sat rsn cul : Int} {F D G : Nat → Int} {N : Nat → Nat → Int} (p : BnC h n b S A F D N sat rsn cul G) : Cp h b (b + 27) n := by
  have e0 : Cp h b b n := Cp.ob p.1 (ClV.r p.2.1.1.1 (ClV.r p.2.2.1.1 (ClV.i (fun j z => by cases z) (ClV.r p.2.2.2.1.obj.1 (ClV.r p.2.2.2.2.1 (ClV.i (fun j z => by cases z) (ClV.i (fun j z => by cases z) (ClV.i (fun j z => by cases z) ClV.z))))))))
  exact (((e0.jn p.2.1.cp).jn (Cp.ai p.2.2.1)).jn p.2.2.2.1.cp).jn (Cp.al p.2.2.2.2)
theorem DkA.cp {h : HP} {n : Nat} {q : Dsk} (hn : 128 ≤ n) (p : DkA h n q) : Cp h 0 127 n := by
  obtain ⟨h0, ⟨a1, a2, a3, a4, F, D, N, hB, hr⟩, ⟨T, b1, b2, b3, b4, b5, b6, b7, b8, hT⟩, ⟨tx, hTx, ⟨rq, r1, r2, r3, r4⟩⟩, ⟨o, o1, o2, o3, o4, o5, o6⟩, ⟨m1, m2⟩, hG⟩ := p
  have ci : ∀ {v : Int} {vs : List Value}, ClV vs n → ClV (.int (i3 v) :: vs) n := fun t => ClV.i (fun j z => by cases z) t
  have e0 : Cp h 0 0 n := Cp.ob h0 (ClV.r (by omega) (ClV.r (by omega) (ClV.r (by omega) (ClV.r (by omega) (ClV.r (by omega) (ci ClV.z))))))
  have e57 : Cp h 57 57 n := Cp.ob r1 (ClV.r (by omega) (ClV.r (by omega) (ci (ci (ClV.r (by omega) (ci (ci (ci (ci ClV.z)))))))))
  have e65 : Cp h 65 65 n := Cp.ob o3 (ClV.r (by omega) (ci (ci ClV.z)))
  have e66 : Cp h 66 66 n := Cp.rf o4 (fun i j hi e => by
    have e : (if i < 8 then some (67 + 6 * i) else none) = some j := e
    rw [if_pos hi] at e
    have := Option.some.inj e
    omega)
  have e67 : Cp h 67 114 n := fun i hi => by
    obtain ⟨S, hS⟩ := o5 ((i - 67) / 6) (by omega)
    exact hS.cp i (by omega)
  have e115 : Cp h 115 115 n := Cp.rf m1 (fun i j hi e => by
    have e : (if i < 2 then some (116 + 6 * i) else none) = some j := e
    rw [if_pos hi] at e
    have := Option.some.inj e
    omega)
  have e116 : Cp h 116 127 n := fun i hi => (m2 ((i - 116) / 6) (by omega)).cp i (by omega)
  exact ((((((((((e0.jn hB.cp).jn hT.cp).jn e57).jn (Cp.ac r2)).jn r4.cp).jn (Cp.ai r3)).jn e65).jn e66).jn e67).jn e115).jn e116
theorem At.mo {h : HP} {n n' a : Nat} {e : AE} (hn : n ≤ n') (p : At h n a e) : At h n' a e := ⟨Nat.lt_of_lt_of_le p.1 hn, p.2⟩
theorem PtA.mo {h : HP} {n n' a cap : Nat} {ps : List Part} (hn : n ≤ n') (p : PtA h n a cap ps) : PtA h n' a cap ps := by
  obtain ⟨k, f, s, t, E, E1, E2, E3, E4, r⟩ := p
  exact ⟨k, f, s, t, E.mo hn, E1.mo hn, E2.mo hn, E3.mo hn, E4.mo hn, r⟩
theorem StA.mo {h : HP} {n n' a : Nat} {S : Stt} (hn : n ≤ n') (p : StA h n a S) : StA h n' a S := ⟨p.1.mo hn, p.2.1.mo hn, p.2.2⟩
theorem RwA.mo {h : HP} {n n' r : Nat} {M : Mat} (hn : n ≤ n') (p : RwA h n r M) : RwA h n' r M := by
  obtain ⟨g, σ, R, h0, h1, h2, h3, h4, h5⟩ := p
  exact ⟨g, σ, R, h0.mo hn, h1.mo hn, h2, h3, fun i hi => (h4 i hi).mo hn, h5⟩
theorem RpA.mo {h : HP} {n n' r : Nat} {D : Nat → Int} {N : Nat → Nat → Int} (hn : n ≤ n') (p : RpA h n r D N) : RpA h n' r D N := by
  obtain ⟨M, d, g, v, h1, h2, h3, h4⟩ := p
  exact ⟨M, d, g, v, h1.mo hn, h2.mo hn, h3.mo hn, fun j hj => ⟨(h4 j hj).1, (h4 j hj).2.1.mo hn, (h4 j hj).2.2⟩⟩
theorem BnC.mo {h : HP} {n n' b : Nat} {S : Stt} {A sat rsn cul : Int} {F D G : Nat → Int} {N : Nat → Nat → Int} (hn : n ≤ n') (p : BnC h n b S A F D N sat rsn cul G) : BnC h n' b S A F D N sat rsn cul G := ⟨p.1.mo hn, p.2.1.mo hn, p.2.2.1.mo hn, p.2.2.2.1.mo hn, p.2.2.2.2.mo hn⟩
theorem DkA.mo {h : HP} {n n' : Nat} {q : Dsk} (hn : n ≤ n') (p : DkA h n q) : DkA h n' q := by
  obtain ⟨h0, ⟨a1, a2, a3, a4, F, D, N, hB, hr⟩, ⟨T, b1, b2, b3, b4, b5, b6, b7, b8, hT⟩, ⟨tx, hTx, ⟨rq, r1, r2, r3, r4⟩⟩, ⟨o, o1, o2, o3, o4, o5, o6⟩, ⟨m1, m2⟩, hG⟩ := p
  refine ⟨h0.mo hn, ⟨a1, a2, a3, a4, F, D, N, hB.mo hn, hr⟩, ⟨T, b1, b2, b3, b4, b5, b6, b7, b8, hT.mo hn⟩, ⟨tx, hTx, ⟨rq, r1.mo hn, r2.mo hn, r3.mo hn, r4.mo hn⟩⟩, ⟨o, o1, o2, o3.mo hn, o4.mo hn, fun j hj => ?_, fun i hi => ?_⟩, ⟨m1.mo hn, fun j hj => (m2 j hj).mo hn⟩, hG⟩
  · obtain ⟨S, hS⟩ := o5 j hj
    exact ⟨S, hS.mo hn⟩
  · obtain ⟨S, hS1, hS2⟩ := o6 i hi
    exact ⟨S, hS1, hS2.mo hn⟩
theorem ClV.s {a n : Nat} {vs : List Value} (h : SA ≤ a) (t : ClV vs n) : ClV (.ref a :: vs) n := fun j hj => by
  rcases List.mem_cons.mp hj with e | e
  · have e2 : j = a := Value.ref.inj e
    exact Or.inr (by rw [e2]; exact h)
  · exact t j e
theorem ok_callSg {X : Xt} {cc : ByteArray} {own : String} {nL f L cb sb cb0 sb0 pc n : Nat} {lv : List (Nat × Value)} {st st0 : List Value} {h : HP} (hc : Cx X cc own nL f L) {idx na : Nat} {y : MethodName} {ccy : ByteArray} {nLy fy Ly mcy msy : Nat} {rety : Option FieldType} {spec : List Value → Nat → HP → KT → Prop} (As : List Value)
    (hV : CS own idx y ccy nLy rety na) (hSp : Sp y ccy nLy rety fy Ly mcy msy spec) (hR : fy + 1 ≤ f ∧ 8 + (nLy + 11) + Ly ≤ L) (hd : decode cc pc = .ok (.invokestatic idx, 3)) (hna : As.length = na) (hcb : cb + mcy = cb0) (hsb : sb + msy = sb0) (hst0 : As.reverse ++ st = st0) (hst : (st.map fun v => v.category).sum ≤ 8) (hlv : ClV (lv.map fun q => q.2) n) (hcst : ClV st n)
    (hs : spec As n h (kg X cb sb pc lv st n)) : Ok X cb0 sb0 pc lv st0 n h := by
  obtain ⟨p, l, e, R, s, m, args, below, meth, c, D, bs, A0, n0, Q⟩ := X
  obtain ⟨hx, hb, hown, hts, hml, hRf, hRl, hF, htr, hlk, hbs⟩ := hc
  intro A cy H locs ls cells slots h1 h2 h3 h4 hw hS hl h5 h6
  subst hcb; subst hsb; subst hst0
  obtain ⟨w1, w2, w4, w5, w6, w7⟩ := hV
  have hM := met_of (hSp l D bs A cy As n h _ htr h3 hs) (fun E x y q => by
    obtain ⟨_, _, _, _, hk, _⟩ := q
    exact hk.2)
  have cw : CallB R s args own idx y ccy nLy rety (.code y ccy nLy rety :: lw_all) ({ frames := fy, cells := mcy, slots := msy, locals := Ly }) mcy msy na ∧ (Cond.static y).before args s = true :=
    va_cwS na hts (goodIn_app (good_sub (fun w hw => by
      simp only [List.mem_cons, List.not_mem_nil, or_false] at hw
      rcases hw with rfl | rfl | rfl <;> assumption)) (good_cons w5)) rfl rfl rfl ⟨w6.1, w6.2, w7⟩ ⟨by show fy + 1 ≤ R.frames; omega, by show 8 + (nLy + 11) + Ly ≤ R.locals; omega⟩
  refine run_useG (av := (As.map (trV A)).toArray) h1 h2 h4 hS hl h5 h6 hlv hcst (va_runS (As := As.map (trV A)) ⟨hx, hb, hml, hown, hts⟩ hM cw ⟨blind, pre_of h1 hF hbs hw hS⟩ rfl (by rw [List.length_map]; exact hna) (by rw [← hml]; exact hl.1) ?_ (lv_room (by simpa [Function.comp_def, trV_cat] using hst)) hd ⟨by omega, by omega⟩)
  show (As.reverse ++ st).map (trV A) = (As.map (trV A)).reverse ++ st.map (trV A)
  rw [List.map_append, List.map_reverse]
/-- behind the desk numbers alone lie -/
def NbE (e : AE) : Prop := match e with
  | .inr (_, _, .inr (.inr _)) => False
  | .inr _ => True
  | .inl _ => False
def Nb (h : HP) (n : Nat) : Prop := ∀ i, 128 ≤ i → i < n → NbE (h i)
theorem NbE.rf {e : AE} (p : NbE e) {j : Nat} : ¬ Rf (nzE e) j := by
  rcases e with o | ⟨t, len, f | f | f⟩
  · exact False.elim p
  · exact fun z => z
  · exact fun z => z
  · exact False.elim p
theorem Nb.fr {h h' : HP} {n lo hi : Nat} (p : Nb h n) (f : Fr h h' lo hi) (d : hi < 128) : Nb h' n := fun i a b => by
  rw [f i (by omega)]
  exact p i a b
theorem Nb.up {h : HP} {n c : Nat} {e : AE} (p : Nb h n) (he : NbE e) : Nb (va_up h c e) n := fun i a b => by
  by_cases z : i = c
  · subst z
    rw [up_self]
    exact he
  · rw [up_ne z]
    exact p i a b
theorem Nb.new {h : HP} {n : Nat} {e : AE} (p : Nb h n) (he : NbE e) : Nb (va_up h n e) (n + 1) := fun i a b => by
  by_cases z : i = n
  · subst z
    rw [up_self]
    exact he
  · rw [up_ne z]
    exact p i a (by omega)
theorem Nb.nz {h : HP} {n : Nat} (p : Nb h n) : Nb (_root_.Jvm.Pilot.@@N@@.nz h) n := fun i a b => by
  have := p i a b
  show NbE (nzE (h i))
  generalize h i = e at this
  rcases e with o | ⟨t, len, f | f | f⟩
  · exact False.elim this
  · trivial
  · trivial
  · exact False.elim this
theorem cl_of {h : HP} {n : Nat} {q : Dsk} (hn : 128 ≤ n) (p : DkA h n q) (b : Nb h n) : Cl (nz h) n := fun i hi j hj => by
  by_cases z : i ≤ 127
  · exact p.cp hn i ⟨Nat.zero_le _, z⟩ j hj
  · exact absurd hj (b i (by omega) hi).rf
