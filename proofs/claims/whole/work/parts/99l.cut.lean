/-! part 99l: arrays of references, cut to their length -/
def nzE (e : AE) : AE := match e with
  | .inr (t, len, .inr (.inr f)) => .inr (t, len, .inr (.inr (fun j => if j < len then f j else none)))
  | .inr (t, len, .inr (.inl f)) => .inr (t, len, .inr (.inl f))
  | .inr (t, len, .inl f) => .inr (t, len, .inl f)
  | .inl o => .inl o
def nz (h : HP) : HP := fun i => nzE (h i)
theorem arrV_cg {c : ClassId} {N : Nat} {f g : Nat → Value} (h : ∀ j, j < N → f j = g j) : arrV c N f = arrV c N g := by
  unfold arrV
  have : (fun j : Fin N => f j.val) = (fun j : Fin N => g j.val) := funext fun j => h j.val j.isLt
  rw [this]
theorem tyE_nz (e : AE) : tyE (nzE e) = tyE e := by
  rcases e with o | ⟨t, len, f | f | f⟩ <;> rfl
theorem Wd.nz {D : va_G} {A : Nat → Nat} {cy : Nat → ClassId} {bs n : Nat} {h : HP} {U : State} {H : Heap} (w : Wd D A cy bs n h U H) : Wd D A cy bs n (_root_.Jvm.Pilot.@@N@@.nz h) U H := by
  refine ⟨fun k q hq => ?_, w.2.1, fun i hi ty hty => w.2.2.1 i hi ty (by rw [← tyE_nz]; exact hty), w.2.2.2⟩
  obtain ⟨hk, rfl⟩ := lst_got hq
  have := w.1 k _ (lst_get hk)
  show va_at D vwCl (A k, trE A (cy k) (nzE (h k))) H
  generalize h k = e at this
  rcases e with o | ⟨t, len, f | f | f⟩
  · exact this
  · exact this
  · exact this
  · have h1 : H[A k]? = some (vp_cell (cy k) (len, .inr (.inr (.inr (.inr (fun j => (f j).map A)))))) := this
    show H[A k]? = some (vp_cell (cy k) (len, .inr (.inr (.inr (.inr (fun j => (if j < len then f j else none).map A))))))
    rw [h1, vp_cell_q, vp_cell_q]
    exact congrArg some (arrV_cg fun j hj => by rw [if_pos hj])
theorem ok_nz {X : Xt} {cb sb pc n : Nat} {lv : List (Nat × Value)} {st : List Value} {h : HP} (k : Ok X cb sb pc lv st n (nz h)) : Ok X cb sb pc lv st n h := by
  obtain ⟨p, l, e, R, s, m, args, below, meth, c, D, bs, A0, n0, Q⟩ := X
  intro A cy H locs ls cells slots h1 h2 h3 h4 hw hS hl h5 h6
  exact k A cy H locs ls cells slots h1 h2 h3 h4 hw.nz hS hl h5 h6
theorem At.nz {h : HP} {n a : Nat} {e : AE} (p : At h n a e) (he : nzE e = e) : At (_root_.Jvm.Pilot.@@N@@.nz h) n a e := ⟨p.1, (congrArg nzE p.2).trans he⟩
theorem PtA.nz {h : HP} {n a cap : Nat} {ps : List Part} (p : PtA h n a cap ps) : PtA (_root_.Jvm.Pilot.@@N@@.nz h) n a cap ps := by
  obtain ⟨k, f, s, t, E, E1, E2, E3, E4, r⟩ := p
  exact ⟨k, f, s, t, E.nz rfl, E1.nz rfl, E2.nz rfl, E3.nz rfl, E4.nz rfl, r⟩
theorem StA.nz {h : HP} {n a : Nat} {S : Stt} (p : StA h n a S) : StA (_root_.Jvm.Pilot.@@N@@.nz h) n a S := ⟨p.1.nz rfl, p.2.1.nz, p.2.2⟩
theorem RwA.nz {h : HP} {n r : Nat} {M : Mat} (p : RwA h n r M) : RwA (_root_.Jvm.Pilot.@@N@@.nz h) n r M := by
  obtain ⟨g, σ, R, h0, h1, h2, h3, h4, h5⟩ := p
  exact ⟨fun j => if j < 7 then g j else none, σ, R, h0.nz rfl, ⟨h1.1, congrArg nzE h1.2⟩, fun j hj => ⟨(if_pos hj).trans (h2 j hj).1, (h2 j hj).2⟩, h3, fun i hi => (h4 i hi).nz rfl, h5⟩
theorem RpA.nz {h : HP} {n r : Nat} {D : Nat → Int} {N : Nat → Nat → Int} (p : RpA h n r D N) : RpA (_root_.Jvm.Pilot.@@N@@.nz h) n r D N := by
  obtain ⟨M, d, g, v, h1, h2, h3, h4⟩ := p
  exact ⟨M, d, fun j => if j < 8 then g j else none, v, h1.nz, h2.nz rfl, ⟨h3.1, congrArg nzE h3.2⟩, fun j hj => ⟨(if_pos hj).trans (h4 j hj).1, (h4 j hj).2.1.nz rfl, (h4 j hj).2.2⟩⟩
theorem BnC.nz {h : HP} {n b : Nat} {S : Stt} {A sat rsn cul : Int} {F D G : Nat → Int} {N : Nat → Nat → Int} (p : BnC h n b S A F D N sat rsn cul G) : BnC (_root_.Jvm.Pilot.@@N@@.nz h) n b S A F D N sat rsn cul G := ⟨p.1.nz rfl, p.2.1.nz, p.2.2.1.nz rfl, p.2.2.2.1.nz, p.2.2.2.2.nz rfl⟩
theorem nz_ref {t len : Nat} {f : Nat → Option Nat} (h : ∀ j, ¬ j < len → f j = none) : nzE (.inr (t, len, .inr (.inr f))) = .inr (t, len, .inr (.inr f)) := by
  refine congrArg (fun g => Sum.inr (t, len, Sum.inr (Sum.inr g))) (funext fun j => ?_)
  by_cases z : j < len
  · exact if_pos z
  · exact (if_neg z).trans (h j z).symm
theorem DkA.nz {h : HP} {n : Nat} {q : Dsk} (p : DkA h n q) : DkA (_root_.Jvm.Pilot.@@N@@.nz h) n q := by
  obtain ⟨h0, ⟨a1, a2, a3, a4, F, D, N, hB, hr⟩, ⟨T, b1, b2, b3, b4, b5, b6, b7, b8, hT⟩, ⟨tx, hTx, ⟨rq, r1, r2, r3, r4⟩⟩, ⟨o, o1, o2, o3, o4, o5, o6⟩, ⟨m1, m2⟩, hG⟩ := p
  refine ⟨h0.nz rfl, ⟨a1, a2, a3, a4, F, D, N, hB.nz, hr⟩, ⟨T, b1, b2, b3, b4, b5, b6, b7, b8, hT.nz⟩, ⟨tx, hTx, ⟨rq, r1.nz rfl, r2.nz rfl, r3.nz rfl, r4.nz⟩⟩, ⟨o, o1, o2, o3.nz rfl, o4.nz (nz_ref fun j hj => if_neg hj), fun j hj => ?_, fun i hi => ?_⟩, ⟨m1.nz (nz_ref fun j hj => if_neg hj), fun j hj => (m2 j hj).nz⟩, hG⟩
  · obtain ⟨S, hS⟩ := o5 j hj
    exact ⟨S, hS.nz⟩
  · obtain ⟨S, hS1, hS2⟩ := o6 i hi
    exact ⟨S, hS1, hS2.nz⟩
/-- the places from lo to hi refer to places that are -/
def Cp (h : HP) (lo hi n : Nat) : Prop := ∀ i, lo ≤ i ∧ i ≤ hi → ∀ j, Rf (nz h i) j → j < n ∨ SA ≤ j
theorem Cp.one {h : HP} {n a : Nat} {e : AE} (p : At h n a e) (he : ∀ j, Rf (nzE e) j → j < n ∨ SA ≤ j) : Cp h a a n := fun i hi j hj => by
  have : i = a := by omega
  subst this
  refine he j ?_
  rw [← p.2]
  exact hj
theorem Cp.ai {h : HP} {n a len : Nat} {f : Nat → Int} (p : At h n a (ai len f)) : Cp h a a n := Cp.one p (fun _ z => False.elim z)
theorem Cp.ac {h : HP} {n a len : Nat} {f : Nat → Int} (p : At h n a (ac len f)) : Cp h a a n := Cp.one p (fun _ z => False.elim z)
theorem Cp.al {h : HP} {n a len : Nat} {f : Nat → Int} (p : At h n a (al len f)) : Cp h a a n := Cp.one p (fun _ z => False.elim z)
theorem Cp.ob {h : HP} {n a ci : Nat} {fs : List Value} (p : At h n a (.inl (ci, fs))) (hf : ClV fs n) : Cp h a a n := Cp.one p hf
theorem Cp.rf {h : HP} {n a t len : Nat} {g : Nat → Option Nat} (p : At h n a (.inr (t, len, .inr (.inr g)))) (hg : ∀ i j, i < len → g i = some j → j < n) : Cp h a a n := Cp.one p (fun j z => by
  obtain ⟨i, hi⟩ := z
  have hi : (if i < len then g i else none) = some j := hi
  by_cases y : i < len
  · rw [if_pos y] at hi
    exact Or.inl (hg i j y hi)
  · rw [if_neg y] at hi
    cases hi)
theorem Cp.jn {h : HP} {a b c n : Nat} (p : Cp h a b n) (q : Cp h (b + 1) c n) : Cp h a c n := fun i hi => by
  by_cases z : i ≤ b
  · exact p i (by omega)
  · exact q i (by omega)
theorem PtA.cp {h : HP} {n a cap : Nat} {ps : List Part} (p : PtA h n a cap ps) : Cp h a (a + 4) n := by
  obtain ⟨k, f, s, t, E, E1, E2, E3, E4, r⟩ := p
  exact ((((Cp.ob E (ClV.r E1.1 (ClV.r E2.1 (ClV.r E3.1 (ClV.r E4.1 (ClV.i (fun j z => by cases z) ClV.z)))))).jn (Cp.ai E1)).jn (Cp.ai E2)).jn (Cp.ai E3)).jn (Cp.ai E4)
theorem StA.cp {h : HP} {n a : Nat} {S : Stt} (p : StA h n a S) : Cp h a (a + 5) n := by
  have hb : a + 1 < n := by
    obtain ⟨k, f, s, t, E, -⟩ := p.2.1
    exact E.1
  exact (Cp.ob p.1 (ClV.r hb (ClV.i (fun j z => by cases z) (ClV.i (fun j z => by cases z) (ClV.i (fun j z => by cases z) ClV.z))))).jn p.2.1.cp
