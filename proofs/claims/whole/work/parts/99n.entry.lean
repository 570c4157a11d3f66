/-! part 99n: the law's entry -/
theorem At.mo {h : HP} {n n' a : Nat} {e : AE} (hn : n ≤ n') (p : At h n a e) : At h n' a e := ⟨Nat.lt_of_lt_of_le p.1 hn, p.2⟩
theorem PtA.mo {h : HP} {n n' a cap : Nat} {ps : List Part} (hn : n ≤ n') (p : PtA h n a cap ps) : PtA h n' a cap ps := by
  obtain ⟨k, f, s, t, E, E1, E2, E3, E4, r⟩ := p
  exact ⟨k, f, s, t, E.mo hn, E1.mo hn, E2.mo hn, E3.mo hn, E4.mo hn, r⟩
theorem StA.mo {h : HP} {n n' a : Nat} {S : Stt} (hn : n ≤ n') (p : StA h n a S) : StA h n' a S := ⟨p.1.mo hn, p.2.1.mo hn, p.2.2⟩
theorem RwA.mo {h : HP} {n n' r : Nat} {M : Mat} (hn : n ≤ n') (p : RwA h n r M) : RwA h n' r M := by
  obtain ⟨g, σ, R, h0, h1, h2, h3, h4, h5⟩ := p
  exact ⟨g, σ, R, h0.mo hn, h1.mo hn, h2, h3, fun i hi => (h4 i hi).mo hn, h5⟩
theorem RpA.mo {h : HP} {n n' r : Nat} {D : Nat → Int} {N : Nat → Nat → Int} (hn : n ≤ n') (p : RpA h n r D N) : RpA h n' r D N := by
  obtain ⟨M, d, g, v, h1, h2, h3, h4⟩ := p
  exact ⟨M, d, g, v, h1.mo hn, h2.mo hn, h3.mo hn, fun j hj => ⟨(h4 j hj).1, (h4 j hj).2.1.mo hn, (h4 j hj).2.2⟩⟩
theorem BnC.mo {h : HP} {n n' b : Nat} {S : Stt} {A sat rsn cul : Int} {F D G : Nat → Int} {N : Nat → Nat → Int} (hn : n ≤ n') (p : BnC h n b S A F D N sat rsn cul G) : BnC h n' b S A F D N sat rsn cul G := ⟨p.1.mo hn, p.2.1.mo hn, p.2.2.1.mo hn, p.2.2.2.1.mo hn, p.2.2.2.2.mo hn⟩
theorem DkA.mo {h : HP} {n n' : Nat} {q : Dsk} (hn : n ≤ n') (p : DkA h n q) : DkA h n' q := by
  obtain ⟨h0, ⟨a1, a2, a3, a4, F, D, N, hB, hr⟩, ⟨T, b1, b2, b3, b4, b5, b6, b7, b8, hT⟩, ⟨tx, hTx, ⟨rq, r1, r2, r3, r4⟩⟩, ⟨o, o1, o2, o3, o4, o5, o6⟩, ⟨m1, m2⟩, hG⟩ := p
  refine ⟨h0.mo hn, ⟨a1, a2, a3, a4, F, D, N, hB.mo hn, hr⟩, ⟨T, b1, b2, b3, b4, b5, b6, b7, b8, hT.mo hn⟩, ⟨tx, hTx, ⟨rq, r1.mo hn, r2.mo hn, r3.mo hn, r4.mo hn⟩⟩, ⟨o, o1, o2, o3.mo hn, o4.mo hn, fun j hj => ?_, fun i hi => ?_⟩, ⟨m1.mo hn, fun j hj => (m2 j hj).mo hn⟩, hG⟩
  · obtain ⟨S, hS⟩ := o5 j hj
    exact ⟨S, hS.mo hn⟩
  · obtain ⟨S, hS1, hS2⟩ := o6 i hi
    exact ⟨S, hS1, hS2.mo hn⟩
theorem ClV.s {a n : Nat} {vs : List Value} (h : SA ≤ a) (t : ClV vs n) : ClV (.ref a :: vs) n := fun j hj => by
  rcases List.mem_cons.mp hj with e | e
  · have e2 : j = a := Value.ref.inj e
    exact Or.inr (by rw [e2]; exact h)
  · exact t j e
theorem lw_entry {X : Xt} {L9 : Nat} {xs : Nat → Int32} {f L : Nat} (hc : Cx X cL_law RL 9 f L) (hf : 13 ≤ f) (hL302 : 302 ≤ L) {cb sb : Nat} (k : ∀ (h : HP) (q : Dsk), LwI h q → Ok X cb sb 23 [(0, .ref (SA + 1)), (1, .ref 0), (2, .ref 128), (3, .ref 139), (4, .int (i3 0))] [] 140 h) (h : HP) : Ok X (cb + 1 + 10 + 1 + 130 + 1) (sb + 1 + 1100 + 24 + 4000 + 6) 0 [(0, .ref (SA + 1))] [] 0 h := by
  have hsa := sa139
  have hs1 : SA ≤ SA + 1 := by omega
  have c0 : Cl h 0 := fun i hi => absurd hi (Nat.not_lt_zero i)
  have cz : ∀ {v : Value} {vs : List Value} {n : Nat}, (∀ j, v ≠ .ref j) → ClV vs n → ClV (v :: vs) n := fun a b => ClV.i a b
  refine ok_new (pc := 0) (N := 6) hc nw_L_8 dL_law_0 (fun j z => by simp at z) c0 (ClV.s hs1 ClV.z) ClV.z (by omega) ?_
  have c1 := c0.new (e := .inl (6, [.null, .null, .null, .null, .null, .int (i3 0)])) (fun j z => (by simp only [Rf, List.mem_cons, List.not_mem_nil, or_false, reduceCtorEq, or_self] at z))
  refine ok_dup (pc := 3) hc dL_law_3 rfl ?_
  refine ok_callI (pc := 4) (a := 0) (st := [.ref 0]) hc [] ci_L_78 sp_X6_init (by omega) dL_law_4 rfl rfl rfl rfl (Nat.le_of_ble_eq_true rfl) (ClV.s hs1 ClV.z) (ClV.r (by omega) ClV.z) ⟨0, rfl, rfl, rfl, up_self, c1, fun h1 hD => ⟨by omega, ok_nz ?_⟩⟩
  have hD2 := hD.nz
  have c2 := hD.cl
  generalize nz h1 = h2 at hD2 c2 ⊢
  refine ok_astore_n (pc := 7) hc (lv' := [(1, .ref 0), (0, .ref (SA + 1))]) dL_law_7 rfl (by decide) rfl ?_
  refine ok_new (pc := 8) (N := 24) hc nw_L_79 dL_law_8 (fun j z => by simp at z) c2 (ClV.r (by omega) (ClV.s hs1 ClV.z)) ClV.z (by omega) ?_
  have c3 := c2.new (e := .inl (7, [.int (i3 0), .null, .null, .int (i3 0), .null, .int (i3 0), .null, .int (i3 0), .null, .int (i3 0), .null, .null, .int (i3 0), .null, .null, .long (i6 0), .int (i3 0), .int (i3 0), .null, .int (i3 0), .int (i3 0), .int (i3 0), .int (i3 0), .long (i6 0)])) (fun j z => (by simp only [Rf, List.mem_cons, List.not_mem_nil, or_false, reduceCtorEq, or_self] at z))
  refine ok_dup (pc := 11) hc dL_law_11 rfl ?_
  refine ok_callI (pc := 12) (a := 128) (st := [.ref 128]) hc [] ci_L_81 sp_X7_init (by omega) dL_law_12 rfl rfl rfl rfl (Nat.le_of_ble_eq_true rfl) (ClV.r (by omega) (ClV.s hs1 ClV.z)) (ClV.r (by omega) ClV.z) ⟨128, rfl, rfl, rfl, up_self, c3, fun h3 f3 hM c4 => ⟨by omega, ?_⟩⟩
  refine ok_astore_n (pc := 15) hc (lv' := [(2, .ref 128), (1, .ref 0), (0, .ref (SA + 1))]) dL_law_15 rfl (by decide) rfl ?_
  refine ok_iconst (pc := 16) (v := i3 1) hc dL_law_16 (by decide) ?_
  refine ok_newJ (pc := 17) (len := 1) hc dL_law_17 ac_long (by omega) c4 (ClV.r (by omega) (ClV.r (by omega) (ClV.s hs1 ClV.z))) ClV.z (by omega) ?_
  refine ok_astore_n (pc := 19) hc (lv' := [(3, .ref 139), (2, .ref 128), (1, .ref 0), (0, .ref (SA + 1))]) dL_law_19 rfl (by decide) rfl ?_
  refine ok_iconst (pc := 20) (v := i3 0) hc dL_law_20 (by decide) ?_
  refine ok_istore (pc := 21) hc (lv' := [(4, .int (i3 0)), (3, .ref 139), (2, .ref 128), (1, .ref 0), (0, .ref (SA + 1))]) dL_law_21 (by decide) rfl ?_
  refine ok_lv [4, 3, 2, 1, 0] rfl ?_
  have fd : Fr h2 (va_up h3 139 (al 1 (fun _ => 0))) 128 139 := fun x hx => by
    rw [up_ne (by omega), f3 x (by omega), up_ne (by omega)]
  have hM2 : MdA h3 139 q0D 0 := ⟨_, _, hM, mdF_0, rfl, gdD_0, okD_0⟩
  obtain ⟨I, F, m, r⟩ := hM2.pt (h' := va_up h3 139 (al 1 (fun _ => 0))) (fun x hx => up_ne (by omega))
  exact k _ q0D ⟨(hD2.out fd (by omega)).mo (by omega), ⟨0, I, F, ⟨m.1.mo (by omega), fun j hj => (m.2 j hj).mo (by omega)⟩, r⟩, ⟨fun _ => 0, by omega, up_self⟩⟩
