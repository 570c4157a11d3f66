/-! part 99i: the law: its script, its state, its cases that may throw -/
def ScX (X : Xt) (L9 : Nat) (xs : Nat → Int32) : Prop := match X with
  | (_, _, _, _, s, _, _, _, _, _, _, bs, A0, _, _) => va_X (A0 (SA + 1)) L9 xs s s.heap ∧ A0 (SA + 1) < s.heap.size ∧ ¬ bs ≤ A0 (SA + 1)
/-- the law may end with 1 -/
def CxL (X : Xt) : Prop := ∀ (cb sb pc n : Nat) (lv : List (Nat × Value)) (h : HP), decode cL_law pc = .ok (.ireturn, 1) → Ok X cb sb pc lv [.int (i3 1)] n h
theorem ok_retL {X : Xt} {nL f L cb sb pc n : Nat} {lv : List (Nat × Value)} {h : HP} {v : Int} (_ : Cx X cL_law RL nL f L) (hL : CxL X) (hd : decode cL_law pc = .ok (.ireturn, 1)) (P : v = 1) : Ok X cb sb pc lv [.int (i3 v)] n h := by
  rw [P]
  exact hL _ _ _ _ _ _ hd
theorem ok_sld {X : Xt} {cc : ByteArray} {own : String} {nL f L cb sb pc n : Nat} {lv : List (Nat × Value)} {st : List Value} {h : HP} (hc : Cx X cc own nL f L) {L9 : Nat} {xs : Nat → Int32} (hX : ScX X L9 xs) (hd : decode cc pc = .ok (.iaload, 1)) {i : Int} (r : Ix i L9) (k : Ok X cb sb (pc + 1) lv (.int (i3 (xs i.toNat).toInt) :: st) n h) : Ok X cb sb pc lv (.int (i3 i) :: .ref (SA + 1) :: st) n h := by
  rw [i3_T] at k
  obtain ⟨p, l, e, R, s, m, args, below, meth, c, D, bs, A0, n0, Q⟩ := X
  obtain ⟨hx, hb, hown, hts, hml, hRf, hRl, hF, htr, hlk, hbs⟩ := hc
  intro A cy H locs ls cells slots h1 h2 h3 h4 hw hS hl h5 h6
  have eA : A (SA + 1) = A0 (SA + 1) := h1 _ (Or.inr (by omega))
  show W p l e R s m args below meth c H locs cells slots Q (F0 m pc ls (.int (i3 i) :: .ref (A (SA + 1)) :: st.map (trV A)))
  rw [eA]
  refine va_sld (A := fun q => bs ≤ q) (H0 := s.heap) hx hb hX.1 hX.2.1 hX.2.2 hS r.v hd ?_
  rw [i3_nat r.r]
  exact k A cy H locs ls cells slots h1 h2 h3 h4 hw hS hl h5 h6
theorem ok_slen {X : Xt} {cc : ByteArray} {own : String} {nL f L cb sb pc n : Nat} {lv : List (Nat × Value)} {st : List Value} {h : HP} (hc : Cx X cc own nL f L) {L9 : Nat} {xs : Nat → Int32} (hX : ScX X L9 xs) (hd : decode cc pc = .ok (.arraylength, 1)) (k : Ok X cb sb (pc + 1) lv (.int (i3 (L9 : Int)) :: st) n h) : Ok X cb sb pc lv (.ref (SA + 1) :: st) n h := by
  rw [i3_nI] at k
  obtain ⟨p, l, e, R, s, m, args, below, meth, c, D, bs, A0, n0, Q⟩ := X
  obtain ⟨hx, hb, hown, hts, hml, hRf, hRl, hF, htr, hlk, hbs⟩ := hc
  intro A cy H locs ls cells slots h1 h2 h3 h4 hw hS hl h5 h6
  have eA : A (SA + 1) = A0 (SA + 1) := h1 _ (Or.inr (by omega))
  show W p l e R s m args below meth c H locs cells slots Q (F0 m pc ls (.ref (A (SA + 1)) :: st.map (trV A)))
  rw [eA]
  exact va_slen (A := fun q => bs ≤ q) (H0 := s.heap) hx hb hX.1 hX.2.1 hX.2.2 hS hd (k A cy H locs ls cells slots h1 h2 h3 h4 hw hS hl h5 h6)
/-- the world at the head of the law's loop -/
def LwI (h : HP) (q : Dsk) : Prop := DkA h 140 q ∧ (∃ t, MdA h 140 q t) ∧ ∃ f, At h 140 139 (al 1 f)
theorem MdA.pt {h h' : HP} {n : Nat} {q : Dsk} {t : Int} (p : MdA h n q t) (e : ∀ x, 128 ≤ x ∧ x ≤ 138 → h' x = h x) : MdA h' n q t := by
  obtain ⟨I, F, m, r⟩ := p
  exact ⟨I, F, ⟨⟨m.1.1, (e 128 (by omega)).trans m.1.2⟩, fun j hj => ⟨(m.2 j hj).1, (e (128 + j) (by omega)).trans (m.2 j hj).2⟩⟩, r⟩
theorem cdL_r (l : List String) (r : Int ⊕ String) : -1000000 ≤ cdL l r ∧ cdL l r ≤ 1000000 := by
  cases r with
  | inl z => exact ⟨(by decide : (-1000000 : Int) ≤ 0), (by decide : (0 : Int) ≤ 1000000)⟩
  | inr E =>
    unfold cdL
    simp only
    split
    · decide
    · split
      · decide
      · split <;> decide
theorem cdL_0 {l : List String} {r : Int ⊕ String} (h : cdL l r = 0) : ∃ z, r = .inl z := by
  cases r with
  | inl z => exact ⟨z, rfl⟩
  | inr E =>
    unfold cdL at h
    simp only at h
    split at h
    · exact absurd h (by decide)
    · split at h
      · exact absurd h (by decide)
      · split at h <;> exact absurd h (by decide)
theorem R36 {x : Int} (h : R3 x) : R6 x := by
  unfold R3 at h
  unfold R6
  omega
theorem R6_T (x : Int64) : R6 x.toInt := ⟨by have := x.minValue_le_toInt; simpa using this, by have := x.toInt_lt; omega⟩
set_option maxHeartbeats 4000000 in
set_option maxRecDepth 100000 in
theorem sL_law_205 {X : Xt} {n : Nat} {h : HP} {a1 : Nat} {a2 : Nat} {a3 : Nat} {x4 : Int} {bb : Nat} {sb9 : Nat} (hc : Cx X cL_law RL 9 13 302) {L9 : Nat} {xs : Nat → Int32} (hX : ScX X L9 xs) (hL : CxL X) 
    (P : (Ix (x4 + 1) L9) ∧ (Ix (x4 + 2) L9) ∧ spec_L_setValue [.ref a1, .int (i3 ((xs ((x4 + 1) : Int).toNat).toInt)), .int (i3 ((xs ((x4 + 2) : Int).toNat).toInt)), .ref a3] n h (kn X bb sb9 219 [(0, .ref (SA + 1)), (1, .ref a1), (2, .ref a2), (3, .ref a3), (4, .int (i3 x4))] [] n)) :
    Ok X (bb + 2) (sb9 + 12) 205 [(0, .ref (SA + 1)), (1, .ref a1), (2, .ref a2), (3, .ref a3), (4, .int (i3 x4))] [] n h := by
  refine ok_aload_n (pc := 205) hc dL_law_205 rfl 1 rfl ?_
  refine ok_aload_n (pc := 206) hc dL_law_206 rfl 0 rfl ?_
  refine ok_iload (pc := 207) hc dL_law_207 4 rfl ?_
  refine ok_iconst (pc := 209) hc (v := i3 1) dL_law_209 (by decide) ?_
  refine zk_iadd (pc := 210) hc dL_law_210 ?_
  obtain ⟨r, P⟩ := P
  refine ok_sld (pc := 211) hc hX dL_law_211 r ?_
  refine ok_aload_n (pc := 212) hc dL_law_212 rfl 0 rfl ?_
  refine ok_iload (pc := 213) hc dL_law_213 4 rfl ?_
  refine ok_iconst (pc := 215) hc (v := i3 2) dL_law_215 (by decide) ?_
  refine zk_iadd (pc := 216) hc dL_law_216 ?_
  obtain ⟨r, P⟩ := P
  refine ok_sld (pc := 217) hc hX dL_law_217 r ?_
  refine ok_aload_n (pc := 218) hc dL_law_218 rfl 3 rfl ?_
  exact ok_callSW (pc := 219) (cb := bb) (sb := sb9) (st := []) hc [.ref a1, .int (i3 ((xs ((x4 + 1) : Int).toNat).toInt)), .int (i3 ((xs ((x4 + 2) : Int).toNat).toInt)), .ref a3] cw_L_95 sp_L_setValue (by decide) dL_law_219 rfl rfl rfl rfl (Nat.le_of_ble_eq_true rfl) P
set_option maxHeartbeats 4000000 in
set_option maxRecDepth 100000 in
theorem sL_law_222 {X : Xt} {n : Nat} {h : HP} {a1 : Nat} {a2 : Nat} {a3 : Nat} {x4 : Int} {t0 : Int} {bb : Nat} {sb9 : Nat} {fs1 : List Value} (hc : Cx X cL_law RL 9 13 302) {L9 : Nat} {xs : Nat → Int32} (hX : ScX X L9 xs) (hL : CxL X) (e1 : At h n a2 (.inl (7, fs1))) (z1 : fs1.length = 24)
    (P : (Ix (x4 + 1) L9) ∧ (Ix (x4 + 2) L9) ∧ spec_X7_setValue [.ref a2, .int (i3 ((xs ((x4 + 1) : Int).toNat).toInt)), .int (i3 ((xs ((x4 + 2) : Int).toNat).toInt))] n h (kc X bb sb9 237 [(0, .ref (SA + 1)), (1, .ref a1), (2, .ref a2), (3, .ref a3), (4, .int (i3 x4)), (5, .int (i3 t0))] [] n)) :
    Ok X bb sb9 222 [(0, .ref (SA + 1)), (1, .ref a1), (2, .ref a2), (3, .ref a3), (4, .int (i3 x4))] [.int (i3 t0)] n h := by
  refine ok_istore (pc := 222) hc (lv' := [(5, .int (i3 t0)), (0, .ref (SA + 1)), (1, .ref a1), (2, .ref a2), (3, .ref a3), (4, .int (i3 x4))]) dL_law_222 (by decide) rfl ?_
  refine ok_aload_n (pc := 224) hc dL_law_224 rfl 3 rfl ?_
  refine ok_aload_n (pc := 225) hc dL_law_225 rfl 1 rfl ?_
  refine ok_iload (pc := 226) hc dL_law_226 5 rfl ?_
  refine ok_iconst (pc := 228) hc (v := i3 1) dL_law_228 (by decide) ?_
  refine zk_iadd (pc := 229) hc dL_law_229 ?_
  obtain ⟨r, P⟩ := P
  refine ok_sld (pc := 230) hc hX dL_law_230 r ?_
  refine ok_aload_n (pc := 231) hc dL_law_231 rfl 1 rfl ?_
  refine ok_iload (pc := 232) hc dL_law_232 5 rfl ?_
  refine ok_iconst (pc := 234) hc (v := i3 2) dL_law_234 (by decide) ?_
  refine zk_iadd (pc := 235) hc dL_law_235 ?_
  obtain ⟨r, P⟩ := P
  refine ok_sld (pc := 236) hc hX dL_law_236 r ?_
  refine ok_lv [1, 2, 3, 4, 5, 0] rfl ?_
  exact ok_callV (pc := 237) (a := a2) (cb := bb) (sb := sb9) (st := []) hc [.int (i3 ((xs ((x4 + 1) : Int).toNat).toInt)), .int (i3 ((xs ((x4 + 2) : Int).toNat).toInt))] cv_L_98 sp_X7_setValue (by decide) dL_law_237 rfl e1.1 e1.2 rfl rfl rfl (Nat.le_of_ble_eq_true rfl) P
set_option maxHeartbeats 4000000 in
set_option maxRecDepth 100000 in
theorem sL_law_240 {X : Xt} {n : Nat} {h : HP} {a1 : Nat} {a2 : Nat} {a3 : Nat} {x4 : Int} {x5 : Int} {t0 : Int} {bb : Nat} {sb9 : Nat} {fs1 : List Value} (hc : Cx X cL_law RL 9 13 302) {L9 : Nat} {xs : Nat → Int32} (hX : ScX X L9 xs) (hL : CxL X) (e1 : At h n a2 (.inl (7, fs1))) (z1 : fs1.length = 24)
    (P : spec_X7_thrown [.ref a2] n h (kc X bb sb9 243 [(0, .ref (SA + 1)), (1, .ref a1), (2, .ref a2), (3, .ref a3), (4, .int (i3 x4)), (5, .int (i3 x5)), (6, .int (i3 t0))] [] n)) :
    Ok X bb sb9 240 [(0, .ref (SA + 1)), (1, .ref a1), (2, .ref a2), (3, .ref a3), (4, .int (i3 x4)), (5, .int (i3 x5))] [.int (i3 t0)] n h := by
  refine ok_istore (pc := 240) hc (lv' := [(6, .int (i3 t0)), (0, .ref (SA + 1)), (1, .ref a1), (2, .ref a2), (3, .ref a3), (4, .int (i3 x4)), (5, .int (i3 x5))]) dL_law_240 (by decide) rfl ?_
  refine ok_aload_n (pc := 242) hc dL_law_242 rfl 3 rfl ?_
  refine ok_lv [1, 2, 3, 4, 5, 6, 0] rfl ?_
  exact ok_callV (pc := 243) (a := a2) (cb := bb) (sb := sb9) (st := []) hc [] cv_L_92 sp_X7_thrown (by decide) dL_law_243 rfl e1.1 e1.2 rfl rfl rfl (Nat.le_of_ble_eq_true rfl) P
set_option maxHeartbeats 4000000 in
set_option maxRecDepth 100000 in
theorem sL_law_246 {X : Xt} {n : Nat} {h : HP} {a1 : Nat} {a2 : Nat} {a3 : Nat} {x4 : Int} {x5 : Int} {x6 : Int} {t0 : Int} {bb : Nat} {sb9 : Nat} {len4 : Nat} {f4 : Nat → Int} (hc : Cx X cL_law RL 9 13 302) {L9 : Nat} {xs : Nat → Int32} (hX : ScX X L9 xs) (hL : CxL X) (e4 : At h n a3 (al len4 f4))
    (P : (R3 t0) ∧ (R3 x5) ∧ (t0 = x5 → (R3 x5) ∧ (¬ x5 = 0 → Ok X bb sb9 1415 [(0, .ref (SA + 1)), (1, .ref a1), (2, .ref a2), (3, .ref a3), (4, .int (i3 x4))] [] n h) ∧ (x5 = 0 → (Ix 0 len4) ∧ (R3 x6) ∧ (R6 (f4 (0 : Int).toNat) ∧ R6 x6) ∧ ((f4 (0 : Int).toNat) = x6 → Ok X bb sb9 1415 [(0, .ref (SA + 1)), (1, .ref a1), (2, .ref a2), (3, .ref a3), (4, .int (i3 x4))] [] n h) ∧ (¬ (f4 (0 : Int).toNat) = x6 → 0 = (1 : Int)))) ∧ (¬ t0 = x5 → 0 = (1 : Int))) :
    Ok X bb sb9 246 [(0, .ref (SA + 1)), (1, .ref a1), (2, .ref a2), (3, .ref a3), (4, .int (i3 x4)), (5, .int (i3 x5)), (6, .int (i3 x6))] [.int (i3 t0)] n h := by
  refine ok_iload (pc := 246) hc dL_law_246 5 rfl ?_
  obtain ⟨r1, P⟩ := P
  obtain ⟨r2, P⟩ := P
  refine zk_icmp_eq (pc := 248) (tgt := 253) hc dL_law_248 (by decide) r1 r2 (fun c => ?_) (fun c => ?_)
  · have P := P.1 c
    refine ok_iload (pc := 253) hc dL_law_253 5 rfl ?_
    obtain ⟨r3, P⟩ := P
    refine zk_if_ne (pc := 255) (tgt := 270) hc dL_law_255 (by decide) r3 (fun c => ?_) (fun c => ?_)
    · have P := P.1 c
      refine ok_goto (pc := 270) (tgt := 1415) hc dL_law_270 (by decide) ?_
      refine ok_lv [0, 1, 2, 3, 4] rfl ?_
      exact P
    · have P := P.2 c
      refine ok_aload_n (pc := 258) hc dL_law_258 rfl 3 rfl ?_
      refine ok_iconst (pc := 259) hc (v := i3 0) dL_law_259 (by decide) ?_
      obtain ⟨r, P⟩ := P
      refine zk_lald (pc := 260) hc dL_law_260 e4.1 e4.2 r ?_
      refine ok_iload (pc := 261) hc dL_law_261 6 rfl ?_
      obtain ⟨r5, P⟩ := P
      refine zk_i2l (pc := 263) hc dL_law_263 r5 ?_
      obtain ⟨r, P⟩ := P
      refine zk_lcmp (pc := 264) hc dL_law_264 r ?_
      refine zk_if_eq (pc := 265) (tgt := 270) hc dL_law_265 (by decide) R3_cmp (fun c => ?_) (fun c => ?_)
      · have P := P.1 (cmp_eq.mp c)
        refine ok_goto (pc := 270) (tgt := 1415) hc dL_law_270 (by decide) ?_
        refine ok_lv [0, 1, 2, 3, 4] rfl ?_
        exact P
      · have P := P.2 (fun z => c (cmp_eq.mpr z))
        refine ok_iconst (pc := 268) hc (v := i3 0) dL_law_268 (by decide) ?_
        exact ok_retL hc hL dL_law_269 P
  · have P := P.2 c
    refine ok_iconst (pc := 251) hc (v := i3 0) dL_law_251 (by decide) ?_
    exact ok_retL hc hL dL_law_252 P
theorem lw_setValue {X : Xt} {L9 : Nat} {xs : Nat → Int32} (hc : Cx X cL_law RL 9 13 302) (hX : ScX X L9 xs) (hL : CxL X) (hL9 : L9 ≤ 2048) {i : Nat} (hi : i + 4 ≤ L9) {h : HP} {q : Dsk} (I : LwI h q) {bb sb9 : Nat} (k : ∀ (h' : HP) (q' : Dsk), LwI h' q' → Ok X bb sb9 1415 [(0, .ref (SA + 1)), (1, .ref 0), (2, .ref 128), (3, .ref 139), (4, .int (i3 i))] [] 140 h') : Ok X (bb + 2) (sb9 + 12) 205 [(0, .ref (SA + 1)), (1, .ref 0), (2, .ref 128), (3, .ref 139), (4, .int (i3 i))] [] 140 h := by
  obtain ⟨hD, ⟨t, hM⟩, g, hg⟩ := I
  obtain ⟨p0, hp0⟩ : ∃ p : Int, p = (xs ((i : Int) + 1).toNat).toInt := ⟨_, rfl⟩
  have r0 : R3 p0 := by rw [hp0]; exact R3_T _
  obtain ⟨p1, hp1⟩ : ∃ p : Int, p = (xs ((i : Int) + 2).toNat).toInt := ⟨_, rfl⟩
  have r1 : R3 p1 := by rw [hp1]; exact R3_T _
  refine sL_law_205 (bb := bb) (sb9 := sb9) hc hX hL ?_
  rw [← hp0, ← hp1]
  refine ⟨⟨by omega, by omega, by omega⟩, ⟨by omega, by omega, by omega⟩, q, 139, g, p0, p1, rfl, r0, r1, hD, hg, by omega, fun h1 g1 hD1 hg1 ez hfr => ⟨rfl, ?_⟩⟩
  have hM1 : MdA h1 140 q t := hM.pt (fun x hx => hfr x (by omega) (by omega))
  obtain ⟨I1, F1, m1, -⟩ := id hM1
  refine sL_law_222 hc hX hL m1.o rfl ?_
  rw [← hp0, ← hp1]
  refine ⟨⟨by omega, by omega, by omega⟩, ⟨by omega, by omega, by omega⟩, q, t, p0, p1, rfl, r0, r1, hM1, fun h2 hM2 f2 => ⟨rfl, ?_⟩⟩
  obtain ⟨I2, F2, m2, -⟩ := id hM2
  show Ok X bb sb9 240 [(0, .ref (SA + 1)), (1, .ref 0), (2, .ref 128), (3, .ref 139), (4, .int (i3 i)), (5, .int (i3 (cdL [eIO, eIS, eIA] ((opValue q p0 p1).2))))] [.int (i3 (rvI ((opValue q p0 p1).2)))] 140 h2
  rw [← i3_T (i3 (rvI ((opValue q p0 p1).2)))]
  refine sL_law_240 hc hX hL m2.o rfl ⟨_, _, rfl, hM2, ⟨rfl, ?_⟩⟩
  have kk := k h2 _ ⟨hD1.out f2 (by omega), ⟨_, hM2⟩, g1, hg1.fr f2 (by omega)⟩
  have rc : R3 (cdL [eIO, eIS, eIA] ((opValue q p0 p1).2)) := R3_s (cdL_r _ _)
  refine sL_law_246 hc hX hL (hg1.fr f2 (by omega)) ⟨rc, rc, fun _ => ⟨rc, fun _ => kk, fun z => ?_⟩, fun z => absurd rfl z⟩
  obtain ⟨w, ew⟩ := cdL_0 z
  have e0 := ez w ew
  have e1 : g1 (0 : Int).toNat = (i3 (rvI ((opValue q p0 p1).2))).toInt := by rw [ew]; exact e0
  exact ⟨⟨by decide, by decide, by decide⟩, R3_T _, ⟨by rw [e1]; exact R36 (R3_T _), R36 (R3_T _)⟩, fun _ => kk, fun z => absurd e1 z⟩
set_option maxHeartbeats 4000000 in
set_option maxRecDepth 100000 in
theorem sL_law_691 {X : Xt} {n : Nat} {h : HP} {a1 : Nat} {a2 : Nat} {a3 : Nat} {x4 : Int} {bb : Nat} {sb9 : Nat} (hc : Cx X cL_law RL 9 13 302) {L9 : Nat} {xs : Nat → Int32} (hX : ScX X L9 xs) (hL : CxL X) 
    (P : (Ix (x4 + 1) L9) ∧ (Ix (x4 + 2) L9) ∧ spec_L_voltage [.ref a1, .int (i3 ((xs ((x4 + 1) : Int).toNat).toInt)), .int (i3 ((xs ((x4 + 2) : Int).toNat).toInt)), .ref a3] n h (kn X bb sb9 705 [(0, .ref (SA + 1)), (1, .ref a1), (2, .ref a2), (3, .ref a3), (4, .int (i3 x4))] [] n)) :
    Ok X (bb + 2) (sb9 + 12) 691 [(0, .ref (SA + 1)), (1, .ref a1), (2, .ref a2), (3, .ref a3), (4, .int (i3 x4))] [] n h := by
  refine ok_aload_n (pc := 691) hc dL_law_691 rfl 1 rfl ?_
  refine ok_aload_n (pc := 692) hc dL_law_692 rfl 0 rfl ?_
  refine ok_iload (pc := 693) hc dL_law_693 4 rfl ?_
  refine ok_iconst (pc := 695) hc (v := i3 1) dL_law_695 (by decide) ?_
  refine zk_iadd (pc := 696) hc dL_law_696 ?_
  obtain ⟨r, P⟩ := P
  refine ok_sld (pc := 697) hc hX dL_law_697 r ?_
  refine ok_aload_n (pc := 698) hc dL_law_698 rfl 0 rfl ?_
  refine ok_iload (pc := 699) hc dL_law_699 4 rfl ?_
  refine ok_iconst (pc := 701) hc (v := i3 2) dL_law_701 (by decide) ?_
  refine zk_iadd (pc := 702) hc dL_law_702 ?_
  obtain ⟨r, P⟩ := P
  refine ok_sld (pc := 703) hc hX dL_law_703 r ?_
  refine ok_aload_n (pc := 704) hc dL_law_704 rfl 3 rfl ?_
  exact ok_callSW (pc := 705) (cb := bb) (sb := sb9) (st := []) hc [.ref a1, .int (i3 ((xs ((x4 + 1) : Int).toNat).toInt)), .int (i3 ((xs ((x4 + 2) : Int).toNat).toInt)), .ref a3] cw_L_129 sp_L_voltage (by decide) dL_law_705 rfl rfl rfl rfl (Nat.le_of_ble_eq_true rfl) P
set_option maxHeartbeats 4000000 in
set_option maxRecDepth 100000 in
theorem sL_law_708 {X : Xt} {n : Nat} {h : HP} {a1 : Nat} {a2 : Nat} {a3 : Nat} {x4 : Int} {t0 : Int} {bb : Nat} {sb9 : Nat} {fs1 : List Value} (hc : Cx X cL_law RL 9 13 302) {L9 : Nat} {xs : Nat → Int32} (hX : ScX X L9 xs) (hL : CxL X) (e1 : At h n a2 (.inl (7, fs1))) (z1 : fs1.length = 24)
    (P : (Ix (x4 + 1) L9) ∧ (Ix (x4 + 2) L9) ∧ spec_X7_voltage [.ref a2, .int (i3 ((xs ((x4 + 1) : Int).toNat).toInt)), .int (i3 ((xs ((x4 + 2) : Int).toNat).toInt))] n h (kc X bb sb9 723 [(0, .ref (SA + 1)), (1, .ref a1), (2, .ref a2), (3, .ref a3), (4, .int (i3 x4)), (5, .int (i3 t0))] [] n)) :
    Ok X bb sb9 708 [(0, .ref (SA + 1)), (1, .ref a1), (2, .ref a2), (3, .ref a3), (4, .int (i3 x4))] [.int (i3 t0)] n h := by
  refine ok_istore (pc := 708) hc (lv' := [(5, .int (i3 t0)), (0, .ref (SA + 1)), (1, .ref a1), (2, .ref a2), (3, .ref a3), (4, .int (i3 x4))]) dL_law_708 (by decide) rfl ?_
  refine ok_aload_n (pc := 710) hc dL_law_710 rfl 3 rfl ?_
  refine ok_aload_n (pc := 711) hc dL_law_711 rfl 1 rfl ?_
  refine ok_iload (pc := 712) hc dL_law_712 5 rfl ?_
  refine ok_iconst (pc := 714) hc (v := i3 1) dL_law_714 (by decide) ?_
  refine zk_iadd (pc := 715) hc dL_law_715 ?_
  obtain ⟨r, P⟩ := P
  refine ok_sld (pc := 716) hc hX dL_law_716 r ?_
  refine ok_aload_n (pc := 717) hc dL_law_717 rfl 1 rfl ?_
  refine ok_iload (pc := 718) hc dL_law_718 5 rfl ?_
  refine ok_iconst (pc := 720) hc (v := i3 2) dL_law_720 (by decide) ?_
  refine zk_iadd (pc := 721) hc dL_law_721 ?_
  obtain ⟨r, P⟩ := P
  refine ok_sld (pc := 722) hc hX dL_law_722 r ?_
  refine ok_lv [1, 2, 3, 4, 5, 0] rfl ?_
  exact ok_callV (pc := 723) (a := a2) (cb := bb) (sb := sb9) (st := []) hc [.int (i3 ((xs ((x4 + 1) : Int).toNat).toInt)), .int (i3 ((xs ((x4 + 2) : Int).toNat).toInt))] cv_L_131 sp_X7_voltage (by decide) dL_law_723 rfl e1.1 e1.2 rfl rfl rfl (Nat.le_of_ble_eq_true rfl) P
set_option maxHeartbeats 4000000 in
set_option maxRecDepth 100000 in
theorem sL_law_726 {X : Xt} {n : Nat} {h : HP} {a1 : Nat} {a2 : Nat} {a3 : Nat} {x4 : Int} {x5 : Int} {tl0 : Int} {bb : Nat} {sb9 : Nat} {fs1 : List Value} (hc : Cx X cL_law RL 9 13 302) {L9 : Nat} {xs : Nat → Int32} (hX : ScX X L9 xs) (hL : CxL X) (e1 : At h n a2 (.inl (7, fs1))) (z1 : fs1.length = 24)
    (P : spec_X7_thrown [.ref a2] n h (kc X bb sb9 729 [(0, .ref (SA + 1)), (1, .ref a1), (2, .ref a2), (3, .ref a3), (4, .int (i3 x4)), (5, .int (i3 x5)), (6, .long (i6 tl0))] [] n)) :
    Ok X bb sb9 726 [(0, .ref (SA + 1)), (1, .ref a1), (2, .ref a2), (3, .ref a3), (4, .int (i3 x4)), (5, .int (i3 x5))] [.long (i6 tl0)] n h := by
  refine ok_lstore (pc := 726) hc (lv' := [(6, .long (i6 tl0)), (0, .ref (SA + 1)), (1, .ref a1), (2, .ref a2), (3, .ref a3), (4, .int (i3 x4)), (5, .int (i3 x5))]) dL_law_726 (by decide) rfl ?_
  refine ok_aload_n (pc := 728) hc dL_law_728 rfl 3 rfl ?_
  refine ok_lv [1, 2, 3, 4, 5, 6, 0] rfl ?_
  exact ok_callV (pc := 729) (a := a2) (cb := bb) (sb := sb9) (st := []) hc [] cv_L_92 sp_X7_thrown (by decide) dL_law_729 rfl e1.1 e1.2 rfl rfl rfl (Nat.le_of_ble_eq_true rfl) P
set_option maxHeartbeats 4000000 in
set_option maxRecDepth 100000 in
theorem sL_law_732 {X : Xt} {n : Nat} {h : HP} {a1 : Nat} {a2 : Nat} {a3 : Nat} {x4 : Int} {x5 : Int} {l6 : Int} {t0 : Int} {bb : Nat} {sb9 : Nat} {len4 : Nat} {f4 : Nat → Int} (hc : Cx X cL_law RL 9 13 302) {L9 : Nat} {xs : Nat → Int32} (hX : ScX X L9 xs) (hL : CxL X) (e4 : At h n a3 (al len4 f4))
    (P : (R3 t0) ∧ (R3 x5) ∧ (t0 = x5 → (R3 x5) ∧ (¬ x5 = 0 → Ok X bb sb9 1415 [(0, .ref (SA + 1)), (1, .ref a1), (2, .ref a2), (3, .ref a3), (4, .int (i3 x4))] [] n h) ∧ (x5 = 0 → (Ix 0 len4) ∧ (R6 (f4 (0 : Int).toNat) ∧ R6 l6) ∧ ((f4 (0 : Int).toNat) = l6 → Ok X bb sb9 1415 [(0, .ref (SA + 1)), (1, .ref a1), (2, .ref a2), (3, .ref a3), (4, .int (i3 x4))] [] n h) ∧ (¬ (f4 (0 : Int).toNat) = l6 → 0 = (1 : Int)))) ∧ (¬ t0 = x5 → 0 = (1 : Int))) :
    Ok X bb sb9 732 [(0, .ref (SA + 1)), (1, .ref a1), (2, .ref a2), (3, .ref a3), (4, .int (i3 x4)), (5, .int (i3 x5)), (6, .long (i6 l6))] [.int (i3 t0)] n h := by
  refine ok_iload (pc := 732) hc dL_law_732 5 rfl ?_
  obtain ⟨r1, P⟩ := P
  obtain ⟨r2, P⟩ := P
  refine zk_icmp_eq (pc := 734) (tgt := 739) hc dL_law_734 (by decide) r1 r2 (fun c => ?_) (fun c => ?_)
  · have P := P.1 c
    refine ok_iload (pc := 739) hc dL_law_739 5 rfl ?_
    obtain ⟨r3, P⟩ := P
    refine zk_if_ne (pc := 741) (tgt := 755) hc dL_law_741 (by decide) r3 (fun c => ?_) (fun c => ?_)
    · have P := P.1 c
      refine ok_goto (pc := 755) (tgt := 1415) hc dL_law_755 (by decide) ?_
      refine ok_lv [0, 1, 2, 3, 4] rfl ?_
      exact P
    · have P := P.2 c
      refine ok_aload_n (pc := 744) hc dL_law_744 rfl 3 rfl ?_
      refine ok_iconst (pc := 745) hc (v := i3 0) dL_law_745 (by decide) ?_
      obtain ⟨r, P⟩ := P
      refine zk_lald (pc := 746) hc dL_law_746 e4.1 e4.2 r ?_
      refine ok_lload (pc := 747) hc dL_law_747 6 rfl ?_
      obtain ⟨r, P⟩ := P
      refine zk_lcmp (pc := 749) hc dL_law_749 r ?_
      refine zk_if_eq (pc := 750) (tgt := 755) hc dL_law_750 (by decide) R3_cmp (fun c => ?_) (fun c => ?_)
      · have P := P.1 (cmp_eq.mp c)
        refine ok_goto (pc := 755) (tgt := 1415) hc dL_law_755 (by decide) ?_
        refine ok_lv [0, 1, 2, 3, 4] rfl ?_
        exact P
      · have P := P.2 (fun z => c (cmp_eq.mpr z))
        refine ok_iconst (pc := 753) hc (v := i3 0) dL_law_753 (by decide) ?_
        exact ok_retL hc hL dL_law_754 P
  · have P := P.2 c
    refine ok_iconst (pc := 737) hc (v := i3 0) dL_law_737 (by decide) ?_
    exact ok_retL hc hL dL_law_738 P
theorem lw_voltage {X : Xt} {L9 : Nat} {xs : Nat → Int32} (hc : Cx X cL_law RL 9 13 302) (hX : ScX X L9 xs) (hL : CxL X) (hL9 : L9 ≤ 2048) {i : Nat} (hi : i + 4 ≤ L9) {h : HP} {q : Dsk} (I : LwI h q) {bb sb9 : Nat} (k : ∀ (h' : HP) (q' : Dsk), LwI h' q' → Ok X bb sb9 1415 [(0, .ref (SA + 1)), (1, .ref 0), (2, .ref 128), (3, .ref 139), (4, .int (i3 i))] [] 140 h') : Ok X (bb + 2) (sb9 + 12) 691 [(0, .ref (SA + 1)), (1, .ref 0), (2, .ref 128), (3, .ref 139), (4, .int (i3 i))] [] 140 h := by
  obtain ⟨hD, ⟨t, hM⟩, g, hg⟩ := I
  obtain ⟨p0, hp0⟩ : ∃ p : Int, p = (xs ((i : Int) + 1).toNat).toInt := ⟨_, rfl⟩
  have r0 : R3 p0 := by rw [hp0]; exact R3_T _
  obtain ⟨p1, hp1⟩ : ∃ p : Int, p = (xs ((i : Int) + 2).toNat).toInt := ⟨_, rfl⟩
  have r1 : R3 p1 := by rw [hp1]; exact R3_T _
  refine sL_law_691 (bb := bb) (sb9 := sb9) hc hX hL ?_
  rw [← hp0, ← hp1]
  refine ⟨⟨by omega, by omega, by omega⟩, ⟨by omega, by omega, by omega⟩, q, 139, g, p0, p1, rfl, r0, r1, hD, hg, by omega, fun h1 g1 hD1 hg1 ez hfr => ⟨rfl, ?_⟩⟩
  have hM1 : MdA h1 140 q t := hM.pt (fun x hx => hfr x (by omega) (by omega))
  obtain ⟨I1, F1, m1, -⟩ := id hM1
  refine sL_law_708 hc hX hL m1.o rfl ?_
  rw [← hp0, ← hp1]
  refine ⟨⟨by omega, by omega, by omega⟩, ⟨by omega, by omega, by omega⟩, q, t, p0, p1, rfl, r0, r1, hM1, fun h2 hM2 f2 => ⟨rfl, ?_⟩⟩
  obtain ⟨I2, F2, m2, -⟩ := id hM2
  show Ok X bb sb9 726 [(0, .ref (SA + 1)), (1, .ref 0), (2, .ref 128), (3, .ref 139), (4, .int (i3 i)), (5, .int (i3 (cdL [eIO, eIA] (opVolt q p0 p1))))] [.long (i6 (rvI (opVolt q p0 p1)))] 140 h2
  rw [← i6_T (i6 (rvI (opVolt q p0 p1)))]
  refine sL_law_726 hc hX hL m2.o rfl ⟨_, _, rfl, hM2, ⟨rfl, ?_⟩⟩
  have kk := k h2 _ ⟨hD1.out f2 (by omega), ⟨_, hM2⟩, g1, hg1.fr f2 (by omega)⟩
  have rc : R3 (cdL [eIO, eIA] (opVolt q p0 p1)) := R3_s (cdL_r _ _)
  refine sL_law_732 hc hX hL (hg1.fr f2 (by omega)) ⟨rc, rc, fun _ => ⟨rc, fun _ => kk, fun z => ?_⟩, fun z => absurd rfl z⟩
  obtain ⟨w, ew⟩ := cdL_0 z
  have e0 := ez w ew
  have e1 : g1 (0 : Int).toNat = (i6 (rvI (opVolt q p0 p1))).toInt := by rw [ew]; exact e0
  exact ⟨⟨by decide, by decide, by decide⟩, ⟨by rw [e1]; exact R6_T _, R6_T _⟩, fun _ => kk, fun z => absurd e1 z⟩
set_option maxHeartbeats 4000000 in
set_option maxRecDepth 100000 in
theorem sL_law_161 {X : Xt} {n : Nat} {h : HP} {a1 : Nat} {a2 : Nat} {a3 : Nat} {x4 : Int} {bb : Nat} {sb9 : Nat} (hc : Cx X cL_law RL 9 13 302) {L9 : Nat} {xs : Nat → Int32} (hX : ScX X L9 xs) (hL : CxL X) 
    (P : spec_L_load [.ref a1, .ref a3] n h (kn X bb sb9 163 [(0, .ref (SA + 1)), (1, .ref a1), (2, .ref a2), (3, .ref a3), (4, .int (i3 x4))] [] n)) :
    Ok X (bb + 1) (sb9 + 6) 161 [(0, .ref (SA + 1)), (1, .ref a1), (2, .ref a2), (3, .ref a3), (4, .int (i3 x4))] [] n h := by
  refine ok_aload_n (pc := 161) hc dL_law_161 rfl 1 rfl ?_
  refine ok_aload_n (pc := 162) hc dL_law_162 rfl 3 rfl ?_
  exact ok_callSW (pc := 163) (cb := bb) (sb := sb9) (st := []) hc [.ref a1, .ref a3] cw_L_86 sp_L_load (by decide) dL_law_163 rfl rfl rfl rfl (Nat.le_of_ble_eq_true rfl) P
set_option maxHeartbeats 4000000 in
set_option maxRecDepth 100000 in
theorem sL_law_166 {X : Xt} {n : Nat} {h : HP} {a1 : Nat} {a2 : Nat} {a3 : Nat} {x4 : Int} {t0 : Int} {bb : Nat} {sb9 : Nat} {fs1 : List Value} (hc : Cx X cL_law RL 9 13 302) {L9 : Nat} {xs : Nat → Int32} (hX : ScX X L9 xs) (hL : CxL X) (e1 : At h n a2 (.inl (7, fs1))) (z1 : fs1.length = 24)
    (P : spec_X7_load [.ref a2] n h (kc X bb sb9 169 [(0, .ref (SA + 1)), (1, .ref a1), (2, .ref a2), (3, .ref a3), (4, .int (i3 x4)), (5, .int (i3 t0))] [] n)) :
    Ok X bb sb9 166 [(0, .ref (SA + 1)), (1, .ref a1), (2, .ref a2), (3, .ref a3), (4, .int (i3 x4))] [.int (i3 t0)] n h := by
  refine ok_istore (pc := 166) hc (lv' := [(5, .int (i3 t0)), (0, .ref (SA + 1)), (1, .ref a1), (2, .ref a2), (3, .ref a3), (4, .int (i3 x4))]) dL_law_166 (by decide) rfl ?_
  refine ok_aload_n (pc := 168) hc dL_law_168 rfl 3 rfl ?_
  refine ok_lv [1, 2, 3, 4, 5, 0] rfl ?_
  exact ok_callV (pc := 169) (a := a2) (cb := bb) (sb := sb9) (st := []) hc [] cv_L_91 sp_X7_load (by decide) dL_law_169 rfl e1.1 e1.2 rfl rfl rfl (Nat.le_of_ble_eq_true rfl) P
set_option maxHeartbeats 4000000 in
set_option maxRecDepth 100000 in
theorem sL_law_172 {X : Xt} {n : Nat} {h : HP} {a1 : Nat} {a2 : Nat} {a3 : Nat} {x4 : Int} {x5 : Int} {t0 : Int} {bb : Nat} {sb9 : Nat} {fs1 : List Value} (hc : Cx X cL_law RL 9 13 302) {L9 : Nat} {xs : Nat → Int32} (hX : ScX X L9 xs) (hL : CxL X) (e1 : At h n a2 (.inl (7, fs1))) (z1 : fs1.length = 24)
    (P : spec_X7_thrown [.ref a2] n h (kc X bb sb9 175 [(0, .ref (SA + 1)), (1, .ref a1), (2, .ref a2), (3, .ref a3), (4, .int (i3 x4)), (5, .int (i3 x5)), (6, .int (i3 t0))] [] n)) :
    Ok X bb sb9 172 [(0, .ref (SA + 1)), (1, .ref a1), (2, .ref a2), (3, .ref a3), (4, .int (i3 x4)), (5, .int (i3 x5))] [.int (i3 t0)] n h := by
  refine ok_istore (pc := 172) hc (lv' := [(6, .int (i3 t0)), (0, .ref (SA + 1)), (1, .ref a1), (2, .ref a2), (3, .ref a3), (4, .int (i3 x4)), (5, .int (i3 x5))]) dL_law_172 (by decide) rfl ?_
  refine ok_aload_n (pc := 174) hc dL_law_174 rfl 3 rfl ?_
  refine ok_lv [1, 2, 3, 4, 5, 6, 0] rfl ?_
  exact ok_callV (pc := 175) (a := a2) (cb := bb) (sb := sb9) (st := []) hc [] cv_L_92 sp_X7_thrown (by decide) dL_law_175 rfl e1.1 e1.2 rfl rfl rfl (Nat.le_of_ble_eq_true rfl) P
set_option maxHeartbeats 4000000 in
set_option maxRecDepth 100000 in
theorem sL_law_178 {X : Xt} {n : Nat} {h : HP} {a1 : Nat} {a2 : Nat} {a3 : Nat} {x4 : Int} {x5 : Int} {x6 : Int} {t0 : Int} {bb : Nat} {sb9 : Nat} {len4 : Nat} {f4 : Nat → Int} (hc : Cx X cL_law RL 9 13 302) {L9 : Nat} {xs : Nat → Int32} (hX : ScX X L9 xs) (hL : CxL X) (e4 : At h n a3 (al len4 f4))
    (P : (R3 t0) ∧ (R3 x5) ∧ (t0 = x5 → (R3 x5) ∧ (¬ x5 = 0 → Ok X bb sb9 1415 [(0, .ref (SA + 1)), (1, .ref a1), (2, .ref a2), (3, .ref a3), (4, .int (i3 x4))] [] n h) ∧ (x5 = 0 → (Ix 0 len4) ∧ (R3 x6) ∧ (R6 (f4 (0 : Int).toNat) ∧ R6 x6) ∧ ((f4 (0 : Int).toNat) = x6 → Ok X bb sb9 1415 [(0, .ref (SA + 1)), (1, .ref a1), (2, .ref a2), (3, .ref a3), (4, .int (i3 x4))] [] n h) ∧ (¬ (f4 (0 : Int).toNat) = x6 → 0 = (1 : Int)))) ∧ (¬ t0 = x5 → 0 = (1 : Int))) :
    Ok X bb sb9 178 [(0, .ref (SA + 1)), (1, .ref a1), (2, .ref a2), (3, .ref a3), (4, .int (i3 x4)), (5, .int (i3 x5)), (6, .int (i3 x6))] [.int (i3 t0)] n h := by
  refine ok_iload (pc := 178) hc dL_law_178 5 rfl ?_
  obtain ⟨r1, P⟩ := P
  obtain ⟨r2, P⟩ := P
  refine zk_icmp_eq (pc := 180) (tgt := 185) hc dL_law_180 (by decide) r1 r2 (fun c => ?_) (fun c => ?_)
  · have P := P.1 c
    refine ok_iload (pc := 185) hc dL_law_185 5 rfl ?_
    obtain ⟨r3, P⟩ := P
    refine zk_if_ne (pc := 187) (tgt := 202) hc dL_law_187 (by decide) r3 (fun c => ?_) (fun c => ?_)
    · have P := P.1 c
      refine ok_goto (pc := 202) (tgt := 1415) hc dL_law_202 (by decide) ?_
      refine ok_lv [0, 1, 2, 3, 4] rfl ?_
      exact P
    · have P := P.2 c
      refine ok_aload_n (pc := 190) hc dL_law_190 rfl 3 rfl ?_
      refine ok_iconst (pc := 191) hc (v := i3 0) dL_law_191 (by decide) ?_
      obtain ⟨r, P⟩ := P
      refine zk_lald (pc := 192) hc dL_law_192 e4.1 e4.2 r ?_
      refine ok_iload (pc := 193) hc dL_law_193 6 rfl ?_
      obtain ⟨r5, P⟩ := P
      refine zk_i2l (pc := 195) hc dL_law_195 r5 ?_
      obtain ⟨r, P⟩ := P
      refine zk_lcmp (pc := 196) hc dL_law_196 r ?_
      refine zk_if_eq (pc := 197) (tgt := 202) hc dL_law_197 (by decide) R3_cmp (fun c => ?_) (fun c => ?_)
      · have P := P.1 (cmp_eq.mp c)
        refine ok_goto (pc := 202) (tgt := 1415) hc dL_law_202 (by decide) ?_
        refine ok_lv [0, 1, 2, 3, 4] rfl ?_
        exact P
      · have P := P.2 (fun z => c (cmp_eq.mpr z))
        refine ok_iconst (pc := 200) hc (v := i3 0) dL_law_200 (by decide) ?_
        exact ok_retL hc hL dL_law_201 P
  · have P := P.2 c
    refine ok_iconst (pc := 183) hc (v := i3 0) dL_law_183 (by decide) ?_
    exact ok_retL hc hL dL_law_184 P
theorem lw_load {X : Xt} {L9 : Nat} {xs : Nat → Int32} (hc : Cx X cL_law RL 9 13 302) (hX : ScX X L9 xs) (hL : CxL X) (hL9 : L9 ≤ 2048) {i : Nat} (hi : i + 4 ≤ L9) {h : HP} {q : Dsk} (I : LwI h q) {bb sb9 : Nat} (k : ∀ (h' : HP) (q' : Dsk), LwI h' q' → Ok X bb sb9 1415 [(0, .ref (SA + 1)), (1, .ref 0), (2, .ref 128), (3, .ref 139), (4, .int (i3 i))] [] 140 h') : Ok X (bb + 1) (sb9 + 6) 161 [(0, .ref (SA + 1)), (1, .ref 0), (2, .ref 128), (3, .ref 139), (4, .int (i3 i))] [] 140 h := by
  obtain ⟨hD, ⟨t, hM⟩, g, hg⟩ := I
  refine sL_law_161 (bb := bb) (sb9 := sb9) hc hX hL ?_
  refine ⟨q, 139, g, rfl, hD, hg, by omega, fun h1 g1 hD1 hg1 ez hfr => ⟨rfl, ?_⟩⟩
  have hM1 : MdA h1 140 q t := hM.pt (fun x hx => hfr x (by omega) (by omega))
  obtain ⟨I1, F1, m1, -⟩ := id hM1
  refine sL_law_166 hc hX hL m1.o rfl ?_
  refine ⟨q, t, rfl, hM1, fun h2 hM2 f2 => ⟨rfl, ?_⟩⟩
  obtain ⟨I2, F2, m2, -⟩ := id hM2
  show Ok X bb sb9 172 [(0, .ref (SA + 1)), (1, .ref 0), (2, .ref 128), (3, .ref 139), (4, .int (i3 i)), (5, .int (i3 (cdL [eIA, eIS] ((opLoad q).2))))] [.int (i3 (rvI ((opLoad q).2)))] 140 h2
  rw [← i3_T (i3 (rvI ((opLoad q).2)))]
  refine sL_law_172 hc hX hL m2.o rfl ⟨_, _, rfl, hM2, ⟨rfl, ?_⟩⟩
  have kk := k h2 _ ⟨hD1.out f2 (by omega), ⟨_, hM2⟩, g1, hg1.fr f2 (by omega)⟩
  have rc : R3 (cdL [eIA, eIS] ((opLoad q).2)) := R3_s (cdL_r _ _)
  refine sL_law_178 hc hX hL (hg1.fr f2 (by omega)) ⟨rc, rc, fun _ => ⟨rc, fun _ => kk, fun z => ?_⟩, fun z => absurd rfl z⟩
  obtain ⟨w, ew⟩ := cdL_0 z
  have e0 := ez w ew
  have e1 : g1 (0 : Int).toNat = (i3 (rvI ((opLoad q).2))).toInt := by rw [ew]; exact e0
  exact ⟨⟨by decide, by decide, by decide⟩, R3_T _, ⟨by rw [e1]; exact R36 (R3_T _), R36 (R3_T _)⟩, fun _ => kk, fun z => absurd e1 z⟩
