/-! part 99i: the law: its script, its state, its cases that may throw -/
def ScX (X : Xt) (L9 : Nat) (xs : Nat → Int32) : Prop := match X with
  | (_, _, _, _, s, _, _, _, _, _, _, bs, A0, _, _) => va_X (A0 (SA + 1)) L9 xs s s.heap ∧ A0 (SA + 1) < s.heap.size ∧ ¬ bs ≤ A0 (SA + 1)
/-- the law may end with 1 -/
def CxL (X : Xt) : Prop := ∀ (cb sb pc n : Nat) (lv : List (Nat × Value)) (h : HP), decode cL_law pc = .ok (.ireturn, 1) → Ok X cb sb pc lv [.int (i3 1)] n h
theorem ok_retL {X : Xt} {nL f L cb sb pc n : Nat} {lv : List (Nat × Value)} {h : HP} {v : Int} (_ : Cx X cL_law RL nL f L) (hL : CxL X) (hd : decode cL_law pc = .ok (.ireturn, 1)) (P : v = 1) : Ok X cb sb pc lv [.int (i3 v)] n h := by
  rw [P]
  exact hL _ _ _ _ _ _ hd
theorem ok_sld {X : Xt} {cc : ByteArray} {own : String} {nL f L cb sb pc n : Nat} {lv : List (Nat × Value)} {st : List Value} {h : HP} (hc : Cx X cc own nL f L) {L9 : Nat} {xs : Nat → Int32} (hX : ScX X L9 xs) (hd : decode cc pc = .ok (.iaload, 1)) {i : Int} (r : Ix i L9) (k : Ok X cb sb (pc + 1) lv (.int (i3 (xs i.toNat).toInt) :: st) n h) : Ok X cb sb pc lv (.int (i3 i) :: .ref (SA + 1) :: st) n h := by
  rw [i3_T] at k
  obtain ⟨p, l, e, R, s, m, args, below, meth, c, D, bs, A0, n0, Q⟩ := X
  obtain ⟨hx, hb, hown, hts, hml, hRf, hRl, hF, htr, hlk, hbs⟩ := hc
  intro A cy H locs ls cells slots h1 h2 h3 h4 hw hS hl h5 h6
  have eA : A (SA + 1) = A0 (SA + 1) := h1 _ (Or.inr (by omega))
  show W p l e R s m args below meth c H locs cells slots Q (F0 m pc ls (.int (i3 i) :: .ref (A (SA + 1)) :: st.map (trV A)))
  rw [eA]
  refine va_sld (A := fun q => bs ≤ q) (H0 := s.heap) hx hb hX.1 hX.2.1 hX.2.2 hS r.v hd ?_
  rw [i3_nat r.r]
  exact k A cy H locs ls cells slots h1 h2 h3 h4 hw hS hl h5 h6
theorem ok_slen {X : Xt} {cc : ByteArray} {own : String} {nL f L cb sb pc n : Nat} {lv : List (Nat × Value)} {st : List Value} {h : HP} (hc : Cx X cc own nL f L) {L9 : Nat} {xs : Nat → Int32} (hX : ScX X L9 xs) (hd : decode cc pc = .ok (.arraylength, 1)) (k : Ok X cb sb (pc + 1) lv (.int (i3 (L9 : Int)) :: st) n h) : Ok X cb sb pc lv (.ref (SA + 1) :: st) n h := by
  rw [i3_nI] at k
  obtain ⟨p, l, e, R, s, m, args, below, meth, c, D, bs, A0, n0, Q⟩ := X
  obtain ⟨hx, hb, hown, hts, hml, hRf, hRl, hF, htr, hlk, hbs⟩ := hc
  intro A cy H locs ls cells slots h1 h2 h3 h4 hw hS hl h5 h6
  have eA : A (SA + 1) = A0 (SA + 1) := h1 _ (Or.inr (by omega))
  show W p l e R s m args below meth c H locs cells slots Q (F0 m pc ls (.ref (A (SA + 1)) :: st.map (trV A)))
  rw [eA]
  exact va_slen (A := fun q => bs ≤ q) (H0 := s.heap) hx hb hX.1 hX.2.1 hX.2.2 hS hd (k A cy H locs ls cells slots h1 h2 h3 h4 hw hS hl h5 h6)
/-- the world at the head of the law's loop -/
def LwI (h : HP) (q : Dsk) : Prop := DkA h 140 q ∧ (∃ t, MdA h 140 q t) ∧ ∃ f, At h 140 139 (al 1 f)
theorem MdA.pt {h h' : HP} {n : Nat} {q : Dsk} {t : Int} (p : MdA h n q t) (e : ∀ x, 128 ≤ x ∧ x ≤ 138 → h' x = h x) : MdA h' n q t := by
  obtain ⟨I, F, m, r⟩ := p
  exact ⟨I, F, ⟨⟨m.1.1, (e 128 (by omega)).trans m.1.2⟩, fun j hj => ⟨(m.2 j hj).1, (e (128 + j) (by omega)).trans (m.2 j hj).2⟩⟩, r⟩
theorem cdL_r (l : List String) (r : Int ⊕ String) : -1000000 ≤ cdL l r ∧ cdL l r ≤ 1000000 := by
  cases r with
  | inl z => exact ⟨(by decide : (-1000000 : Int) ≤ 0), (by decide : (0 : Int) ≤ 1000000)⟩
  | inr E =>
    unfold cdL
    simp only
    split
    · decide
    · split
      · decide
      · split <;> decide
theorem cdL_0 {l : List String} {r : Int ⊕ String} (h : cdL l r = 0) : ∃ z, r = .inl z := by
  cases r with
  | inl z => exact ⟨z, rfl⟩
  | inr E =>
    unfold cdL at h
    simp only at h
    split at h
    · exact absurd h (by decide)
    · split at h
      · exact absurd h (by decide)
      · split at h <;> exact absurd h (by decide)
theorem R36 {x : Int} (h : R3 x) : R6 x := by
  unfold R3 at h
  unfold R6
  omega
theorem R6_T (x : Int64) : R6 x.toInt := ⟨by have := x.minValue_le_toInt; simpa using this, by have := x.toInt_lt; omega⟩
set_option maxHeartbeats 4000000 in
set_option maxRecDepth 100000 in
theorem sL_law_161 {X : Xt} {n : Nat} {h : HP} {a1 : Nat} {a2 : Nat} {a3 : Nat} {x4 : Int} {bb : Nat} {sb9 : Nat} (hc : Cx X cL_law RL 9 13 302) {L9 : Nat} {xs : Nat → Int32} (hX : ScX X L9 xs) (hL : CxL X) 
    (P : spec_L_load [.ref a1, .ref a3] n h (kn X bb sb9 163 [(0, .ref (SA + 1)), (1, .ref a1), (2, .ref a2), (3, .ref a3), (4, .int (i3 x4))] [] n)) :
    Ok X (bb + 1) (sb9 + 6) 161 [(0, .ref (SA + 1)), (1, .ref a1), (2, .ref a2), (3, .ref a3), (4, .int (i3 x4))] [] n h := by
  refine ok_aload_n (pc := 161) hc dL_law_161 rfl 1 rfl ?_
  refine ok_aload_n (pc := 162) hc dL_law_162 rfl 3 rfl ?_
  exact ok_callSW (pc := 163) (cb := bb) (sb := sb9) (st := []) hc [.ref a1, .ref a3] cw_L_86 sp_L_load (by decide) dL_law_163 rfl rfl rfl rfl (Nat.le_of_ble_eq_true rfl) P
set_option maxHeartbeats 4000000 in
set_option maxRecDepth 100000 in
theorem sL_law_166 {X : Xt} {n : Nat} {h : HP} {a1 : Nat} {a2 : Nat} {a3 : Nat} {x4 : Int} {t0 : Int} {bb : Nat} {sb9 : Nat} {fs1 : List Value} (hc : Cx X cL_law RL 9 13 302) {L9 : Nat} {xs : Nat → Int32} (hX : ScX X L9 xs) (hL : CxL X) (e1 : At h n a2 (.inl (7, fs1))) (z1 : fs1.length = 24)
    (P : spec_X7_load [.ref a2] n h (kc X bb sb9 169 [(0, .ref (SA + 1)), (1, .ref a1), (2, .ref a2), (3, .ref a3), (4, .int (i3 x4)), (5, .int (i3 t0))] [] n)) :
    Ok X bb sb9 166 [(0, .ref (SA + 1)), (1, .ref a1), (2, .ref a2), (3, .ref a3), (4, .int (i3 x4))] [.int (i3 t0)] n h := by
  refine ok_istore (pc := 166) hc (lv' := [(5, .int (i3 t0)), (0, .ref (SA + 1)), (1, .ref a1), (2, .ref a2), (3, .ref a3), (4, .int (i3 x4))]) dL_law_166 (by decide) rfl ?_
  refine ok_aload_n (pc := 168) hc dL_law_168 rfl 3 rfl ?_
  refine ok_lv [1, 2, 3, 4, 5, 0] rfl ?_
  exact ok_callV (pc := 169) (a := a2) (cb := bb) (sb := sb9) (st := []) hc [] cv_L_91 sp_X7_load (by decide) dL_law_169 rfl e1.1 e1.2 rfl rfl rfl (Nat.le_of_ble_eq_true rfl) P
set_option maxHeartbeats 4000000 in
set_option maxRecDepth 100000 in
theorem sL_law_172 {X : Xt} {n : Nat} {h : HP} {a1 : Nat} {a2 : Nat} {a3 : Nat} {x4 : Int} {x5 : Int} {t0 : Int} {bb : Nat} {sb9 : Nat} {fs1 : List Value} (hc : Cx X cL_law RL 9 13 302) {L9 : Nat} {xs : Nat → Int32} (hX : ScX X L9 xs) (hL : CxL X) (e1 : At h n a2 (.inl (7, fs1))) (z1 : fs1.length = 24)
    (P : spec_X7_thrown [.ref a2] n h (kc X bb sb9 175 [(0, .ref (SA + 1)), (1, .ref a1), (2, .ref a2), (3, .ref a3), (4, .int (i3 x4)), (5, .int (i3 x5)), (6, .int (i3 t0))] [] n)) :
    Ok X bb sb9 172 [(0, .ref (SA + 1)), (1, .ref a1), (2, .ref a2), (3, .ref a3), (4, .int (i3 x4)), (5, .int (i3 x5))] [.int (i3 t0)] n h := by
  refine ok_istore (pc := 172) hc (lv' := [(6, .int (i3 t0)), (0, .ref (SA + 1)), (1, .ref a1), (2, .ref a2), (3, .ref a3), (4, .int (i3 x4)), (5, .int (i3 x5))]) dL_law_172 (by decide) rfl ?_
  refine ok_aload_n (pc := 174) hc dL_law_174 rfl 3 rfl ?_
  refine ok_lv [1, 2, 3, 4, 5, 6, 0] rfl ?_
  exact ok_callV (pc := 175) (a := a2) (cb := bb) (sb := sb9) (st := []) hc [] cv_L_92 sp_X7_thrown (by decide) dL_law_175 rfl e1.1 e1.2 rfl rfl rfl (Nat.le_of_ble_eq_true rfl) P
set_option maxHeartbeats 4000000 in
set_option maxRecDepth 100000 in
theorem sL_law_178 {X : Xt} {n : Nat} {h : HP} {a1 : Nat} {a2 : Nat} {a3 : Nat} {x4 : Int} {x5 : Int} {x6 : Int} {t0 : Int} {bb : Nat} {sb9 : Nat} {len4 : Nat} {f4 : Nat → Int} (hc : Cx X cL_law RL 9 13 302) {L9 : Nat} {xs : Nat → Int32} (hX : ScX X L9 xs) (hL : CxL X) (e4 : At h n a3 (al len4 f4))
    (P : (R3 t0) ∧ (R3 x5) ∧ (t0 = x5 → (R3 x5) ∧ (¬ x5 = 0 → Ok X bb sb9 1415 [(0, .ref (SA + 1)), (1, .ref a1), (2, .ref a2), (3, .ref a3), (4, .int (i3 x4))] [] n h) ∧ (x5 = 0 → (Ix 0 len4) ∧ (R3 x6) ∧ (R6 (f4 (0 : Int).toNat) ∧ R6 x6) ∧ ((f4 (0 : Int).toNat) = x6 → Ok X bb sb9 1415 [(0, .ref (SA + 1)), (1, .ref a1), (2, .ref a2), (3, .ref a3), (4, .int (i3 x4))] [] n h) ∧ (¬ (f4 (0 : Int).toNat) = x6 → 0 = (1 : Int)))) ∧ (¬ t0 = x5 → 0 = (1 : Int))) :
    Ok X bb sb9 178 [(0, .ref (SA + 1)), (1, .ref a1), (2, .ref a2), (3, .ref a3), (4, .int (i3 x4)), (5, .int (i3 x5)), (6, .int (i3 x6))] [.int (i3 t0)] n h := by
  refine ok_iload (pc := 178) hc dL_law_178 5 rfl ?_
  obtain ⟨r1, P⟩ := P
  obtain ⟨r2, P⟩ := P
  refine zk_icmp_eq (pc := 180) (tgt := 185) hc dL_law_180 (by decide) r1 r2 (fun c => ?_) (fun c => ?_)
  · have P := P.1 c
    refine ok_iload (pc := 185) hc dL_law_185 5 rfl ?_
    obtain ⟨r3, P⟩ := P
    refine zk_if_ne (pc := 187) (tgt := 202) hc dL_law_187 (by decide) r3 (fun c => ?_) (fun c => ?_)
    · have P := P.1 c
      refine ok_goto (pc := 202) (tgt := 1415) hc dL_law_202 (by decide) ?_
      refine ok_lv [0, 1, 2, 3, 4] rfl ?_
      exact P
    · have P := P.2 c
      refine ok_aload_n (pc := 190) hc dL_law_190 rfl 3 rfl ?_
      refine ok_iconst (pc := 191) hc (v := i3 0) dL_law_191 (by decide) ?_
      obtain ⟨r, P⟩ := P
      refine zk_lald (pc := 192) hc dL_law_192 e4.1 e4.2 r ?_
      refine ok_iload (pc := 193) hc dL_law_193 6 rfl ?_
      obtain ⟨r5, P⟩ := P
      refine zk_i2l (pc := 195) hc dL_law_195 r5 ?_
      obtain ⟨r, P⟩ := P
      refine zk_lcmp (pc := 196) hc dL_law_196 r ?_
      refine zk_if_eq (pc := 197) (tgt := 202) hc dL_law_197 (by decide) R3_cmp (fun c => ?_) (fun c => ?_)
      · have P := P.1 (cmp_eq.mp c)
        refine ok_goto (pc := 202) (tgt := 1415) hc dL_law_202 (by decide) ?_
        refine ok_lv [0, 1, 2, 3, 4] rfl ?_
        exact P
      · have P := P.2 (fun z => c (cmp_eq.mpr z))
        refine ok_iconst (pc := 200) hc (v := i3 0) dL_law_200 (by decide) ?_
        exact ok_retL hc hL dL_law_201 P
  · have P := P.2 c
    refine ok_iconst (pc := 183) hc (v := i3 0) dL_law_183 (by decide) ?_
    exact ok_retL hc hL dL_law_184 P
theorem lw_load {X : Xt} {L9 : Nat} {xs : Nat → Int32} (hc : Cx X cL_law RL 9 13 302) (hX : ScX X L9 xs) (hL : CxL X) (hL9 : L9 ≤ 2048) {i : Nat} (hi : i + 4 ≤ L9) {h : HP} {q : Dsk} (I : LwI h q) {bb sb9 : Nat} (k : ∀ (h' : HP) (q' : Dsk), LwI h' q' → Ok X bb sb9 1415 [(0, .ref (SA + 1)), (1, .ref 0), (2, .ref 128), (3, .ref 139), (4, .int (i3 i))] [] 140 h') : Ok X (bb + 1) (sb9 + 6) 161 [(0, .ref (SA + 1)), (1, .ref 0), (2, .ref 128), (3, .ref 139), (4, .int (i3 i))] [] 140 h := by
  obtain ⟨hD, ⟨t, hM⟩, g, hg⟩ := I
  refine sL_law_161 (bb := bb) (sb9 := sb9) hc hX hL ?_
  refine ⟨q, 139, g, rfl, hD, hg, by omega, fun h1 g1 hD1 hg1 ez hfr => ⟨rfl, ?_⟩⟩
  have hM1 : MdA h1 140 q t := hM.pt (fun x hx => hfr x (by omega) (by omega))
  obtain ⟨I1, F1, m1, -⟩ := id hM1
  refine sL_law_166 hc hX hL m1.o rfl ?_
  refine ⟨q, t, rfl, hM1, fun h2 hM2 f2 => ⟨rfl, ?_⟩⟩
  obtain ⟨I2, F2, m2, -⟩ := id hM2
  show Ok X bb sb9 172 [(0, .ref (SA + 1)), (1, .ref 0), (2, .ref 128), (3, .ref 139), (4, .int (i3 i)), (5, .int (i3 (cdL [eIA, eIS] ((opLoad q).2))))] [.int (i3 (rvI ((opLoad q).2)))] 140 h2
  rw [← i3_T (i3 (rvI ((opLoad q).2)))]
  refine sL_law_172 hc hX hL m2.o rfl ⟨_, _, rfl, hM2, ⟨rfl, ?_⟩⟩
  have kk := k h2 _ ⟨hD1.out f2 (by omega), ⟨_, hM2⟩, g1, hg1.fr f2 (by omega)⟩
  have rc : R3 (cdL [eIA, eIS] ((opLoad q).2)) := R3_s (cdL_r _ _)
  refine sL_law_178 hc hX hL (hg1.fr f2 (by omega)) ⟨rc, rc, fun _ => ⟨rc, fun _ => kk, fun z => ?_⟩, fun z => absurd rfl z⟩
  obtain ⟨w, ew⟩ := cdL_0 z
  have e0 := ez w ew
  have e1 : g1 (0 : Int).toNat = (i3 (rvI ((opLoad q).2))).toInt := by rw [ew]; exact e0
  exact ⟨⟨by decide, by decide, by decide⟩, R3_T _, ⟨by rw [e1]; exact R36 (R3_T _), R36 (R3_T _)⟩, fun _ => kk, fun z => absurd e1 z⟩
set_option maxHeartbeats 4000000 in
set_option maxRecDepth 100000 in
theorem sL_law_205 {X : Xt} {n : Nat} {h : HP} {a1 : Nat} {a2 : Nat} {a3 : Nat} {x4 : Int} {bb : Nat} {sb9 : Nat} (hc : Cx X cL_law RL 9 13 302) {L9 : Nat} {xs : Nat → Int32} (hX : ScX X L9 xs) (hL : CxL X) 
    (P : (Ix (x4 + 1) L9) ∧ (Ix (x4 + 2) L9) ∧ spec_L_setValue [.ref a1, .int (i3 ((xs ((x4 + 1) : Int).toNat).toInt)), .int (i3 ((xs ((x4 + 2) : Int).toNat).toInt)), .ref a3] n h (kn X bb sb9 219 [(0, .ref (SA + 1)), (1, .ref a1), (2, .ref a2), (3, .ref a3), (4, .int (i3 x4))] [] n)) :
    Ok X (bb + 2) (sb9 + 12) 205 [(0, .ref (SA + 1)), (1, .ref a1), (2, .ref a2), (3, .ref a3), (4, .int (i3 x4))] [] n h := by
  refine ok_aload_n (pc := 205) hc dL_law_205 rfl 1 rfl ?_
  refine ok_aload_n (pc := 206) hc dL_law_206 rfl 0 rfl ?_
  refine ok_iload (pc := 207) hc dL_law_207 4 rfl ?_
  refine ok_iconst (pc := 209) hc (v := i3 1) dL_law_209 (by decide) ?_
  refine zk_iadd (pc := 210) hc dL_law_210 ?_
  obtain ⟨r, P⟩ := P
  refine ok_sld (pc := 211) hc hX dL_law_211 r ?_
  refine ok_aload_n (pc := 212) hc dL_law_212 rfl 0 rfl ?_
  refine ok_iload (pc := 213) hc dL_law_213 4 rfl ?_
  refine ok_iconst (pc := 215) hc (v := i3 2) dL_law_215 (by decide) ?_
  refine zk_iadd (pc := 216) hc dL_law_216 ?_
  obtain ⟨r, P⟩ := P
  refine ok_sld (pc := 217) hc hX dL_law_217 r ?_
  refine ok_aload_n (pc := 218) hc dL_law_218 rfl 3 rfl ?_
  exact ok_callSW (pc := 219) (cb := bb) (sb := sb9) (st := []) hc [.ref a1, .int (i3 ((xs ((x4 + 1) : Int).toNat).toInt)), .int (i3 ((xs ((x4 + 2) : Int).toNat).toInt)), .ref a3] cw_L_95 sp_L_setValue (by decide) dL_law_219 rfl rfl rfl rfl (Nat.le_of_ble_eq_true rfl) P
set_option maxHeartbeats 4000000 in
set_option maxRecDepth 100000 in
theorem sL_law_222 {X : Xt} {n : Nat} {h : HP} {a1 : Nat} {a2 : Nat} {a3 : Nat} {x4 : Int} {t0 : Int} {bb : Nat} {sb9 : Nat} {fs1 : List Value} (hc : Cx X cL_law RL 9 13 302) {L9 : Nat} {xs : Nat → Int32} (hX : ScX X L9 xs) (hL : CxL X) (e1 : At h n a2 (.inl (7, fs1))) (z1 : fs1.length = 24)
    (P : (Ix (x4 + 1) L9) ∧ (Ix (x4 + 2) L9) ∧ spec_X7_setValue [.ref a2, .int (i3 ((xs ((x4 + 1) : Int).toNat).toInt)), .int (i3 ((xs ((x4 + 2) : Int).toNat).toInt))] n h (kc X bb sb9 237 [(0, .ref (SA + 1)), (1, .ref a1), (2, .ref a2), (3, .ref a3), (4, .int (i3 x4)), (5, .int (i3 t0))] [] n)) :
    Ok X bb sb9 222 [(0, .ref (SA + 1)), (1, .ref a1), (2, .ref a2), (3, .ref a3), (4, .int (i3 x4))] [.int (i3 t0)] n h := by
  refine ok_istore (pc := 222) hc (lv' := [(5, .int (i3 t0)), (0, .ref (SA + 1)), (1, .ref a1), (2, .ref a2), (3, .ref a3), (4, .int (i3 x4))]) dL_law_222 (by decide) rfl ?_
  refine ok_aload_n (pc := 224) hc dL_law_224 rfl 3 rfl ?_
  refine ok_aload_n (pc := 225) hc dL_law_225 rfl 1 rfl ?_
  refine ok_iload (pc := 226) hc dL_law_226 5 rfl ?_
  refine ok_iconst (pc := 228) hc (v := i3 1) dL_law_228 (by decide) ?_
  refine zk_iadd (pc := 229) hc dL_law_229 ?_
  obtain ⟨r, P⟩ := P
  refine ok_sld (pc := 230) hc hX dL_law_230 r ?_
  refine ok_aload_n (pc := 231) hc dL_law_231 rfl 1 rfl ?_
  refine ok_iload (pc := 232) hc dL_law_232 5 rfl ?_
  refine ok_iconst (pc := 234) hc (v := i3 2) dL_law_234 (by decide) ?_
  refine zk_iadd (pc := 235) hc dL_law_235 ?_
  obtain ⟨r, P⟩ := P
  refine ok_sld (pc := 236) hc hX dL_law_236 r ?_
  refine ok_lv [1, 2, 3, 4, 5, 0] rfl ?_
  exact ok_callV (pc := 237) (a := a2) (cb := bb) (sb := sb9) (st := []) hc [.int (i3 ((xs ((x4 + 1) : Int).toNat).toInt)), .int (i3 ((xs ((x4 + 2) : Int).toNat).toInt))] cv_L_98 sp_X7_setValue (by decide) dL_law_237 rfl e1.1 e1.2 rfl rfl rfl (Nat.le_of_ble_eq_true rfl) P
set_option maxHeartbeats 4000000 in
set_option maxRecDepth 100000 in
theorem sL_law_240 {X : Xt} {n : Nat} {h : HP} {a1 : Nat} {a2 : Nat} {a3 : Nat} {x4 : Int} {x5 : Int} {t0 : Int} {bb : Nat} {sb9 : Nat} {fs1 : List Value} (hc : Cx X cL_law RL 9 13 302) {L9 : Nat} {xs : Nat → Int32} (hX : ScX X L9 xs) (hL : CxL X) (e1 : At h n a2 (.inl (7, fs1))) (z1 : fs1.length = 24)
    (P : spec_X7_thrown [.ref a2] n h (kc X bb sb9 243 [(0, .ref (SA + 1)), (1, .ref a1), (2, .ref a2), (3, .ref a3), (4, .int (i3 x4)), (5, .int (i3 x5)), (6, .int (i3 t0))] [] n)) :
    Ok X bb sb9 240 [(0, .ref (SA + 1)), (1, .ref a1), (2, .ref a2), (3, .ref a3), (4, .int (i3 x4)), (5, .int (i3 x5))] [.int (i3 t0)] n h := by
  refine ok_istore (pc := 240) hc (lv' := [(6, .int (i3 t0)), (0, .ref (SA + 1)), (1, .ref a1), (2, .ref a2), (3, .ref a3), (4, .int (i3 x4)), (5, .int (i3 x5))]) dL_law_240 (by decide) rfl ?_
  refine ok_aload_n (pc := 242) hc dL_law_242 rfl 3 rfl ?_
  refine ok_lv [1, 2, 3, 4, 5, 6, 0] rfl ?_
  exact ok_callV (pc := 243) (a := a2) (cb := bb) (sb := sb9) (st := []) hc [] cv_L_92 sp_X7_thrown (by decide) dL_law_243 rfl e1.1 e1.2 rfl rfl rfl (Nat.le_of_ble_eq_true rfl) P
set_option maxHeartbeats 4000000 in
set_option maxRecDepth 100000 in
theorem sL_law_246 {X : Xt} {n : Nat} {h : HP} {a1 : Nat} {a2 : Nat} {a3 : Nat} {x4 : Int} {x5 : Int} {x6 : Int} {t0 : Int} {bb : Nat} {sb9 : Nat} {len4 : Nat} {f4 : Nat → Int} (hc : Cx X cL_law RL 9 13 302) {L9 : Nat} {xs : Nat → Int32} (hX : ScX X L9 xs) (hL : CxL X) (e4 : At h n a3 (al len4 f4))
    (P : (R3 t0) ∧ (R3 x5) ∧ (t0 = x5 → (R3 x5) ∧ (¬ x5 = 0 → Ok X bb sb9 1415 [(0, .ref (SA + 1)), (1, .ref a1), (2, .ref a2), (3, .ref a3), (4, .int (i3 x4))] [] n h) ∧ (x5 = 0 → (Ix 0 len4) ∧ (R3 x6) ∧ (R6 (f4 (0 : Int).toNat) ∧ R6 x6) ∧ ((f4 (0 : Int).toNat) = x6 → Ok X bb sb9 1415 [(0, .ref (SA + 1)), (1, .ref a1), (2, .ref a2), (3, .ref a3), (4, .int (i3 x4))] [] n h) ∧ (¬ (f4 (0 : Int).toNat) = x6 → 0 = (1 : Int)))) ∧ (¬ t0 = x5 → 0 = (1 : Int))) :
    Ok X bb sb9 246 [(0, .ref (SA + 1)), (1, .ref a1), (2, .ref a2), (3, .ref a3), (4, .int (i3 x4)), (5, .int (i3 x5)), (6, .int (i3 x6))] [.int (i3 t0)] n h := by
  refine ok_iload (pc := 246) hc dL_law_246 5 rfl ?_
  obtain ⟨r1, P⟩ := P
  obtain ⟨r2, P⟩ := P
  refine zk_icmp_eq (pc := 248) (tgt := 253) hc dL_law_248 (by decide) r1 r2 (fun c => ?_) (fun c => ?_)
  · have P := P.1 c
    refine ok_iload (pc := 253) hc dL_law_253 5 rfl ?_
    obtain ⟨r3, P⟩ := P
    refine zk_if_ne (pc := 255) (tgt := 270) hc dL_law_255 (by decide) r3 (fun c => ?_) (fun c => ?_)
    · have P := P.1 c
      refine ok_goto (pc := 270) (tgt := 1415) hc dL_law_270 (by decide) ?_
      refine ok_lv [0, 1, 2, 3, 4] rfl ?_
      exact P
    · have P := P.2 c
      refine ok_aload_n (pc := 258) hc dL_law_258 rfl 3 rfl ?_
      refine ok_iconst (pc := 259) hc (v := i3 0) dL_law_259 (by decide) ?_
      obtain ⟨r, P⟩ := P
      refine zk_lald (pc := 260) hc dL_law_260 e4.1 e4.2 r ?_
      refine ok_iload (pc := 261) hc dL_law_261 6 rfl ?_
      obtain ⟨r5, P⟩ := P
      refine zk_i2l (pc := 263) hc dL_law_263 r5 ?_
      obtain ⟨r, P⟩ := P
      refine zk_lcmp (pc := 264) hc dL_law_264 r ?_
      refine zk_if_eq (pc := 265) (tgt := 270) hc dL_law_265 (by decide) R3_cmp (fun c => ?_) (fun c => ?_)
      · have P := P.1 (cmp_eq.mp c)
        refine ok_goto (pc := 270) (tgt := 1415) hc dL_law_270 (by decide) ?_
        refine ok_lv [0, 1, 2, 3, 4] rfl ?_
        exact P
      · have P := P.2 (fun z => c (cmp_eq.mpr z))
        refine ok_iconst (pc := 268) hc (v := i3 0) dL_law_268 (by decide) ?_
        exact ok_retL hc hL dL_law_269 P
  · have P := P.2 c
    refine ok_iconst (pc := 251) hc (v := i3 0) dL_law_251 (by decide) ?_
    exact ok_retL hc hL dL_law_252 P
theorem lw_setValue {X : Xt} {L9 : Nat} {xs : Nat → Int32} (hc : Cx X cL_law RL 9 13 302) (hX : ScX X L9 xs) (hL : CxL X) (hL9 : L9 ≤ 2048) {i : Nat} (hi : i + 4 ≤ L9) {h : HP} {q : Dsk} (I : LwI h q) {bb sb9 : Nat} (k : ∀ (h' : HP) (q' : Dsk), LwI h' q' → Ok X bb sb9 1415 [(0, .ref (SA + 1)), (1, .ref 0), (2, .ref 128), (3, .ref 139), (4, .int (i3 i))] [] 140 h') : Ok X (bb + 2) (sb9 + 12) 205 [(0, .ref (SA + 1)), (1, .ref 0), (2, .ref 128), (3, .ref 139), (4, .int (i3 i))] [] 140 h := by
  obtain ⟨hD, ⟨t, hM⟩, g, hg⟩ := I
  obtain ⟨p0, hp0⟩ : ∃ p : Int, p = (xs ((i : Int) + 1).toNat).toInt := ⟨_, rfl⟩
  have r0 : R3 p0 := by rw [hp0]; exact R3_T _
  obtain ⟨p1, hp1⟩ : ∃ p : Int, p = (xs ((i : Int) + 2).toNat).toInt := ⟨_, rfl⟩
  have r1 : R3 p1 := by rw [hp1]; exact R3_T _
  refine sL_law_205 (bb := bb) (sb9 := sb9) hc hX hL ?_
  rw [← hp0, ← hp1]
  refine ⟨⟨by omega, by omega, by omega⟩, ⟨by omega, by omega, by omega⟩, q, 139, g, p0, p1, rfl, r0, r1, hD, hg, by omega, fun h1 g1 hD1 hg1 ez hfr => ⟨rfl, ?_⟩⟩
  have hM1 : MdA h1 140 q t := hM.pt (fun x hx => hfr x (by omega) (by omega))
  obtain ⟨I1, F1, m1, -⟩ := id hM1
  refine sL_law_222 hc hX hL m1.o rfl ?_
  rw [← hp0, ← hp1]
  refine ⟨⟨by omega, by omega, by omega⟩, ⟨by omega, by omega, by omega⟩, q, t, p0, p1, rfl, r0, r1, hM1, fun h2 hM2 f2 => ⟨rfl, ?_⟩⟩
  obtain ⟨I2, F2, m2, -⟩ := id hM2
  show Ok X bb sb9 240 [(0, .ref (SA + 1)), (1, .ref 0), (2, .ref 128), (3, .ref 139), (4, .int (i3 i)), (5, .int (i3 (cdL [eIO, eIS, eIA] ((opValue q p0 p1).2))))] [.int (i3 (rvI ((opValue q p0 p1).2)))] 140 h2
  rw [← i3_T (i3 (rvI ((opValue q p0 p1).2)))]
  refine sL_law_240 hc hX hL m2.o rfl ⟨_, _, rfl, hM2, ⟨rfl, ?_⟩⟩
  have kk := k h2 _ ⟨hD1.out f2 (by omega), ⟨_, hM2⟩, g1, hg1.fr f2 (by omega)⟩
  have rc : R3 (cdL [eIO, eIS, eIA] ((opValue q p0 p1).2)) := R3_s (cdL_r _ _)
  refine sL_law_246 hc hX hL (hg1.fr f2 (by omega)) ⟨rc, rc, fun _ => ⟨rc, fun _ => kk, fun z => ?_⟩, fun z => absurd rfl z⟩
  obtain ⟨w, ew⟩ := cdL_0 z
  have e0 := ez w ew
  have e1 : g1 (0 : Int).toNat = (i3 (rvI ((opValue q p0 p1).2))).toInt := by rw [ew]; exact e0
  exact ⟨⟨by decide, by decide, by decide⟩, R3_T _, ⟨by rw [e1]; exact R36 (R3_T _), R36 (R3_T _)⟩, fun _ => kk, fun z => absurd e1 z⟩
set_option maxHeartbeats 4000000 in
set_option maxRecDepth 100000 in
theorem sL_law_273 {X : Xt} {n : Nat} {h : HP} {a1 : Nat} {a2 : Nat} {a3 : Nat} {x4 : Int} {bb : Nat} {sb9 : Nat} (hc : Cx X cL_law RL 9 13 302) {L9 : Nat} {xs : Nat → Int32} (hX : ScX X L9 xs) (hL : CxL X) 
    (P : (Ix (x4 + 1) L9) ∧ spec_L_setRail [.ref a1, .int (i3 ((xs ((x4 + 1) : Int).toNat).toInt)), .ref a3] n h (kn X bb sb9 281 [(0, .ref (SA + 1)), (1, .ref a1), (2, .ref a2), (3, .ref a3), (4, .int (i3 x4))] [] n)) :
    Ok X (bb + 1) (sb9 + 6) 273 [(0, .ref (SA + 1)), (1, .ref a1), (2, .ref a2), (3, .ref a3), (4, .int (i3 x4))] [] n h := by
  refine ok_aload_n (pc := 273) hc dL_law_273 rfl 1 rfl ?_
  refine ok_aload_n (pc := 274) hc dL_law_274 rfl 0 rfl ?_
  refine ok_iload (pc := 275) hc dL_law_275 4 rfl ?_
  refine ok_iconst (pc := 277) hc (v := i3 1) dL_law_277 (by decide) ?_
  refine zk_iadd (pc := 278) hc dL_law_278 ?_
  obtain ⟨r, P⟩ := P
  refine ok_sld (pc := 279) hc hX dL_law_279 r ?_
  refine ok_aload_n (pc := 280) hc dL_law_280 rfl 3 rfl ?_
  exact ok_callSW (pc := 281) (cb := bb) (sb := sb9) (st := []) hc [.ref a1, .int (i3 ((xs ((x4 + 1) : Int).toNat).toInt)), .ref a3] cw_L_99 sp_L_setRail (by decide) dL_law_281 rfl rfl rfl rfl (Nat.le_of_ble_eq_true rfl) P
set_option maxHeartbeats 4000000 in
set_option maxRecDepth 100000 in
theorem sL_law_284 {X : Xt} {n : Nat} {h : HP} {a1 : Nat} {a2 : Nat} {a3 : Nat} {x4 : Int} {t0 : Int} {bb : Nat} {sb9 : Nat} {fs1 : List Value} (hc : Cx X cL_law RL 9 13 302) {L9 : Nat} {xs : Nat → Int32} (hX : ScX X L9 xs) (hL : CxL X) (e1 : At h n a2 (.inl (7, fs1))) (z1 : fs1.length = 24)
    (P : (Ix (x4 + 1) L9) ∧ spec_X7_setRail [.ref a2, .int (i3 ((xs ((x4 + 1) : Int).toNat).toInt))] n h (kc X bb sb9 293 [(0, .ref (SA + 1)), (1, .ref a1), (2, .ref a2), (3, .ref a3), (4, .int (i3 x4)), (5, .int (i3 t0))] [] n)) :
    Ok X bb sb9 284 [(0, .ref (SA + 1)), (1, .ref a1), (2, .ref a2), (3, .ref a3), (4, .int (i3 x4))] [.int (i3 t0)] n h := by
  refine ok_istore (pc := 284) hc (lv' := [(5, .int (i3 t0)), (0, .ref (SA + 1)), (1, .ref a1), (2, .ref a2), (3, .ref a3), (4, .int (i3 x4))]) dL_law_284 (by decide) rfl ?_
  refine ok_aload_n (pc := 286) hc dL_law_286 rfl 3 rfl ?_
  refine ok_aload_n (pc := 287) hc dL_law_287 rfl 1 rfl ?_
  refine ok_iload (pc := 288) hc dL_law_288 5 rfl ?_
  refine ok_iconst (pc := 290) hc (v := i3 1) dL_law_290 (by decide) ?_
  refine zk_iadd (pc := 291) hc dL_law_291 ?_
  obtain ⟨r, P⟩ := P
  refine ok_sld (pc := 292) hc hX dL_law_292 r ?_
  refine ok_lv [1, 2, 3, 4, 5, 0] rfl ?_
  exact ok_callV (pc := 293) (a := a2) (cb := bb) (sb := sb9) (st := []) hc [.int (i3 ((xs ((x4 + 1) : Int).toNat).toInt))] cv_L_102 sp_X7_setRail (by decide) dL_law_293 rfl e1.1 e1.2 rfl rfl rfl (Nat.le_of_ble_eq_true rfl) P
set_option maxHeartbeats 4000000 in
set_option maxRecDepth 100000 in
theorem sL_law_296 {X : Xt} {n : Nat} {h : HP} {a1 : Nat} {a2 : Nat} {a3 : Nat} {x4 : Int} {x5 : Int} {t0 : Int} {bb : Nat} {sb9 : Nat} {fs1 : List Value} (hc : Cx X cL_law RL 9 13 302) {L9 : Nat} {xs : Nat → Int32} (hX : ScX X L9 xs) (hL : CxL X) (e1 : At h n a2 (.inl (7, fs1))) (z1 : fs1.length = 24)
    (P : spec_X7_thrown [.ref a2] n h (kc X bb sb9 299 [(0, .ref (SA + 1)), (1, .ref a1), (2, .ref a2), (3, .ref a3), (4, .int (i3 x4)), (5, .int (i3 x5)), (6, .int (i3 t0))] [] n)) :
    Ok X bb sb9 296 [(0, .ref (SA + 1)), (1, .ref a1), (2, .ref a2), (3, .ref a3), (4, .int (i3 x4)), (5, .int (i3 x5))] [.int (i3 t0)] n h := by
  refine ok_istore (pc := 296) hc (lv' := [(6, .int (i3 t0)), (0, .ref (SA + 1)), (1, .ref a1), (2, .ref a2), (3, .ref a3), (4, .int (i3 x4)), (5, .int (i3 x5))]) dL_law_296 (by decide) rfl ?_
  refine ok_aload_n (pc := 298) hc dL_law_298 rfl 3 rfl ?_
  refine ok_lv [1, 2, 3, 4, 5, 6, 0] rfl ?_
  exact ok_callV (pc := 299) (a := a2) (cb := bb) (sb := sb9) (st := []) hc [] cv_L_92 sp_X7_thrown (by decide) dL_law_299 rfl e1.1 e1.2 rfl rfl rfl (Nat.le_of_ble_eq_true rfl) P
set_option maxHeartbeats 4000000 in
set_option maxRecDepth 100000 in
theorem sL_law_302 {X : Xt} {n : Nat} {h : HP} {a1 : Nat} {a2 : Nat} {a3 : Nat} {x4 : Int} {x5 : Int} {x6 : Int} {t0 : Int} {bb : Nat} {sb9 : Nat} {len4 : Nat} {f4 : Nat → Int} (hc : Cx X cL_law RL 9 13 302) {L9 : Nat} {xs : Nat → Int32} (hX : ScX X L9 xs) (hL : CxL X) (e4 : At h n a3 (al len4 f4))
    (P : (R3 t0) ∧ (R3 x5) ∧ (t0 = x5 → (R3 x5) ∧ (¬ x5 = 0 → Ok X bb sb9 1415 [(0, .ref (SA + 1)), (1, .ref a1), (2, .ref a2), (3, .ref a3), (4, .int (i3 x4))] [] n h) ∧ (x5 = 0 → (Ix 0 len4) ∧ (R3 x6) ∧ (R6 (f4 (0 : Int).toNat) ∧ R6 x6) ∧ ((f4 (0 : Int).toNat) = x6 → Ok X bb sb9 1415 [(0, .ref (SA + 1)), (1, .ref a1), (2, .ref a2), (3, .ref a3), (4, .int (i3 x4))] [] n h) ∧ (¬ (f4 (0 : Int).toNat) = x6 → 0 = (1 : Int)))) ∧ (¬ t0 = x5 → 0 = (1 : Int))) :
    Ok X bb sb9 302 [(0, .ref (SA + 1)), (1, .ref a1), (2, .ref a2), (3, .ref a3), (4, .int (i3 x4)), (5, .int (i3 x5)), (6, .int (i3 x6))] [.int (i3 t0)] n h := by
  refine ok_iload (pc := 302) hc dL_law_302 5 rfl ?_
  obtain ⟨r1, P⟩ := P
  obtain ⟨r2, P⟩ := P
  refine zk_icmp_eq (pc := 304) (tgt := 309) hc dL_law_304 (by decide) r1 r2 (fun c => ?_) (fun c => ?_)
  · have P := P.1 c
    refine ok_iload (pc := 309) hc dL_law_309 5 rfl ?_
    obtain ⟨r3, P⟩ := P
    refine zk_if_ne (pc := 311) (tgt := 326) hc dL_law_311 (by decide) r3 (fun c => ?_) (fun c => ?_)
    · have P := P.1 c
      refine ok_goto (pc := 326) (tgt := 1415) hc dL_law_326 (by decide) ?_
      refine ok_lv [0, 1, 2, 3, 4] rfl ?_
      exact P
    · have P := P.2 c
      refine ok_aload_n (pc := 314) hc dL_law_314 rfl 3 rfl ?_
      refine ok_iconst (pc := 315) hc (v := i3 0) dL_law_315 (by decide) ?_
      obtain ⟨r, P⟩ := P
      refine zk_lald (pc := 316) hc dL_law_316 e4.1 e4.2 r ?_
      refine ok_iload (pc := 317) hc dL_law_317 6 rfl ?_
      obtain ⟨r5, P⟩ := P
      refine zk_i2l (pc := 319) hc dL_law_319 r5 ?_
      obtain ⟨r, P⟩ := P
      refine zk_lcmp (pc := 320) hc dL_law_320 r ?_
      refine zk_if_eq (pc := 321) (tgt := 326) hc dL_law_321 (by decide) R3_cmp (fun c => ?_) (fun c => ?_)
      · have P := P.1 (cmp_eq.mp c)
        refine ok_goto (pc := 326) (tgt := 1415) hc dL_law_326 (by decide) ?_
        refine ok_lv [0, 1, 2, 3, 4] rfl ?_
        exact P
      · have P := P.2 (fun z => c (cmp_eq.mpr z))
        refine ok_iconst (pc := 324) hc (v := i3 0) dL_law_324 (by decide) ?_
        exact ok_retL hc hL dL_law_325 P
  · have P := P.2 c
    refine ok_iconst (pc := 307) hc (v := i3 0) dL_law_307 (by decide) ?_
    exact ok_retL hc hL dL_law_308 P
theorem lw_setRail {X : Xt} {L9 : Nat} {xs : Nat → Int32} (hc : Cx X cL_law RL 9 13 302) (hX : ScX X L9 xs) (hL : CxL X) (hL9 : L9 ≤ 2048) {i : Nat} (hi : i + 4 ≤ L9) {h : HP} {q : Dsk} (I : LwI h q) {bb sb9 : Nat} (k : ∀ (h' : HP) (q' : Dsk), LwI h' q' → Ok X bb sb9 1415 [(0, .ref (SA + 1)), (1, .ref 0), (2, .ref 128), (3, .ref 139), (4, .int (i3 i))] [] 140 h') : Ok X (bb + 1) (sb9 + 6) 273 [(0, .ref (SA + 1)), (1, .ref 0), (2, .ref 128), (3, .ref 139), (4, .int (i3 i))] [] 140 h := by
  obtain ⟨hD, ⟨t, hM⟩, g, hg⟩ := I
  obtain ⟨p0, hp0⟩ : ∃ p : Int, p = (xs ((i : Int) + 1).toNat).toInt := ⟨_, rfl⟩
  have r0 : R3 p0 := by rw [hp0]; exact R3_T _
  refine sL_law_273 (bb := bb) (sb9 := sb9) hc hX hL ?_
  rw [← hp0]
  refine ⟨⟨by omega, by omega, by omega⟩, q, 139, g, p0, rfl, r0, hD, hg, by omega, fun h1 g1 hD1 hg1 ez hfr => ⟨rfl, ?_⟩⟩
  have hM1 : MdA h1 140 q t := hM.pt (fun x hx => hfr x (by omega) (by omega))
  obtain ⟨I1, F1, m1, -⟩ := id hM1
  refine sL_law_284 hc hX hL m1.o rfl ?_
  rw [← hp0]
  refine ⟨⟨by omega, by omega, by omega⟩, q, t, p0, rfl, r0, hM1, fun h2 hM2 f2 => ⟨rfl, ?_⟩⟩
  obtain ⟨I2, F2, m2, -⟩ := id hM2
  show Ok X bb sb9 296 [(0, .ref (SA + 1)), (1, .ref 0), (2, .ref 128), (3, .ref 139), (4, .int (i3 i)), (5, .int (i3 (cdL [eIA] ((opRail q p0).2))))] [.int (i3 (rvI ((opRail q p0).2)))] 140 h2
  rw [← i3_T (i3 (rvI ((opRail q p0).2)))]
  refine sL_law_296 hc hX hL m2.o rfl ⟨_, _, rfl, hM2, ⟨rfl, ?_⟩⟩
  have kk := k h2 _ ⟨hD1.out f2 (by omega), ⟨_, hM2⟩, g1, hg1.fr f2 (by omega)⟩
  have rc : R3 (cdL [eIA] ((opRail q p0).2)) := R3_s (cdL_r _ _)
  refine sL_law_302 hc hX hL (hg1.fr f2 (by omega)) ⟨rc, rc, fun _ => ⟨rc, fun _ => kk, fun z => ?_⟩, fun z => absurd rfl z⟩
  obtain ⟨w, ew⟩ := cdL_0 z
  have e0 := ez w ew
  have e1 : g1 (0 : Int).toNat = (i3 (rvI ((opRail q p0).2))).toInt := by rw [ew]; exact e0
  exact ⟨⟨by decide, by decide, by decide⟩, R3_T _, ⟨by rw [e1]; exact R36 (R3_T _), R36 (R3_T _)⟩, fun _ => kk, fun z => absurd e1 z⟩
set_option maxHeartbeats 4000000 in
set_option maxRecDepth 100000 in
theorem sL_law_329 {X : Xt} {n : Nat} {h : HP} {a1 : Nat} {a2 : Nat} {a3 : Nat} {x4 : Int} {bb : Nat} {sb9 : Nat} (hc : Cx X cL_law RL 9 13 302) {L9 : Nat} {xs : Nat → Int32} (hX : ScX X L9 xs) (hL : CxL X) 
    (P : (Ix (x4 + 1) L9) ∧ spec_L_drop [.ref a1, .int (i3 ((xs ((x4 + 1) : Int).toNat).toInt)), .ref a3] n h (kn X bb sb9 337 [(0, .ref (SA + 1)), (1, .ref a1), (2, .ref a2), (3, .ref a3), (4, .int (i3 x4))] [] n)) :
    Ok X (bb + 1) (sb9 + 6) 329 [(0, .ref (SA + 1)), (1, .ref a1), (2, .ref a2), (3, .ref a3), (4, .int (i3 x4))] [] n h := by
  refine ok_aload_n (pc := 329) hc dL_law_329 rfl 1 rfl ?_
  refine ok_aload_n (pc := 330) hc dL_law_330 rfl 0 rfl ?_
  refine ok_iload (pc := 331) hc dL_law_331 4 rfl ?_
  refine ok_iconst (pc := 333) hc (v := i3 1) dL_law_333 (by decide) ?_
  refine zk_iadd (pc := 334) hc dL_law_334 ?_
  obtain ⟨r, P⟩ := P
  refine ok_sld (pc := 335) hc hX dL_law_335 r ?_
  refine ok_aload_n (pc := 336) hc dL_law_336 rfl 3 rfl ?_
  exact ok_callSW (pc := 337) (cb := bb) (sb := sb9) (st := []) hc [.ref a1, .int (i3 ((xs ((x4 + 1) : Int).toNat).toInt)), .ref a3] cw_L_103 sp_L_drop (by decide) dL_law_337 rfl rfl rfl rfl (Nat.le_of_ble_eq_true rfl) P
set_option maxHeartbeats 4000000 in
set_option maxRecDepth 100000 in
theorem sL_law_340 {X : Xt} {n : Nat} {h : HP} {a1 : Nat} {a2 : Nat} {a3 : Nat} {x4 : Int} {t0 : Int} {bb : Nat} {sb9 : Nat} {fs1 : List Value} (hc : Cx X cL_law RL 9 13 302) {L9 : Nat} {xs : Nat → Int32} (hX : ScX X L9 xs) (hL : CxL X) (e1 : At h n a2 (.inl (7, fs1))) (z1 : fs1.length = 24)
    (P : (Ix (x4 + 1) L9) ∧ spec_X7_drop [.ref a2, .int (i3 ((xs ((x4 + 1) : Int).toNat).toInt))] n h (kc X bb sb9 349 [(0, .ref (SA + 1)), (1, .ref a1), (2, .ref a2), (3, .ref a3), (4, .int (i3 x4)), (5, .int (i3 t0))] [] n)) :
    Ok X bb sb9 340 [(0, .ref (SA + 1)), (1, .ref a1), (2, .ref a2), (3, .ref a3), (4, .int (i3 x4))] [.int (i3 t0)] n h := by
  refine ok_istore (pc := 340) hc (lv' := [(5, .int (i3 t0)), (0, .ref (SA + 1)), (1, .ref a1), (2, .ref a2), (3, .ref a3), (4, .int (i3 x4))]) dL_law_340 (by decide) rfl ?_
  refine ok_aload_n (pc := 342) hc dL_law_342 rfl 3 rfl ?_
  refine ok_aload_n (pc := 343) hc dL_law_343 rfl 1 rfl ?_
  refine ok_iload (pc := 344) hc dL_law_344 5 rfl ?_
  refine ok_iconst (pc := 346) hc (v := i3 1) dL_law_346 (by decide) ?_
  refine zk_iadd (pc := 347) hc dL_law_347 ?_
  obtain ⟨r, P⟩ := P
  refine ok_sld (pc := 348) hc hX dL_law_348 r ?_
  refine ok_lv [1, 2, 3, 4, 5, 0] rfl ?_
  exact ok_callV (pc := 349) (a := a2) (cb := bb) (sb := sb9) (st := []) hc [.int (i3 ((xs ((x4 + 1) : Int).toNat).toInt))] cv_L_105 sp_X7_drop (by decide) dL_law_349 rfl e1.1 e1.2 rfl rfl rfl (Nat.le_of_ble_eq_true rfl) P
set_option maxHeartbeats 4000000 in
set_option maxRecDepth 100000 in
theorem sL_law_352 {X : Xt} {n : Nat} {h : HP} {a1 : Nat} {a2 : Nat} {a3 : Nat} {x4 : Int} {x5 : Int} {t0 : Int} {bb : Nat} {sb9 : Nat} {fs1 : List Value} (hc : Cx X cL_law RL 9 13 302) {L9 : Nat} {xs : Nat → Int32} (hX : ScX X L9 xs) (hL : CxL X) (e1 : At h n a2 (.inl (7, fs1))) (z1 : fs1.length = 24)
    (P : spec_X7_thrown [.ref a2] n h (kc X bb sb9 355 [(0, .ref (SA + 1)), (1, .ref a1), (2, .ref a2), (3, .ref a3), (4, .int (i3 x4)), (5, .int (i3 x5)), (6, .int (i3 t0))] [] n)) :
    Ok X bb sb9 352 [(0, .ref (SA + 1)), (1, .ref a1), (2, .ref a2), (3, .ref a3), (4, .int (i3 x4)), (5, .int (i3 x5))] [.int (i3 t0)] n h := by
  refine ok_istore (pc := 352) hc (lv' := [(6, .int (i3 t0)), (0, .ref (SA + 1)), (1, .ref a1), (2, .ref a2), (3, .ref a3), (4, .int (i3 x4)), (5, .int (i3 x5))]) dL_law_352 (by decide) rfl ?_
  refine ok_aload_n (pc := 354) hc dL_law_354 rfl 3 rfl ?_
  refine ok_lv [1, 2, 3, 4, 5, 6, 0] rfl ?_
  exact ok_callV (pc := 355) (a := a2) (cb := bb) (sb := sb9) (st := []) hc [] cv_L_92 sp_X7_thrown (by decide) dL_law_355 rfl e1.1 e1.2 rfl rfl rfl (Nat.le_of_ble_eq_true rfl) P
set_option maxHeartbeats 4000000 in
set_option maxRecDepth 100000 in
theorem sL_law_358 {X : Xt} {n : Nat} {h : HP} {a1 : Nat} {a2 : Nat} {a3 : Nat} {x4 : Int} {x5 : Int} {x6 : Int} {t0 : Int} {bb : Nat} {sb9 : Nat} {len4 : Nat} {f4 : Nat → Int} (hc : Cx X cL_law RL 9 13 302) {L9 : Nat} {xs : Nat → Int32} (hX : ScX X L9 xs) (hL : CxL X) (e4 : At h n a3 (al len4 f4))
    (P : (R3 t0) ∧ (R3 x5) ∧ (t0 = x5 → (R3 x5) ∧ (¬ x5 = 0 → Ok X bb sb9 1415 [(0, .ref (SA + 1)), (1, .ref a1), (2, .ref a2), (3, .ref a3), (4, .int (i3 x4))] [] n h) ∧ (x5 = 0 → (Ix 0 len4) ∧ (R3 x6) ∧ (R6 (f4 (0 : Int).toNat) ∧ R6 x6) ∧ ((f4 (0 : Int).toNat) = x6 → Ok X bb sb9 1415 [(0, .ref (SA + 1)), (1, .ref a1), (2, .ref a2), (3, .ref a3), (4, .int (i3 x4))] [] n h) ∧ (¬ (f4 (0 : Int).toNat) = x6 → 0 = (1 : Int)))) ∧ (¬ t0 = x5 → 0 = (1 : Int))) :
    Ok X bb sb9 358 [(0, .ref (SA + 1)), (1, .ref a1), (2, .ref a2), (3, .ref a3), (4, .int (i3 x4)), (5, .int (i3 x5)), (6, .int (i3 x6))] [.int (i3 t0)] n h := by
  refine ok_iload (pc := 358) hc dL_law_358 5 rfl ?_
  obtain ⟨r1, P⟩ := P
  obtain ⟨r2, P⟩ := P
  refine zk_icmp_eq (pc := 360) (tgt := 365) hc dL_law_360 (by decide) r1 r2 (fun c => ?_) (fun c => ?_)
  · have P := P.1 c
    refine ok_iload (pc := 365) hc dL_law_365 5 rfl ?_
    obtain ⟨r3, P⟩ := P
    refine zk_if_ne (pc := 367) (tgt := 382) hc dL_law_367 (by decide) r3 (fun c => ?_) (fun c => ?_)
    · have P := P.1 c
      refine ok_goto (pc := 382) (tgt := 1415) hc dL_law_382 (by decide) ?_
      refine ok_lv [0, 1, 2, 3, 4] rfl ?_
      exact P
    · have P := P.2 c
      refine ok_aload_n (pc := 370) hc dL_law_370 rfl 3 rfl ?_
      refine ok_iconst (pc := 371) hc (v := i3 0) dL_law_371 (by decide) ?_
      obtain ⟨r, P⟩ := P
      refine zk_lald (pc := 372) hc dL_law_372 e4.1 e4.2 r ?_
      refine ok_iload (pc := 373) hc dL_law_373 6 rfl ?_
      obtain ⟨r5, P⟩ := P
      refine zk_i2l (pc := 375) hc dL_law_375 r5 ?_
      obtain ⟨r, P⟩ := P
      refine zk_lcmp (pc := 376) hc dL_law_376 r ?_
      refine zk_if_eq (pc := 377) (tgt := 382) hc dL_law_377 (by decide) R3_cmp (fun c => ?_) (fun c => ?_)
      · have P := P.1 (cmp_eq.mp c)
        refine ok_goto (pc := 382) (tgt := 1415) hc dL_law_382 (by decide) ?_
        refine ok_lv [0, 1, 2, 3, 4] rfl ?_
        exact P
      · have P := P.2 (fun z => c (cmp_eq.mpr z))
        refine ok_iconst (pc := 380) hc (v := i3 0) dL_law_380 (by decide) ?_
        exact ok_retL hc hL dL_law_381 P
  · have P := P.2 c
    refine ok_iconst (pc := 363) hc (v := i3 0) dL_law_363 (by decide) ?_
    exact ok_retL hc hL dL_law_364 P
theorem lw_drop {X : Xt} {L9 : Nat} {xs : Nat → Int32} (hc : Cx X cL_law RL 9 13 302) (hX : ScX X L9 xs) (hL : CxL X) (hL9 : L9 ≤ 2048) {i : Nat} (hi : i + 4 ≤ L9) {h : HP} {q : Dsk} (I : LwI h q) {bb sb9 : Nat} (k : ∀ (h' : HP) (q' : Dsk), LwI h' q' → Ok X bb sb9 1415 [(0, .ref (SA + 1)), (1, .ref 0), (2, .ref 128), (3, .ref 139), (4, .int (i3 i))] [] 140 h') : Ok X (bb + 1) (sb9 + 6) 329 [(0, .ref (SA + 1)), (1, .ref 0), (2, .ref 128), (3, .ref 139), (4, .int (i3 i))] [] 140 h := by
  obtain ⟨hD, ⟨t, hM⟩, g, hg⟩ := I
  obtain ⟨p0, hp0⟩ : ∃ p : Int, p = (xs ((i : Int) + 1).toNat).toInt := ⟨_, rfl⟩
  have r0 : R3 p0 := by rw [hp0]; exact R3_T _
  refine sL_law_329 (bb := bb) (sb9 := sb9) hc hX hL ?_
  rw [← hp0]
  refine ⟨⟨by omega, by omega, by omega⟩, q, 139, g, p0, rfl, r0, hD, hg, by omega, fun h1 g1 hD1 hg1 ez hfr => ⟨rfl, ?_⟩⟩
  have hM1 : MdA h1 140 q t := hM.pt (fun x hx => hfr x (by omega) (by omega))
  obtain ⟨I1, F1, m1, -⟩ := id hM1
  refine sL_law_340 hc hX hL m1.o rfl ?_
  rw [← hp0]
  refine ⟨⟨by omega, by omega, by omega⟩, q, t, p0, rfl, r0, hM1, fun h2 hM2 f2 => ⟨rfl, ?_⟩⟩
  obtain ⟨I2, F2, m2, -⟩ := id hM2
  show Ok X bb sb9 352 [(0, .ref (SA + 1)), (1, .ref 0), (2, .ref 128), (3, .ref 139), (4, .int (i3 i)), (5, .int (i3 (cdL [eIO] ((opDrop q p0).2))))] [.int (i3 (rvI ((opDrop q p0).2)))] 140 h2
  rw [← i3_T (i3 (rvI ((opDrop q p0).2)))]
  refine sL_law_352 hc hX hL m2.o rfl ⟨_, _, rfl, hM2, ⟨rfl, ?_⟩⟩
  have kk := k h2 _ ⟨hD1.out f2 (by omega), ⟨_, hM2⟩, g1, hg1.fr f2 (by omega)⟩
  have rc : R3 (cdL [eIO] ((opDrop q p0).2)) := R3_s (cdL_r _ _)
  refine sL_law_358 hc hX hL (hg1.fr f2 (by omega)) ⟨rc, rc, fun _ => ⟨rc, fun _ => kk, fun z => ?_⟩, fun z => absurd rfl z⟩
  obtain ⟨w, ew⟩ := cdL_0 z
  have e0 := ez w ew
  have e1 : g1 (0 : Int).toNat = (i3 (rvI ((opDrop q p0).2))).toInt := by rw [ew]; exact e0
  exact ⟨⟨by decide, by decide, by decide⟩, R3_T _, ⟨by rw [e1]; exact R36 (R3_T _), R36 (R3_T _)⟩, fun _ => kk, fun z => absurd e1 z⟩
set_option maxHeartbeats 4000000 in
set_option maxRecDepth 100000 in
theorem sL_law_385 {X : Xt} {n : Nat} {h : HP} {a1 : Nat} {a2 : Nat} {a3 : Nat} {x4 : Int} {bb : Nat} {sb9 : Nat} (hc : Cx X cL_law RL 9 13 302) {L9 : Nat} {xs : Nat → Int32} (hX : ScX X L9 xs) (hL : CxL X) 
    (P : (Ix (x4 + 1) L9) ∧ (Ix (x4 + 2) L9) ∧ spec_L_sweep [.ref a1, .int (i3 ((xs ((x4 + 1) : Int).toNat).toInt)), .int (i3 ((xs ((x4 + 2) : Int).toNat).toInt)), .ref a3] n h (kn X bb sb9 399 [(0, .ref (SA + 1)), (1, .ref a1), (2, .ref a2), (3, .ref a3), (4, .int (i3 x4))] [] n)) :
    Ok X (bb + 3) (sb9 + 18) 385 [(0, .ref (SA + 1)), (1, .ref a1), (2, .ref a2), (3, .ref a3), (4, .int (i3 x4))] [] n h := by
  refine ok_aload_n (pc := 385) hc dL_law_385 rfl 1 rfl ?_
  refine ok_aload_n (pc := 386) hc dL_law_386 rfl 0 rfl ?_
  refine ok_iload (pc := 387) hc dL_law_387 4 rfl ?_
  refine ok_iconst (pc := 389) hc (v := i3 1) dL_law_389 (by decide) ?_
  refine zk_iadd (pc := 390) hc dL_law_390 ?_
  obtain ⟨r, P⟩ := P
  refine ok_sld (pc := 391) hc hX dL_law_391 r ?_
  refine ok_aload_n (pc := 392) hc dL_law_392 rfl 0 rfl ?_
  refine ok_iload (pc := 393) hc dL_law_393 4 rfl ?_
  refine ok_iconst (pc := 395) hc (v := i3 2) dL_law_395 (by decide) ?_
  refine zk_iadd (pc := 396) hc dL_law_396 ?_
  obtain ⟨r, P⟩ := P
  refine ok_sld (pc := 397) hc hX dL_law_397 r ?_
  refine ok_aload_n (pc := 398) hc dL_law_398 rfl 3 rfl ?_
  exact ok_callSW (pc := 399) (cb := bb) (sb := sb9) (st := []) hc [.ref a1, .int (i3 ((xs ((x4 + 1) : Int).toNat).toInt)), .int (i3 ((xs ((x4 + 2) : Int).toNat).toInt)), .ref a3] cw_L_106 sp_L_sweep (by decide) dL_law_399 rfl rfl rfl rfl (Nat.le_of_ble_eq_true rfl) P
set_option maxHeartbeats 4000000 in
set_option maxRecDepth 100000 in
theorem sL_law_402 {X : Xt} {n : Nat} {h : HP} {a1 : Nat} {a2 : Nat} {a3 : Nat} {x4 : Int} {t0 : Int} {bb : Nat} {sb9 : Nat} {fs1 : List Value} (hc : Cx X cL_law RL 9 13 302) {L9 : Nat} {xs : Nat → Int32} (hX : ScX X L9 xs) (hL : CxL X) (e1 : At h n a2 (.inl (7, fs1))) (z1 : fs1.length = 24)
    (P : (Ix (x4 + 1) L9) ∧ (Ix (x4 + 2) L9) ∧ spec_X7_sweep [.ref a2, .int (i3 ((xs ((x4 + 1) : Int).toNat).toInt)), .int (i3 ((xs ((x4 + 2) : Int).toNat).toInt))] n h (kc X bb sb9 417 [(0, .ref (SA + 1)), (1, .ref a1), (2, .ref a2), (3, .ref a3), (4, .int (i3 x4)), (5, .int (i3 t0))] [] n)) :
    Ok X bb sb9 402 [(0, .ref (SA + 1)), (1, .ref a1), (2, .ref a2), (3, .ref a3), (4, .int (i3 x4))] [.int (i3 t0)] n h := by
  refine ok_istore (pc := 402) hc (lv' := [(5, .int (i3 t0)), (0, .ref (SA + 1)), (1, .ref a1), (2, .ref a2), (3, .ref a3), (4, .int (i3 x4))]) dL_law_402 (by decide) rfl ?_
  refine ok_aload_n (pc := 404) hc dL_law_404 rfl 3 rfl ?_
  refine ok_aload_n (pc := 405) hc dL_law_405 rfl 1 rfl ?_
  refine ok_iload (pc := 406) hc dL_law_406 5 rfl ?_
  refine ok_iconst (pc := 408) hc (v := i3 1) dL_law_408 (by decide) ?_
  refine zk_iadd (pc := 409) hc dL_law_409 ?_
  obtain ⟨r, P⟩ := P
  refine ok_sld (pc := 410) hc hX dL_law_410 r ?_
  refine ok_aload_n (pc := 411) hc dL_law_411 rfl 1 rfl ?_
  refine ok_iload (pc := 412) hc dL_law_412 5 rfl ?_
  refine ok_iconst (pc := 414) hc (v := i3 2) dL_law_414 (by decide) ?_
  refine zk_iadd (pc := 415) hc dL_law_415 ?_
  obtain ⟨r, P⟩ := P
  refine ok_sld (pc := 416) hc hX dL_law_416 r ?_
  refine ok_lv [1, 2, 3, 4, 5, 0] rfl ?_
  exact ok_callV (pc := 417) (a := a2) (cb := bb) (sb := sb9) (st := []) hc [.int (i3 ((xs ((x4 + 1) : Int).toNat).toInt)), .int (i3 ((xs ((x4 + 2) : Int).toNat).toInt))] cv_L_108 sp_X7_sweep (by decide) dL_law_417 rfl e1.1 e1.2 rfl rfl rfl (Nat.le_of_ble_eq_true rfl) P
set_option maxHeartbeats 4000000 in
set_option maxRecDepth 100000 in
theorem sL_law_420 {X : Xt} {n : Nat} {h : HP} {a1 : Nat} {a2 : Nat} {a3 : Nat} {x4 : Int} {x5 : Int} {t0 : Int} {bb : Nat} {sb9 : Nat} {fs1 : List Value} (hc : Cx X cL_law RL 9 13 302) {L9 : Nat} {xs : Nat → Int32} (hX : ScX X L9 xs) (hL : CxL X) (e1 : At h n a2 (.inl (7, fs1))) (z1 : fs1.length = 24)
    (P : spec_X7_thrown [.ref a2] n h (kc X bb sb9 423 [(0, .ref (SA + 1)), (1, .ref a1), (2, .ref a2), (3, .ref a3), (4, .int (i3 x4)), (5, .int (i3 x5)), (6, .int (i3 t0))] [] n)) :
    Ok X bb sb9 420 [(0, .ref (SA + 1)), (1, .ref a1), (2, .ref a2), (3, .ref a3), (4, .int (i3 x4)), (5, .int (i3 x5))] [.int (i3 t0)] n h := by
  refine ok_istore (pc := 420) hc (lv' := [(6, .int (i3 t0)), (0, .ref (SA + 1)), (1, .ref a1), (2, .ref a2), (3, .ref a3), (4, .int (i3 x4)), (5, .int (i3 x5))]) dL_law_420 (by decide) rfl ?_
  refine ok_aload_n (pc := 422) hc dL_law_422 rfl 3 rfl ?_
  refine ok_lv [1, 2, 3, 4, 5, 6, 0] rfl ?_
  exact ok_callV (pc := 423) (a := a2) (cb := bb) (sb := sb9) (st := []) hc [] cv_L_92 sp_X7_thrown (by decide) dL_law_423 rfl e1.1 e1.2 rfl rfl rfl (Nat.le_of_ble_eq_true rfl) P
set_option maxHeartbeats 4000000 in
set_option maxRecDepth 100000 in
theorem sL_law_426 {X : Xt} {n : Nat} {h : HP} {a1 : Nat} {a2 : Nat} {a3 : Nat} {x4 : Int} {x5 : Int} {x6 : Int} {t0 : Int} {bb : Nat} {sb9 : Nat} {len4 : Nat} {f4 : Nat → Int} (hc : Cx X cL_law RL 9 13 302) {L9 : Nat} {xs : Nat → Int32} (hX : ScX X L9 xs) (hL : CxL X) (e4 : At h n a3 (al len4 f4))
    (P : (R3 t0) ∧ (R3 x5) ∧ (t0 = x5 → (R3 x5) ∧ (¬ x5 = 0 → Ok X bb sb9 1415 [(0, .ref (SA + 1)), (1, .ref a1), (2, .ref a2), (3, .ref a3), (4, .int (i3 x4))] [] n h) ∧ (x5 = 0 → (Ix 0 len4) ∧ (R3 x6) ∧ (R6 (f4 (0 : Int).toNat) ∧ R6 x6) ∧ ((f4 (0 : Int).toNat) = x6 → Ok X bb sb9 1415 [(0, .ref (SA + 1)), (1, .ref a1), (2, .ref a2), (3, .ref a3), (4, .int (i3 x4))] [] n h) ∧ (¬ (f4 (0 : Int).toNat) = x6 → 0 = (1 : Int)))) ∧ (¬ t0 = x5 → 0 = (1 : Int))) :
    Ok X bb sb9 426 [(0, .ref (SA + 1)), (1, .ref a1), (2, .ref a2), (3, .ref a3), (4, .int (i3 x4)), (5, .int (i3 x5)), (6, .int (i3 x6))] [.int (i3 t0)] n h := by
  refine ok_iload (pc := 426) hc dL_law_426 5 rfl ?_
  obtain ⟨r1, P⟩ := P
  obtain ⟨r2, P⟩ := P
  refine zk_icmp_eq (pc := 428) (tgt := 433) hc dL_law_428 (by decide) r1 r2 (fun c => ?_) (fun c => ?_)
  · have P := P.1 c
    refine ok_iload (pc := 433) hc dL_law_433 5 rfl ?_
    obtain ⟨r3, P⟩ := P
    refine zk_if_ne (pc := 435) (tgt := 450) hc dL_law_435 (by decide) r3 (fun c => ?_) (fun c => ?_)
    · have P := P.1 c
      refine ok_goto (pc := 450) (tgt := 1415) hc dL_law_450 (by decide) ?_
      refine ok_lv [0, 1, 2, 3, 4] rfl ?_
      exact P
    · have P := P.2 c
      refine ok_aload_n (pc := 438) hc dL_law_438 rfl 3 rfl ?_
      refine ok_iconst (pc := 439) hc (v := i3 0) dL_law_439 (by decide) ?_
      obtain ⟨r, P⟩ := P
      refine zk_lald (pc := 440) hc dL_law_440 e4.1 e4.2 r ?_
      refine ok_iload (pc := 441) hc dL_law_441 6 rfl ?_
      obtain ⟨r5, P⟩ := P
      refine zk_i2l (pc := 443) hc dL_law_443 r5 ?_
      obtain ⟨r, P⟩ := P
      refine zk_lcmp (pc := 444) hc dL_law_444 r ?_
      refine zk_if_eq (pc := 445) (tgt := 450) hc dL_law_445 (by decide) R3_cmp (fun c => ?_) (fun c => ?_)
      · have P := P.1 (cmp_eq.mp c)
        refine ok_goto (pc := 450) (tgt := 1415) hc dL_law_450 (by decide) ?_
        refine ok_lv [0, 1, 2, 3, 4] rfl ?_
        exact P
      · have P := P.2 (fun z => c (cmp_eq.mpr z))
        refine ok_iconst (pc := 448) hc (v := i3 0) dL_law_448 (by decide) ?_
        exact ok_retL hc hL dL_law_449 P
  · have P := P.2 c
    refine ok_iconst (pc := 431) hc (v := i3 0) dL_law_431 (by decide) ?_
    exact ok_retL hc hL dL_law_432 P
theorem lw_sweep {X : Xt} {L9 : Nat} {xs : Nat → Int32} (hc : Cx X cL_law RL 9 13 302) (hX : ScX X L9 xs) (hL : CxL X) (hL9 : L9 ≤ 2048) {i : Nat} (hi : i + 4 ≤ L9) {h : HP} {q : Dsk} (I : LwI h q) {bb sb9 : Nat} (k : ∀ (h' : HP) (q' : Dsk), LwI h' q' → Ok X bb sb9 1415 [(0, .ref (SA + 1)), (1, .ref 0), (2, .ref 128), (3, .ref 139), (4, .int (i3 i))] [] 140 h') : Ok X (bb + 3) (sb9 + 18) 385 [(0, .ref (SA + 1)), (1, .ref 0), (2, .ref 128), (3, .ref 139), (4, .int (i3 i))] [] 140 h := by
  obtain ⟨hD, ⟨t, hM⟩, g, hg⟩ := I
  obtain ⟨p0, hp0⟩ : ∃ p : Int, p = (xs ((i : Int) + 1).toNat).toInt := ⟨_, rfl⟩
  have r0 : R3 p0 := by rw [hp0]; exact R3_T _
  obtain ⟨p1, hp1⟩ : ∃ p : Int, p = (xs ((i : Int) + 2).toNat).toInt := ⟨_, rfl⟩
  have r1 : R3 p1 := by rw [hp1]; exact R3_T _
  refine sL_law_385 (bb := bb) (sb9 := sb9) hc hX hL ?_
  rw [← hp0, ← hp1]
  refine ⟨⟨by omega, by omega, by omega⟩, ⟨by omega, by omega, by omega⟩, q, 139, g, p0, p1, rfl, r0, r1, hD, hg, by omega, fun h1 g1 hD1 hg1 ez hfr => ⟨rfl, ?_⟩⟩
  have hM1 : MdA h1 140 q t := hM.pt (fun x hx => hfr x (by omega) (by omega))
  obtain ⟨I1, F1, m1, -⟩ := id hM1
  refine sL_law_402 hc hX hL m1.o rfl ?_
  rw [← hp0, ← hp1]
  refine ⟨⟨by omega, by omega, by omega⟩, ⟨by omega, by omega, by omega⟩, q, t, p0, p1, rfl, r0, r1, hM1, fun h2 hM2 f2 => ⟨rfl, ?_⟩⟩
  obtain ⟨I2, F2, m2, -⟩ := id hM2
  show Ok X bb sb9 420 [(0, .ref (SA + 1)), (1, .ref 0), (2, .ref 128), (3, .ref 139), (4, .int (i3 i)), (5, .int (i3 (cdL [eIO, eIS, eIA] ((opSweep q p0 p1).2))))] [.int (i3 (rvI ((opSweep q p0 p1).2)))] 140 h2
  rw [← i3_T (i3 (rvI ((opSweep q p0 p1).2)))]
  refine sL_law_420 hc hX hL m2.o rfl ⟨_, _, rfl, hM2, ⟨rfl, ?_⟩⟩
  have kk := k h2 _ ⟨hD1.out f2 (by omega), ⟨_, hM2⟩, g1, hg1.fr f2 (by omega)⟩
  have rc : R3 (cdL [eIO, eIS, eIA] ((opSweep q p0 p1).2)) := R3_s (cdL_r _ _)
  refine sL_law_426 hc hX hL (hg1.fr f2 (by omega)) ⟨rc, rc, fun _ => ⟨rc, fun _ => kk, fun z => ?_⟩, fun z => absurd rfl z⟩
  obtain ⟨w, ew⟩ := cdL_0 z
  have e0 := ez w ew
  have e1 : g1 (0 : Int).toNat = (i3 (rvI ((opSweep q p0 p1).2))).toInt := by rw [ew]; exact e0
  exact ⟨⟨by decide, by decide, by decide⟩, R3_T _, ⟨by rw [e1]; exact R36 (R3_T _), R36 (R3_T _)⟩, fun _ => kk, fun z => absurd e1 z⟩
set_option maxHeartbeats 4000000 in
set_option maxRecDepth 100000 in
theorem sL_law_453 {X : Xt} {n : Nat} {h : HP} {a1 : Nat} {a2 : Nat} {a3 : Nat} {x4 : Int} {bb : Nat} {sb9 : Nat} (hc : Cx X cL_law RL 9 13 302) {L9 : Nat} {xs : Nat → Int32} (hX : ScX X L9 xs) (hL : CxL X) 
    (P : spec_L_undo [.ref a1, .ref a3] n h (kn X bb sb9 455 [(0, .ref (SA + 1)), (1, .ref a1), (2, .ref a2), (3, .ref a3), (4, .int (i3 x4))] [] n)) :
    Ok X (bb + 1) (sb9 + 6) 453 [(0, .ref (SA + 1)), (1, .ref a1), (2, .ref a2), (3, .ref a3), (4, .int (i3 x4))] [] n h := by
  refine ok_aload_n (pc := 453) hc dL_law_453 rfl 1 rfl ?_
  refine ok_aload_n (pc := 454) hc dL_law_454 rfl 3 rfl ?_
  exact ok_callSW (pc := 455) (cb := bb) (sb := sb9) (st := []) hc [.ref a1, .ref a3] cw_L_109 sp_L_undo (by decide) dL_law_455 rfl rfl rfl rfl (Nat.le_of_ble_eq_true rfl) P
set_option maxHeartbeats 4000000 in
set_option maxRecDepth 100000 in
theorem sL_law_458 {X : Xt} {n : Nat} {h : HP} {a1 : Nat} {a2 : Nat} {a3 : Nat} {x4 : Int} {t0 : Int} {bb : Nat} {sb9 : Nat} {fs1 : List Value} (hc : Cx X cL_law RL 9 13 302) {L9 : Nat} {xs : Nat → Int32} (hX : ScX X L9 xs) (hL : CxL X) (e1 : At h n a2 (.inl (7, fs1))) (z1 : fs1.length = 24)
    (P : spec_X7_undo [.ref a2] n h (kc X bb sb9 461 [(0, .ref (SA + 1)), (1, .ref a1), (2, .ref a2), (3, .ref a3), (4, .int (i3 x4)), (5, .int (i3 t0))] [] n)) :
    Ok X bb sb9 458 [(0, .ref (SA + 1)), (1, .ref a1), (2, .ref a2), (3, .ref a3), (4, .int (i3 x4))] [.int (i3 t0)] n h := by
  refine ok_istore (pc := 458) hc (lv' := [(5, .int (i3 t0)), (0, .ref (SA + 1)), (1, .ref a1), (2, .ref a2), (3, .ref a3), (4, .int (i3 x4))]) dL_law_458 (by decide) rfl ?_
  refine ok_aload_n (pc := 460) hc dL_law_460 rfl 3 rfl ?_
  refine ok_lv [1, 2, 3, 4, 5, 0] rfl ?_
  exact ok_callV (pc := 461) (a := a2) (cb := bb) (sb := sb9) (st := []) hc [] cv_L_111 sp_X7_undo (by decide) dL_law_461 rfl e1.1 e1.2 rfl rfl rfl (Nat.le_of_ble_eq_true rfl) P
set_option maxHeartbeats 4000000 in
set_option maxRecDepth 100000 in
theorem sL_law_464 {X : Xt} {n : Nat} {h : HP} {a1 : Nat} {a2 : Nat} {a3 : Nat} {x4 : Int} {x5 : Int} {t0 : Int} {bb : Nat} {sb9 : Nat} {fs1 : List Value} (hc : Cx X cL_law RL 9 13 302) {L9 : Nat} {xs : Nat → Int32} (hX : ScX X L9 xs) (hL : CxL X) (e1 : At h n a2 (.inl (7, fs1))) (z1 : fs1.length = 24)
    (P : spec_X7_thrown [.ref a2] n h (kc X bb sb9 467 [(0, .ref (SA + 1)), (1, .ref a1), (2, .ref a2), (3, .ref a3), (4, .int (i3 x4)), (5, .int (i3 x5)), (6, .int (i3 t0))] [] n)) :
    Ok X bb sb9 464 [(0, .ref (SA + 1)), (1, .ref a1), (2, .ref a2), (3, .ref a3), (4, .int (i3 x4)), (5, .int (i3 x5))] [.int (i3 t0)] n h := by
  refine ok_istore (pc := 464) hc (lv' := [(6, .int (i3 t0)), (0, .ref (SA + 1)), (1, .ref a1), (2, .ref a2), (3, .ref a3), (4, .int (i3 x4)), (5, .int (i3 x5))]) dL_law_464 (by decide) rfl ?_
  refine ok_aload_n (pc := 466) hc dL_law_466 rfl 3 rfl ?_
  refine ok_lv [1, 2, 3, 4, 5, 6, 0] rfl ?_
  exact ok_callV (pc := 467) (a := a2) (cb := bb) (sb := sb9) (st := []) hc [] cv_L_92 sp_X7_thrown (by decide) dL_law_467 rfl e1.1 e1.2 rfl rfl rfl (Nat.le_of_ble_eq_true rfl) P
set_option maxHeartbeats 4000000 in
set_option maxRecDepth 100000 in
theorem sL_law_470 {X : Xt} {n : Nat} {h : HP} {a1 : Nat} {a2 : Nat} {a3 : Nat} {x4 : Int} {x5 : Int} {x6 : Int} {t0 : Int} {bb : Nat} {sb9 : Nat} {len4 : Nat} {f4 : Nat → Int} (hc : Cx X cL_law RL 9 13 302) {L9 : Nat} {xs : Nat → Int32} (hX : ScX X L9 xs) (hL : CxL X) (e4 : At h n a3 (al len4 f4))
    (P : (R3 t0) ∧ (R3 x5) ∧ (t0 = x5 → (R3 x5) ∧ (¬ x5 = 0 → Ok X bb sb9 1415 [(0, .ref (SA + 1)), (1, .ref a1), (2, .ref a2), (3, .ref a3), (4, .int (i3 x4))] [] n h) ∧ (x5 = 0 → (Ix 0 len4) ∧ (R3 x6) ∧ (R6 (f4 (0 : Int).toNat) ∧ R6 x6) ∧ ((f4 (0 : Int).toNat) = x6 → Ok X bb sb9 1415 [(0, .ref (SA + 1)), (1, .ref a1), (2, .ref a2), (3, .ref a3), (4, .int (i3 x4))] [] n h) ∧ (¬ (f4 (0 : Int).toNat) = x6 → 0 = (1 : Int)))) ∧ (¬ t0 = x5 → 0 = (1 : Int))) :
    Ok X bb sb9 470 [(0, .ref (SA + 1)), (1, .ref a1), (2, .ref a2), (3, .ref a3), (4, .int (i3 x4)), (5, .int (i3 x5)), (6, .int (i3 x6))] [.int (i3 t0)] n h := by
  refine ok_iload (pc := 470) hc dL_law_470 5 rfl ?_
  obtain ⟨r1, P⟩ := P
  obtain ⟨r2, P⟩ := P
  refine zk_icmp_eq (pc := 472) (tgt := 477) hc dL_law_472 (by decide) r1 r2 (fun c => ?_) (fun c => ?_)
  · have P := P.1 c
    refine ok_iload (pc := 477) hc dL_law_477 5 rfl ?_
    obtain ⟨r3, P⟩ := P
    refine zk_if_ne (pc := 479) (tgt := 494) hc dL_law_479 (by decide) r3 (fun c => ?_) (fun c => ?_)
    · have P := P.1 c
      refine ok_goto (pc := 494) (tgt := 1415) hc dL_law_494 (by decide) ?_
      refine ok_lv [0, 1, 2, 3, 4] rfl ?_
      exact P
    · have P := P.2 c
      refine ok_aload_n (pc := 482) hc dL_law_482 rfl 3 rfl ?_
      refine ok_iconst (pc := 483) hc (v := i3 0) dL_law_483 (by decide) ?_
      obtain ⟨r, P⟩ := P
      refine zk_lald (pc := 484) hc dL_law_484 e4.1 e4.2 r ?_
      refine ok_iload (pc := 485) hc dL_law_485 6 rfl ?_
      obtain ⟨r5, P⟩ := P
      refine zk_i2l (pc := 487) hc dL_law_487 r5 ?_
      obtain ⟨r, P⟩ := P
      refine zk_lcmp (pc := 488) hc dL_law_488 r ?_
      refine zk_if_eq (pc := 489) (tgt := 494) hc dL_law_489 (by decide) R3_cmp (fun c => ?_) (fun c => ?_)
      · have P := P.1 (cmp_eq.mp c)
        refine ok_goto (pc := 494) (tgt := 1415) hc dL_law_494 (by decide) ?_
        refine ok_lv [0, 1, 2, 3, 4] rfl ?_
        exact P
      · have P := P.2 (fun z => c (cmp_eq.mpr z))
        refine ok_iconst (pc := 492) hc (v := i3 0) dL_law_492 (by decide) ?_
        exact ok_retL hc hL dL_law_493 P
  · have P := P.2 c
    refine ok_iconst (pc := 475) hc (v := i3 0) dL_law_475 (by decide) ?_
    exact ok_retL hc hL dL_law_476 P
theorem lw_undo {X : Xt} {L9 : Nat} {xs : Nat → Int32} (hc : Cx X cL_law RL 9 13 302) (hX : ScX X L9 xs) (hL : CxL X) (hL9 : L9 ≤ 2048) {i : Nat} (hi : i + 4 ≤ L9) {h : HP} {q : Dsk} (I : LwI h q) {bb sb9 : Nat} (k : ∀ (h' : HP) (q' : Dsk), LwI h' q' → Ok X bb sb9 1415 [(0, .ref (SA + 1)), (1, .ref 0), (2, .ref 128), (3, .ref 139), (4, .int (i3 i))] [] 140 h') : Ok X (bb + 1) (sb9 + 6) 453 [(0, .ref (SA + 1)), (1, .ref 0), (2, .ref 128), (3, .ref 139), (4, .int (i3 i))] [] 140 h := by
  obtain ⟨hD, ⟨t, hM⟩, g, hg⟩ := I
  refine sL_law_453 (bb := bb) (sb9 := sb9) hc hX hL ?_
  refine ⟨q, 139, g, rfl, hD, hg, by omega, fun h1 g1 hD1 hg1 ez hfr => ⟨rfl, ?_⟩⟩
  have hM1 : MdA h1 140 q t := hM.pt (fun x hx => hfr x (by omega) (by omega))
  obtain ⟨I1, F1, m1, -⟩ := id hM1
  refine sL_law_458 hc hX hL m1.o rfl ?_
  refine ⟨q, t, rfl, hM1, fun h2 hM2 f2 => ⟨rfl, ?_⟩⟩
  obtain ⟨I2, F2, m2, -⟩ := id hM2
  show Ok X bb sb9 464 [(0, .ref (SA + 1)), (1, .ref 0), (2, .ref 128), (3, .ref 139), (4, .int (i3 i)), (5, .int (i3 (cdL [eIS] ((opUndo q).2))))] [.int (i3 (rvI ((opUndo q).2)))] 140 h2
  rw [← i3_T (i3 (rvI ((opUndo q).2)))]
  refine sL_law_464 hc hX hL m2.o rfl ⟨_, _, rfl, hM2, ⟨rfl, ?_⟩⟩
  have kk := k h2 _ ⟨hD1.out f2 (by omega), ⟨_, hM2⟩, g1, hg1.fr f2 (by omega)⟩
  have rc : R3 (cdL [eIS] ((opUndo q).2)) := R3_s (cdL_r _ _)
  refine sL_law_470 hc hX hL (hg1.fr f2 (by omega)) ⟨rc, rc, fun _ => ⟨rc, fun _ => kk, fun z => ?_⟩, fun z => absurd rfl z⟩
  obtain ⟨w, ew⟩ := cdL_0 z
  have e0 := ez w ew
  have e1 : g1 (0 : Int).toNat = (i3 (rvI ((opUndo q).2))).toInt := by rw [ew]; exact e0
  exact ⟨⟨by decide, by decide, by decide⟩, R3_T _, ⟨by rw [e1]; exact R36 (R3_T _), R36 (R3_T _)⟩, fun _ => kk, fun z => absurd e1 z⟩
set_option maxHeartbeats 4000000 in
set_option maxRecDepth 100000 in
theorem sL_law_497 {X : Xt} {n : Nat} {h : HP} {a1 : Nat} {a2 : Nat} {a3 : Nat} {x4 : Int} {bb : Nat} {sb9 : Nat} (hc : Cx X cL_law RL 9 13 302) {L9 : Nat} {xs : Nat → Int32} (hX : ScX X L9 xs) (hL : CxL X) 
    (P : (Ix (x4 + 1) L9) ∧ spec_L_keep [.ref a1, .int (i3 ((xs ((x4 + 1) : Int).toNat).toInt)), .ref a3] n h (kn X bb sb9 505 [(0, .ref (SA + 1)), (1, .ref a1), (2, .ref a2), (3, .ref a3), (4, .int (i3 x4))] [] n)) :
    Ok X (bb + 1) (sb9 + 6) 497 [(0, .ref (SA + 1)), (1, .ref a1), (2, .ref a2), (3, .ref a3), (4, .int (i3 x4))] [] n h := by
  refine ok_aload_n (pc := 497) hc dL_law_497 rfl 1 rfl ?_
  refine ok_aload_n (pc := 498) hc dL_law_498 rfl 0 rfl ?_
  refine ok_iload (pc := 499) hc dL_law_499 4 rfl ?_
  refine ok_iconst (pc := 501) hc (v := i3 1) dL_law_501 (by decide) ?_
  refine zk_iadd (pc := 502) hc dL_law_502 ?_
  obtain ⟨r, P⟩ := P
  refine ok_sld (pc := 503) hc hX dL_law_503 r ?_
  refine ok_aload_n (pc := 504) hc dL_law_504 rfl 3 rfl ?_
  exact ok_callSW (pc := 505) (cb := bb) (sb := sb9) (st := []) hc [.ref a1, .int (i3 ((xs ((x4 + 1) : Int).toNat).toInt)), .ref a3] cw_L_112 sp_L_keep (by decide) dL_law_505 rfl rfl rfl rfl (Nat.le_of_ble_eq_true rfl) P
set_option maxHeartbeats 4000000 in
set_option maxRecDepth 100000 in
theorem sL_law_508 {X : Xt} {n : Nat} {h : HP} {a1 : Nat} {a2 : Nat} {a3 : Nat} {x4 : Int} {t0 : Int} {bb : Nat} {sb9 : Nat} {fs1 : List Value} (hc : Cx X cL_law RL 9 13 302) {L9 : Nat} {xs : Nat → Int32} (hX : ScX X L9 xs) (hL : CxL X) (e1 : At h n a2 (.inl (7, fs1))) (z1 : fs1.length = 24)
    (P : (Ix (x4 + 1) L9) ∧ spec_X7_keep [.ref a2, .int (i3 ((xs ((x4 + 1) : Int).toNat).toInt))] n h (kc X bb sb9 517 [(0, .ref (SA + 1)), (1, .ref a1), (2, .ref a2), (3, .ref a3), (4, .int (i3 x4)), (5, .int (i3 t0))] [] n)) :
    Ok X bb sb9 508 [(0, .ref (SA + 1)), (1, .ref a1), (2, .ref a2), (3, .ref a3), (4, .int (i3 x4))] [.int (i3 t0)] n h := by
  refine ok_istore (pc := 508) hc (lv' := [(5, .int (i3 t0)), (0, .ref (SA + 1)), (1, .ref a1), (2, .ref a2), (3, .ref a3), (4, .int (i3 x4))]) dL_law_508 (by decide) rfl ?_
  refine ok_aload_n (pc := 510) hc dL_law_510 rfl 3 rfl ?_
  refine ok_aload_n (pc := 511) hc dL_law_511 rfl 1 rfl ?_
  refine ok_iload (pc := 512) hc dL_law_512 5 rfl ?_
  refine ok_iconst (pc := 514) hc (v := i3 1) dL_law_514 (by decide) ?_
  refine zk_iadd (pc := 515) hc dL_law_515 ?_
  obtain ⟨r, P⟩ := P
  refine ok_sld (pc := 516) hc hX dL_law_516 r ?_
  refine ok_lv [1, 2, 3, 4, 5, 0] rfl ?_
  exact ok_callV (pc := 517) (a := a2) (cb := bb) (sb := sb9) (st := []) hc [.int (i3 ((xs ((x4 + 1) : Int).toNat).toInt))] cv_L_114 sp_X7_keep (by decide) dL_law_517 rfl e1.1 e1.2 rfl rfl rfl (Nat.le_of_ble_eq_true rfl) P
set_option maxHeartbeats 4000000 in
set_option maxRecDepth 100000 in
theorem sL_law_520 {X : Xt} {n : Nat} {h : HP} {a1 : Nat} {a2 : Nat} {a3 : Nat} {x4 : Int} {x5 : Int} {t0 : Int} {bb : Nat} {sb9 : Nat} {fs1 : List Value} (hc : Cx X cL_law RL 9 13 302) {L9 : Nat} {xs : Nat → Int32} (hX : ScX X L9 xs) (hL : CxL X) (e1 : At h n a2 (.inl (7, fs1))) (z1 : fs1.length = 24)
    (P : spec_X7_thrown [.ref a2] n h (kc X bb sb9 523 [(0, .ref (SA + 1)), (1, .ref a1), (2, .ref a2), (3, .ref a3), (4, .int (i3 x4)), (5, .int (i3 x5)), (6, .int (i3 t0))] [] n)) :
    Ok X bb sb9 520 [(0, .ref (SA + 1)), (1, .ref a1), (2, .ref a2), (3, .ref a3), (4, .int (i3 x4)), (5, .int (i3 x5))] [.int (i3 t0)] n h := by
  refine ok_istore (pc := 520) hc (lv' := [(6, .int (i3 t0)), (0, .ref (SA + 1)), (1, .ref a1), (2, .ref a2), (3, .ref a3), (4, .int (i3 x4)), (5, .int (i3 x5))]) dL_law_520 (by decide) rfl ?_
  refine ok_aload_n (pc := 522) hc dL_law_522 rfl 3 rfl ?_
  refine ok_lv [1, 2, 3, 4, 5, 6, 0] rfl ?_
  exact ok_callV (pc := 523) (a := a2) (cb := bb) (sb := sb9) (st := []) hc [] cv_L_92 sp_X7_thrown (by decide) dL_law_523 rfl e1.1 e1.2 rfl rfl rfl (Nat.le_of_ble_eq_true rfl) P
set_option maxHeartbeats 4000000 in
set_option maxRecDepth 100000 in
theorem sL_law_526 {X : Xt} {n : Nat} {h : HP} {a1 : Nat} {a2 : Nat} {a3 : Nat} {x4 : Int} {x5 : Int} {x6 : Int} {t0 : Int} {bb : Nat} {sb9 : Nat} {len4 : Nat} {f4 : Nat → Int} (hc : Cx X cL_law RL 9 13 302) {L9 : Nat} {xs : Nat → Int32} (hX : ScX X L9 xs) (hL : CxL X) (e4 : At h n a3 (al len4 f4))
    (P : (R3 t0) ∧ (R3 x5) ∧ (t0 = x5 → (R3 x5) ∧ (¬ x5 = 0 → Ok X bb sb9 1415 [(0, .ref (SA + 1)), (1, .ref a1), (2, .ref a2), (3, .ref a3), (4, .int (i3 x4))] [] n h) ∧ (x5 = 0 → (Ix 0 len4) ∧ (R3 x6) ∧ (R6 (f4 (0 : Int).toNat) ∧ R6 x6) ∧ ((f4 (0 : Int).toNat) = x6 → Ok X bb sb9 1415 [(0, .ref (SA + 1)), (1, .ref a1), (2, .ref a2), (3, .ref a3), (4, .int (i3 x4))] [] n h) ∧ (¬ (f4 (0 : Int).toNat) = x6 → 0 = (1 : Int)))) ∧ (¬ t0 = x5 → 0 = (1 : Int))) :
    Ok X bb sb9 526 [(0, .ref (SA + 1)), (1, .ref a1), (2, .ref a2), (3, .ref a3), (4, .int (i3 x4)), (5, .int (i3 x5)), (6, .int (i3 x6))] [.int (i3 t0)] n h := by
  refine ok_iload (pc := 526) hc dL_law_526 5 rfl ?_
  obtain ⟨r1, P⟩ := P
  obtain ⟨r2, P⟩ := P
  refine zk_icmp_eq (pc := 528) (tgt := 533) hc dL_law_528 (by decide) r1 r2 (fun c => ?_) (fun c => ?_)
  · have P := P.1 c
    refine ok_iload (pc := 533) hc dL_law_533 5 rfl ?_
    obtain ⟨r3, P⟩ := P
    refine zk_if_ne (pc := 535) (tgt := 550) hc dL_law_535 (by decide) r3 (fun c => ?_) (fun c => ?_)
    · have P := P.1 c
      refine ok_goto (pc := 550) (tgt := 1415) hc dL_law_550 (by decide) ?_
      refine ok_lv [0, 1, 2, 3, 4] rfl ?_
      exact P
    · have P := P.2 c
      refine ok_aload_n (pc := 538) hc dL_law_538 rfl 3 rfl ?_
      refine ok_iconst (pc := 539) hc (v := i3 0) dL_law_539 (by decide) ?_
      obtain ⟨r, P⟩ := P
      refine zk_lald (pc := 540) hc dL_law_540 e4.1 e4.2 r ?_
      refine ok_iload (pc := 541) hc dL_law_541 6 rfl ?_
      obtain ⟨r5, P⟩ := P
      refine zk_i2l (pc := 543) hc dL_law_543 r5 ?_
      obtain ⟨r, P⟩ := P
      refine zk_lcmp (pc := 544) hc dL_law_544 r ?_
      refine zk_if_eq (pc := 545) (tgt := 550) hc dL_law_545 (by decide) R3_cmp (fun c => ?_) (fun c => ?_)
      · have P := P.1 (cmp_eq.mp c)
        refine ok_goto (pc := 550) (tgt := 1415) hc dL_law_550 (by decide) ?_
        refine ok_lv [0, 1, 2, 3, 4] rfl ?_
        exact P
      · have P := P.2 (fun z => c (cmp_eq.mpr z))
        refine ok_iconst (pc := 548) hc (v := i3 0) dL_law_548 (by decide) ?_
        exact ok_retL hc hL dL_law_549 P
  · have P := P.2 c
    refine ok_iconst (pc := 531) hc (v := i3 0) dL_law_531 (by decide) ?_
    exact ok_retL hc hL dL_law_532 P
theorem lw_keep {X : Xt} {L9 : Nat} {xs : Nat → Int32} (hc : Cx X cL_law RL 9 13 302) (hX : ScX X L9 xs) (hL : CxL X) (hL9 : L9 ≤ 2048) {i : Nat} (hi : i + 4 ≤ L9) {h : HP} {q : Dsk} (I : LwI h q) {bb sb9 : Nat} (k : ∀ (h' : HP) (q' : Dsk), LwI h' q' → Ok X bb sb9 1415 [(0, .ref (SA + 1)), (1, .ref 0), (2, .ref 128), (3, .ref 139), (4, .int (i3 i))] [] 140 h') : Ok X (bb + 1) (sb9 + 6) 497 [(0, .ref (SA + 1)), (1, .ref 0), (2, .ref 128), (3, .ref 139), (4, .int (i3 i))] [] 140 h := by
  obtain ⟨hD, ⟨t, hM⟩, g, hg⟩ := I
  obtain ⟨p0, hp0⟩ : ∃ p : Int, p = (xs ((i : Int) + 1).toNat).toInt := ⟨_, rfl⟩
  have r0 : R3 p0 := by rw [hp0]; exact R3_T _
  refine sL_law_497 (bb := bb) (sb9 := sb9) hc hX hL ?_
  rw [← hp0]
  refine ⟨⟨by omega, by omega, by omega⟩, q, 139, g, p0, rfl, r0, hD, hg, by omega, fun h1 g1 hD1 hg1 ez hfr => ⟨rfl, ?_⟩⟩
  have hM1 : MdA h1 140 q t := hM.pt (fun x hx => hfr x (by omega) (by omega))
  obtain ⟨I1, F1, m1, -⟩ := id hM1
  refine sL_law_508 hc hX hL m1.o rfl ?_
  rw [← hp0]
  refine ⟨⟨by omega, by omega, by omega⟩, q, t, p0, rfl, r0, hM1, fun h2 hM2 f2 => ⟨rfl, ?_⟩⟩
  obtain ⟨I2, F2, m2, -⟩ := id hM2
  show Ok X bb sb9 520 [(0, .ref (SA + 1)), (1, .ref 0), (2, .ref 128), (3, .ref 139), (4, .int (i3 i)), (5, .int (i3 (cdL [eIO] ((opKeep q p0).2))))] [.int (i3 (rvI ((opKeep q p0).2)))] 140 h2
  rw [← i3_T (i3 (rvI ((opKeep q p0).2)))]
  refine sL_law_520 hc hX hL m2.o rfl ⟨_, _, rfl, hM2, ⟨rfl, ?_⟩⟩
  have kk := k h2 _ ⟨hD1.out f2 (by omega), ⟨_, hM2⟩, g1, hg1.fr f2 (by omega)⟩
  have rc : R3 (cdL [eIO] ((opKeep q p0).2)) := R3_s (cdL_r _ _)
  refine sL_law_526 hc hX hL (hg1.fr f2 (by omega)) ⟨rc, rc, fun _ => ⟨rc, fun _ => kk, fun z => ?_⟩, fun z => absurd rfl z⟩
  obtain ⟨w, ew⟩ := cdL_0 z
  have e0 := ez w ew
  have e1 : g1 (0 : Int).toNat = (i3 (rvI ((opKeep q p0).2))).toInt := by rw [ew]; exact e0
  exact ⟨⟨by decide, by decide, by decide⟩, R3_T _, ⟨by rw [e1]; exact R36 (R3_T _), R36 (R3_T _)⟩, fun _ => kk, fun z => absurd e1 z⟩
set_option maxHeartbeats 4000000 in
set_option maxRecDepth 100000 in
theorem sL_law_553 {X : Xt} {n : Nat} {h : HP} {a1 : Nat} {a2 : Nat} {a3 : Nat} {x4 : Int} {bb : Nat} {sb9 : Nat} (hc : Cx X cL_law RL 9 13 302) {L9 : Nat} {xs : Nat → Int32} (hX : ScX X L9 xs) (hL : CxL X) 
    (P : (Ix (x4 + 1) L9) ∧ spec_L_back [.ref a1, .int (i3 ((xs ((x4 + 1) : Int).toNat).toInt)), .ref a3] n h (kn X bb sb9 561 [(0, .ref (SA + 1)), (1, .ref a1), (2, .ref a2), (3, .ref a3), (4, .int (i3 x4))] [] n)) :
    Ok X (bb + 2) (sb9 + 12) 553 [(0, .ref (SA + 1)), (1, .ref a1), (2, .ref a2), (3, .ref a3), (4, .int (i3 x4))] [] n h := by
  refine ok_aload_n (pc := 553) hc dL_law_553 rfl 1 rfl ?_
  refine ok_aload_n (pc := 554) hc dL_law_554 rfl 0 rfl ?_
  refine ok_iload (pc := 555) hc dL_law_555 4 rfl ?_
  refine ok_iconst (pc := 557) hc (v := i3 1) dL_law_557 (by decide) ?_
  refine zk_iadd (pc := 558) hc dL_law_558 ?_
  obtain ⟨r, P⟩ := P
  refine ok_sld (pc := 559) hc hX dL_law_559 r ?_
  refine ok_aload_n (pc := 560) hc dL_law_560 rfl 3 rfl ?_
  exact ok_callSW (pc := 561) (cb := bb) (sb := sb9) (st := []) hc [.ref a1, .int (i3 ((xs ((x4 + 1) : Int).toNat).toInt)), .ref a3] cw_L_115 sp_L_back (by decide) dL_law_561 rfl rfl rfl rfl (Nat.le_of_ble_eq_true rfl) P
set_option maxHeartbeats 4000000 in
set_option maxRecDepth 100000 in
theorem sL_law_564 {X : Xt} {n : Nat} {h : HP} {a1 : Nat} {a2 : Nat} {a3 : Nat} {x4 : Int} {t0 : Int} {bb : Nat} {sb9 : Nat} {fs1 : List Value} (hc : Cx X cL_law RL 9 13 302) {L9 : Nat} {xs : Nat → Int32} (hX : ScX X L9 xs) (hL : CxL X) (e1 : At h n a2 (.inl (7, fs1))) (z1 : fs1.length = 24)
    (P : (Ix (x4 + 1) L9) ∧ spec_X7_back [.ref a2, .int (i3 ((xs ((x4 + 1) : Int).toNat).toInt))] n h (kc X bb sb9 573 [(0, .ref (SA + 1)), (1, .ref a1), (2, .ref a2), (3, .ref a3), (4, .int (i3 x4)), (5, .int (i3 t0))] [] n)) :
    Ok X bb sb9 564 [(0, .ref (SA + 1)), (1, .ref a1), (2, .ref a2), (3, .ref a3), (4, .int (i3 x4))] [.int (i3 t0)] n h := by
  refine ok_istore (pc := 564) hc (lv' := [(5, .int (i3 t0)), (0, .ref (SA + 1)), (1, .ref a1), (2, .ref a2), (3, .ref a3), (4, .int (i3 x4))]) dL_law_564 (by decide) rfl ?_
  refine ok_aload_n (pc := 566) hc dL_law_566 rfl 3 rfl ?_
  refine ok_aload_n (pc := 567) hc dL_law_567 rfl 1 rfl ?_
  refine ok_iload (pc := 568) hc dL_law_568 5 rfl ?_
  refine ok_iconst (pc := 570) hc (v := i3 1) dL_law_570 (by decide) ?_
  refine zk_iadd (pc := 571) hc dL_law_571 ?_
  obtain ⟨r, P⟩ := P
  refine ok_sld (pc := 572) hc hX dL_law_572 r ?_
  refine ok_lv [1, 2, 3, 4, 5, 0] rfl ?_
  exact ok_callV (pc := 573) (a := a2) (cb := bb) (sb := sb9) (st := []) hc [.int (i3 ((xs ((x4 + 1) : Int).toNat).toInt))] cv_L_117 sp_X7_back (by decide) dL_law_573 rfl e1.1 e1.2 rfl rfl rfl (Nat.le_of_ble_eq_true rfl) P
set_option maxHeartbeats 4000000 in
set_option maxRecDepth 100000 in
theorem sL_law_576 {X : Xt} {n : Nat} {h : HP} {a1 : Nat} {a2 : Nat} {a3 : Nat} {x4 : Int} {x5 : Int} {t0 : Int} {bb : Nat} {sb9 : Nat} {fs1 : List Value} (hc : Cx X cL_law RL 9 13 302) {L9 : Nat} {xs : Nat → Int32} (hX : ScX X L9 xs) (hL : CxL X) (e1 : At h n a2 (.inl (7, fs1))) (z1 : fs1.length = 24)
    (P : spec_X7_thrown [.ref a2] n h (kc X bb sb9 579 [(0, .ref (SA + 1)), (1, .ref a1), (2, .ref a2), (3, .ref a3), (4, .int (i3 x4)), (5, .int (i3 x5)), (6, .int (i3 t0))] [] n)) :
    Ok X bb sb9 576 [(0, .ref (SA + 1)), (1, .ref a1), (2, .ref a2), (3, .ref a3), (4, .int (i3 x4)), (5, .int (i3 x5))] [.int (i3 t0)] n h := by
  refine ok_istore (pc := 576) hc (lv' := [(6, .int (i3 t0)), (0, .ref (SA + 1)), (1, .ref a1), (2, .ref a2), (3, .ref a3), (4, .int (i3 x4)), (5, .int (i3 x5))]) dL_law_576 (by decide) rfl ?_
  refine ok_aload_n (pc := 578) hc dL_law_578 rfl 3 rfl ?_
  refine ok_lv [1, 2, 3, 4, 5, 6, 0] rfl ?_
  exact ok_callV (pc := 579) (a := a2) (cb := bb) (sb := sb9) (st := []) hc [] cv_L_92 sp_X7_thrown (by decide) dL_law_579 rfl e1.1 e1.2 rfl rfl rfl (Nat.le_of_ble_eq_true rfl) P
set_option maxHeartbeats 4000000 in
set_option maxRecDepth 100000 in
theorem sL_law_582 {X : Xt} {n : Nat} {h : HP} {a1 : Nat} {a2 : Nat} {a3 : Nat} {x4 : Int} {x5 : Int} {x6 : Int} {t0 : Int} {bb : Nat} {sb9 : Nat} {len4 : Nat} {f4 : Nat → Int} (hc : Cx X cL_law RL 9 13 302) {L9 : Nat} {xs : Nat → Int32} (hX : ScX X L9 xs) (hL : CxL X) (e4 : At h n a3 (al len4 f4))
    (P : (R3 t0) ∧ (R3 x5) ∧ (t0 = x5 → (R3 x5) ∧ (¬ x5 = 0 → Ok X bb sb9 1415 [(0, .ref (SA + 1)), (1, .ref a1), (2, .ref a2), (3, .ref a3), (4, .int (i3 x4))] [] n h) ∧ (x5 = 0 → (Ix 0 len4) ∧ (R3 x6) ∧ (R6 (f4 (0 : Int).toNat) ∧ R6 x6) ∧ ((f4 (0 : Int).toNat) = x6 → Ok X bb sb9 1415 [(0, .ref (SA + 1)), (1, .ref a1), (2, .ref a2), (3, .ref a3), (4, .int (i3 x4))] [] n h) ∧ (¬ (f4 (0 : Int).toNat) = x6 → 0 = (1 : Int)))) ∧ (¬ t0 = x5 → 0 = (1 : Int))) :
    Ok X bb sb9 582 [(0, .ref (SA + 1)), (1, .ref a1), (2, .ref a2), (3, .ref a3), (4, .int (i3 x4)), (5, .int (i3 x5)), (6, .int (i3 x6))] [.int (i3 t0)] n h := by
  refine ok_iload (pc := 582) hc dL_law_582 5 rfl ?_
  obtain ⟨r1, P⟩ := P
  obtain ⟨r2, P⟩ := P
  refine zk_icmp_eq (pc := 584) (tgt := 589) hc dL_law_584 (by decide) r1 r2 (fun c => ?_) (fun c => ?_)
  · have P := P.1 c
    refine ok_iload (pc := 589) hc dL_law_589 5 rfl ?_
    obtain ⟨r3, P⟩ := P
    refine zk_if_ne (pc := 591) (tgt := 606) hc dL_law_591 (by decide) r3 (fun c => ?_) (fun c => ?_)
    · have P := P.1 c
      refine ok_goto (pc := 606) (tgt := 1415) hc dL_law_606 (by decide) ?_
      refine ok_lv [0, 1, 2, 3, 4] rfl ?_
      exact P
    · have P := P.2 c
      refine ok_aload_n (pc := 594) hc dL_law_594 rfl 3 rfl ?_
      refine ok_iconst (pc := 595) hc (v := i3 0) dL_law_595 (by decide) ?_
      obtain ⟨r, P⟩ := P
      refine zk_lald (pc := 596) hc dL_law_596 e4.1 e4.2 r ?_
      refine ok_iload (pc := 597) hc dL_law_597 6 rfl ?_
      obtain ⟨r5, P⟩ := P
      refine zk_i2l (pc := 599) hc dL_law_599 r5 ?_
      obtain ⟨r, P⟩ := P
      refine zk_lcmp (pc := 600) hc dL_law_600 r ?_
      refine zk_if_eq (pc := 601) (tgt := 606) hc dL_law_601 (by decide) R3_cmp (fun c => ?_) (fun c => ?_)
      · have P := P.1 (cmp_eq.mp c)
        refine ok_goto (pc := 606) (tgt := 1415) hc dL_law_606 (by decide) ?_
        refine ok_lv [0, 1, 2, 3, 4] rfl ?_
        exact P
      · have P := P.2 (fun z => c (cmp_eq.mpr z))
        refine ok_iconst (pc := 604) hc (v := i3 0) dL_law_604 (by decide) ?_
        exact ok_retL hc hL dL_law_605 P
  · have P := P.2 c
    refine ok_iconst (pc := 587) hc (v := i3 0) dL_law_587 (by decide) ?_
    exact ok_retL hc hL dL_law_588 P
theorem lw_back {X : Xt} {L9 : Nat} {xs : Nat → Int32} (hc : Cx X cL_law RL 9 13 302) (hX : ScX X L9 xs) (hL : CxL X) (hL9 : L9 ≤ 2048) {i : Nat} (hi : i + 4 ≤ L9) {h : HP} {q : Dsk} (I : LwI h q) {bb sb9 : Nat} (k : ∀ (h' : HP) (q' : Dsk), LwI h' q' → Ok X bb sb9 1415 [(0, .ref (SA + 1)), (1, .ref 0), (2, .ref 128), (3, .ref 139), (4, .int (i3 i))] [] 140 h') : Ok X (bb + 2) (sb9 + 12) 553 [(0, .ref (SA + 1)), (1, .ref 0), (2, .ref 128), (3, .ref 139), (4, .int (i3 i))] [] 140 h := by
  obtain ⟨hD, ⟨t, hM⟩, g, hg⟩ := I
  obtain ⟨p0, hp0⟩ : ∃ p : Int, p = (xs ((i : Int) + 1).toNat).toInt := ⟨_, rfl⟩
  have r0 : R3 p0 := by rw [hp0]; exact R3_T _
  refine sL_law_553 (bb := bb) (sb9 := sb9) hc hX hL ?_
  rw [← hp0]
  refine ⟨⟨by omega, by omega, by omega⟩, q, 139, g, p0, rfl, r0, hD, hg, by omega, fun h1 g1 hD1 hg1 ez hfr => ⟨rfl, ?_⟩⟩
  have hM1 : MdA h1 140 q t := hM.pt (fun x hx => hfr x (by omega) (by omega))
  obtain ⟨I1, F1, m1, -⟩ := id hM1
  refine sL_law_564 hc hX hL m1.o rfl ?_
  rw [← hp0]
  refine ⟨⟨by omega, by omega, by omega⟩, q, t, p0, rfl, r0, hM1, fun h2 hM2 f2 => ⟨rfl, ?_⟩⟩
  obtain ⟨I2, F2, m2, -⟩ := id hM2
  show Ok X bb sb9 576 [(0, .ref (SA + 1)), (1, .ref 0), (2, .ref 128), (3, .ref 139), (4, .int (i3 i)), (5, .int (i3 (cdL [eIO, eIS] ((opBack q p0).2))))] [.int (i3 (rvI ((opBack q p0).2)))] 140 h2
  rw [← i3_T (i3 (rvI ((opBack q p0).2)))]
  refine sL_law_576 hc hX hL m2.o rfl ⟨_, _, rfl, hM2, ⟨rfl, ?_⟩⟩
  have kk := k h2 _ ⟨hD1.out f2 (by omega), ⟨_, hM2⟩, g1, hg1.fr f2 (by omega)⟩
  have rc : R3 (cdL [eIO, eIS] ((opBack q p0).2)) := R3_s (cdL_r _ _)
  refine sL_law_582 hc hX hL (hg1.fr f2 (by omega)) ⟨rc, rc, fun _ => ⟨rc, fun _ => kk, fun z => ?_⟩, fun z => absurd rfl z⟩
  obtain ⟨w, ew⟩ := cdL_0 z
  have e0 := ez w ew
  have e1 : g1 (0 : Int).toNat = (i3 (rvI ((opBack q p0).2))).toInt := by rw [ew]; exact e0
  exact ⟨⟨by decide, by decide, by decide⟩, R3_T _, ⟨by rw [e1]; exact R36 (R3_T _), R36 (R3_T _)⟩, fun _ => kk, fun z => absurd e1 z⟩
set_option maxHeartbeats 4000000 in
set_option maxRecDepth 100000 in
theorem sL_law_609 {X : Xt} {n : Nat} {h : HP} {a1 : Nat} {a2 : Nat} {a3 : Nat} {x4 : Int} {bb : Nat} {sb9 : Nat} (hc : Cx X cL_law RL 9 13 302) {L9 : Nat} {xs : Nat → Int32} (hX : ScX X L9 xs) (hL : CxL X) 
    (P : (Ix (x4 + 1) L9) ∧ spec_L_append [.ref a1, .int (i3 ((xs ((x4 + 1) : Int).toNat).toInt)), .ref a3] n h (kn X bb sb9 617 [(0, .ref (SA + 1)), (1, .ref a1), (2, .ref a2), (3, .ref a3), (4, .int (i3 x4))] [] n)) :
    Ok X (bb + 1) (sb9 + 6) 609 [(0, .ref (SA + 1)), (1, .ref a1), (2, .ref a2), (3, .ref a3), (4, .int (i3 x4))] [] n h := by
  refine ok_aload_n (pc := 609) hc dL_law_609 rfl 1 rfl ?_
  refine ok_aload_n (pc := 610) hc dL_law_610 rfl 0 rfl ?_
  refine ok_iload (pc := 611) hc dL_law_611 4 rfl ?_
  refine ok_iconst (pc := 613) hc (v := i3 1) dL_law_613 (by decide) ?_
  refine zk_iadd (pc := 614) hc dL_law_614 ?_
  obtain ⟨r, P⟩ := P
  refine ok_sld (pc := 615) hc hX dL_law_615 r ?_
  refine ok_aload_n (pc := 616) hc dL_law_616 rfl 3 rfl ?_
  exact ok_callSW (pc := 617) (cb := bb) (sb := sb9) (st := []) hc [.ref a1, .int (i3 ((xs ((x4 + 1) : Int).toNat).toInt)), .ref a3] cw_L_118 sp_L_append (by decide) dL_law_617 rfl rfl rfl rfl (Nat.le_of_ble_eq_true rfl) P
set_option maxHeartbeats 4000000 in
set_option maxRecDepth 100000 in
theorem sL_law_620 {X : Xt} {n : Nat} {h : HP} {a1 : Nat} {a2 : Nat} {a3 : Nat} {x4 : Int} {t0 : Int} {bb : Nat} {sb9 : Nat} {fs1 : List Value} (hc : Cx X cL_law RL 9 13 302) {L9 : Nat} {xs : Nat → Int32} (hX : ScX X L9 xs) (hL : CxL X) (e1 : At h n a2 (.inl (7, fs1))) (z1 : fs1.length = 24)
    (P : (Ix (x4 + 1) L9) ∧ spec_X7_append [.ref a2, .int (i3 ((xs ((x4 + 1) : Int).toNat).toInt))] n h (kc X bb sb9 629 [(0, .ref (SA + 1)), (1, .ref a1), (2, .ref a2), (3, .ref a3), (4, .int (i3 x4)), (5, .int (i3 t0))] [] n)) :
    Ok X bb sb9 620 [(0, .ref (SA + 1)), (1, .ref a1), (2, .ref a2), (3, .ref a3), (4, .int (i3 x4))] [.int (i3 t0)] n h := by
  refine ok_istore (pc := 620) hc (lv' := [(5, .int (i3 t0)), (0, .ref (SA + 1)), (1, .ref a1), (2, .ref a2), (3, .ref a3), (4, .int (i3 x4))]) dL_law_620 (by decide) rfl ?_
  refine ok_aload_n (pc := 622) hc dL_law_622 rfl 3 rfl ?_
  refine ok_aload_n (pc := 623) hc dL_law_623 rfl 1 rfl ?_
  refine ok_iload (pc := 624) hc dL_law_624 5 rfl ?_
  refine ok_iconst (pc := 626) hc (v := i3 1) dL_law_626 (by decide) ?_
  refine zk_iadd (pc := 627) hc dL_law_627 ?_
  obtain ⟨r, P⟩ := P
  refine ok_sld (pc := 628) hc hX dL_law_628 r ?_
  refine ok_lv [1, 2, 3, 4, 5, 0] rfl ?_
  exact ok_callV (pc := 629) (a := a2) (cb := bb) (sb := sb9) (st := []) hc [.int (i3 ((xs ((x4 + 1) : Int).toNat).toInt))] cv_L_120 sp_X7_append (by decide) dL_law_629 rfl e1.1 e1.2 rfl rfl rfl (Nat.le_of_ble_eq_true rfl) P
set_option maxHeartbeats 4000000 in
set_option maxRecDepth 100000 in
theorem sL_law_632 {X : Xt} {n : Nat} {h : HP} {a1 : Nat} {a2 : Nat} {a3 : Nat} {x4 : Int} {x5 : Int} {t0 : Int} {bb : Nat} {sb9 : Nat} {fs1 : List Value} (hc : Cx X cL_law RL 9 13 302) {L9 : Nat} {xs : Nat → Int32} (hX : ScX X L9 xs) (hL : CxL X) (e1 : At h n a2 (.inl (7, fs1))) (z1 : fs1.length = 24)
    (P : spec_X7_thrown [.ref a2] n h (kc X bb sb9 635 [(0, .ref (SA + 1)), (1, .ref a1), (2, .ref a2), (3, .ref a3), (4, .int (i3 x4)), (5, .int (i3 x5)), (6, .int (i3 t0))] [] n)) :
    Ok X bb sb9 632 [(0, .ref (SA + 1)), (1, .ref a1), (2, .ref a2), (3, .ref a3), (4, .int (i3 x4)), (5, .int (i3 x5))] [.int (i3 t0)] n h := by
  refine ok_istore (pc := 632) hc (lv' := [(6, .int (i3 t0)), (0, .ref (SA + 1)), (1, .ref a1), (2, .ref a2), (3, .ref a3), (4, .int (i3 x4)), (5, .int (i3 x5))]) dL_law_632 (by decide) rfl ?_
  refine ok_aload_n (pc := 634) hc dL_law_634 rfl 3 rfl ?_
  refine ok_lv [1, 2, 3, 4, 5, 6, 0] rfl ?_
  exact ok_callV (pc := 635) (a := a2) (cb := bb) (sb := sb9) (st := []) hc [] cv_L_92 sp_X7_thrown (by decide) dL_law_635 rfl e1.1 e1.2 rfl rfl rfl (Nat.le_of_ble_eq_true rfl) P
set_option maxHeartbeats 4000000 in
set_option maxRecDepth 100000 in
theorem sL_law_638 {X : Xt} {n : Nat} {h : HP} {a1 : Nat} {a2 : Nat} {a3 : Nat} {x4 : Int} {x5 : Int} {x6 : Int} {t0 : Int} {bb : Nat} {sb9 : Nat} {len4 : Nat} {f4 : Nat → Int} (hc : Cx X cL_law RL 9 13 302) {L9 : Nat} {xs : Nat → Int32} (hX : ScX X L9 xs) (hL : CxL X) (e4 : At h n a3 (al len4 f4))
    (P : (R3 t0) ∧ (R3 x5) ∧ (t0 = x5 → (R3 x5) ∧ (¬ x5 = 0 → Ok X bb sb9 1415 [(0, .ref (SA + 1)), (1, .ref a1), (2, .ref a2), (3, .ref a3), (4, .int (i3 x4))] [] n h) ∧ (x5 = 0 → (Ix 0 len4) ∧ (R3 x6) ∧ (R6 (f4 (0 : Int).toNat) ∧ R6 x6) ∧ ((f4 (0 : Int).toNat) = x6 → Ok X bb sb9 1415 [(0, .ref (SA + 1)), (1, .ref a1), (2, .ref a2), (3, .ref a3), (4, .int (i3 x4))] [] n h) ∧ (¬ (f4 (0 : Int).toNat) = x6 → 0 = (1 : Int)))) ∧ (¬ t0 = x5 → 0 = (1 : Int))) :
    Ok X bb sb9 638 [(0, .ref (SA + 1)), (1, .ref a1), (2, .ref a2), (3, .ref a3), (4, .int (i3 x4)), (5, .int (i3 x5)), (6, .int (i3 x6))] [.int (i3 t0)] n h := by
  refine ok_iload (pc := 638) hc dL_law_638 5 rfl ?_
  obtain ⟨r1, P⟩ := P
  obtain ⟨r2, P⟩ := P
  refine zk_icmp_eq (pc := 640) (tgt := 645) hc dL_law_640 (by decide) r1 r2 (fun c => ?_) (fun c => ?_)
  · have P := P.1 c
    refine ok_iload (pc := 645) hc dL_law_645 5 rfl ?_
    obtain ⟨r3, P⟩ := P
    refine zk_if_ne (pc := 647) (tgt := 662) hc dL_law_647 (by decide) r3 (fun c => ?_) (fun c => ?_)
    · have P := P.1 c
      refine ok_goto (pc := 662) (tgt := 1415) hc dL_law_662 (by decide) ?_
      refine ok_lv [0, 1, 2, 3, 4] rfl ?_
      exact P
    · have P := P.2 c
      refine ok_aload_n (pc := 650) hc dL_law_650 rfl 3 rfl ?_
      refine ok_iconst (pc := 651) hc (v := i3 0) dL_law_651 (by decide) ?_
      obtain ⟨r, P⟩ := P
      refine zk_lald (pc := 652) hc dL_law_652 e4.1 e4.2 r ?_
      refine ok_iload (pc := 653) hc dL_law_653 6 rfl ?_
      obtain ⟨r5, P⟩ := P
      refine zk_i2l (pc := 655) hc dL_law_655 r5 ?_
      obtain ⟨r, P⟩ := P
      refine zk_lcmp (pc := 656) hc dL_law_656 r ?_
      refine zk_if_eq (pc := 657) (tgt := 662) hc dL_law_657 (by decide) R3_cmp (fun c => ?_) (fun c => ?_)
      · have P := P.1 (cmp_eq.mp c)
        refine ok_goto (pc := 662) (tgt := 1415) hc dL_law_662 (by decide) ?_
        refine ok_lv [0, 1, 2, 3, 4] rfl ?_
        exact P
      · have P := P.2 (fun z => c (cmp_eq.mpr z))
        refine ok_iconst (pc := 660) hc (v := i3 0) dL_law_660 (by decide) ?_
        exact ok_retL hc hL dL_law_661 P
  · have P := P.2 c
    refine ok_iconst (pc := 643) hc (v := i3 0) dL_law_643 (by decide) ?_
    exact ok_retL hc hL dL_law_644 P
theorem lw_append {X : Xt} {L9 : Nat} {xs : Nat → Int32} (hc : Cx X cL_law RL 9 13 302) (hX : ScX X L9 xs) (hL : CxL X) (hL9 : L9 ≤ 2048) {i : Nat} (hi : i + 4 ≤ L9) {h : HP} {q : Dsk} (I : LwI h q) {bb sb9 : Nat} (k : ∀ (h' : HP) (q' : Dsk), LwI h' q' → Ok X bb sb9 1415 [(0, .ref (SA + 1)), (1, .ref 0), (2, .ref 128), (3, .ref 139), (4, .int (i3 i))] [] 140 h') : Ok X (bb + 1) (sb9 + 6) 609 [(0, .ref (SA + 1)), (1, .ref 0), (2, .ref 128), (3, .ref 139), (4, .int (i3 i))] [] 140 h := by
  obtain ⟨hD, ⟨t, hM⟩, g, hg⟩ := I
  obtain ⟨p0, hp0⟩ : ∃ p : Int, p = (xs ((i : Int) + 1).toNat).toInt := ⟨_, rfl⟩
  have r0 : R3 p0 := by rw [hp0]; exact R3_T _
  refine sL_law_609 (bb := bb) (sb9 := sb9) hc hX hL ?_
  rw [← hp0]
  refine ⟨⟨by omega, by omega, by omega⟩, q, 139, g, p0, rfl, r0, hD, hg, by omega, fun h1 g1 hD1 hg1 ez hfr => ⟨rfl, ?_⟩⟩
  have hM1 : MdA h1 140 q t := hM.pt (fun x hx => hfr x (by omega) (by omega))
  obtain ⟨I1, F1, m1, -⟩ := id hM1
  refine sL_law_620 hc hX hL m1.o rfl ?_
  rw [← hp0]
  refine ⟨⟨by omega, by omega, by omega⟩, q, t, p0, rfl, r0, hM1, fun h2 hM2 f2 => ⟨rfl, ?_⟩⟩
  obtain ⟨I2, F2, m2, -⟩ := id hM2
  show Ok X bb sb9 632 [(0, .ref (SA + 1)), (1, .ref 0), (2, .ref 128), (3, .ref 139), (4, .int (i3 i)), (5, .int (i3 (cdL [eIA, eIS] ((opAppend q p0).2))))] [.int (i3 (rvI ((opAppend q p0).2)))] 140 h2
  rw [← i3_T (i3 (rvI ((opAppend q p0).2)))]
  refine sL_law_632 hc hX hL m2.o rfl ⟨_, _, rfl, hM2, ⟨rfl, ?_⟩⟩
  have kk := k h2 _ ⟨hD1.out f2 (by omega), ⟨_, hM2⟩, g1, hg1.fr f2 (by omega)⟩
  have rc : R3 (cdL [eIA, eIS] ((opAppend q p0).2)) := R3_s (cdL_r _ _)
  refine sL_law_638 hc hX hL (hg1.fr f2 (by omega)) ⟨rc, rc, fun _ => ⟨rc, fun _ => kk, fun z => ?_⟩, fun z => absurd rfl z⟩
  obtain ⟨w, ew⟩ := cdL_0 z
  have e0 := ez w ew
  have e1 : g1 (0 : Int).toNat = (i3 (rvI ((opAppend q p0).2))).toInt := by rw [ew]; exact e0
  exact ⟨⟨by decide, by decide, by decide⟩, R3_T _, ⟨by rw [e1]; exact R36 (R3_T _), R36 (R3_T _)⟩, fun _ => kk, fun z => absurd e1 z⟩
set_option maxHeartbeats 4000000 in
set_option maxRecDepth 100000 in
theorem sL_law_691 {X : Xt} {n : Nat} {h : HP} {a1 : Nat} {a2 : Nat} {a3 : Nat} {x4 : Int} {bb : Nat} {sb9 : Nat} (hc : Cx X cL_law RL 9 13 302) {L9 : Nat} {xs : Nat → Int32} (hX : ScX X L9 xs) (hL : CxL X) 
    (P : (Ix (x4 + 1) L9) ∧ (Ix (x4 + 2) L9) ∧ spec_L_voltage [.ref a1, .int (i3 ((xs ((x4 + 1) : Int).toNat).toInt)), .int (i3 ((xs ((x4 + 2) : Int).toNat).toInt)), .ref a3] n h (kn X bb sb9 705 [(0, .ref (SA + 1)), (1, .ref a1), (2, .ref a2), (3, .ref a3), (4, .int (i3 x4))] [] n)) :
    Ok X (bb + 2) (sb9 + 12) 691 [(0, .ref (SA + 1)), (1, .ref a1), (2, .ref a2), (3, .ref a3), (4, .int (i3 x4))] [] n h := by
  refine ok_aload_n (pc := 691) hc dL_law_691 rfl 1 rfl ?_
  refine ok_aload_n (pc := 692) hc dL_law_692 rfl 0 rfl ?_
  refine ok_iload (pc := 693) hc dL_law_693 4 rfl ?_
  refine ok_iconst (pc := 695) hc (v := i3 1) dL_law_695 (by decide) ?_
  refine zk_iadd (pc := 696) hc dL_law_696 ?_
  obtain ⟨r, P⟩ := P
  refine ok_sld (pc := 697) hc hX dL_law_697 r ?_
  refine ok_aload_n (pc := 698) hc dL_law_698 rfl 0 rfl ?_
  refine ok_iload (pc := 699) hc dL_law_699 4 rfl ?_
  refine ok_iconst (pc := 701) hc (v := i3 2) dL_law_701 (by decide) ?_
  refine zk_iadd (pc := 702) hc dL_law_702 ?_
  obtain ⟨r, P⟩ := P
  refine ok_sld (pc := 703) hc hX dL_law_703 r ?_
  refine ok_aload_n (pc := 704) hc dL_law_704 rfl 3 rfl ?_
  exact ok_callSW (pc := 705) (cb := bb) (sb := sb9) (st := []) hc [.ref a1, .int (i3 ((xs ((x4 + 1) : Int).toNat).toInt)), .int (i3 ((xs ((x4 + 2) : Int).toNat).toInt)), .ref a3] cw_L_129 sp_L_voltage (by decide) dL_law_705 rfl rfl rfl rfl (Nat.le_of_ble_eq_true rfl) P
set_option maxHeartbeats 4000000 in
set_option maxRecDepth 100000 in
theorem sL_law_708 {X : Xt} {n : Nat} {h : HP} {a1 : Nat} {a2 : Nat} {a3 : Nat} {x4 : Int} {t0 : Int} {bb : Nat} {sb9 : Nat} {fs1 : List Value} (hc : Cx X cL_law RL 9 13 302) {L9 : Nat} {xs : Nat → Int32} (hX : ScX X L9 xs) (hL : CxL X) (e1 : At h n a2 (.inl (7, fs1))) (z1 : fs1.length = 24)
    (P : (Ix (x4 + 1) L9) ∧ (Ix (x4 + 2) L9) ∧ spec_X7_voltage [.ref a2, .int (i3 ((xs ((x4 + 1) : Int).toNat).toInt)), .int (i3 ((xs ((x4 + 2) : Int).toNat).toInt))] n h (kc X bb sb9 723 [(0, .ref (SA + 1)), (1, .ref a1), (2, .ref a2), (3, .ref a3), (4, .int (i3 x4)), (5, .int (i3 t0))] [] n)) :
    Ok X bb sb9 708 [(0, .ref (SA + 1)), (1, .ref a1), (2, .ref a2), (3, .ref a3), (4, .int (i3 x4))] [.int (i3 t0)] n h := by
  refine ok_istore (pc := 708) hc (lv' := [(5, .int (i3 t0)), (0, .ref (SA + 1)), (1, .ref a1), (2, .ref a2), (3, .ref a3), (4, .int (i3 x4))]) dL_law_708 (by decide) rfl ?_
  refine ok_aload_n (pc := 710) hc dL_law_710 rfl 3 rfl ?_
  refine ok_aload_n (pc := 711) hc dL_law_711 rfl 1 rfl ?_
  refine ok_iload (pc := 712) hc dL_law_712 5 rfl ?_
  refine ok_iconst (pc := 714) hc (v := i3 1) dL_law_714 (by decide) ?_
  refine zk_iadd (pc := 715) hc dL_law_715 ?_
  obtain ⟨r, P⟩ := P
  refine ok_sld (pc := 716) hc hX dL_law_716 r ?_
  refine ok_aload_n (pc := 717) hc dL_law_717 rfl 1 rfl ?_
  refine ok_iload (pc := 718) hc dL_law_718 5 rfl ?_
  refine ok_iconst (pc := 720) hc (v := i3 2) dL_law_720 (by decide) ?_
  refine zk_iadd (pc := 721) hc dL_law_721 ?_
  obtain ⟨r, P⟩ := P
  refine ok_sld (pc := 722) hc hX dL_law_722 r ?_
  refine ok_lv [1, 2, 3, 4, 5, 0] rfl ?_
  exact ok_callV (pc := 723) (a := a2) (cb := bb) (sb := sb9) (st := []) hc [.int (i3 ((xs ((x4 + 1) : Int).toNat).toInt)), .int (i3 ((xs ((x4 + 2) : Int).toNat).toInt))] cv_L_131 sp_X7_voltage (by decide) dL_law_723 rfl e1.1 e1.2 rfl rfl rfl (Nat.le_of_ble_eq_true rfl) P
set_option maxHeartbeats 4000000 in
set_option maxRecDepth 100000 in
theorem sL_law_726 {X : Xt} {n : Nat} {h : HP} {a1 : Nat} {a2 : Nat} {a3 : Nat} {x4 : Int} {x5 : Int} {tl0 : Int} {bb : Nat} {sb9 : Nat} {fs1 : List Value} (hc : Cx X cL_law RL 9 13 302) {L9 : Nat} {xs : Nat → Int32} (hX : ScX X L9 xs) (hL : CxL X) (e1 : At h n a2 (.inl (7, fs1))) (z1 : fs1.length = 24)
    (P : spec_X7_thrown [.ref a2] n h (kc X bb sb9 729 [(0, .ref (SA + 1)), (1, .ref a1), (2, .ref a2), (3, .ref a3), (4, .int (i3 x4)), (5, .int (i3 x5)), (6, .long (i6 tl0))] [] n)) :
    Ok X bb sb9 726 [(0, .ref (SA + 1)), (1, .ref a1), (2, .ref a2), (3, .ref a3), (4, .int (i3 x4)), (5, .int (i3 x5))] [.long (i6 tl0)] n h := by
  refine ok_lstore (pc := 726) hc (lv' := [(6, .long (i6 tl0)), (0, .ref (SA + 1)), (1, .ref a1), (2, .ref a2), (3, .ref a3), (4, .int (i3 x4)), (5, .int (i3 x5))]) dL_law_726 (by decide) rfl ?_
  refine ok_aload_n (pc := 728) hc dL_law_728 rfl 3 rfl ?_
  refine ok_lv [1, 2, 3, 4, 5, 6, 0] rfl ?_
  exact ok_callV (pc := 729) (a := a2) (cb := bb) (sb := sb9) (st := []) hc [] cv_L_92 sp_X7_thrown (by decide) dL_law_729 rfl e1.1 e1.2 rfl rfl rfl (Nat.le_of_ble_eq_true rfl) P
set_option maxHeartbeats 4000000 in
set_option maxRecDepth 100000 in
theorem sL_law_732 {X : Xt} {n : Nat} {h : HP} {a1 : Nat} {a2 : Nat} {a3 : Nat} {x4 : Int} {x5 : Int} {l6 : Int} {t0 : Int} {bb : Nat} {sb9 : Nat} {len4 : Nat} {f4 : Nat → Int} (hc : Cx X cL_law RL 9 13 302) {L9 : Nat} {xs : Nat → Int32} (hX : ScX X L9 xs) (hL : CxL X) (e4 : At h n a3 (al len4 f4))
    (P : (R3 t0) ∧ (R3 x5) ∧ (t0 = x5 → (R3 x5) ∧ (¬ x5 = 0 → Ok X bb sb9 1415 [(0, .ref (SA + 1)), (1, .ref a1), (2, .ref a2), (3, .ref a3), (4, .int (i3 x4))] [] n h) ∧ (x5 = 0 → (Ix 0 len4) ∧ (R6 (f4 (0 : Int).toNat) ∧ R6 l6) ∧ ((f4 (0 : Int).toNat) = l6 → Ok X bb sb9 1415 [(0, .ref (SA + 1)), (1, .ref a1), (2, .ref a2), (3, .ref a3), (4, .int (i3 x4))] [] n h) ∧ (¬ (f4 (0 : Int).toNat) = l6 → 0 = (1 : Int)))) ∧ (¬ t0 = x5 → 0 = (1 : Int))) :
    Ok X bb sb9 732 [(0, .ref (SA + 1)), (1, .ref a1), (2, .ref a2), (3, .ref a3), (4, .int (i3 x4)), (5, .int (i3 x5)), (6, .long (i6 l6))] [.int (i3 t0)] n h := by
  refine ok_iload (pc := 732) hc dL_law_732 5 rfl ?_
  obtain ⟨r1, P⟩ := P
  obtain ⟨r2, P⟩ := P
  refine zk_icmp_eq (pc := 734) (tgt := 739) hc dL_law_734 (by decide) r1 r2 (fun c => ?_) (fun c => ?_)
  · have P := P.1 c
    refine ok_iload (pc := 739) hc dL_law_739 5 rfl ?_
    obtain ⟨r3, P⟩ := P
    refine zk_if_ne (pc := 741) (tgt := 755) hc dL_law_741 (by decide) r3 (fun c => ?_) (fun c => ?_)
    · have P := P.1 c
      refine ok_goto (pc := 755) (tgt := 1415) hc dL_law_755 (by decide) ?_
      refine ok_lv [0, 1, 2, 3, 4] rfl ?_
      exact P
    · have P := P.2 c
      refine ok_aload_n (pc := 744) hc dL_law_744 rfl 3 rfl ?_
      refine ok_iconst (pc := 745) hc (v := i3 0) dL_law_745 (by decide) ?_
      obtain ⟨r, P⟩ := P
      refine zk_lald (pc := 746) hc dL_law_746 e4.1 e4.2 r ?_
      refine ok_lload (pc := 747) hc dL_law_747 6 rfl ?_
      obtain ⟨r, P⟩ := P
      refine zk_lcmp (pc := 749) hc dL_law_749 r ?_
      refine zk_if_eq (pc := 750) (tgt := 755) hc dL_law_750 (by decide) R3_cmp (fun c => ?_) (fun c => ?_)
      · have P := P.1 (cmp_eq.mp c)
        refine ok_goto (pc := 755) (tgt := 1415) hc dL_law_755 (by decide) ?_
        refine ok_lv [0, 1, 2, 3, 4] rfl ?_
        exact P
      · have P := P.2 (fun z => c (cmp_eq.mpr z))
        refine ok_iconst (pc := 753) hc (v := i3 0) dL_law_753 (by decide) ?_
        exact ok_retL hc hL dL_law_754 P
  · have P := P.2 c
    refine ok_iconst (pc := 737) hc (v := i3 0) dL_law_737 (by decide) ?_
    exact ok_retL hc hL dL_law_738 P
theorem lw_voltage {X : Xt} {L9 : Nat} {xs : Nat → Int32} (hc : Cx X cL_law RL 9 13 302) (hX : ScX X L9 xs) (hL : CxL X) (hL9 : L9 ≤ 2048) {i : Nat} (hi : i + 4 ≤ L9) {h : HP} {q : Dsk} (I : LwI h q) {bb sb9 : Nat} (k : ∀ (h' : HP) (q' : Dsk), LwI h' q' → Ok X bb sb9 1415 [(0, .ref (SA + 1)), (1, .ref 0), (2, .ref 128), (3, .ref 139), (4, .int (i3 i))] [] 140 h') : Ok X (bb + 2) (sb9 + 12) 691 [(0, .ref (SA + 1)), (1, .ref 0), (2, .ref 128), (3, .ref 139), (4, .int (i3 i))] [] 140 h := by
  obtain ⟨hD, ⟨t, hM⟩, g, hg⟩ := I
  obtain ⟨p0, hp0⟩ : ∃ p : Int, p = (xs ((i : Int) + 1).toNat).toInt := ⟨_, rfl⟩
  have r0 : R3 p0 := by rw [hp0]; exact R3_T _
  obtain ⟨p1, hp1⟩ : ∃ p : Int, p = (xs ((i : Int) + 2).toNat).toInt := ⟨_, rfl⟩
  have r1 : R3 p1 := by rw [hp1]; exact R3_T _
  refine sL_law_691 (bb := bb) (sb9 := sb9) hc hX hL ?_
  rw [← hp0, ← hp1]
  refine ⟨⟨by omega, by omega, by omega⟩, ⟨by omega, by omega, by omega⟩, q, 139, g, p0, p1, rfl, r0, r1, hD, hg, by omega, fun h1 g1 hD1 hg1 ez hfr => ⟨rfl, ?_⟩⟩
  have hM1 : MdA h1 140 q t := hM.pt (fun x hx => hfr x (by omega) (by omega))
  obtain ⟨I1, F1, m1, -⟩ := id hM1
  refine sL_law_708 hc hX hL m1.o rfl ?_
  rw [← hp0, ← hp1]
  refine ⟨⟨by omega, by omega, by omega⟩, ⟨by omega, by omega, by omega⟩, q, t, p0, p1, rfl, r0, r1, hM1, fun h2 hM2 f2 => ⟨rfl, ?_⟩⟩
  obtain ⟨I2, F2, m2, -⟩ := id hM2
  show Ok X bb sb9 726 [(0, .ref (SA + 1)), (1, .ref 0), (2, .ref 128), (3, .ref 139), (4, .int (i3 i)), (5, .int (i3 (cdL [eIO, eIA] (opVolt q p0 p1))))] [.long (i6 (rvI (opVolt q p0 p1)))] 140 h2
  rw [← i6_T (i6 (rvI (opVolt q p0 p1)))]
  refine sL_law_726 hc hX hL m2.o rfl ⟨_, _, rfl, hM2, ⟨rfl, ?_⟩⟩
  have kk := k h2 _ ⟨hD1.out f2 (by omega), ⟨_, hM2⟩, g1, hg1.fr f2 (by omega)⟩
  have rc : R3 (cdL [eIO, eIA] (opVolt q p0 p1)) := R3_s (cdL_r _ _)
  refine sL_law_732 hc hX hL (hg1.fr f2 (by omega)) ⟨rc, rc, fun _ => ⟨rc, fun _ => kk, fun z => ?_⟩, fun z => absurd rfl z⟩
  obtain ⟨w, ew⟩ := cdL_0 z
  have e0 := ez w ew
  have e1 : g1 (0 : Int).toNat = (i6 (rvI (opVolt q p0 p1))).toInt := by rw [ew]; exact e0
  exact ⟨⟨by decide, by decide, by decide⟩, ⟨by rw [e1]; exact R6_T _, R6_T _⟩, fun _ => kk, fun z => absurd e1 z⟩
set_option maxHeartbeats 4000000 in
set_option maxRecDepth 100000 in
theorem sL_law_758 {X : Xt} {n : Nat} {h : HP} {a1 : Nat} {a2 : Nat} {a3 : Nat} {x4 : Int} {bb : Nat} {sb9 : Nat} (hc : Cx X cL_law RL 9 13 302) {L9 : Nat} {xs : Nat → Int32} (hX : ScX X L9 xs) (hL : CxL X) 
    (P : (Ix (x4 + 1) L9) ∧ (Ix (x4 + 2) L9) ∧ spec_L_current [.ref a1, .int (i3 ((xs ((x4 + 1) : Int).toNat).toInt)), .int (i3 ((xs ((x4 + 2) : Int).toNat).toInt)), .ref a3] n h (kn X bb sb9 772 [(0, .ref (SA + 1)), (1, .ref a1), (2, .ref a2), (3, .ref a3), (4, .int (i3 x4))] [] n)) :
    Ok X (bb + 3) (sb9 + 18) 758 [(0, .ref (SA + 1)), (1, .ref a1), (2, .ref a2), (3, .ref a3), (4, .int (i3 x4))] [] n h := by
  refine ok_aload_n (pc := 758) hc dL_law_758 rfl 1 rfl ?_
  refine ok_aload_n (pc := 759) hc dL_law_759 rfl 0 rfl ?_
  refine ok_iload (pc := 760) hc dL_law_760 4 rfl ?_
  refine ok_iconst (pc := 762) hc (v := i3 1) dL_law_762 (by decide) ?_
  refine zk_iadd (pc := 763) hc dL_law_763 ?_
  obtain ⟨r, P⟩ := P
  refine ok_sld (pc := 764) hc hX dL_law_764 r ?_
  refine ok_aload_n (pc := 765) hc dL_law_765 rfl 0 rfl ?_
  refine ok_iload (pc := 766) hc dL_law_766 4 rfl ?_
  refine ok_iconst (pc := 768) hc (v := i3 2) dL_law_768 (by decide) ?_
  refine zk_iadd (pc := 769) hc dL_law_769 ?_
  obtain ⟨r, P⟩ := P
  refine ok_sld (pc := 770) hc hX dL_law_770 r ?_
  refine ok_aload_n (pc := 771) hc dL_law_771 rfl 3 rfl ?_
  exact ok_callSW (pc := 772) (cb := bb) (sb := sb9) (st := []) hc [.ref a1, .int (i3 ((xs ((x4 + 1) : Int).toNat).toInt)), .int (i3 ((xs ((x4 + 2) : Int).toNat).toInt)), .ref a3] cw_L_132 sp_L_current (by decide) dL_law_772 rfl rfl rfl rfl (Nat.le_of_ble_eq_true rfl) P
set_option maxHeartbeats 4000000 in
set_option maxRecDepth 100000 in
theorem sL_law_775 {X : Xt} {n : Nat} {h : HP} {a1 : Nat} {a2 : Nat} {a3 : Nat} {x4 : Int} {t0 : Int} {bb : Nat} {sb9 : Nat} {fs1 : List Value} (hc : Cx X cL_law RL 9 13 302) {L9 : Nat} {xs : Nat → Int32} (hX : ScX X L9 xs) (hL : CxL X) (e1 : At h n a2 (.inl (7, fs1))) (z1 : fs1.length = 24)
    (P : (Ix (x4 + 1) L9) ∧ (Ix (x4 + 2) L9) ∧ spec_X7_current [.ref a2, .int (i3 ((xs ((x4 + 1) : Int).toNat).toInt)), .int (i3 ((xs ((x4 + 2) : Int).toNat).toInt))] n h (kc X bb sb9 790 [(0, .ref (SA + 1)), (1, .ref a1), (2, .ref a2), (3, .ref a3), (4, .int (i3 x4)), (5, .int (i3 t0))] [] n)) :
    Ok X bb sb9 775 [(0, .ref (SA + 1)), (1, .ref a1), (2, .ref a2), (3, .ref a3), (4, .int (i3 x4))] [.int (i3 t0)] n h := by
  refine ok_istore (pc := 775) hc (lv' := [(5, .int (i3 t0)), (0, .ref (SA + 1)), (1, .ref a1), (2, .ref a2), (3, .ref a3), (4, .int (i3 x4))]) dL_law_775 (by decide) rfl ?_
  refine ok_aload_n (pc := 777) hc dL_law_777 rfl 3 rfl ?_
  refine ok_aload_n (pc := 778) hc dL_law_778 rfl 1 rfl ?_
  refine ok_iload (pc := 779) hc dL_law_779 5 rfl ?_
  refine ok_iconst (pc := 781) hc (v := i3 1) dL_law_781 (by decide) ?_
  refine zk_iadd (pc := 782) hc dL_law_782 ?_
  obtain ⟨r, P⟩ := P
  refine ok_sld (pc := 783) hc hX dL_law_783 r ?_
  refine ok_aload_n (pc := 784) hc dL_law_784 rfl 1 rfl ?_
  refine ok_iload (pc := 785) hc dL_law_785 5 rfl ?_
  refine ok_iconst (pc := 787) hc (v := i3 2) dL_law_787 (by decide) ?_
  refine zk_iadd (pc := 788) hc dL_law_788 ?_
  obtain ⟨r, P⟩ := P
  refine ok_sld (pc := 789) hc hX dL_law_789 r ?_
  refine ok_lv [1, 2, 3, 4, 5, 0] rfl ?_
  exact ok_callV (pc := 790) (a := a2) (cb := bb) (sb := sb9) (st := []) hc [.int (i3 ((xs ((x4 + 1) : Int).toNat).toInt)), .int (i3 ((xs ((x4 + 2) : Int).toNat).toInt))] cv_L_134 sp_X7_current (by decide) dL_law_790 rfl e1.1 e1.2 rfl rfl rfl (Nat.le_of_ble_eq_true rfl) P
set_option maxHeartbeats 4000000 in
set_option maxRecDepth 100000 in
theorem sL_law_793 {X : Xt} {n : Nat} {h : HP} {a1 : Nat} {a2 : Nat} {a3 : Nat} {x4 : Int} {x5 : Int} {tl0 : Int} {bb : Nat} {sb9 : Nat} {fs1 : List Value} (hc : Cx X cL_law RL 9 13 302) {L9 : Nat} {xs : Nat → Int32} (hX : ScX X L9 xs) (hL : CxL X) (e1 : At h n a2 (.inl (7, fs1))) (z1 : fs1.length = 24)
    (P : spec_X7_thrown [.ref a2] n h (kc X bb sb9 796 [(0, .ref (SA + 1)), (1, .ref a1), (2, .ref a2), (3, .ref a3), (4, .int (i3 x4)), (5, .int (i3 x5)), (6, .long (i6 tl0))] [] n)) :
    Ok X bb sb9 793 [(0, .ref (SA + 1)), (1, .ref a1), (2, .ref a2), (3, .ref a3), (4, .int (i3 x4)), (5, .int (i3 x5))] [.long (i6 tl0)] n h := by
  refine ok_lstore (pc := 793) hc (lv' := [(6, .long (i6 tl0)), (0, .ref (SA + 1)), (1, .ref a1), (2, .ref a2), (3, .ref a3), (4, .int (i3 x4)), (5, .int (i3 x5))]) dL_law_793 (by decide) rfl ?_
  refine ok_aload_n (pc := 795) hc dL_law_795 rfl 3 rfl ?_
  refine ok_lv [1, 2, 3, 4, 5, 6, 0] rfl ?_
  exact ok_callV (pc := 796) (a := a2) (cb := bb) (sb := sb9) (st := []) hc [] cv_L_92 sp_X7_thrown (by decide) dL_law_796 rfl e1.1 e1.2 rfl rfl rfl (Nat.le_of_ble_eq_true rfl) P
set_option maxHeartbeats 4000000 in
set_option maxRecDepth 100000 in
theorem sL_law_799 {X : Xt} {n : Nat} {h : HP} {a1 : Nat} {a2 : Nat} {a3 : Nat} {x4 : Int} {x5 : Int} {l6 : Int} {t0 : Int} {bb : Nat} {sb9 : Nat} {len4 : Nat} {f4 : Nat → Int} (hc : Cx X cL_law RL 9 13 302) {L9 : Nat} {xs : Nat → Int32} (hX : ScX X L9 xs) (hL : CxL X) (e4 : At h n a3 (al len4 f4))
    (P : (R3 t0) ∧ (R3 x5) ∧ (t0 = x5 → (R3 x5) ∧ (¬ x5 = 0 → Ok X bb sb9 1415 [(0, .ref (SA + 1)), (1, .ref a1), (2, .ref a2), (3, .ref a3), (4, .int (i3 x4))] [] n h) ∧ (x5 = 0 → (Ix 0 len4) ∧ (R6 (f4 (0 : Int).toNat) ∧ R6 l6) ∧ ((f4 (0 : Int).toNat) = l6 → Ok X bb sb9 1415 [(0, .ref (SA + 1)), (1, .ref a1), (2, .ref a2), (3, .ref a3), (4, .int (i3 x4))] [] n h) ∧ (¬ (f4 (0 : Int).toNat) = l6 → 0 = (1 : Int)))) ∧ (¬ t0 = x5 → 0 = (1 : Int))) :
    Ok X bb sb9 799 [(0, .ref (SA + 1)), (1, .ref a1), (2, .ref a2), (3, .ref a3), (4, .int (i3 x4)), (5, .int (i3 x5)), (6, .long (i6 l6))] [.int (i3 t0)] n h := by
  refine ok_iload (pc := 799) hc dL_law_799 5 rfl ?_
  obtain ⟨r1, P⟩ := P
  obtain ⟨r2, P⟩ := P
  refine zk_icmp_eq (pc := 801) (tgt := 806) hc dL_law_801 (by decide) r1 r2 (fun c => ?_) (fun c => ?_)
  · have P := P.1 c
    refine ok_iload (pc := 806) hc dL_law_806 5 rfl ?_
    obtain ⟨r3, P⟩ := P
    refine zk_if_ne (pc := 808) (tgt := 822) hc dL_law_808 (by decide) r3 (fun c => ?_) (fun c => ?_)
    · have P := P.1 c
      refine ok_goto (pc := 822) (tgt := 1415) hc dL_law_822 (by decide) ?_
      refine ok_lv [0, 1, 2, 3, 4] rfl ?_
      exact P
    · have P := P.2 c
      refine ok_aload_n (pc := 811) hc dL_law_811 rfl 3 rfl ?_
      refine ok_iconst (pc := 812) hc (v := i3 0) dL_law_812 (by decide) ?_
      obtain ⟨r, P⟩ := P
      refine zk_lald (pc := 813) hc dL_law_813 e4.1 e4.2 r ?_
      refine ok_lload (pc := 814) hc dL_law_814 6 rfl ?_
      obtain ⟨r, P⟩ := P
      refine zk_lcmp (pc := 816) hc dL_law_816 r ?_
      refine zk_if_eq (pc := 817) (tgt := 822) hc dL_law_817 (by decide) R3_cmp (fun c => ?_) (fun c => ?_)
      · have P := P.1 (cmp_eq.mp c)
        refine ok_goto (pc := 822) (tgt := 1415) hc dL_law_822 (by decide) ?_
        refine ok_lv [0, 1, 2, 3, 4] rfl ?_
        exact P
      · have P := P.2 (fun z => c (cmp_eq.mpr z))
        refine ok_iconst (pc := 820) hc (v := i3 0) dL_law_820 (by decide) ?_
        exact ok_retL hc hL dL_law_821 P
  · have P := P.2 c
    refine ok_iconst (pc := 804) hc (v := i3 0) dL_law_804 (by decide) ?_
    exact ok_retL hc hL dL_law_805 P
theorem lw_current {X : Xt} {L9 : Nat} {xs : Nat → Int32} (hc : Cx X cL_law RL 9 13 302) (hX : ScX X L9 xs) (hL : CxL X) (hL9 : L9 ≤ 2048) {i : Nat} (hi : i + 4 ≤ L9) {h : HP} {q : Dsk} (I : LwI h q) {bb sb9 : Nat} (k : ∀ (h' : HP) (q' : Dsk), LwI h' q' → Ok X bb sb9 1415 [(0, .ref (SA + 1)), (1, .ref 0), (2, .ref 128), (3, .ref 139), (4, .int (i3 i))] [] 140 h') : Ok X (bb + 3) (sb9 + 18) 758 [(0, .ref (SA + 1)), (1, .ref 0), (2, .ref 128), (3, .ref 139), (4, .int (i3 i))] [] 140 h := by
  obtain ⟨hD, ⟨t, hM⟩, g, hg⟩ := I
  obtain ⟨p0, hp0⟩ : ∃ p : Int, p = (xs ((i : Int) + 1).toNat).toInt := ⟨_, rfl⟩
  have r0 : R3 p0 := by rw [hp0]; exact R3_T _
  obtain ⟨p1, hp1⟩ : ∃ p : Int, p = (xs ((i : Int) + 2).toNat).toInt := ⟨_, rfl⟩
  have r1 : R3 p1 := by rw [hp1]; exact R3_T _
  refine sL_law_758 (bb := bb) (sb9 := sb9) hc hX hL ?_
  rw [← hp0, ← hp1]
  refine ⟨⟨by omega, by omega, by omega⟩, ⟨by omega, by omega, by omega⟩, q, 139, g, p0, p1, rfl, r0, r1, hD, hg, by omega, fun h1 g1 hD1 hg1 ez hfr => ⟨rfl, ?_⟩⟩
  have hM1 : MdA h1 140 q t := hM.pt (fun x hx => hfr x (by omega) (by omega))
  obtain ⟨I1, F1, m1, -⟩ := id hM1
  refine sL_law_775 hc hX hL m1.o rfl ?_
  rw [← hp0, ← hp1]
  refine ⟨⟨by omega, by omega, by omega⟩, ⟨by omega, by omega, by omega⟩, q, t, p0, p1, rfl, r0, r1, hM1, fun h2 hM2 f2 => ⟨rfl, ?_⟩⟩
  obtain ⟨I2, F2, m2, -⟩ := id hM2
  show Ok X bb sb9 793 [(0, .ref (SA + 1)), (1, .ref 0), (2, .ref 128), (3, .ref 139), (4, .int (i3 i)), (5, .int (i3 (cdL [eIO, eIS, eIA] (opCurr q p0 p1))))] [.long (i6 (rvI (opCurr q p0 p1)))] 140 h2
  rw [← i6_T (i6 (rvI (opCurr q p0 p1)))]
  refine sL_law_793 hc hX hL m2.o rfl ⟨_, _, rfl, hM2, ⟨rfl, ?_⟩⟩
  have kk := k h2 _ ⟨hD1.out f2 (by omega), ⟨_, hM2⟩, g1, hg1.fr f2 (by omega)⟩
  have rc : R3 (cdL [eIO, eIS, eIA] (opCurr q p0 p1)) := R3_s (cdL_r _ _)
  refine sL_law_799 hc hX hL (hg1.fr f2 (by omega)) ⟨rc, rc, fun _ => ⟨rc, fun _ => kk, fun z => ?_⟩, fun z => absurd rfl z⟩
  obtain ⟨w, ew⟩ := cdL_0 z
  have e0 := ez w ew
  have e1 : g1 (0 : Int).toNat = (i6 (rvI (opCurr q p0 p1))).toInt := by rw [ew]; exact e0
  exact ⟨⟨by decide, by decide, by decide⟩, ⟨by rw [e1]; exact R6_T _, R6_T _⟩, fun _ => kk, fun z => absurd e1 z⟩
set_option maxHeartbeats 4000000 in
set_option maxRecDepth 100000 in
theorem sL_law_825 {X : Xt} {n : Nat} {h : HP} {a1 : Nat} {a2 : Nat} {a3 : Nat} {x4 : Int} {bb : Nat} {sb9 : Nat} (hc : Cx X cL_law RL 9 13 302) {L9 : Nat} {xs : Nat → Int32} (hX : ScX X L9 xs) (hL : CxL X) 
    (P : (Ix (x4 + 1) L9) ∧ (Ix (x4 + 2) L9) ∧ spec_L_amplifier [.ref a1, .int (i3 ((xs ((x4 + 1) : Int).toNat).toInt)), .int (i3 ((xs ((x4 + 2) : Int).toNat).toInt)), .ref a3] n h (kn X bb sb9 839 [(0, .ref (SA + 1)), (1, .ref a1), (2, .ref a2), (3, .ref a3), (4, .int (i3 x4))] [] n)) :
    Ok X (bb + 1) (sb9 + 6) 825 [(0, .ref (SA + 1)), (1, .ref a1), (2, .ref a2), (3, .ref a3), (4, .int (i3 x4))] [] n h := by
  refine ok_aload_n (pc := 825) hc dL_law_825 rfl 1 rfl ?_
  refine ok_aload_n (pc := 826) hc dL_law_826 rfl 0 rfl ?_
  refine ok_iload (pc := 827) hc dL_law_827 4 rfl ?_
  refine ok_iconst (pc := 829) hc (v := i3 1) dL_law_829 (by decide) ?_
  refine zk_iadd (pc := 830) hc dL_law_830 ?_
  obtain ⟨r, P⟩ := P
  refine ok_sld (pc := 831) hc hX dL_law_831 r ?_
  refine ok_aload_n (pc := 832) hc dL_law_832 rfl 0 rfl ?_
  refine ok_iload (pc := 833) hc dL_law_833 4 rfl ?_
  refine ok_iconst (pc := 835) hc (v := i3 2) dL_law_835 (by decide) ?_
  refine zk_iadd (pc := 836) hc dL_law_836 ?_
  obtain ⟨r, P⟩ := P
  refine ok_sld (pc := 837) hc hX dL_law_837 r ?_
  refine ok_aload_n (pc := 838) hc dL_law_838 rfl 3 rfl ?_
  exact ok_callSW (pc := 839) (cb := bb) (sb := sb9) (st := []) hc [.ref a1, .int (i3 ((xs ((x4 + 1) : Int).toNat).toInt)), .int (i3 ((xs ((x4 + 2) : Int).toNat).toInt)), .ref a3] cw_L_135 sp_L_amplifier (by decide) dL_law_839 rfl rfl rfl rfl (Nat.le_of_ble_eq_true rfl) P
set_option maxHeartbeats 4000000 in
set_option maxRecDepth 100000 in
theorem sL_law_842 {X : Xt} {n : Nat} {h : HP} {a1 : Nat} {a2 : Nat} {a3 : Nat} {x4 : Int} {t0 : Int} {bb : Nat} {sb9 : Nat} {fs1 : List Value} (hc : Cx X cL_law RL 9 13 302) {L9 : Nat} {xs : Nat → Int32} (hX : ScX X L9 xs) (hL : CxL X) (e1 : At h n a2 (.inl (7, fs1))) (z1 : fs1.length = 24)
    (P : (Ix (x4 + 1) L9) ∧ (Ix (x4 + 2) L9) ∧ spec_X7_amplifier [.ref a2, .int (i3 ((xs ((x4 + 1) : Int).toNat).toInt)), .int (i3 ((xs ((x4 + 2) : Int).toNat).toInt))] n h (kc X bb sb9 857 [(0, .ref (SA + 1)), (1, .ref a1), (2, .ref a2), (3, .ref a3), (4, .int (i3 x4)), (5, .int (i3 t0))] [] n)) :
    Ok X bb sb9 842 [(0, .ref (SA + 1)), (1, .ref a1), (2, .ref a2), (3, .ref a3), (4, .int (i3 x4))] [.int (i3 t0)] n h := by
  refine ok_istore (pc := 842) hc (lv' := [(5, .int (i3 t0)), (0, .ref (SA + 1)), (1, .ref a1), (2, .ref a2), (3, .ref a3), (4, .int (i3 x4))]) dL_law_842 (by decide) rfl ?_
  refine ok_aload_n (pc := 844) hc dL_law_844 rfl 3 rfl ?_
  refine ok_aload_n (pc := 845) hc dL_law_845 rfl 1 rfl ?_
  refine ok_iload (pc := 846) hc dL_law_846 5 rfl ?_
  refine ok_iconst (pc := 848) hc (v := i3 1) dL_law_848 (by decide) ?_
  refine zk_iadd (pc := 849) hc dL_law_849 ?_
  obtain ⟨r, P⟩ := P
  refine ok_sld (pc := 850) hc hX dL_law_850 r ?_
  refine ok_aload_n (pc := 851) hc dL_law_851 rfl 1 rfl ?_
  refine ok_iload (pc := 852) hc dL_law_852 5 rfl ?_
  refine ok_iconst (pc := 854) hc (v := i3 2) dL_law_854 (by decide) ?_
  refine zk_iadd (pc := 855) hc dL_law_855 ?_
  obtain ⟨r, P⟩ := P
  refine ok_sld (pc := 856) hc hX dL_law_856 r ?_
  refine ok_lv [1, 2, 3, 4, 5, 0] rfl ?_
  exact ok_callV (pc := 857) (a := a2) (cb := bb) (sb := sb9) (st := []) hc [.int (i3 ((xs ((x4 + 1) : Int).toNat).toInt)), .int (i3 ((xs ((x4 + 2) : Int).toNat).toInt))] cv_L_137 sp_X7_amplifier (by decide) dL_law_857 rfl e1.1 e1.2 rfl rfl rfl (Nat.le_of_ble_eq_true rfl) P
set_option maxHeartbeats 4000000 in
set_option maxRecDepth 100000 in
theorem sL_law_860 {X : Xt} {n : Nat} {h : HP} {a1 : Nat} {a2 : Nat} {a3 : Nat} {x4 : Int} {x5 : Int} {t0 : Int} {bb : Nat} {sb9 : Nat} {fs1 : List Value} (hc : Cx X cL_law RL 9 13 302) {L9 : Nat} {xs : Nat → Int32} (hX : ScX X L9 xs) (hL : CxL X) (e1 : At h n a2 (.inl (7, fs1))) (z1 : fs1.length = 24)
    (P : spec_X7_thrown [.ref a2] n h (kc X bb sb9 863 [(0, .ref (SA + 1)), (1, .ref a1), (2, .ref a2), (3, .ref a3), (4, .int (i3 x4)), (5, .int (i3 x5)), (6, .int (i3 t0))] [] n)) :
    Ok X bb sb9 860 [(0, .ref (SA + 1)), (1, .ref a1), (2, .ref a2), (3, .ref a3), (4, .int (i3 x4)), (5, .int (i3 x5))] [.int (i3 t0)] n h := by
  refine ok_istore (pc := 860) hc (lv' := [(6, .int (i3 t0)), (0, .ref (SA + 1)), (1, .ref a1), (2, .ref a2), (3, .ref a3), (4, .int (i3 x4)), (5, .int (i3 x5))]) dL_law_860 (by decide) rfl ?_
  refine ok_aload_n (pc := 862) hc dL_law_862 rfl 3 rfl ?_
  refine ok_lv [1, 2, 3, 4, 5, 6, 0] rfl ?_
  exact ok_callV (pc := 863) (a := a2) (cb := bb) (sb := sb9) (st := []) hc [] cv_L_92 sp_X7_thrown (by decide) dL_law_863 rfl e1.1 e1.2 rfl rfl rfl (Nat.le_of_ble_eq_true rfl) P
set_option maxHeartbeats 4000000 in
set_option maxRecDepth 100000 in
theorem sL_law_866 {X : Xt} {n : Nat} {h : HP} {a1 : Nat} {a2 : Nat} {a3 : Nat} {x4 : Int} {x5 : Int} {x6 : Int} {t0 : Int} {bb : Nat} {sb9 : Nat} {len4 : Nat} {f4 : Nat → Int} (hc : Cx X cL_law RL 9 13 302) {L9 : Nat} {xs : Nat → Int32} (hX : ScX X L9 xs) (hL : CxL X) (e4 : At h n a3 (al len4 f4))
    (P : (R3 t0) ∧ (R3 x5) ∧ (t0 = x5 → (R3 x5) ∧ (¬ x5 = 0 → Ok X bb sb9 1415 [(0, .ref (SA + 1)), (1, .ref a1), (2, .ref a2), (3, .ref a3), (4, .int (i3 x4))] [] n h) ∧ (x5 = 0 → (Ix 0 len4) ∧ (R3 x6) ∧ (R6 (f4 (0 : Int).toNat) ∧ R6 x6) ∧ ((f4 (0 : Int).toNat) = x6 → Ok X bb sb9 1415 [(0, .ref (SA + 1)), (1, .ref a1), (2, .ref a2), (3, .ref a3), (4, .int (i3 x4))] [] n h) ∧ (¬ (f4 (0 : Int).toNat) = x6 → 0 = (1 : Int)))) ∧ (¬ t0 = x5 → 0 = (1 : Int))) :
    Ok X bb sb9 866 [(0, .ref (SA + 1)), (1, .ref a1), (2, .ref a2), (3, .ref a3), (4, .int (i3 x4)), (5, .int (i3 x5)), (6, .int (i3 x6))] [.int (i3 t0)] n h := by
  refine ok_iload (pc := 866) hc dL_law_866 5 rfl ?_
  obtain ⟨r1, P⟩ := P
  obtain ⟨r2, P⟩ := P
  refine zk_icmp_eq (pc := 868) (tgt := 873) hc dL_law_868 (by decide) r1 r2 (fun c => ?_) (fun c => ?_)
  · have P := P.1 c
    refine ok_iload (pc := 873) hc dL_law_873 5 rfl ?_
    obtain ⟨r3, P⟩ := P
    refine zk_if_ne (pc := 875) (tgt := 890) hc dL_law_875 (by decide) r3 (fun c => ?_) (fun c => ?_)
    · have P := P.1 c
      refine ok_goto (pc := 890) (tgt := 1415) hc dL_law_890 (by decide) ?_
      refine ok_lv [0, 1, 2, 3, 4] rfl ?_
      exact P
    · have P := P.2 c
      refine ok_aload_n (pc := 878) hc dL_law_878 rfl 3 rfl ?_
      refine ok_iconst (pc := 879) hc (v := i3 0) dL_law_879 (by decide) ?_
      obtain ⟨r, P⟩ := P
      refine zk_lald (pc := 880) hc dL_law_880 e4.1 e4.2 r ?_
      refine ok_iload (pc := 881) hc dL_law_881 6 rfl ?_
      obtain ⟨r5, P⟩ := P
      refine zk_i2l (pc := 883) hc dL_law_883 r5 ?_
      obtain ⟨r, P⟩ := P
      refine zk_lcmp (pc := 884) hc dL_law_884 r ?_
      refine zk_if_eq (pc := 885) (tgt := 890) hc dL_law_885 (by decide) R3_cmp (fun c => ?_) (fun c => ?_)
      · have P := P.1 (cmp_eq.mp c)
        refine ok_goto (pc := 890) (tgt := 1415) hc dL_law_890 (by decide) ?_
        refine ok_lv [0, 1, 2, 3, 4] rfl ?_
        exact P
      · have P := P.2 (fun z => c (cmp_eq.mpr z))
        refine ok_iconst (pc := 888) hc (v := i3 0) dL_law_888 (by decide) ?_
        exact ok_retL hc hL dL_law_889 P
  · have P := P.2 c
    refine ok_iconst (pc := 871) hc (v := i3 0) dL_law_871 (by decide) ?_
    exact ok_retL hc hL dL_law_872 P
theorem lw_amplifier {X : Xt} {L9 : Nat} {xs : Nat → Int32} (hc : Cx X cL_law RL 9 13 302) (hX : ScX X L9 xs) (hL : CxL X) (hL9 : L9 ≤ 2048) {i : Nat} (hi : i + 4 ≤ L9) {h : HP} {q : Dsk} (I : LwI h q) {bb sb9 : Nat} (k : ∀ (h' : HP) (q' : Dsk), LwI h' q' → Ok X bb sb9 1415 [(0, .ref (SA + 1)), (1, .ref 0), (2, .ref 128), (3, .ref 139), (4, .int (i3 i))] [] 140 h') : Ok X (bb + 1) (sb9 + 6) 825 [(0, .ref (SA + 1)), (1, .ref 0), (2, .ref 128), (3, .ref 139), (4, .int (i3 i))] [] 140 h := by
  obtain ⟨hD, ⟨t, hM⟩, g, hg⟩ := I
  obtain ⟨p0, hp0⟩ : ∃ p : Int, p = (xs ((i : Int) + 1).toNat).toInt := ⟨_, rfl⟩
  have r0 : R3 p0 := by rw [hp0]; exact R3_T _
  obtain ⟨p1, hp1⟩ : ∃ p : Int, p = (xs ((i : Int) + 2).toNat).toInt := ⟨_, rfl⟩
  have r1 : R3 p1 := by rw [hp1]; exact R3_T _
  refine sL_law_825 (bb := bb) (sb9 := sb9) hc hX hL ?_
  rw [← hp0, ← hp1]
  refine ⟨⟨by omega, by omega, by omega⟩, ⟨by omega, by omega, by omega⟩, q, 139, g, p0, p1, rfl, r0, r1, hD, hg, by omega, fun h1 g1 hD1 hg1 ez hfr => ⟨rfl, ?_⟩⟩
  have hM1 : MdA h1 140 q t := hM.pt (fun x hx => hfr x (by omega) (by omega))
  obtain ⟨I1, F1, m1, -⟩ := id hM1
  refine sL_law_842 hc hX hL m1.o rfl ?_
  rw [← hp0, ← hp1]
  refine ⟨⟨by omega, by omega, by omega⟩, ⟨by omega, by omega, by omega⟩, q, t, p0, p1, rfl, r0, r1, hM1, fun h2 hM2 f2 => ⟨rfl, ?_⟩⟩
  obtain ⟨I2, F2, m2, -⟩ := id hM2
  show Ok X bb sb9 860 [(0, .ref (SA + 1)), (1, .ref 0), (2, .ref 128), (3, .ref 139), (4, .int (i3 i)), (5, .int (i3 (cdL [eIO, eIA] (opAmp q p0 p1))))] [.int (i3 (rvI (opAmp q p0 p1)))] 140 h2
  rw [← i3_T (i3 (rvI (opAmp q p0 p1)))]
  refine sL_law_860 hc hX hL m2.o rfl ⟨_, _, rfl, hM2, ⟨rfl, ?_⟩⟩
  have kk := k h2 _ ⟨hD1.out f2 (by omega), ⟨_, hM2⟩, g1, hg1.fr f2 (by omega)⟩
  have rc : R3 (cdL [eIO, eIA] (opAmp q p0 p1)) := R3_s (cdL_r _ _)
  refine sL_law_866 hc hX hL (hg1.fr f2 (by omega)) ⟨rc, rc, fun _ => ⟨rc, fun _ => kk, fun z => ?_⟩, fun z => absurd rfl z⟩
  obtain ⟨w, ew⟩ := cdL_0 z
  have e0 := ez w ew
  have e1 : g1 (0 : Int).toNat = (i3 (rvI (opAmp q p0 p1))).toInt := by rw [ew]; exact e0
  exact ⟨⟨by decide, by decide, by decide⟩, R3_T _, ⟨by rw [e1]; exact R36 (R3_T _), R36 (R3_T _)⟩, fun _ => kk, fun z => absurd e1 z⟩
set_option maxHeartbeats 4000000 in
set_option maxRecDepth 100000 in
theorem sL_law_893 {X : Xt} {n : Nat} {h : HP} {a1 : Nat} {a2 : Nat} {a3 : Nat} {x4 : Int} {bb : Nat} {sb9 : Nat} (hc : Cx X cL_law RL 9 13 302) {L9 : Nat} {xs : Nat → Int32} (hX : ScX X L9 xs) (hL : CxL X) 
    (P : (Ix (x4 + 1) L9) ∧ spec_L_why [.ref a1, .int (i3 ((xs ((x4 + 1) : Int).toNat).toInt)), .ref a3] n h (kn X bb sb9 901 [(0, .ref (SA + 1)), (1, .ref a1), (2, .ref a2), (3, .ref a3), (4, .int (i3 x4))] [] n)) :
    Ok X (bb + 1) (sb9 + 6) 893 [(0, .ref (SA + 1)), (1, .ref a1), (2, .ref a2), (3, .ref a3), (4, .int (i3 x4))] [] n h := by
  refine ok_aload_n (pc := 893) hc dL_law_893 rfl 1 rfl ?_
  refine ok_aload_n (pc := 894) hc dL_law_894 rfl 0 rfl ?_
  refine ok_iload (pc := 895) hc dL_law_895 4 rfl ?_
  refine ok_iconst (pc := 897) hc (v := i3 1) dL_law_897 (by decide) ?_
  refine zk_iadd (pc := 898) hc dL_law_898 ?_
  obtain ⟨r, P⟩ := P
  refine ok_sld (pc := 899) hc hX dL_law_899 r ?_
  refine ok_aload_n (pc := 900) hc dL_law_900 rfl 3 rfl ?_
  exact ok_callSW (pc := 901) (cb := bb) (sb := sb9) (st := []) hc [.ref a1, .int (i3 ((xs ((x4 + 1) : Int).toNat).toInt)), .ref a3] cw_L_138 sp_L_why (by decide) dL_law_901 rfl rfl rfl rfl (Nat.le_of_ble_eq_true rfl) P
set_option maxHeartbeats 4000000 in
set_option maxRecDepth 100000 in
theorem sL_law_904 {X : Xt} {n : Nat} {h : HP} {a1 : Nat} {a2 : Nat} {a3 : Nat} {x4 : Int} {t0 : Int} {bb : Nat} {sb9 : Nat} {fs1 : List Value} (hc : Cx X cL_law RL 9 13 302) {L9 : Nat} {xs : Nat → Int32} (hX : ScX X L9 xs) (hL : CxL X) (e1 : At h n a2 (.inl (7, fs1))) (z1 : fs1.length = 24)
    (P : (Ix (x4 + 1) L9) ∧ spec_X7_why [.ref a2, .int (i3 ((xs ((x4 + 1) : Int).toNat).toInt))] n h (kc X bb sb9 913 [(0, .ref (SA + 1)), (1, .ref a1), (2, .ref a2), (3, .ref a3), (4, .int (i3 x4)), (5, .int (i3 t0))] [] n)) :
    Ok X bb sb9 904 [(0, .ref (SA + 1)), (1, .ref a1), (2, .ref a2), (3, .ref a3), (4, .int (i3 x4))] [.int (i3 t0)] n h := by
  refine ok_istore (pc := 904) hc (lv' := [(5, .int (i3 t0)), (0, .ref (SA + 1)), (1, .ref a1), (2, .ref a2), (3, .ref a3), (4, .int (i3 x4))]) dL_law_904 (by decide) rfl ?_
  refine ok_aload_n (pc := 906) hc dL_law_906 rfl 3 rfl ?_
  refine ok_aload_n (pc := 907) hc dL_law_907 rfl 1 rfl ?_
  refine ok_iload (pc := 908) hc dL_law_908 5 rfl ?_
  refine ok_iconst (pc := 910) hc (v := i3 1) dL_law_910 (by decide) ?_
  refine zk_iadd (pc := 911) hc dL_law_911 ?_
  obtain ⟨r, P⟩ := P
  refine ok_sld (pc := 912) hc hX dL_law_912 r ?_
  refine ok_lv [1, 2, 3, 4, 5, 0] rfl ?_
  exact ok_callV (pc := 913) (a := a2) (cb := bb) (sb := sb9) (st := []) hc [.int (i3 ((xs ((x4 + 1) : Int).toNat).toInt))] cv_L_140 sp_X7_why (by decide) dL_law_913 rfl e1.1 e1.2 rfl rfl rfl (Nat.le_of_ble_eq_true rfl) P
set_option maxHeartbeats 4000000 in
set_option maxRecDepth 100000 in
theorem sL_law_916 {X : Xt} {n : Nat} {h : HP} {a1 : Nat} {a2 : Nat} {a3 : Nat} {x4 : Int} {x5 : Int} {t0 : Int} {bb : Nat} {sb9 : Nat} {fs1 : List Value} (hc : Cx X cL_law RL 9 13 302) {L9 : Nat} {xs : Nat → Int32} (hX : ScX X L9 xs) (hL : CxL X) (e1 : At h n a2 (.inl (7, fs1))) (z1 : fs1.length = 24)
    (P : spec_X7_thrown [.ref a2] n h (kc X bb sb9 919 [(0, .ref (SA + 1)), (1, .ref a1), (2, .ref a2), (3, .ref a3), (4, .int (i3 x4)), (5, .int (i3 x5)), (6, .int (i3 t0))] [] n)) :
    Ok X bb sb9 916 [(0, .ref (SA + 1)), (1, .ref a1), (2, .ref a2), (3, .ref a3), (4, .int (i3 x4)), (5, .int (i3 x5))] [.int (i3 t0)] n h := by
  refine ok_istore (pc := 916) hc (lv' := [(6, .int (i3 t0)), (0, .ref (SA + 1)), (1, .ref a1), (2, .ref a2), (3, .ref a3), (4, .int (i3 x4)), (5, .int (i3 x5))]) dL_law_916 (by decide) rfl ?_
  refine ok_aload_n (pc := 918) hc dL_law_918 rfl 3 rfl ?_
  refine ok_lv [1, 2, 3, 4, 5, 6, 0] rfl ?_
  exact ok_callV (pc := 919) (a := a2) (cb := bb) (sb := sb9) (st := []) hc [] cv_L_92 sp_X7_thrown (by decide) dL_law_919 rfl e1.1 e1.2 rfl rfl rfl (Nat.le_of_ble_eq_true rfl) P
set_option maxHeartbeats 4000000 in
set_option maxRecDepth 100000 in
theorem sL_law_922 {X : Xt} {n : Nat} {h : HP} {a1 : Nat} {a2 : Nat} {a3 : Nat} {x4 : Int} {x5 : Int} {x6 : Int} {t0 : Int} {bb : Nat} {sb9 : Nat} {len4 : Nat} {f4 : Nat → Int} (hc : Cx X cL_law RL 9 13 302) {L9 : Nat} {xs : Nat → Int32} (hX : ScX X L9 xs) (hL : CxL X) (e4 : At h n a3 (al len4 f4))
    (P : (R3 t0) ∧ (R3 x5) ∧ (t0 = x5 → (R3 x5) ∧ (¬ x5 = 0 → Ok X bb sb9 1415 [(0, .ref (SA + 1)), (1, .ref a1), (2, .ref a2), (3, .ref a3), (4, .int (i3 x4))] [] n h) ∧ (x5 = 0 → (Ix 0 len4) ∧ (R3 x6) ∧ (R6 (f4 (0 : Int).toNat) ∧ R6 x6) ∧ ((f4 (0 : Int).toNat) = x6 → Ok X bb sb9 1415 [(0, .ref (SA + 1)), (1, .ref a1), (2, .ref a2), (3, .ref a3), (4, .int (i3 x4))] [] n h) ∧ (¬ (f4 (0 : Int).toNat) = x6 → 0 = (1 : Int)))) ∧ (¬ t0 = x5 → 0 = (1 : Int))) :
    Ok X bb sb9 922 [(0, .ref (SA + 1)), (1, .ref a1), (2, .ref a2), (3, .ref a3), (4, .int (i3 x4)), (5, .int (i3 x5)), (6, .int (i3 x6))] [.int (i3 t0)] n h := by
  refine ok_iload (pc := 922) hc dL_law_922 5 rfl ?_
  obtain ⟨r1, P⟩ := P
  obtain ⟨r2, P⟩ := P
  refine zk_icmp_eq (pc := 924) (tgt := 929) hc dL_law_924 (by decide) r1 r2 (fun c => ?_) (fun c => ?_)
  · have P := P.1 c
    refine ok_iload (pc := 929) hc dL_law_929 5 rfl ?_
    obtain ⟨r3, P⟩ := P
    refine zk_if_ne (pc := 931) (tgt := 946) hc dL_law_931 (by decide) r3 (fun c => ?_) (fun c => ?_)
    · have P := P.1 c
      refine ok_goto (pc := 946) (tgt := 1415) hc dL_law_946 (by decide) ?_
      refine ok_lv [0, 1, 2, 3, 4] rfl ?_
      exact P
    · have P := P.2 c
      refine ok_aload_n (pc := 934) hc dL_law_934 rfl 3 rfl ?_
      refine ok_iconst (pc := 935) hc (v := i3 0) dL_law_935 (by decide) ?_
      obtain ⟨r, P⟩ := P
      refine zk_lald (pc := 936) hc dL_law_936 e4.1 e4.2 r ?_
      refine ok_iload (pc := 937) hc dL_law_937 6 rfl ?_
      obtain ⟨r5, P⟩ := P
      refine zk_i2l (pc := 939) hc dL_law_939 r5 ?_
      obtain ⟨r, P⟩ := P
      refine zk_lcmp (pc := 940) hc dL_law_940 r ?_
      refine zk_if_eq (pc := 941) (tgt := 946) hc dL_law_941 (by decide) R3_cmp (fun c => ?_) (fun c => ?_)
      · have P := P.1 (cmp_eq.mp c)
        refine ok_goto (pc := 946) (tgt := 1415) hc dL_law_946 (by decide) ?_
        refine ok_lv [0, 1, 2, 3, 4] rfl ?_
        exact P
      · have P := P.2 (fun z => c (cmp_eq.mpr z))
        refine ok_iconst (pc := 944) hc (v := i3 0) dL_law_944 (by decide) ?_
        exact ok_retL hc hL dL_law_945 P
  · have P := P.2 c
    refine ok_iconst (pc := 927) hc (v := i3 0) dL_law_927 (by decide) ?_
    exact ok_retL hc hL dL_law_928 P
theorem lw_why {X : Xt} {L9 : Nat} {xs : Nat → Int32} (hc : Cx X cL_law RL 9 13 302) (hX : ScX X L9 xs) (hL : CxL X) (hL9 : L9 ≤ 2048) {i : Nat} (hi : i + 4 ≤ L9) {h : HP} {q : Dsk} (I : LwI h q) {bb sb9 : Nat} (k : ∀ (h' : HP) (q' : Dsk), LwI h' q' → Ok X bb sb9 1415 [(0, .ref (SA + 1)), (1, .ref 0), (2, .ref 128), (3, .ref 139), (4, .int (i3 i))] [] 140 h') : Ok X (bb + 1) (sb9 + 6) 893 [(0, .ref (SA + 1)), (1, .ref 0), (2, .ref 128), (3, .ref 139), (4, .int (i3 i))] [] 140 h := by
  obtain ⟨hD, ⟨t, hM⟩, g, hg⟩ := I
  obtain ⟨p0, hp0⟩ : ∃ p : Int, p = (xs ((i : Int) + 1).toNat).toInt := ⟨_, rfl⟩
  have r0 : R3 p0 := by rw [hp0]; exact R3_T _
  refine sL_law_893 (bb := bb) (sb9 := sb9) hc hX hL ?_
  rw [← hp0]
  refine ⟨⟨by omega, by omega, by omega⟩, q, 139, g, p0, rfl, r0, hD, hg, by omega, fun h1 g1 hD1 hg1 ez hfr => ⟨rfl, ?_⟩⟩
  have hM1 : MdA h1 140 q t := hM.pt (fun x hx => hfr x (by omega) (by omega))
  obtain ⟨I1, F1, m1, -⟩ := id hM1
  refine sL_law_904 hc hX hL m1.o rfl ?_
  rw [← hp0]
  refine ⟨⟨by omega, by omega, by omega⟩, q, t, p0, rfl, r0, hM1, fun h2 hM2 f2 => ⟨rfl, ?_⟩⟩
  obtain ⟨I2, F2, m2, -⟩ := id hM2
  show Ok X bb sb9 916 [(0, .ref (SA + 1)), (1, .ref 0), (2, .ref 128), (3, .ref 139), (4, .int (i3 i)), (5, .int (i3 (cdL [eIO] (opWhy q p0))))] [.int (i3 (rvI (opWhy q p0)))] 140 h2
  rw [← i3_T (i3 (rvI (opWhy q p0)))]
  refine sL_law_916 hc hX hL m2.o rfl ⟨_, _, rfl, hM2, ⟨rfl, ?_⟩⟩
  have kk := k h2 _ ⟨hD1.out f2 (by omega), ⟨_, hM2⟩, g1, hg1.fr f2 (by omega)⟩
  have rc : R3 (cdL [eIO] (opWhy q p0)) := R3_s (cdL_r _ _)
  refine sL_law_922 hc hX hL (hg1.fr f2 (by omega)) ⟨rc, rc, fun _ => ⟨rc, fun _ => kk, fun z => ?_⟩, fun z => absurd rfl z⟩
  obtain ⟨w, ew⟩ := cdL_0 z
  have e0 := ez w ew
  have e1 : g1 (0 : Int).toNat = (i3 (rvI (opWhy q p0))).toInt := by rw [ew]; exact e0
  exact ⟨⟨by decide, by decide, by decide⟩, R3_T _, ⟨by rw [e1]; exact R36 (R3_T _), R36 (R3_T _)⟩, fun _ => kk, fun z => absurd e1 z⟩
set_option maxHeartbeats 4000000 in
set_option maxRecDepth 100000 in
theorem sL_law_949 {X : Xt} {n : Nat} {h : HP} {a1 : Nat} {a2 : Nat} {a3 : Nat} {x4 : Int} {bb : Nat} {sb9 : Nat} (hc : Cx X cL_law RL 9 13 302) {L9 : Nat} {xs : Nat → Int32} (hX : ScX X L9 xs) (hL : CxL X) 
    (P : (Ix (x4 + 1) L9) ∧ spec_L_concerned [.ref a1, .int (i3 ((xs ((x4 + 1) : Int).toNat).toInt)), .ref a3] n h (kn X bb sb9 957 [(0, .ref (SA + 1)), (1, .ref a1), (2, .ref a2), (3, .ref a3), (4, .int (i3 x4))] [] n)) :
    Ok X (bb + 1) (sb9 + 6) 949 [(0, .ref (SA + 1)), (1, .ref a1), (2, .ref a2), (3, .ref a3), (4, .int (i3 x4))] [] n h := by
  refine ok_aload_n (pc := 949) hc dL_law_949 rfl 1 rfl ?_
  refine ok_aload_n (pc := 950) hc dL_law_950 rfl 0 rfl ?_
  refine ok_iload (pc := 951) hc dL_law_951 4 rfl ?_
  refine ok_iconst (pc := 953) hc (v := i3 1) dL_law_953 (by decide) ?_
  refine zk_iadd (pc := 954) hc dL_law_954 ?_
  obtain ⟨r, P⟩ := P
  refine ok_sld (pc := 955) hc hX dL_law_955 r ?_
  refine ok_aload_n (pc := 956) hc dL_law_956 rfl 3 rfl ?_
  exact ok_callSW (pc := 957) (cb := bb) (sb := sb9) (st := []) hc [.ref a1, .int (i3 ((xs ((x4 + 1) : Int).toNat).toInt)), .ref a3] cw_L_141 sp_L_concerned (by decide) dL_law_957 rfl rfl rfl rfl (Nat.le_of_ble_eq_true rfl) P
set_option maxHeartbeats 4000000 in
set_option maxRecDepth 100000 in
theorem sL_law_960 {X : Xt} {n : Nat} {h : HP} {a1 : Nat} {a2 : Nat} {a3 : Nat} {x4 : Int} {t0 : Int} {bb : Nat} {sb9 : Nat} {fs1 : List Value} (hc : Cx X cL_law RL 9 13 302) {L9 : Nat} {xs : Nat → Int32} (hX : ScX X L9 xs) (hL : CxL X) (e1 : At h n a2 (.inl (7, fs1))) (z1 : fs1.length = 24)
    (P : (Ix (x4 + 1) L9) ∧ spec_X7_concerned [.ref a2, .int (i3 ((xs ((x4 + 1) : Int).toNat).toInt))] n h (kc X bb sb9 969 [(0, .ref (SA + 1)), (1, .ref a1), (2, .ref a2), (3, .ref a3), (4, .int (i3 x4)), (5, .int (i3 t0))] [] n)) :
    Ok X bb sb9 960 [(0, .ref (SA + 1)), (1, .ref a1), (2, .ref a2), (3, .ref a3), (4, .int (i3 x4))] [.int (i3 t0)] n h := by
  refine ok_istore (pc := 960) hc (lv' := [(5, .int (i3 t0)), (0, .ref (SA + 1)), (1, .ref a1), (2, .ref a2), (3, .ref a3), (4, .int (i3 x4))]) dL_law_960 (by decide) rfl ?_
  refine ok_aload_n (pc := 962) hc dL_law_962 rfl 3 rfl ?_
  refine ok_aload_n (pc := 963) hc dL_law_963 rfl 1 rfl ?_
  refine ok_iload (pc := 964) hc dL_law_964 5 rfl ?_
  refine ok_iconst (pc := 966) hc (v := i3 1) dL_law_966 (by decide) ?_
  refine zk_iadd (pc := 967) hc dL_law_967 ?_
  obtain ⟨r, P⟩ := P
  refine ok_sld (pc := 968) hc hX dL_law_968 r ?_
  refine ok_lv [1, 2, 3, 4, 5, 0] rfl ?_
  exact ok_callV (pc := 969) (a := a2) (cb := bb) (sb := sb9) (st := []) hc [.int (i3 ((xs ((x4 + 1) : Int).toNat).toInt))] cv_L_143 sp_X7_concerned (by decide) dL_law_969 rfl e1.1 e1.2 rfl rfl rfl (Nat.le_of_ble_eq_true rfl) P
set_option maxHeartbeats 4000000 in
set_option maxRecDepth 100000 in
theorem sL_law_972 {X : Xt} {n : Nat} {h : HP} {a1 : Nat} {a2 : Nat} {a3 : Nat} {x4 : Int} {x5 : Int} {t0 : Int} {bb : Nat} {sb9 : Nat} {fs1 : List Value} (hc : Cx X cL_law RL 9 13 302) {L9 : Nat} {xs : Nat → Int32} (hX : ScX X L9 xs) (hL : CxL X) (e1 : At h n a2 (.inl (7, fs1))) (z1 : fs1.length = 24)
    (P : spec_X7_thrown [.ref a2] n h (kc X bb sb9 975 [(0, .ref (SA + 1)), (1, .ref a1), (2, .ref a2), (3, .ref a3), (4, .int (i3 x4)), (5, .int (i3 x5)), (6, .int (i3 t0))] [] n)) :
    Ok X bb sb9 972 [(0, .ref (SA + 1)), (1, .ref a1), (2, .ref a2), (3, .ref a3), (4, .int (i3 x4)), (5, .int (i3 x5))] [.int (i3 t0)] n h := by
  refine ok_istore (pc := 972) hc (lv' := [(6, .int (i3 t0)), (0, .ref (SA + 1)), (1, .ref a1), (2, .ref a2), (3, .ref a3), (4, .int (i3 x4)), (5, .int (i3 x5))]) dL_law_972 (by decide) rfl ?_
  refine ok_aload_n (pc := 974) hc dL_law_974 rfl 3 rfl ?_
  refine ok_lv [1, 2, 3, 4, 5, 6, 0] rfl ?_
  exact ok_callV (pc := 975) (a := a2) (cb := bb) (sb := sb9) (st := []) hc [] cv_L_92 sp_X7_thrown (by decide) dL_law_975 rfl e1.1 e1.2 rfl rfl rfl (Nat.le_of_ble_eq_true rfl) P
set_option maxHeartbeats 4000000 in
set_option maxRecDepth 100000 in
theorem sL_law_978 {X : Xt} {n : Nat} {h : HP} {a1 : Nat} {a2 : Nat} {a3 : Nat} {x4 : Int} {x5 : Int} {x6 : Int} {t0 : Int} {bb : Nat} {sb9 : Nat} {len4 : Nat} {f4 : Nat → Int} (hc : Cx X cL_law RL 9 13 302) {L9 : Nat} {xs : Nat → Int32} (hX : ScX X L9 xs) (hL : CxL X) (e4 : At h n a3 (al len4 f4))
    (P : (R3 t0) ∧ (R3 x5) ∧ (t0 = x5 → (R3 x5) ∧ (¬ x5 = 0 → Ok X bb sb9 1415 [(0, .ref (SA + 1)), (1, .ref a1), (2, .ref a2), (3, .ref a3), (4, .int (i3 x4))] [] n h) ∧ (x5 = 0 → (Ix 0 len4) ∧ (R3 x6) ∧ (R6 (f4 (0 : Int).toNat) ∧ R6 x6) ∧ ((f4 (0 : Int).toNat) = x6 → Ok X bb sb9 1415 [(0, .ref (SA + 1)), (1, .ref a1), (2, .ref a2), (3, .ref a3), (4, .int (i3 x4))] [] n h) ∧ (¬ (f4 (0 : Int).toNat) = x6 → 0 = (1 : Int)))) ∧ (¬ t0 = x5 → 0 = (1 : Int))) :
    Ok X bb sb9 978 [(0, .ref (SA + 1)), (1, .ref a1), (2, .ref a2), (3, .ref a3), (4, .int (i3 x4)), (5, .int (i3 x5)), (6, .int (i3 x6))] [.int (i3 t0)] n h := by
  refine ok_iload (pc := 978) hc dL_law_978 5 rfl ?_
  obtain ⟨r1, P⟩ := P
  obtain ⟨r2, P⟩ := P
  refine zk_icmp_eq (pc := 980) (tgt := 985) hc dL_law_980 (by decide) r1 r2 (fun c => ?_) (fun c => ?_)
  · have P := P.1 c
    refine ok_iload (pc := 985) hc dL_law_985 5 rfl ?_
    obtain ⟨r3, P⟩ := P
    refine zk_if_ne (pc := 987) (tgt := 1002) hc dL_law_987 (by decide) r3 (fun c => ?_) (fun c => ?_)
    · have P := P.1 c
      refine ok_goto (pc := 1002) (tgt := 1415) hc dL_law_1002 (by decide) ?_
      refine ok_lv [0, 1, 2, 3, 4] rfl ?_
      exact P
    · have P := P.2 c
      refine ok_aload_n (pc := 990) hc dL_law_990 rfl 3 rfl ?_
      refine ok_iconst (pc := 991) hc (v := i3 0) dL_law_991 (by decide) ?_
      obtain ⟨r, P⟩ := P
      refine zk_lald (pc := 992) hc dL_law_992 e4.1 e4.2 r ?_
      refine ok_iload (pc := 993) hc dL_law_993 6 rfl ?_
      obtain ⟨r5, P⟩ := P
      refine zk_i2l (pc := 995) hc dL_law_995 r5 ?_
      obtain ⟨r, P⟩ := P
      refine zk_lcmp (pc := 996) hc dL_law_996 r ?_
      refine zk_if_eq (pc := 997) (tgt := 1002) hc dL_law_997 (by decide) R3_cmp (fun c => ?_) (fun c => ?_)
      · have P := P.1 (cmp_eq.mp c)
        refine ok_goto (pc := 1002) (tgt := 1415) hc dL_law_1002 (by decide) ?_
        refine ok_lv [0, 1, 2, 3, 4] rfl ?_
        exact P
      · have P := P.2 (fun z => c (cmp_eq.mpr z))
        refine ok_iconst (pc := 1000) hc (v := i3 0) dL_law_1000 (by decide) ?_
        exact ok_retL hc hL dL_law_1001 P
  · have P := P.2 c
    refine ok_iconst (pc := 983) hc (v := i3 0) dL_law_983 (by decide) ?_
    exact ok_retL hc hL dL_law_984 P
theorem lw_concerned {X : Xt} {L9 : Nat} {xs : Nat → Int32} (hc : Cx X cL_law RL 9 13 302) (hX : ScX X L9 xs) (hL : CxL X) (hL9 : L9 ≤ 2048) {i : Nat} (hi : i + 4 ≤ L9) {h : HP} {q : Dsk} (I : LwI h q) {bb sb9 : Nat} (k : ∀ (h' : HP) (q' : Dsk), LwI h' q' → Ok X bb sb9 1415 [(0, .ref (SA + 1)), (1, .ref 0), (2, .ref 128), (3, .ref 139), (4, .int (i3 i))] [] 140 h') : Ok X (bb + 1) (sb9 + 6) 949 [(0, .ref (SA + 1)), (1, .ref 0), (2, .ref 128), (3, .ref 139), (4, .int (i3 i))] [] 140 h := by
  obtain ⟨hD, ⟨t, hM⟩, g, hg⟩ := I
  obtain ⟨p0, hp0⟩ : ∃ p : Int, p = (xs ((i : Int) + 1).toNat).toInt := ⟨_, rfl⟩
  have r0 : R3 p0 := by rw [hp0]; exact R3_T _
  refine sL_law_949 (bb := bb) (sb9 := sb9) hc hX hL ?_
  rw [← hp0]
  refine ⟨⟨by omega, by omega, by omega⟩, q, 139, g, p0, rfl, r0, hD, hg, by omega, fun h1 g1 hD1 hg1 ez hfr => ⟨rfl, ?_⟩⟩
  have hM1 : MdA h1 140 q t := hM.pt (fun x hx => hfr x (by omega) (by omega))
  obtain ⟨I1, F1, m1, -⟩ := id hM1
  refine sL_law_960 hc hX hL m1.o rfl ?_
  rw [← hp0]
  refine ⟨⟨by omega, by omega, by omega⟩, q, t, p0, rfl, r0, hM1, fun h2 hM2 f2 => ⟨rfl, ?_⟩⟩
  obtain ⟨I2, F2, m2, -⟩ := id hM2
  show Ok X bb sb9 972 [(0, .ref (SA + 1)), (1, .ref 0), (2, .ref 128), (3, .ref 139), (4, .int (i3 i)), (5, .int (i3 (cdL [eIO] (opConc q p0))))] [.int (i3 (rvI (opConc q p0)))] 140 h2
  rw [← i3_T (i3 (rvI (opConc q p0)))]
  refine sL_law_972 hc hX hL m2.o rfl ⟨_, _, rfl, hM2, ⟨rfl, ?_⟩⟩
  have kk := k h2 _ ⟨hD1.out f2 (by omega), ⟨_, hM2⟩, g1, hg1.fr f2 (by omega)⟩
  have rc : R3 (cdL [eIO] (opConc q p0)) := R3_s (cdL_r _ _)
  refine sL_law_978 hc hX hL (hg1.fr f2 (by omega)) ⟨rc, rc, fun _ => ⟨rc, fun _ => kk, fun z => ?_⟩, fun z => absurd rfl z⟩
  obtain ⟨w, ew⟩ := cdL_0 z
  have e0 := ez w ew
  have e1 : g1 (0 : Int).toNat = (i3 (rvI (opConc q p0))).toInt := by rw [ew]; exact e0
  exact ⟨⟨by decide, by decide, by decide⟩, R3_T _, ⟨by rw [e1]; exact R36 (R3_T _), R36 (R3_T _)⟩, fun _ => kk, fun z => absurd e1 z⟩
set_option maxHeartbeats 4000000 in
set_option maxRecDepth 100000 in
theorem sL_law_1005 {X : Xt} {n : Nat} {h : HP} {a1 : Nat} {a2 : Nat} {a3 : Nat} {x4 : Int} {bb : Nat} {sb9 : Nat} (hc : Cx X cL_law RL 9 13 302) {L9 : Nat} {xs : Nat → Int32} (hX : ScX X L9 xs) (hL : CxL X) 
    (P : (Ix (x4 + 1) L9) ∧ (Ix (x4 + 2) L9) ∧ (Ix (x4 + 3) L9) ∧ spec_L_inCase [.ref a1, .int (i3 ((xs ((x4 + 1) : Int).toNat).toInt)), .int (i3 ((xs ((x4 + 2) : Int).toNat).toInt)), .int (i3 ((xs ((x4 + 3) : Int).toNat).toInt)), .ref a3] n h (kn X bb sb9 1025 [(0, .ref (SA + 1)), (1, .ref a1), (2, .ref a2), (3, .ref a3), (4, .int (i3 x4))] [] n)) :
    Ok X (bb + 3) (sb9 + 18) 1005 [(0, .ref (SA + 1)), (1, .ref a1), (2, .ref a2), (3, .ref a3), (4, .int (i3 x4))] [] n h := by
  refine ok_aload_n (pc := 1005) hc dL_law_1005 rfl 1 rfl ?_
  refine ok_aload_n (pc := 1006) hc dL_law_1006 rfl 0 rfl ?_
  refine ok_iload (pc := 1007) hc dL_law_1007 4 rfl ?_
  refine ok_iconst (pc := 1009) hc (v := i3 1) dL_law_1009 (by decide) ?_
  refine zk_iadd (pc := 1010) hc dL_law_1010 ?_
  obtain ⟨r, P⟩ := P
  refine ok_sld (pc := 1011) hc hX dL_law_1011 r ?_
  refine ok_aload_n (pc := 1012) hc dL_law_1012 rfl 0 rfl ?_
  refine ok_iload (pc := 1013) hc dL_law_1013 4 rfl ?_
  refine ok_iconst (pc := 1015) hc (v := i3 2) dL_law_1015 (by decide) ?_
  refine zk_iadd (pc := 1016) hc dL_law_1016 ?_
  obtain ⟨r, P⟩ := P
  refine ok_sld (pc := 1017) hc hX dL_law_1017 r ?_
  refine ok_aload_n (pc := 1018) hc dL_law_1018 rfl 0 rfl ?_
  refine ok_iload (pc := 1019) hc dL_law_1019 4 rfl ?_
  refine ok_iconst (pc := 1021) hc (v := i3 3) dL_law_1021 (by decide) ?_
  refine zk_iadd (pc := 1022) hc dL_law_1022 ?_
  obtain ⟨r, P⟩ := P
  refine ok_sld (pc := 1023) hc hX dL_law_1023 r ?_
  refine ok_aload_n (pc := 1024) hc dL_law_1024 rfl 3 rfl ?_
  exact ok_callSW (pc := 1025) (cb := bb) (sb := sb9) (st := []) hc [.ref a1, .int (i3 ((xs ((x4 + 1) : Int).toNat).toInt)), .int (i3 ((xs ((x4 + 2) : Int).toNat).toInt)), .int (i3 ((xs ((x4 + 3) : Int).toNat).toInt)), .ref a3] cw_L_144 sp_L_inCase (by decide) dL_law_1025 rfl rfl rfl rfl (Nat.le_of_ble_eq_true rfl) P
set_option maxHeartbeats 4000000 in
set_option maxRecDepth 100000 in
theorem sL_law_1028 {X : Xt} {n : Nat} {h : HP} {a1 : Nat} {a2 : Nat} {a3 : Nat} {x4 : Int} {t0 : Int} {bb : Nat} {sb9 : Nat} {fs1 : List Value} (hc : Cx X cL_law RL 9 13 302) {L9 : Nat} {xs : Nat → Int32} (hX : ScX X L9 xs) (hL : CxL X) (e1 : At h n a2 (.inl (7, fs1))) (z1 : fs1.length = 24)
    (P : (Ix (x4 + 1) L9) ∧ (Ix (x4 + 2) L9) ∧ (Ix (x4 + 3) L9) ∧ spec_X7_inCase [.ref a2, .int (i3 ((xs ((x4 + 1) : Int).toNat).toInt)), .int (i3 ((xs ((x4 + 2) : Int).toNat).toInt)), .int (i3 ((xs ((x4 + 3) : Int).toNat).toInt))] n h (kc X bb sb9 1049 [(0, .ref (SA + 1)), (1, .ref a1), (2, .ref a2), (3, .ref a3), (4, .int (i3 x4)), (5, .int (i3 t0))] [] n)) :
    Ok X bb sb9 1028 [(0, .ref (SA + 1)), (1, .ref a1), (2, .ref a2), (3, .ref a3), (4, .int (i3 x4))] [.int (i3 t0)] n h := by
  refine ok_istore (pc := 1028) hc (lv' := [(5, .int (i3 t0)), (0, .ref (SA + 1)), (1, .ref a1), (2, .ref a2), (3, .ref a3), (4, .int (i3 x4))]) dL_law_1028 (by decide) rfl ?_
  refine ok_aload_n (pc := 1030) hc dL_law_1030 rfl 3 rfl ?_
  refine ok_aload_n (pc := 1031) hc dL_law_1031 rfl 1 rfl ?_
  refine ok_iload (pc := 1032) hc dL_law_1032 5 rfl ?_
  refine ok_iconst (pc := 1034) hc (v := i3 1) dL_law_1034 (by decide) ?_
  refine zk_iadd (pc := 1035) hc dL_law_1035 ?_
  obtain ⟨r, P⟩ := P
  refine ok_sld (pc := 1036) hc hX dL_law_1036 r ?_
  refine ok_aload_n (pc := 1037) hc dL_law_1037 rfl 1 rfl ?_
  refine ok_iload (pc := 1038) hc dL_law_1038 5 rfl ?_
  refine ok_iconst (pc := 1040) hc (v := i3 2) dL_law_1040 (by decide) ?_
  refine zk_iadd (pc := 1041) hc dL_law_1041 ?_
  obtain ⟨r, P⟩ := P
  refine ok_sld (pc := 1042) hc hX dL_law_1042 r ?_
  refine ok_aload_n (pc := 1043) hc dL_law_1043 rfl 1 rfl ?_
  refine ok_iload (pc := 1044) hc dL_law_1044 5 rfl ?_
  refine ok_iconst (pc := 1046) hc (v := i3 3) dL_law_1046 (by decide) ?_
  refine zk_iadd (pc := 1047) hc dL_law_1047 ?_
  obtain ⟨r, P⟩ := P
  refine ok_sld (pc := 1048) hc hX dL_law_1048 r ?_
  refine ok_lv [1, 2, 3, 4, 5, 0] rfl ?_
  exact ok_callV (pc := 1049) (a := a2) (cb := bb) (sb := sb9) (st := []) hc [.int (i3 ((xs ((x4 + 1) : Int).toNat).toInt)), .int (i3 ((xs ((x4 + 2) : Int).toNat).toInt)), .int (i3 ((xs ((x4 + 3) : Int).toNat).toInt))] cv_L_147 sp_X7_inCase (by decide) dL_law_1049 rfl e1.1 e1.2 rfl rfl rfl (Nat.le_of_ble_eq_true rfl) P
set_option maxHeartbeats 4000000 in
set_option maxRecDepth 100000 in
theorem sL_law_1052 {X : Xt} {n : Nat} {h : HP} {a1 : Nat} {a2 : Nat} {a3 : Nat} {x4 : Int} {x5 : Int} {tl0 : Int} {bb : Nat} {sb9 : Nat} {fs1 : List Value} (hc : Cx X cL_law RL 9 13 302) {L9 : Nat} {xs : Nat → Int32} (hX : ScX X L9 xs) (hL : CxL X) (e1 : At h n a2 (.inl (7, fs1))) (z1 : fs1.length = 24)
    (P : spec_X7_thrown [.ref a2] n h (kc X bb sb9 1055 [(0, .ref (SA + 1)), (1, .ref a1), (2, .ref a2), (3, .ref a3), (4, .int (i3 x4)), (5, .int (i3 x5)), (6, .long (i6 tl0))] [] n)) :
    Ok X bb sb9 1052 [(0, .ref (SA + 1)), (1, .ref a1), (2, .ref a2), (3, .ref a3), (4, .int (i3 x4)), (5, .int (i3 x5))] [.long (i6 tl0)] n h := by
  refine ok_lstore (pc := 1052) hc (lv' := [(6, .long (i6 tl0)), (0, .ref (SA + 1)), (1, .ref a1), (2, .ref a2), (3, .ref a3), (4, .int (i3 x4)), (5, .int (i3 x5))]) dL_law_1052 (by decide) rfl ?_
  refine ok_aload_n (pc := 1054) hc dL_law_1054 rfl 3 rfl ?_
  refine ok_lv [1, 2, 3, 4, 5, 6, 0] rfl ?_
  exact ok_callV (pc := 1055) (a := a2) (cb := bb) (sb := sb9) (st := []) hc [] cv_L_92 sp_X7_thrown (by decide) dL_law_1055 rfl e1.1 e1.2 rfl rfl rfl (Nat.le_of_ble_eq_true rfl) P
set_option maxHeartbeats 4000000 in
set_option maxRecDepth 100000 in
theorem sL_law_1058 {X : Xt} {n : Nat} {h : HP} {a1 : Nat} {a2 : Nat} {a3 : Nat} {x4 : Int} {x5 : Int} {l6 : Int} {t0 : Int} {bb : Nat} {sb9 : Nat} {len4 : Nat} {f4 : Nat → Int} (hc : Cx X cL_law RL 9 13 302) {L9 : Nat} {xs : Nat → Int32} (hX : ScX X L9 xs) (hL : CxL X) (e4 : At h n a3 (al len4 f4))
    (P : (R3 t0) ∧ (R3 x5) ∧ (t0 = x5 → (R3 x5) ∧ (¬ x5 = 0 → Ok X bb sb9 1415 [(0, .ref (SA + 1)), (1, .ref a1), (2, .ref a2), (3, .ref a3), (4, .int (i3 x4))] [] n h) ∧ (x5 = 0 → (Ix 0 len4) ∧ (R6 (f4 (0 : Int).toNat) ∧ R6 l6) ∧ ((f4 (0 : Int).toNat) = l6 → Ok X bb sb9 1415 [(0, .ref (SA + 1)), (1, .ref a1), (2, .ref a2), (3, .ref a3), (4, .int (i3 x4))] [] n h) ∧ (¬ (f4 (0 : Int).toNat) = l6 → 0 = (1 : Int)))) ∧ (¬ t0 = x5 → 0 = (1 : Int))) :
    Ok X bb sb9 1058 [(0, .ref (SA + 1)), (1, .ref a1), (2, .ref a2), (3, .ref a3), (4, .int (i3 x4)), (5, .int (i3 x5)), (6, .long (i6 l6))] [.int (i3 t0)] n h := by
  refine ok_iload (pc := 1058) hc dL_law_1058 5 rfl ?_
  obtain ⟨r1, P⟩ := P
  obtain ⟨r2, P⟩ := P
  refine zk_icmp_eq (pc := 1060) (tgt := 1065) hc dL_law_1060 (by decide) r1 r2 (fun c => ?_) (fun c => ?_)
  · have P := P.1 c
    refine ok_iload (pc := 1065) hc dL_law_1065 5 rfl ?_
    obtain ⟨r3, P⟩ := P
    refine zk_if_ne (pc := 1067) (tgt := 1081) hc dL_law_1067 (by decide) r3 (fun c => ?_) (fun c => ?_)
    · have P := P.1 c
      refine ok_goto (pc := 1081) (tgt := 1415) hc dL_law_1081 (by decide) ?_
      refine ok_lv [0, 1, 2, 3, 4] rfl ?_
      exact P
    · have P := P.2 c
      refine ok_aload_n (pc := 1070) hc dL_law_1070 rfl 3 rfl ?_
      refine ok_iconst (pc := 1071) hc (v := i3 0) dL_law_1071 (by decide) ?_
      obtain ⟨r, P⟩ := P
      refine zk_lald (pc := 1072) hc dL_law_1072 e4.1 e4.2 r ?_
      refine ok_lload (pc := 1073) hc dL_law_1073 6 rfl ?_
      obtain ⟨r, P⟩ := P
      refine zk_lcmp (pc := 1075) hc dL_law_1075 r ?_
      refine zk_if_eq (pc := 1076) (tgt := 1081) hc dL_law_1076 (by decide) R3_cmp (fun c => ?_) (fun c => ?_)
      · have P := P.1 (cmp_eq.mp c)
        refine ok_goto (pc := 1081) (tgt := 1415) hc dL_law_1081 (by decide) ?_
        refine ok_lv [0, 1, 2, 3, 4] rfl ?_
        exact P
      · have P := P.2 (fun z => c (cmp_eq.mpr z))
        refine ok_iconst (pc := 1079) hc (v := i3 0) dL_law_1079 (by decide) ?_
        exact ok_retL hc hL dL_law_1080 P
  · have P := P.2 c
    refine ok_iconst (pc := 1063) hc (v := i3 0) dL_law_1063 (by decide) ?_
    exact ok_retL hc hL dL_law_1064 P
theorem lw_inCase {X : Xt} {L9 : Nat} {xs : Nat → Int32} (hc : Cx X cL_law RL 9 13 302) (hX : ScX X L9 xs) (hL : CxL X) (hL9 : L9 ≤ 2048) {i : Nat} (hi : i + 4 ≤ L9) {h : HP} {q : Dsk} (I : LwI h q) {bb sb9 : Nat} (k : ∀ (h' : HP) (q' : Dsk), LwI h' q' → Ok X bb sb9 1415 [(0, .ref (SA + 1)), (1, .ref 0), (2, .ref 128), (3, .ref 139), (4, .int (i3 i))] [] 140 h') : Ok X (bb + 3) (sb9 + 18) 1005 [(0, .ref (SA + 1)), (1, .ref 0), (2, .ref 128), (3, .ref 139), (4, .int (i3 i))] [] 140 h := by
  obtain ⟨hD, ⟨t, hM⟩, g, hg⟩ := I
  obtain ⟨p0, hp0⟩ : ∃ p : Int, p = (xs ((i : Int) + 1).toNat).toInt := ⟨_, rfl⟩
  have r0 : R3 p0 := by rw [hp0]; exact R3_T _
  obtain ⟨p1, hp1⟩ : ∃ p : Int, p = (xs ((i : Int) + 2).toNat).toInt := ⟨_, rfl⟩
  have r1 : R3 p1 := by rw [hp1]; exact R3_T _
  obtain ⟨p2, hp2⟩ : ∃ p : Int, p = (xs ((i : Int) + 3).toNat).toInt := ⟨_, rfl⟩
  have r2 : R3 p2 := by rw [hp2]; exact R3_T _
  refine sL_law_1005 (bb := bb) (sb9 := sb9) hc hX hL ?_
  rw [← hp0, ← hp1, ← hp2]
  refine ⟨⟨by omega, by omega, by omega⟩, ⟨by omega, by omega, by omega⟩, ⟨by omega, by omega, by omega⟩, q, 139, g, p0, p1, p2, rfl, r0, r1, r2, hD, hg, by omega, fun h1 g1 hD1 hg1 ez hfr => ⟨rfl, ?_⟩⟩
  have hM1 : MdA h1 140 q t := hM.pt (fun x hx => hfr x (by omega) (by omega))
  obtain ⟨I1, F1, m1, -⟩ := id hM1
  refine sL_law_1028 hc hX hL m1.o rfl ?_
  rw [← hp0, ← hp1, ← hp2]
  refine ⟨⟨by omega, by omega, by omega⟩, ⟨by omega, by omega, by omega⟩, ⟨by omega, by omega, by omega⟩, q, t, p0, p1, p2, rfl, r0, r1, r2, hM1, fun h2 hM2 f2 => ⟨rfl, ?_⟩⟩
  obtain ⟨I2, F2, m2, -⟩ := id hM2
  show Ok X bb sb9 1052 [(0, .ref (SA + 1)), (1, .ref 0), (2, .ref 128), (3, .ref 139), (4, .int (i3 i)), (5, .int (i3 (cdL [eIO, eIA] (opCase q p0 p1 p2))))] [.long (i6 (rvI (opCase q p0 p1 p2)))] 140 h2
  rw [← i6_T (i6 (rvI (opCase q p0 p1 p2)))]
  refine sL_law_1052 hc hX hL m2.o rfl ⟨_, _, rfl, hM2, ⟨rfl, ?_⟩⟩
  have kk := k h2 _ ⟨hD1.out f2 (by omega), ⟨_, hM2⟩, g1, hg1.fr f2 (by omega)⟩
  have rc : R3 (cdL [eIO, eIA] (opCase q p0 p1 p2)) := R3_s (cdL_r _ _)
  refine sL_law_1058 hc hX hL (hg1.fr f2 (by omega)) ⟨rc, rc, fun _ => ⟨rc, fun _ => kk, fun z => ?_⟩, fun z => absurd rfl z⟩
  obtain ⟨w, ew⟩ := cdL_0 z
  have e0 := ez w ew
  have e1 : g1 (0 : Int).toNat = (i6 (rvI (opCase q p0 p1 p2))).toInt := by rw [ew]; exact e0
  exact ⟨⟨by decide, by decide, by decide⟩, ⟨by rw [e1]; exact R6_T _, R6_T _⟩, fun _ => kk, fun z => absurd e1 z⟩
set_option maxHeartbeats 4000000 in
set_option maxRecDepth 100000 in
theorem sL_law_1168 {X : Xt} {n : Nat} {h : HP} {a1 : Nat} {a2 : Nat} {a3 : Nat} {x4 : Int} {bb : Nat} {sb9 : Nat} (hc : Cx X cL_law RL 9 13 302) {L9 : Nat} {xs : Nat → Int32} (hX : ScX X L9 xs) (hL : CxL X) 
    (P : (Ix (x4 + 1) L9) ∧ (Ix (x4 + 2) L9) ∧ spec_L_ifValue [.ref a1, .int (i3 ((xs ((x4 + 1) : Int).toNat).toInt)), .int (i3 ((xs ((x4 + 2) : Int).toNat).toInt)), .ref a3] n h (kn X bb sb9 1182 [(0, .ref (SA + 1)), (1, .ref a1), (2, .ref a2), (3, .ref a3), (4, .int (i3 x4))] [] n)) :
    Ok X (bb + 2) (sb9 + 12) 1168 [(0, .ref (SA + 1)), (1, .ref a1), (2, .ref a2), (3, .ref a3), (4, .int (i3 x4))] [] n h := by
  refine ok_aload_n (pc := 1168) hc dL_law_1168 rfl 1 rfl ?_
  refine ok_aload_n (pc := 1169) hc dL_law_1169 rfl 0 rfl ?_
  refine ok_iload (pc := 1170) hc dL_law_1170 4 rfl ?_
  refine ok_iconst (pc := 1172) hc (v := i3 1) dL_law_1172 (by decide) ?_
  refine zk_iadd (pc := 1173) hc dL_law_1173 ?_
  obtain ⟨r, P⟩ := P
  refine ok_sld (pc := 1174) hc hX dL_law_1174 r ?_
  refine ok_aload_n (pc := 1175) hc dL_law_1175 rfl 0 rfl ?_
  refine ok_iload (pc := 1176) hc dL_law_1176 4 rfl ?_
  refine ok_iconst (pc := 1178) hc (v := i3 2) dL_law_1178 (by decide) ?_
  refine zk_iadd (pc := 1179) hc dL_law_1179 ?_
  obtain ⟨r, P⟩ := P
  refine ok_sld (pc := 1180) hc hX dL_law_1180 r ?_
  refine ok_aload_n (pc := 1181) hc dL_law_1181 rfl 3 rfl ?_
  exact ok_callSW (pc := 1182) (cb := bb) (sb := sb9) (st := []) hc [.ref a1, .int (i3 ((xs ((x4 + 1) : Int).toNat).toInt)), .int (i3 ((xs ((x4 + 2) : Int).toNat).toInt)), .ref a3] cw_L_152 sp_L_ifValue (by decide) dL_law_1182 rfl rfl rfl rfl (Nat.le_of_ble_eq_true rfl) P
set_option maxHeartbeats 4000000 in
set_option maxRecDepth 100000 in
theorem sL_law_1185 {X : Xt} {n : Nat} {h : HP} {a1 : Nat} {a2 : Nat} {a3 : Nat} {x4 : Int} {t0 : Int} {bb : Nat} {sb9 : Nat} {fs1 : List Value} (hc : Cx X cL_law RL 9 13 302) {L9 : Nat} {xs : Nat → Int32} (hX : ScX X L9 xs) (hL : CxL X) (e1 : At h n a2 (.inl (7, fs1))) (z1 : fs1.length = 24)
    (P : (Ix (x4 + 1) L9) ∧ (Ix (x4 + 2) L9) ∧ spec_X7_ifValue [.ref a2, .int (i3 ((xs ((x4 + 1) : Int).toNat).toInt)), .int (i3 ((xs ((x4 + 2) : Int).toNat).toInt))] n h (kc X bb sb9 1200 [(0, .ref (SA + 1)), (1, .ref a1), (2, .ref a2), (3, .ref a3), (4, .int (i3 x4)), (5, .int (i3 t0))] [] n)) :
    Ok X bb sb9 1185 [(0, .ref (SA + 1)), (1, .ref a1), (2, .ref a2), (3, .ref a3), (4, .int (i3 x4))] [.int (i3 t0)] n h := by
  refine ok_istore (pc := 1185) hc (lv' := [(5, .int (i3 t0)), (0, .ref (SA + 1)), (1, .ref a1), (2, .ref a2), (3, .ref a3), (4, .int (i3 x4))]) dL_law_1185 (by decide) rfl ?_
  refine ok_aload_n (pc := 1187) hc dL_law_1187 rfl 3 rfl ?_
  refine ok_aload_n (pc := 1188) hc dL_law_1188 rfl 1 rfl ?_
  refine ok_iload (pc := 1189) hc dL_law_1189 5 rfl ?_
  refine ok_iconst (pc := 1191) hc (v := i3 1) dL_law_1191 (by decide) ?_
  refine zk_iadd (pc := 1192) hc dL_law_1192 ?_
  obtain ⟨r, P⟩ := P
  refine ok_sld (pc := 1193) hc hX dL_law_1193 r ?_
  refine ok_aload_n (pc := 1194) hc dL_law_1194 rfl 1 rfl ?_
  refine ok_iload (pc := 1195) hc dL_law_1195 5 rfl ?_
  refine ok_iconst (pc := 1197) hc (v := i3 2) dL_law_1197 (by decide) ?_
  refine zk_iadd (pc := 1198) hc dL_law_1198 ?_
  obtain ⟨r, P⟩ := P
  refine ok_sld (pc := 1199) hc hX dL_law_1199 r ?_
  refine ok_lv [1, 2, 3, 4, 5, 0] rfl ?_
  exact ok_callV (pc := 1200) (a := a2) (cb := bb) (sb := sb9) (st := []) hc [.int (i3 ((xs ((x4 + 1) : Int).toNat).toInt)), .int (i3 ((xs ((x4 + 2) : Int).toNat).toInt))] cv_L_154 sp_X7_ifValue (by decide) dL_law_1200 rfl e1.1 e1.2 rfl rfl rfl (Nat.le_of_ble_eq_true rfl) P
set_option maxHeartbeats 4000000 in
set_option maxRecDepth 100000 in
theorem sL_law_1203 {X : Xt} {n : Nat} {h : HP} {a1 : Nat} {a2 : Nat} {a3 : Nat} {x4 : Int} {x5 : Int} {t0 : Int} {bb : Nat} {sb9 : Nat} {fs1 : List Value} (hc : Cx X cL_law RL 9 13 302) {L9 : Nat} {xs : Nat → Int32} (hX : ScX X L9 xs) (hL : CxL X) (e1 : At h n a2 (.inl (7, fs1))) (z1 : fs1.length = 24)
    (P : spec_X7_thrown [.ref a2] n h (kc X bb sb9 1206 [(0, .ref (SA + 1)), (1, .ref a1), (2, .ref a2), (3, .ref a3), (4, .int (i3 x4)), (5, .int (i3 x5)), (6, .int (i3 t0))] [] n)) :
    Ok X bb sb9 1203 [(0, .ref (SA + 1)), (1, .ref a1), (2, .ref a2), (3, .ref a3), (4, .int (i3 x4)), (5, .int (i3 x5))] [.int (i3 t0)] n h := by
  refine ok_istore (pc := 1203) hc (lv' := [(6, .int (i3 t0)), (0, .ref (SA + 1)), (1, .ref a1), (2, .ref a2), (3, .ref a3), (4, .int (i3 x4)), (5, .int (i3 x5))]) dL_law_1203 (by decide) rfl ?_
  refine ok_aload_n (pc := 1205) hc dL_law_1205 rfl 3 rfl ?_
  refine ok_lv [1, 2, 3, 4, 5, 6, 0] rfl ?_
  exact ok_callV (pc := 1206) (a := a2) (cb := bb) (sb := sb9) (st := []) hc [] cv_L_92 sp_X7_thrown (by decide) dL_law_1206 rfl e1.1 e1.2 rfl rfl rfl (Nat.le_of_ble_eq_true rfl) P
set_option maxHeartbeats 4000000 in
set_option maxRecDepth 100000 in
theorem sL_law_1209 {X : Xt} {n : Nat} {h : HP} {a1 : Nat} {a2 : Nat} {a3 : Nat} {x4 : Int} {x5 : Int} {x6 : Int} {t0 : Int} {bb : Nat} {sb9 : Nat} {len4 : Nat} {f4 : Nat → Int} (hc : Cx X cL_law RL 9 13 302) {L9 : Nat} {xs : Nat → Int32} (hX : ScX X L9 xs) (hL : CxL X) (e4 : At h n a3 (al len4 f4))
    (P : (R3 t0) ∧ (R3 x5) ∧ (t0 = x5 → (R3 x5) ∧ (¬ x5 = 0 → Ok X bb sb9 1415 [(0, .ref (SA + 1)), (1, .ref a1), (2, .ref a2), (3, .ref a3), (4, .int (i3 x4))] [] n h) ∧ (x5 = 0 → (Ix 0 len4) ∧ (R3 x6) ∧ (R6 (f4 (0 : Int).toNat) ∧ R6 x6) ∧ ((f4 (0 : Int).toNat) = x6 → Ok X bb sb9 1415 [(0, .ref (SA + 1)), (1, .ref a1), (2, .ref a2), (3, .ref a3), (4, .int (i3 x4))] [] n h) ∧ (¬ (f4 (0 : Int).toNat) = x6 → 0 = (1 : Int)))) ∧ (¬ t0 = x5 → 0 = (1 : Int))) :
    Ok X bb sb9 1209 [(0, .ref (SA + 1)), (1, .ref a1), (2, .ref a2), (3, .ref a3), (4, .int (i3 x4)), (5, .int (i3 x5)), (6, .int (i3 x6))] [.int (i3 t0)] n h := by
  refine ok_iload (pc := 1209) hc dL_law_1209 5 rfl ?_
  obtain ⟨r1, P⟩ := P
  obtain ⟨r2, P⟩ := P
  refine zk_icmp_eq (pc := 1211) (tgt := 1216) hc dL_law_1211 (by decide) r1 r2 (fun c => ?_) (fun c => ?_)
  · have P := P.1 c
    refine ok_iload (pc := 1216) hc dL_law_1216 5 rfl ?_
    obtain ⟨r3, P⟩ := P
    refine zk_if_ne (pc := 1218) (tgt := 1233) hc dL_law_1218 (by decide) r3 (fun c => ?_) (fun c => ?_)
    · have P := P.1 c
      refine ok_goto (pc := 1233) (tgt := 1415) hc dL_law_1233 (by decide) ?_
      refine ok_lv [0, 1, 2, 3, 4] rfl ?_
      exact P
    · have P := P.2 c
      refine ok_aload_n (pc := 1221) hc dL_law_1221 rfl 3 rfl ?_
      refine ok_iconst (pc := 1222) hc (v := i3 0) dL_law_1222 (by decide) ?_
      obtain ⟨r, P⟩ := P
      refine zk_lald (pc := 1223) hc dL_law_1223 e4.1 e4.2 r ?_
      refine ok_iload (pc := 1224) hc dL_law_1224 6 rfl ?_
      obtain ⟨r5, P⟩ := P
      refine zk_i2l (pc := 1226) hc dL_law_1226 r5 ?_
      obtain ⟨r, P⟩ := P
      refine zk_lcmp (pc := 1227) hc dL_law_1227 r ?_
      refine zk_if_eq (pc := 1228) (tgt := 1233) hc dL_law_1228 (by decide) R3_cmp (fun c => ?_) (fun c => ?_)
      · have P := P.1 (cmp_eq.mp c)
        refine ok_goto (pc := 1233) (tgt := 1415) hc dL_law_1233 (by decide) ?_
        refine ok_lv [0, 1, 2, 3, 4] rfl ?_
        exact P
      · have P := P.2 (fun z => c (cmp_eq.mpr z))
        refine ok_iconst (pc := 1231) hc (v := i3 0) dL_law_1231 (by decide) ?_
        exact ok_retL hc hL dL_law_1232 P
  · have P := P.2 c
    refine ok_iconst (pc := 1214) hc (v := i3 0) dL_law_1214 (by decide) ?_
    exact ok_retL hc hL dL_law_1215 P
theorem lw_ifValue {X : Xt} {L9 : Nat} {xs : Nat → Int32} (hc : Cx X cL_law RL 9 13 302) (hX : ScX X L9 xs) (hL : CxL X) (hL9 : L9 ≤ 2048) {i : Nat} (hi : i + 4 ≤ L9) {h : HP} {q : Dsk} (I : LwI h q) {bb sb9 : Nat} (k : ∀ (h' : HP) (q' : Dsk), LwI h' q' → Ok X bb sb9 1415 [(0, .ref (SA + 1)), (1, .ref 0), (2, .ref 128), (3, .ref 139), (4, .int (i3 i))] [] 140 h') : Ok X (bb + 2) (sb9 + 12) 1168 [(0, .ref (SA + 1)), (1, .ref 0), (2, .ref 128), (3, .ref 139), (4, .int (i3 i))] [] 140 h := by
  obtain ⟨hD, ⟨t, hM⟩, g, hg⟩ := I
  obtain ⟨p0, hp0⟩ : ∃ p : Int, p = (xs ((i : Int) + 1).toNat).toInt := ⟨_, rfl⟩
  have r0 : R3 p0 := by rw [hp0]; exact R3_T _
  obtain ⟨p1, hp1⟩ : ∃ p : Int, p = (xs ((i : Int) + 2).toNat).toInt := ⟨_, rfl⟩
  have r1 : R3 p1 := by rw [hp1]; exact R3_T _
  refine sL_law_1168 (bb := bb) (sb9 := sb9) hc hX hL ?_
  rw [← hp0, ← hp1]
  refine ⟨⟨by omega, by omega, by omega⟩, ⟨by omega, by omega, by omega⟩, q, 139, g, p0, p1, rfl, r0, r1, hD, hg, by omega, fun h1 g1 hD1 hg1 ez hfr => ⟨rfl, ?_⟩⟩
  have hM1 : MdA h1 140 q t := hM.pt (fun x hx => hfr x (by omega) (by omega))
  obtain ⟨I1, F1, m1, -⟩ := id hM1
  refine sL_law_1185 hc hX hL m1.o rfl ?_
  rw [← hp0, ← hp1]
  refine ⟨⟨by omega, by omega, by omega⟩, ⟨by omega, by omega, by omega⟩, q, t, p0, p1, rfl, r0, r1, hM1, fun h2 hM2 f2 => ⟨rfl, ?_⟩⟩
  obtain ⟨I2, F2, m2, -⟩ := id hM2
  show Ok X bb sb9 1203 [(0, .ref (SA + 1)), (1, .ref 0), (2, .ref 128), (3, .ref 139), (4, .int (i3 i)), (5, .int (i3 (cdL [eIO, eIS, eIA] (opIf q p0 p1))))] [.int (i3 (rvI (opIf q p0 p1)))] 140 h2
  rw [← i3_T (i3 (rvI (opIf q p0 p1)))]
  refine sL_law_1203 hc hX hL m2.o rfl ⟨_, _, rfl, hM2, ⟨rfl, ?_⟩⟩
  have kk := k h2 _ ⟨hD1.out f2 (by omega), ⟨_, hM2⟩, g1, hg1.fr f2 (by omega)⟩
  have rc : R3 (cdL [eIO, eIS, eIA] (opIf q p0 p1)) := R3_s (cdL_r _ _)
  refine sL_law_1209 hc hX hL (hg1.fr f2 (by omega)) ⟨rc, rc, fun _ => ⟨rc, fun _ => kk, fun z => ?_⟩, fun z => absurd rfl z⟩
  obtain ⟨w, ew⟩ := cdL_0 z
  have e0 := ez w ew
  have e1 : g1 (0 : Int).toNat = (i3 (rvI (opIf q p0 p1))).toInt := by rw [ew]; exact e0
  exact ⟨⟨by decide, by decide, by decide⟩, R3_T _, ⟨by rw [e1]; exact R36 (R3_T _), R36 (R3_T _)⟩, fun _ => kk, fun z => absurd e1 z⟩
set_option maxHeartbeats 4000000 in
set_option maxRecDepth 100000 in
theorem sL_law_1236 {X : Xt} {n : Nat} {h : HP} {a1 : Nat} {a2 : Nat} {a3 : Nat} {x4 : Int} {bb : Nat} {sb9 : Nat} (hc : Cx X cL_law RL 9 13 302) {L9 : Nat} {xs : Nat → Int32} (hX : ScX X L9 xs) (hL : CxL X) 
    (P : (Ix (x4 + 1) L9) ∧ (Ix (x4 + 2) L9) ∧ spec_L_part [.ref a1, .int (i3 ((xs ((x4 + 1) : Int).toNat).toInt)), .int (i3 ((xs ((x4 + 2) : Int).toNat).toInt)), .ref a3] n h (kn X bb sb9 1250 [(0, .ref (SA + 1)), (1, .ref a1), (2, .ref a2), (3, .ref a3), (4, .int (i3 x4))] [] n)) :
    Ok X (bb + 2) (sb9 + 12) 1236 [(0, .ref (SA + 1)), (1, .ref a1), (2, .ref a2), (3, .ref a3), (4, .int (i3 x4))] [] n h := by
  refine ok_aload_n (pc := 1236) hc dL_law_1236 rfl 1 rfl ?_
  refine ok_aload_n (pc := 1237) hc dL_law_1237 rfl 0 rfl ?_
  refine ok_iload (pc := 1238) hc dL_law_1238 4 rfl ?_
  refine ok_iconst (pc := 1240) hc (v := i3 1) dL_law_1240 (by decide) ?_
  refine zk_iadd (pc := 1241) hc dL_law_1241 ?_
  obtain ⟨r, P⟩ := P
  refine ok_sld (pc := 1242) hc hX dL_law_1242 r ?_
  refine ok_aload_n (pc := 1243) hc dL_law_1243 rfl 0 rfl ?_
  refine ok_iload (pc := 1244) hc dL_law_1244 4 rfl ?_
  refine ok_iconst (pc := 1246) hc (v := i3 2) dL_law_1246 (by decide) ?_
  refine zk_iadd (pc := 1247) hc dL_law_1247 ?_
  obtain ⟨r, P⟩ := P
  refine ok_sld (pc := 1248) hc hX dL_law_1248 r ?_
  refine ok_aload_n (pc := 1249) hc dL_law_1249 rfl 3 rfl ?_
  exact ok_callSW (pc := 1250) (cb := bb) (sb := sb9) (st := []) hc [.ref a1, .int (i3 ((xs ((x4 + 1) : Int).toNat).toInt)), .int (i3 ((xs ((x4 + 2) : Int).toNat).toInt)), .ref a3] cw_L_155 sp_L_part (by decide) dL_law_1250 rfl rfl rfl rfl (Nat.le_of_ble_eq_true rfl) P
set_option maxHeartbeats 4000000 in
set_option maxRecDepth 100000 in
theorem sL_law_1253 {X : Xt} {n : Nat} {h : HP} {a1 : Nat} {a2 : Nat} {a3 : Nat} {x4 : Int} {t0 : Int} {bb : Nat} {sb9 : Nat} {fs1 : List Value} (hc : Cx X cL_law RL 9 13 302) {L9 : Nat} {xs : Nat → Int32} (hX : ScX X L9 xs) (hL : CxL X) (e1 : At h n a2 (.inl (7, fs1))) (z1 : fs1.length = 24)
    (P : (Ix (x4 + 1) L9) ∧ (Ix (x4 + 2) L9) ∧ spec_X7_part [.ref a2, .int (i3 ((xs ((x4 + 1) : Int).toNat).toInt)), .int (i3 ((xs ((x4 + 2) : Int).toNat).toInt))] n h (kc X bb sb9 1268 [(0, .ref (SA + 1)), (1, .ref a1), (2, .ref a2), (3, .ref a3), (4, .int (i3 x4)), (5, .int (i3 t0))] [] n)) :
    Ok X bb sb9 1253 [(0, .ref (SA + 1)), (1, .ref a1), (2, .ref a2), (3, .ref a3), (4, .int (i3 x4))] [.int (i3 t0)] n h := by
  refine ok_istore (pc := 1253) hc (lv' := [(5, .int (i3 t0)), (0, .ref (SA + 1)), (1, .ref a1), (2, .ref a2), (3, .ref a3), (4, .int (i3 x4))]) dL_law_1253 (by decide) rfl ?_
  refine ok_aload_n (pc := 1255) hc dL_law_1255 rfl 3 rfl ?_
  refine ok_aload_n (pc := 1256) hc dL_law_1256 rfl 1 rfl ?_
  refine ok_iload (pc := 1257) hc dL_law_1257 5 rfl ?_
  refine ok_iconst (pc := 1259) hc (v := i3 1) dL_law_1259 (by decide) ?_
  refine zk_iadd (pc := 1260) hc dL_law_1260 ?_
  obtain ⟨r, P⟩ := P
  refine ok_sld (pc := 1261) hc hX dL_law_1261 r ?_
  refine ok_aload_n (pc := 1262) hc dL_law_1262 rfl 1 rfl ?_
  refine ok_iload (pc := 1263) hc dL_law_1263 5 rfl ?_
  refine ok_iconst (pc := 1265) hc (v := i3 2) dL_law_1265 (by decide) ?_
  refine zk_iadd (pc := 1266) hc dL_law_1266 ?_
  obtain ⟨r, P⟩ := P
  refine ok_sld (pc := 1267) hc hX dL_law_1267 r ?_
  refine ok_lv [1, 2, 3, 4, 5, 0] rfl ?_
  exact ok_callV (pc := 1268) (a := a2) (cb := bb) (sb := sb9) (st := []) hc [.int (i3 ((xs ((x4 + 1) : Int).toNat).toInt)), .int (i3 ((xs ((x4 + 2) : Int).toNat).toInt))] cv_L_157 sp_X7_part (by decide) dL_law_1268 rfl e1.1 e1.2 rfl rfl rfl (Nat.le_of_ble_eq_true rfl) P
set_option maxHeartbeats 4000000 in
set_option maxRecDepth 100000 in
theorem sL_law_1271 {X : Xt} {n : Nat} {h : HP} {a1 : Nat} {a2 : Nat} {a3 : Nat} {x4 : Int} {x5 : Int} {t0 : Int} {bb : Nat} {sb9 : Nat} {fs1 : List Value} (hc : Cx X cL_law RL 9 13 302) {L9 : Nat} {xs : Nat → Int32} (hX : ScX X L9 xs) (hL : CxL X) (e1 : At h n a2 (.inl (7, fs1))) (z1 : fs1.length = 24)
    (P : spec_X7_thrown [.ref a2] n h (kc X bb sb9 1274 [(0, .ref (SA + 1)), (1, .ref a1), (2, .ref a2), (3, .ref a3), (4, .int (i3 x4)), (5, .int (i3 x5)), (6, .int (i3 t0))] [] n)) :
    Ok X bb sb9 1271 [(0, .ref (SA + 1)), (1, .ref a1), (2, .ref a2), (3, .ref a3), (4, .int (i3 x4)), (5, .int (i3 x5))] [.int (i3 t0)] n h := by
  refine ok_istore (pc := 1271) hc (lv' := [(6, .int (i3 t0)), (0, .ref (SA + 1)), (1, .ref a1), (2, .ref a2), (3, .ref a3), (4, .int (i3 x4)), (5, .int (i3 x5))]) dL_law_1271 (by decide) rfl ?_
  refine ok_aload_n (pc := 1273) hc dL_law_1273 rfl 3 rfl ?_
  refine ok_lv [1, 2, 3, 4, 5, 6, 0] rfl ?_
  exact ok_callV (pc := 1274) (a := a2) (cb := bb) (sb := sb9) (st := []) hc [] cv_L_92 sp_X7_thrown (by decide) dL_law_1274 rfl e1.1 e1.2 rfl rfl rfl (Nat.le_of_ble_eq_true rfl) P
set_option maxHeartbeats 4000000 in
set_option maxRecDepth 100000 in
theorem sL_law_1277 {X : Xt} {n : Nat} {h : HP} {a1 : Nat} {a2 : Nat} {a3 : Nat} {x4 : Int} {x5 : Int} {x6 : Int} {t0 : Int} {bb : Nat} {sb9 : Nat} {len4 : Nat} {f4 : Nat → Int} (hc : Cx X cL_law RL 9 13 302) {L9 : Nat} {xs : Nat → Int32} (hX : ScX X L9 xs) (hL : CxL X) (e4 : At h n a3 (al len4 f4))
    (P : (R3 t0) ∧ (R3 x5) ∧ (t0 = x5 → (R3 x5) ∧ (¬ x5 = 0 → Ok X bb sb9 1415 [(0, .ref (SA + 1)), (1, .ref a1), (2, .ref a2), (3, .ref a3), (4, .int (i3 x4))] [] n h) ∧ (x5 = 0 → (Ix 0 len4) ∧ (R3 x6) ∧ (R6 (f4 (0 : Int).toNat) ∧ R6 x6) ∧ ((f4 (0 : Int).toNat) = x6 → Ok X bb sb9 1415 [(0, .ref (SA + 1)), (1, .ref a1), (2, .ref a2), (3, .ref a3), (4, .int (i3 x4))] [] n h) ∧ (¬ (f4 (0 : Int).toNat) = x6 → 0 = (1 : Int)))) ∧ (¬ t0 = x5 → 0 = (1 : Int))) :
    Ok X bb sb9 1277 [(0, .ref (SA + 1)), (1, .ref a1), (2, .ref a2), (3, .ref a3), (4, .int (i3 x4)), (5, .int (i3 x5)), (6, .int (i3 x6))] [.int (i3 t0)] n h := by
  refine ok_iload (pc := 1277) hc dL_law_1277 5 rfl ?_
  obtain ⟨r1, P⟩ := P
  obtain ⟨r2, P⟩ := P
  refine zk_icmp_eq (pc := 1279) (tgt := 1284) hc dL_law_1279 (by decide) r1 r2 (fun c => ?_) (fun c => ?_)
  · have P := P.1 c
    refine ok_iload (pc := 1284) hc dL_law_1284 5 rfl ?_
    obtain ⟨r3, P⟩ := P
    refine zk_if_ne (pc := 1286) (tgt := 1301) hc dL_law_1286 (by decide) r3 (fun c => ?_) (fun c => ?_)
    · have P := P.1 c
      refine ok_goto (pc := 1301) (tgt := 1415) hc dL_law_1301 (by decide) ?_
      refine ok_lv [0, 1, 2, 3, 4] rfl ?_
      exact P
    · have P := P.2 c
      refine ok_aload_n (pc := 1289) hc dL_law_1289 rfl 3 rfl ?_
      refine ok_iconst (pc := 1290) hc (v := i3 0) dL_law_1290 (by decide) ?_
      obtain ⟨r, P⟩ := P
      refine zk_lald (pc := 1291) hc dL_law_1291 e4.1 e4.2 r ?_
      refine ok_iload (pc := 1292) hc dL_law_1292 6 rfl ?_
      obtain ⟨r5, P⟩ := P
      refine zk_i2l (pc := 1294) hc dL_law_1294 r5 ?_
      obtain ⟨r, P⟩ := P
      refine zk_lcmp (pc := 1295) hc dL_law_1295 r ?_
      refine zk_if_eq (pc := 1296) (tgt := 1301) hc dL_law_1296 (by decide) R3_cmp (fun c => ?_) (fun c => ?_)
      · have P := P.1 (cmp_eq.mp c)
        refine ok_goto (pc := 1301) (tgt := 1415) hc dL_law_1301 (by decide) ?_
        refine ok_lv [0, 1, 2, 3, 4] rfl ?_
        exact P
      · have P := P.2 (fun z => c (cmp_eq.mpr z))
        refine ok_iconst (pc := 1299) hc (v := i3 0) dL_law_1299 (by decide) ?_
        exact ok_retL hc hL dL_law_1300 P
  · have P := P.2 c
    refine ok_iconst (pc := 1282) hc (v := i3 0) dL_law_1282 (by decide) ?_
    exact ok_retL hc hL dL_law_1283 P
theorem lw_part {X : Xt} {L9 : Nat} {xs : Nat → Int32} (hc : Cx X cL_law RL 9 13 302) (hX : ScX X L9 xs) (hL : CxL X) (hL9 : L9 ≤ 2048) {i : Nat} (hi : i + 4 ≤ L9) {h : HP} {q : Dsk} (I : LwI h q) {bb sb9 : Nat} (k : ∀ (h' : HP) (q' : Dsk), LwI h' q' → Ok X bb sb9 1415 [(0, .ref (SA + 1)), (1, .ref 0), (2, .ref 128), (3, .ref 139), (4, .int (i3 i))] [] 140 h') : Ok X (bb + 2) (sb9 + 12) 1236 [(0, .ref (SA + 1)), (1, .ref 0), (2, .ref 128), (3, .ref 139), (4, .int (i3 i))] [] 140 h := by
  obtain ⟨hD, ⟨t, hM⟩, g, hg⟩ := I
  obtain ⟨p0, hp0⟩ : ∃ p : Int, p = (xs ((i : Int) + 1).toNat).toInt := ⟨_, rfl⟩
  have r0 : R3 p0 := by rw [hp0]; exact R3_T _
  obtain ⟨p1, hp1⟩ : ∃ p : Int, p = (xs ((i : Int) + 2).toNat).toInt := ⟨_, rfl⟩
  have r1 : R3 p1 := by rw [hp1]; exact R3_T _
  refine sL_law_1236 (bb := bb) (sb9 := sb9) hc hX hL ?_
  rw [← hp0, ← hp1]
  refine ⟨⟨by omega, by omega, by omega⟩, ⟨by omega, by omega, by omega⟩, q, 139, g, p0, p1, rfl, r0, r1, hD, hg, by omega, fun h1 g1 hD1 hg1 ez hfr => ⟨rfl, ?_⟩⟩
  have hM1 : MdA h1 140 q t := hM.pt (fun x hx => hfr x (by omega) (by omega))
  obtain ⟨I1, F1, m1, -⟩ := id hM1
  refine sL_law_1253 hc hX hL m1.o rfl ?_
  rw [← hp0, ← hp1]
  refine ⟨⟨by omega, by omega, by omega⟩, ⟨by omega, by omega, by omega⟩, q, t, p0, p1, rfl, r0, r1, hM1, fun h2 hM2 f2 => ⟨rfl, ?_⟩⟩
  obtain ⟨I2, F2, m2, -⟩ := id hM2
  show Ok X bb sb9 1271 [(0, .ref (SA + 1)), (1, .ref 0), (2, .ref 128), (3, .ref 139), (4, .int (i3 i)), (5, .int (i3 (cdL [eIO, eIA] (opPart q p0 p1))))] [.int (i3 (rvI (opPart q p0 p1)))] 140 h2
  rw [← i3_T (i3 (rvI (opPart q p0 p1)))]
  refine sL_law_1271 hc hX hL m2.o rfl ⟨_, _, rfl, hM2, ⟨rfl, ?_⟩⟩
  have kk := k h2 _ ⟨hD1.out f2 (by omega), ⟨_, hM2⟩, g1, hg1.fr f2 (by omega)⟩
  have rc : R3 (cdL [eIO, eIA] (opPart q p0 p1)) := R3_s (cdL_r _ _)
  refine sL_law_1277 hc hX hL (hg1.fr f2 (by omega)) ⟨rc, rc, fun _ => ⟨rc, fun _ => kk, fun z => ?_⟩, fun z => absurd rfl z⟩
  obtain ⟨w, ew⟩ := cdL_0 z
  have e0 := ez w ew
  have e1 : g1 (0 : Int).toNat = (i3 (rvI (opPart q p0 p1))).toInt := by rw [ew]; exact e0
  exact ⟨⟨by decide, by decide, by decide⟩, R3_T _, ⟨by rw [e1]; exact R36 (R3_T _), R36 (R3_T _)⟩, fun _ => kk, fun z => absurd e1 z⟩
set_option maxHeartbeats 4000000 in
set_option maxRecDepth 100000 in
theorem sL_law_1304 {X : Xt} {n : Nat} {h : HP} {a1 : Nat} {a2 : Nat} {a3 : Nat} {x4 : Int} {bb : Nat} {sb9 : Nat} (hc : Cx X cL_law RL 9 13 302) {L9 : Nat} {xs : Nat → Int32} (hX : ScX X L9 xs) (hL : CxL X) 
    (P : (Ix (x4 + 1) L9) ∧ spec_L_count [.ref a1, .int (i3 ((xs ((x4 + 1) : Int).toNat).toInt)), .ref a3] n h (kn X bb sb9 1312 [(0, .ref (SA + 1)), (1, .ref a1), (2, .ref a2), (3, .ref a3), (4, .int (i3 x4))] [] n)) :
    Ok X (bb + 1) (sb9 + 6) 1304 [(0, .ref (SA + 1)), (1, .ref a1), (2, .ref a2), (3, .ref a3), (4, .int (i3 x4))] [] n h := by
  refine ok_aload_n (pc := 1304) hc dL_law_1304 rfl 1 rfl ?_
  refine ok_aload_n (pc := 1305) hc dL_law_1305 rfl 0 rfl ?_
  refine ok_iload (pc := 1306) hc dL_law_1306 4 rfl ?_
  refine ok_iconst (pc := 1308) hc (v := i3 1) dL_law_1308 (by decide) ?_
  refine zk_iadd (pc := 1309) hc dL_law_1309 ?_
  obtain ⟨r, P⟩ := P
  refine ok_sld (pc := 1310) hc hX dL_law_1310 r ?_
  refine ok_aload_n (pc := 1311) hc dL_law_1311 rfl 3 rfl ?_
  exact ok_callSW (pc := 1312) (cb := bb) (sb := sb9) (st := []) hc [.ref a1, .int (i3 ((xs ((x4 + 1) : Int).toNat).toInt)), .ref a3] cw_L_158 sp_L_count (by decide) dL_law_1312 rfl rfl rfl rfl (Nat.le_of_ble_eq_true rfl) P
set_option maxHeartbeats 4000000 in
set_option maxRecDepth 100000 in
theorem sL_law_1315 {X : Xt} {n : Nat} {h : HP} {a1 : Nat} {a2 : Nat} {a3 : Nat} {x4 : Int} {t0 : Int} {bb : Nat} {sb9 : Nat} {fs1 : List Value} (hc : Cx X cL_law RL 9 13 302) {L9 : Nat} {xs : Nat → Int32} (hX : ScX X L9 xs) (hL : CxL X) (e1 : At h n a2 (.inl (7, fs1))) (z1 : fs1.length = 24)
    (P : (Ix (x4 + 1) L9) ∧ spec_X7_count [.ref a2, .int (i3 ((xs ((x4 + 1) : Int).toNat).toInt))] n h (kc X bb sb9 1324 [(0, .ref (SA + 1)), (1, .ref a1), (2, .ref a2), (3, .ref a3), (4, .int (i3 x4)), (5, .int (i3 t0))] [] n)) :
    Ok X bb sb9 1315 [(0, .ref (SA + 1)), (1, .ref a1), (2, .ref a2), (3, .ref a3), (4, .int (i3 x4))] [.int (i3 t0)] n h := by
  refine ok_istore (pc := 1315) hc (lv' := [(5, .int (i3 t0)), (0, .ref (SA + 1)), (1, .ref a1), (2, .ref a2), (3, .ref a3), (4, .int (i3 x4))]) dL_law_1315 (by decide) rfl ?_
  refine ok_aload_n (pc := 1317) hc dL_law_1317 rfl 3 rfl ?_
  refine ok_aload_n (pc := 1318) hc dL_law_1318 rfl 1 rfl ?_
  refine ok_iload (pc := 1319) hc dL_law_1319 5 rfl ?_
  refine ok_iconst (pc := 1321) hc (v := i3 1) dL_law_1321 (by decide) ?_
  refine zk_iadd (pc := 1322) hc dL_law_1322 ?_
  obtain ⟨r, P⟩ := P
  refine ok_sld (pc := 1323) hc hX dL_law_1323 r ?_
  refine ok_lv [1, 2, 3, 4, 5, 0] rfl ?_
  exact ok_callV (pc := 1324) (a := a2) (cb := bb) (sb := sb9) (st := []) hc [.int (i3 ((xs ((x4 + 1) : Int).toNat).toInt))] cv_L_160 sp_X7_count (by decide) dL_law_1324 rfl e1.1 e1.2 rfl rfl rfl (Nat.le_of_ble_eq_true rfl) P
set_option maxHeartbeats 4000000 in
set_option maxRecDepth 100000 in
theorem sL_law_1327 {X : Xt} {n : Nat} {h : HP} {a1 : Nat} {a2 : Nat} {a3 : Nat} {x4 : Int} {x5 : Int} {t0 : Int} {bb : Nat} {sb9 : Nat} {fs1 : List Value} (hc : Cx X cL_law RL 9 13 302) {L9 : Nat} {xs : Nat → Int32} (hX : ScX X L9 xs) (hL : CxL X) (e1 : At h n a2 (.inl (7, fs1))) (z1 : fs1.length = 24)
    (P : spec_X7_thrown [.ref a2] n h (kc X bb sb9 1330 [(0, .ref (SA + 1)), (1, .ref a1), (2, .ref a2), (3, .ref a3), (4, .int (i3 x4)), (5, .int (i3 x5)), (6, .int (i3 t0))] [] n)) :
    Ok X bb sb9 1327 [(0, .ref (SA + 1)), (1, .ref a1), (2, .ref a2), (3, .ref a3), (4, .int (i3 x4)), (5, .int (i3 x5))] [.int (i3 t0)] n h := by
  refine ok_istore (pc := 1327) hc (lv' := [(6, .int (i3 t0)), (0, .ref (SA + 1)), (1, .ref a1), (2, .ref a2), (3, .ref a3), (4, .int (i3 x4)), (5, .int (i3 x5))]) dL_law_1327 (by decide) rfl ?_
  refine ok_aload_n (pc := 1329) hc dL_law_1329 rfl 3 rfl ?_
  refine ok_lv [1, 2, 3, 4, 5, 6, 0] rfl ?_
  exact ok_callV (pc := 1330) (a := a2) (cb := bb) (sb := sb9) (st := []) hc [] cv_L_92 sp_X7_thrown (by decide) dL_law_1330 rfl e1.1 e1.2 rfl rfl rfl (Nat.le_of_ble_eq_true rfl) P
set_option maxHeartbeats 4000000 in
set_option maxRecDepth 100000 in
theorem sL_law_1333 {X : Xt} {n : Nat} {h : HP} {a1 : Nat} {a2 : Nat} {a3 : Nat} {x4 : Int} {x5 : Int} {x6 : Int} {t0 : Int} {bb : Nat} {sb9 : Nat} {len4 : Nat} {f4 : Nat → Int} (hc : Cx X cL_law RL 9 13 302) {L9 : Nat} {xs : Nat → Int32} (hX : ScX X L9 xs) (hL : CxL X) (e4 : At h n a3 (al len4 f4))
    (P : (R3 t0) ∧ (R3 x5) ∧ (t0 = x5 → (R3 x5) ∧ (¬ x5 = 0 → Ok X bb sb9 1415 [(0, .ref (SA + 1)), (1, .ref a1), (2, .ref a2), (3, .ref a3), (4, .int (i3 x4))] [] n h) ∧ (x5 = 0 → (Ix 0 len4) ∧ (R3 x6) ∧ (R6 (f4 (0 : Int).toNat) ∧ R6 x6) ∧ ((f4 (0 : Int).toNat) = x6 → Ok X bb sb9 1415 [(0, .ref (SA + 1)), (1, .ref a1), (2, .ref a2), (3, .ref a3), (4, .int (i3 x4))] [] n h) ∧ (¬ (f4 (0 : Int).toNat) = x6 → 0 = (1 : Int)))) ∧ (¬ t0 = x5 → 0 = (1 : Int))) :
    Ok X bb sb9 1333 [(0, .ref (SA + 1)), (1, .ref a1), (2, .ref a2), (3, .ref a3), (4, .int (i3 x4)), (5, .int (i3 x5)), (6, .int (i3 x6))] [.int (i3 t0)] n h := by
  refine ok_iload (pc := 1333) hc dL_law_1333 5 rfl ?_
  obtain ⟨r1, P⟩ := P
  obtain ⟨r2, P⟩ := P
  refine zk_icmp_eq (pc := 1335) (tgt := 1340) hc dL_law_1335 (by decide) r1 r2 (fun c => ?_) (fun c => ?_)
  · have P := P.1 c
    refine ok_iload (pc := 1340) hc dL_law_1340 5 rfl ?_
    obtain ⟨r3, P⟩ := P
    refine zk_if_ne (pc := 1342) (tgt := 1357) hc dL_law_1342 (by decide) r3 (fun c => ?_) (fun c => ?_)
    · have P := P.1 c
      refine ok_goto (pc := 1357) (tgt := 1415) hc dL_law_1357 (by decide) ?_
      refine ok_lv [0, 1, 2, 3, 4] rfl ?_
      exact P
    · have P := P.2 c
      refine ok_aload_n (pc := 1345) hc dL_law_1345 rfl 3 rfl ?_
      refine ok_iconst (pc := 1346) hc (v := i3 0) dL_law_1346 (by decide) ?_
      obtain ⟨r, P⟩ := P
      refine zk_lald (pc := 1347) hc dL_law_1347 e4.1 e4.2 r ?_
      refine ok_iload (pc := 1348) hc dL_law_1348 6 rfl ?_
      obtain ⟨r5, P⟩ := P
      refine zk_i2l (pc := 1350) hc dL_law_1350 r5 ?_
      obtain ⟨r, P⟩ := P
      refine zk_lcmp (pc := 1351) hc dL_law_1351 r ?_
      refine zk_if_eq (pc := 1352) (tgt := 1357) hc dL_law_1352 (by decide) R3_cmp (fun c => ?_) (fun c => ?_)
      · have P := P.1 (cmp_eq.mp c)
        refine ok_goto (pc := 1357) (tgt := 1415) hc dL_law_1357 (by decide) ?_
        refine ok_lv [0, 1, 2, 3, 4] rfl ?_
        exact P
      · have P := P.2 (fun z => c (cmp_eq.mpr z))
        refine ok_iconst (pc := 1355) hc (v := i3 0) dL_law_1355 (by decide) ?_
        exact ok_retL hc hL dL_law_1356 P
  · have P := P.2 c
    refine ok_iconst (pc := 1338) hc (v := i3 0) dL_law_1338 (by decide) ?_
    exact ok_retL hc hL dL_law_1339 P
theorem lw_count {X : Xt} {L9 : Nat} {xs : Nat → Int32} (hc : Cx X cL_law RL 9 13 302) (hX : ScX X L9 xs) (hL : CxL X) (hL9 : L9 ≤ 2048) {i : Nat} (hi : i + 4 ≤ L9) {h : HP} {q : Dsk} (I : LwI h q) {bb sb9 : Nat} (k : ∀ (h' : HP) (q' : Dsk), LwI h' q' → Ok X bb sb9 1415 [(0, .ref (SA + 1)), (1, .ref 0), (2, .ref 128), (3, .ref 139), (4, .int (i3 i))] [] 140 h') : Ok X (bb + 1) (sb9 + 6) 1304 [(0, .ref (SA + 1)), (1, .ref 0), (2, .ref 128), (3, .ref 139), (4, .int (i3 i))] [] 140 h := by
  obtain ⟨hD, ⟨t, hM⟩, g, hg⟩ := I
  obtain ⟨p0, hp0⟩ : ∃ p : Int, p = (xs ((i : Int) + 1).toNat).toInt := ⟨_, rfl⟩
  have r0 : R3 p0 := by rw [hp0]; exact R3_T _
  refine sL_law_1304 (bb := bb) (sb9 := sb9) hc hX hL ?_
  rw [← hp0]
  refine ⟨⟨by omega, by omega, by omega⟩, q, 139, g, p0, rfl, r0, hD, hg, by omega, fun h1 g1 hD1 hg1 ez hfr => ⟨rfl, ?_⟩⟩
  have hM1 : MdA h1 140 q t := hM.pt (fun x hx => hfr x (by omega) (by omega))
  obtain ⟨I1, F1, m1, -⟩ := id hM1
  refine sL_law_1315 hc hX hL m1.o rfl ?_
  rw [← hp0]
  refine ⟨⟨by omega, by omega, by omega⟩, q, t, p0, rfl, r0, hM1, fun h2 hM2 f2 => ⟨rfl, ?_⟩⟩
  obtain ⟨I2, F2, m2, -⟩ := id hM2
  show Ok X bb sb9 1327 [(0, .ref (SA + 1)), (1, .ref 0), (2, .ref 128), (3, .ref 139), (4, .int (i3 i)), (5, .int (i3 (cdL [eIA] (opCount q p0))))] [.int (i3 (rvI (opCount q p0)))] 140 h2
  rw [← i3_T (i3 (rvI (opCount q p0)))]
  refine sL_law_1327 hc hX hL m2.o rfl ⟨_, _, rfl, hM2, ⟨rfl, ?_⟩⟩
  have kk := k h2 _ ⟨hD1.out f2 (by omega), ⟨_, hM2⟩, g1, hg1.fr f2 (by omega)⟩
  have rc : R3 (cdL [eIA] (opCount q p0)) := R3_s (cdL_r _ _)
  refine sL_law_1333 hc hX hL (hg1.fr f2 (by omega)) ⟨rc, rc, fun _ => ⟨rc, fun _ => kk, fun z => ?_⟩, fun z => absurd rfl z⟩
  obtain ⟨w, ew⟩ := cdL_0 z
  have e0 := ez w ew
  have e1 : g1 (0 : Int).toNat = (i3 (rvI (opCount q p0))).toInt := by rw [ew]; exact e0
  exact ⟨⟨by decide, by decide, by decide⟩, R3_T _, ⟨by rw [e1]; exact R36 (R3_T _), R36 (R3_T _)⟩, fun _ => kk, fun z => absurd e1 z⟩
