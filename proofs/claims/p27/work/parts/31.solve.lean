/-! part 31: Math.abs, Replies.solve, TextReader.isComplete -/
section FBODY
variable {l : Launch}
/-- vx_ofW of a method of a class that the platform overrides in part, by the method's name -/
theorem of_WF {y : MethodName} {ws ws' : List Cond} {rm : Room} {Pc : Array Value → State → Prop} {Qc : Array Value → State → Outcome → State → Prop} {XC : String → State → State → Prop} {mc ms : Nat} {free : Addr → Prop} {cc : ByteArray} {maxL : Nat} {ret : Option FieldType}
    (hy : plainFor y = true) (hw : ws = Cond.code y cc maxL ret :: ws')
    (body : ∀ p e s m args below meth c s₁, BodyLoose p l y (headSpec ws rm) cc maxL ret e s m args below meth c s₁ → c.maxLocals = maxL → (∀ x ∈ c.exceptionTable.toList, False) → Pc args s →
      W p l e (headSpec ws rm).room s m args below meth c s.heap [] 0 0 (vx_MQ below Qc XC args s mc ms free) (entryFrame m args maxL)) : vx_Met l y ws rm Pc Qc XC mc ms free := by
  refine MetFree.of_bodySF (code := cc) (maxLocals := maxL) (ret := ret) hy ?_ ?_
  · intro args s m h hn
    obtain ⟨meth, c, h1, h2, h3, h4, h5, h6, -, -⟩ := Cond.code_spec hn (atoms_spec (ws := ws) h _ (by rw [hw]; exact List.mem_cons_self))
    exact ⟨meth, c, h1, h2, h3, h4, h5, h6⟩
  · intro p e s m args below meth c s₁ B hml hP _
    have hh0 : s₁.heap = s.heap := by rw [B.state]; rfl
    have ht : ∀ x ∈ c.exceptionTable.toList, False := by
      obtain ⟨meth9, c9, h1, h2, -, -, -, -, h7, -⟩ := Cond.code_spec B.named (atoms_spec (ws := ws) B.pre _ (by rw [hw]; exact List.mem_cons_self))
      cases Option.some.inj (h1.symm.trans B.method)
      cases Option.some.inj (h2.symm.trans (Stand.of_body B).code)
      intro x hx
      rw [Array.isEmpty_iff.mp h7] at hx
      cases hx
    obtain ⟨t, a1, o, b1, b2, b3⟩ := body p e s m args below meth c s₁ B hml ht hP s₁ hh0 (Stand.of_body B)
    exact ⟨t, o, a1, b1, b2, b3⟩
end FBODY
theorem sp_introF {y : MethodName} {cc : ByteArray} {nL : Nat} {ret : Option FieldType} {f L mc ms : Nat} {spec : List Value → Nat → HP → KT → Prop} (hy : plainFor y = true) (hsz : ∀ args n h K, spec args n h K → (lg_sl args).length ≤ nL)
    (body : ∀ (X : Xt) (args : List Value) (n : Nat) (h : HP) (K : KT), Cx X cc y.cls nL f L → CxR X ret K → spec args n h K → Ok X mc ms 0 (lv_args 0 args) [] n h) : Sp y cc nL ret f L mc ms spec := by
  intro l D bs A cy args n h K hst hn hs
  refine of_WF (cc := cc) (maxL := nL) (ret := ret) hy rfl ?_
  intro p e s m av below meth c s₁ B hml hno hv
  obtain ⟨hav, hw, hF, hbs⟩ := hv
  have hts := atoms_spec (ws := .code y cc nL ret :: lw_all) B.pre
  have hown : s.vm.findClass y.cls = some m.cls := findClass_of_methodNamed B.named
  have hX := body (p, l, e, { frames := f, cells := mc, slots := ms, locals := L }, s, m, av, below, meth, c, D, bs, A, n, vx_MQ below (gQ D bs A n K) (gX D bs A n K) av s mc ms (fun q => bs ≤ q)) args n h K ⟨B.exec, B.bytes, hown, fun w hw => hts w (List.mem_cons_of_mem _ hw), hml, Nat.le_refl _, Nat.le_refl _, hF, hst, B.notSynchronized, hbs⟩ ⟨B.returns, rfl, hno⟩ hs
  have hl := lv_entry (args.map (trV A)) (n := nL) (by rw [sl_map]; exact hsz args n h K hs)
  rw [args_map] at hl
  rw [hav] at hX ⊢
  rw [lg_entry_eq]
  exact hX A cy s.heap [] _ 0 0 (fun _ _ => rfl) (Nat.le_refl _) hn (fun _ => rfl) hw va_S.rf (by rw [hml]; exact hl) (by simp) (by simp)
def absZ (x : Int) : Int := if 0 ≤ x then x else -x
set_option maxHeartbeats 4000000 in
set_option maxRecDepth 100000 in
theorem sJ9_abs_067f4_0 {X : Xt} {n : Nat} {h : HP} {l0 : Int} (hc : Cx X cJ9_abs_067f4 RJ9 2 0 0) {K : KT} (hr : CxR X (some .long) K) 
    (P : (R6 l0 ∧ R6 0) ∧ (0 ≤ l0 → K (.inl (some (.long (i6 l0)))) n h) ∧ (¬ 0 ≤ l0 → K (.inl (some (.long (i6 (-l0))))) n h)) :
    Ok X 0 0 0 [(0, .long (i6 l0))] [] n h := by
  refine ok_lload_n (pc := 0) hc dJ9_abs_067f4_0 rfl 0 rfl ?_
  refine ok_lconst (pc := 1) hc (v := i6 0) dJ9_abs_067f4_1 (by decide) ?_
  obtain ⟨r, P⟩ := P
  refine zk_lcmp (pc := 2) hc dJ9_abs_067f4_2 r ?_
  refine zk_if_ge (pc := 3) (tgt := 11) hc dJ9_abs_067f4_3 (by decide) R3_cmp (fun c => ?_) (fun c => ?_)
  · have P := P.1 (cmp_ge.mp c)
    refine ok_lload_n (pc := 11) hc dJ9_abs_067f4_11 rfl 0 rfl ?_
    exact ok_lret (st := []) (pc := 12) hc hr dJ9_abs_067f4_12 P
  · have P := P.2 (fun z => c (cmp_ge.mpr z))
    refine ok_lload_n (pc := 6) hc dJ9_abs_067f4_6 rfl 0 rfl ?_
    refine zk_lneg (pc := 7) hc dJ9_abs_067f4_7 ?_
    refine ok_goto (pc := 8) (tgt := 12) hc dJ9_abs_067f4_8 (by decide) ?_
    exact ok_lret (st := []) (pc := 12) hc hr dJ9_abs_067f4_12 P

set_option maxHeartbeats 4000000 in
set_option maxRecDepth 100000 in
theorem sJ9_abs_0f7a4_0 {X : Xt} {n : Nat} {h : HP} {x0 : Int} (hc : Cx X cJ9_abs_0f7a4 RJ9 1 0 0) {K : KT} (hr : CxR X (some .int) K) 
    (P : (R3 x0) ∧ (0 ≤ x0 → K (.inl (some (.int (i3 x0)))) n h) ∧ (¬ 0 ≤ x0 → K (.inl (some (.int (i3 (-x0))))) n h)) :
    Ok X 0 0 0 [(0, .int (i3 x0))] [] n h := by
  refine ok_iload_n (pc := 0) hc dJ9_abs_0f7a4_0 rfl 0 rfl ?_
  obtain ⟨r1, P⟩ := P
  refine zk_if_ge (pc := 1) (tgt := 9) hc dJ9_abs_0f7a4_1 (by decide) r1 (fun c => ?_) (fun c => ?_)
  · have P := P.1 c
    refine ok_iload_n (pc := 9) hc dJ9_abs_0f7a4_9 rfl 0 rfl ?_
    exact ok_iret (st := []) (pc := 10) hc hr dJ9_abs_0f7a4_10 P
  · have P := P.2 c
    refine ok_iload_n (pc := 4) hc dJ9_abs_0f7a4_4 rfl 0 rfl ?_
    refine zk_ineg (pc := 5) hc dJ9_abs_0f7a4_5 ?_
    refine ok_goto (pc := 6) (tgt := 10) hc dJ9_abs_0f7a4_6 (by decide) ?_
    exact ok_iret (st := []) (pc := 10) hc hr dJ9_abs_0f7a4_10 P

def spec_J9_abs_067f4 (args : List Value) (n : Nat) (h : HP) (K : KT) : Prop := ∃ x : Int, args = [.long (i6 x)] ∧ R6 x ∧ K (.inl (some (.long (i6 (absZ x))))) n h
theorem sp_J9_abs_067f4 : Sp yJ9_abs_067f4 cJ9_abs_067f4 2 (some .long) 0 0 0 0 spec_J9_abs_067f4 := by
  refine sp_introF (by decide +kernel) (by rintro args n h K ⟨x, rfl, -⟩; exact Nat.le_of_ble_eq_true rfl) ?_
  rintro X args n h K hc hr ⟨x, rfl, hx, kk⟩
  unfold absZ at kk
  exact sJ9_abs_067f4_0 hc hr ⟨⟨hx, R6_0⟩, fun c => by rw [if_pos c] at kk; exact kk, fun c => by rw [if_neg c] at kk; exact kk⟩
def spec_J9_abs_0f7a4 (args : List Value) (n : Nat) (h : HP) (K : KT) : Prop := ∃ x : Int, args = [.int (i3 x)] ∧ R3 x ∧ K (.inl (some (.int (i3 (absZ x))))) n h
theorem sp_J9_abs_0f7a4 : Sp yJ9_abs_0f7a4 cJ9_abs_0f7a4 1 (some .int) 0 0 0 0 spec_J9_abs_0f7a4 := by
  refine sp_introF (by decide +kernel) (by rintro args n h K ⟨x, rfl, -⟩; exact Nat.le_of_ble_eq_true rfl) ?_
  rintro X args n h K hc hr ⟨x, rfl, hx, kk⟩
  unfold absZ at kk
  refine sJ9_abs_0f7a4_0 hc hr ⟨hx, fun c => ?_, fun c => ?_⟩
  · first | (rw [if_pos (by omega)] at kk; exact kk) | (rw [if_neg (by omega)] at kk; exact kk)
  · first | (rw [if_neg (by omega)] at kk; exact kk) | (rw [if_pos (by omega)] at kk; exact kk)
/-- the Replies at r: its rows, denominators D, numerators N -/
def RpA (h : HP) (n r : Nat) (D : Nat → Int) (N : Nat → Nat → Int) : Prop := ∃ (M : Mat) (d : Nat → Int) (g : Nat → Option Nat) (v : Nat → Nat → Int), RwA h n r M ∧ At h n (r + 1) (al 8 d) ∧ At h n (r + 2) (.inr (4, 8, .inr (.inr g))) ∧ (∀ j, j < 8 → g j = some (r + 3 + j) ∧ At h n (r + 3 + j) (al 49 (v j)) ∧ d j = D j ∧ ∀ x, x < 49 → v j x = N j x)
theorem RpA.fr {h h' : HP} {n r lo hi : Nat} {D : Nat → Int} {N : Nat → Nat → Int} (p : RpA h n r D N) (f : Fr h h' lo hi) (q : r + 18 < lo ∨ hi < r) : RpA h' n r D N := by
  obtain ⟨M, d, g, v, h1, h2, h3, h4⟩ := p
  exact ⟨M, d, g, v, h1.fr f (by omega) (by omega), h2.fr f (by omega), h3.fr f (by omega), fun j hj => ⟨(h4 j hj).1, (h4 j hj).2.1.fr f (by omega), (h4 j hj).2.2⟩⟩
theorem RpA.eq {h : HP} {n r : Nat} {D D' : Nat → Int} {N N' : Nat → Nat → Int} (p : RpA h n r D N) (e : ∀ j, j < 8 → D j = D' j ∧ ∀ x, x < 49 → N j x = N' j x) : RpA h n r D' N' := by
  obtain ⟨M, d, g, v, h1, h2, h3, h4⟩ := p
  exact ⟨M, d, g, v, h1, h2, h3, fun j hj => ⟨(h4 j hj).1, (h4 j hj).2.1, (h4 j hj).2.2.1.trans (e j hj).1, fun x hx => ((h4 j hj).2.2.2 x hx).trans ((e j hj).2 x hx)⟩⟩
/-- what the class finds for the case's set m of saturated amplifiers -/
def solD (ps : List Part) (m : Nat) : Int := absZ (elimN 7 0 1 (rowsM m ps)).1
def solN (ps : List Part) (m : Nat) : Nat → Int := ansF (elimN 7 0 1 (rowsM m ps)).2 (if 0 ≤ (elimN 7 0 1 (rowsM m ps)).1 then 1 else -1)
theorem EOk.R6 : ∀ {f k : Nat} {p : Int} {M : Mat}, EOk f k p M → _root_.Jvm.Pilot.@@N@@.R6 p → _root_.Jvm.Pilot.@@N@@.R6 (elimN f k p M).1
  | 0, _, _, _, _, h => h
  | f + 1, k, p, M, h, _ => by
    obtain ⟨hb, hp, hp6, hs⟩ := h
    rw [show elimN (f + 1) k p M = (match pivN M k (7 - k) k with | none => (0, M) | some i => elimN f (k + 1) (M i k) (clearM (swapM M i k) k p)) from rfl]
    cases hq : pivN M k (7 - k) k with
    | none => exact R6_0
    | some i =>
      have hps := pivN_spec hq
      exact (hs i hq).R6 (hb.r (by omega) (by omega))
set_option maxHeartbeats 4000000 in
set_option maxRecDepth 100000 in
theorem sX3_solve_0 {X : Xt} {n : Nat} {h : HP} {a0 : Nat} {a1 : Nat} {x2 : Int} (hc : Cx X cX3_solve RX3 6 3 72) {K : KT} (hr : CxR X none K) 
    (P : Ok X 0 0 2 [(0, .ref a0), (1, .ref a1), (2, .int (i3 x2)), (3, .int (i3 0))] [] n h) :
    Ok X 0 0 0 [(0, .ref a0), (1, .ref a1), (2, .int (i3 x2))] [] n h := by
  refine ok_iconst (pc := 0) hc (v := i3 0) dX3_solve_0 (by decide) ?_
  refine ok_istore_n (pc := 1) hc (lv' := [(3, .int (i3 0)), (0, .ref a0), (1, .ref a1), (2, .int (i3 x2))]) dX3_solve_1 rfl (by decide) rfl ?_
  refine ok_lv [1, 2, 3, 0] rfl ?_
  exact P

set_option maxHeartbeats 4000000 in
set_option maxRecDepth 100000 in
theorem sX3_solve_2 {X : Xt} {n : Nat} {h : HP} {a0 : Nat} {a1 : Nat} {x2 : Int} {x3 : Int} (hc : Cx X cX3_solve RX3 6 3 72) {K : KT} (hr : CxR X none K) 
    (P : (R3 x3) ∧ (R3 (bshl 1 x2)) ∧ ((bshl 1 x2) ≤ x3 → K (.inl none) n h) ∧ (¬ (bshl 1 x2) ≤ x3 → Ok X 0 0 9 [(0, .ref a0), (1, .ref a1), (2, .int (i3 x2)), (3, .int (i3 x3))] [] n h)) :
    Ok X 0 0 2 [(0, .ref a0), (1, .ref a1), (2, .int (i3 x2)), (3, .int (i3 x3))] [] n h := by
  refine ok_iload_n (pc := 2) hc dX3_solve_2 rfl 3 rfl ?_
  refine ok_iconst (pc := 3) hc (v := i3 1) dX3_solve_3 (by decide) ?_
  refine ok_iload_n (pc := 4) hc dX3_solve_4 rfl 2 rfl ?_
  refine zk_ishl (pc := 5) hc dX3_solve_5 ?_
  obtain ⟨r1, P⟩ := P
  obtain ⟨r2, P⟩ := P
  refine zk_icmp_ge (pc := 6) (tgt := 60) hc dX3_solve_6 (by decide) r1 r2 (fun c => ?_) (fun c => ?_)
  · have P := P.1 c
    exact ok_vret (st := []) (pc := 60) hc hr dX3_solve_60 P
  · have P := P.2 c
    exact P

set_option maxHeartbeats 4000000 in
set_option maxRecDepth 100000 in
theorem sX3_solve_9 {X : Xt} {n : Nat} {h : HP} {a0 : Nat} {a1 : Nat} {x2 : Int} {x3 : Int} {fs1 : List Value} (hc : Cx X cX3_solve RX3 6 3 72) {K : KT} (hr : CxR X none K) (e1 : At h n a0 (.inl (3, fs1))) (z1 : fs1.length = 3)
    (P : spec_X3_writeRows [.ref a0, .ref a1, .int (i3 x3)] n h (kc X 0 0 12 [(0, .ref a0), (1, .ref a1), (2, .int (i3 x2)), (3, .int (i3 x3))] [] n)) :
    Ok X 0 0 9 [(0, .ref a0), (1, .ref a1), (2, .int (i3 x2)), (3, .int (i3 x3))] [] n h := by
  refine ok_aload_n (pc := 9) hc dX3_solve_9 rfl 0 rfl ?_
  refine ok_aload_n (pc := 10) hc dX3_solve_10 rfl 1 rfl ?_
  refine ok_iload_n (pc := 11) hc dX3_solve_11 rfl 3 rfl ?_
  exact ok_callV (pc := 12) (a := a0) (cb := 0) (sb := 0) (st := []) hc [.ref a1, .int (i3 x3)] cv_X3_23 sp_X3_writeRows (by decide) dX3_solve_12 rfl e1.1 e1.2 rfl rfl rfl (Nat.le_of_ble_eq_true rfl) P

set_option maxHeartbeats 4000000 in
set_option maxRecDepth 100000 in
theorem sX3_solve_15 {X : Xt} {n : Nat} {h : HP} {a0 : Nat} {a1 : Nat} {x2 : Int} {x3 : Int} {fs1 : List Value} (hc : Cx X cX3_solve RX3 6 3 72) {K : KT} (hr : CxR X none K) (e1 : At h n a0 (.inl (3, fs1))) (z1 : fs1.length = 3)
    (P : spec_X3_eliminate [.ref a0] n h (kc X 0 0 16 [(0, .ref a0), (1, .ref a1), (2, .int (i3 x2)), (3, .int (i3 x3))] [] n)) :
    Ok X 0 0 15 [(0, .ref a0), (1, .ref a1), (2, .int (i3 x2)), (3, .int (i3 x3))] [] n h := by
  refine ok_aload_n (pc := 15) hc dX3_solve_15 rfl 0 rfl ?_
  exact ok_callV (pc := 16) (a := a0) (cb := 0) (sb := 0) (st := []) hc [] cv_X3_27 sp_X3_eliminate (by decide) dX3_solve_16 rfl e1.1 e1.2 rfl rfl rfl (Nat.le_of_ble_eq_true rfl) P

set_option maxHeartbeats 4000000 in
set_option maxRecDepth 100000 in
theorem sX3_solve_19 {X : Xt} {n : Nat} {h : HP} {a0 : Nat} {a1 : Nat} {x2 : Int} {x3 : Int} {tl0 : Int} {fs1 : List Value} {q2 : Nat} {len3 : Nat} {f3 : Nat → Int} {q4 : Nat} {len5 : Nat} {f5 : Nat → Option Nat} {q6 : Nat} (hc : Cx X cX3_solve RX3 6 3 72) {K : KT} (hr : CxR X none K) (e1 : At h n a0 (.inl (3, fs1))) (z1 : fs1.length = 3) (v1_0 : fs1[0]? = some (.ref q2)) (e3 : At h n q2 (al len3 f3)) (v1_1 : fs1[1]? = some (.ref q4)) (e5 : At h n q4 (.inr (4, len5, .inr (.inr f5)))) (g7 : (f5 (x3 : Int).toNat) = some q6)
    (P : (R6 tl0) ∧ (Ix x3 len3) ∧ (Ix x3 len5) ∧ (R6 tl0 ∧ R6 0) ∧ (0 ≤ tl0 → spec_X3_copyAnswers [.ref a0, .ref q6, .int (i3 1)] n (va_up h q2 (al len3 (va_up f3 (x3 : Int).toNat (absZ tl0)))) (kc X 0 0 51 [(0, .ref a0), (1, .ref a1), (2, .int (i3 x2)), (3, .int (i3 x3)), (4, .long (i6 tl0))] [] n)) ∧ (¬ 0 ≤ tl0 → spec_X3_copyAnswers [.ref a0, .ref q6, .int (i3 (-1))] n (va_up h q2 (al len3 (va_up f3 (x3 : Int).toNat (absZ tl0)))) (kc X 0 0 51 [(0, .ref a0), (1, .ref a1), (2, .int (i3 x2)), (3, .int (i3 x3)), (4, .long (i6 tl0))] [] n))) :
    Ok X 0 0 19 [(0, .ref a0), (1, .ref a1), (2, .int (i3 x2)), (3, .int (i3 x3))] [.long (i6 tl0)] n h := by
  refine ok_lstore (pc := 19) hc (lv' := [(4, .long (i6 tl0)), (0, .ref a0), (1, .ref a1), (2, .int (i3 x2)), (3, .int (i3 x3))]) dX3_solve_19 (by decide) rfl ?_
  refine ok_aload_n (pc := 21) hc dX3_solve_21 rfl 1 rfl ?_
  refine ok_get (pc := 22) hc fl_X3_9 dX3_solve_22 e1.1 e1.2 v1_0 ?_
  refine ok_iload_n (pc := 25) hc dX3_solve_25 rfl 4 rfl ?_
  refine ok_lload (pc := 26) hc dX3_solve_26 0 rfl ?_
  obtain ⟨r0, P⟩ := P
  refine ok_callS (pc := 28) (cb := 0) (sb := 0) (st := [.int (i3 x3), .ref q2]) hc [.long (i6 tl0)] cs_X3_31 sp_J9_abs_067f4 (by decide) dX3_solve_28 rfl rfl rfl rfl (Nat.le_of_ble_eq_true rfl) (⟨_, rfl, r0, rfl, ?_⟩)
  show Ok X 0 0 (28 + 3) [(4, .long (i6 tl0)), (0, .ref a0), (1, .ref a1), (2, .int (i3 x2)), (3, .int (i3 x3))] [.long (i6 (absZ tl0)), .int (i3 x3), .ref q2] n h
  obtain ⟨r, P⟩ := P
  refine zk_last (pc := 31) hc dX3_solve_31 e3.1 e3.2 r ?_
  refine ok_aload_n (pc := 32) hc dX3_solve_32 rfl 1 rfl ?_
  refine ok_aload_n (pc := 33) hc dX3_solve_33 rfl 1 rfl ?_
  refine ok_get (pc := 34) hc fl_X3_17 dX3_solve_34 e1.1 ((up_ne (ne_oa e1.2 e3.2)).trans e1.2) v1_1 ?_
  refine ok_iload_n (pc := 37) hc dX3_solve_37 rfl 4 rfl ?_
  obtain ⟨r, P⟩ := P
  refine zk_aald (pc := 38) hc dX3_solve_38 e5.1 ((up_ne (ne_aa e5.2 e3.2 (by decide))).trans e5.2) rfl r g7 ?_
  refine ok_lload (pc := 39) hc dX3_solve_39 0 rfl ?_
  refine ok_lconst (pc := 41) hc (v := i6 0) dX3_solve_41 (by decide) ?_
  obtain ⟨r, P⟩ := P
  refine zk_lcmp (pc := 42) hc dX3_solve_42 r ?_
  refine zk_if_ge (pc := 43) (tgt := 50) hc dX3_solve_43 (by decide) R3_cmp (fun c => ?_) (fun c => ?_)
  · have P := P.1 (cmp_ge.mp c)
    refine ok_iconst (pc := 50) hc (v := i3 1) dX3_solve_50 (by decide) ?_
    refine ok_lv [1, 2, 3, 4, 0] rfl ?_
    exact ok_callV (pc := 51) (a := a0) (cb := 0) (sb := 0) (st := []) hc [.ref q6, .int (i3 1)] cv_X3_37 sp_X3_copyAnswers (by decide) dX3_solve_51 rfl e1.1 ((up_ne (ne_oa e1.2 e3.2)).trans e1.2) rfl rfl rfl (Nat.le_of_ble_eq_true rfl) P
  · have P := P.2 (fun z => c (cmp_ge.mpr z))
    refine ok_iconst (pc := 46) hc (v := i3 (-1)) dX3_solve_46 (by decide) ?_
    refine ok_goto (pc := 47) (tgt := 51) hc dX3_solve_47 (by decide) ?_
    refine ok_lv [1, 2, 3, 4, 0] rfl ?_
    exact ok_callV (pc := 51) (a := a0) (cb := 0) (sb := 0) (st := []) hc [.ref q6, .int (i3 (-1))] cv_X3_37 sp_X3_copyAnswers (by decide) dX3_solve_51 rfl e1.1 ((up_ne (ne_oa e1.2 e3.2)).trans e1.2) rfl rfl rfl (Nat.le_of_ble_eq_true rfl) P

set_option maxHeartbeats 4000000 in
set_option maxRecDepth 100000 in
theorem sX3_solve_54 {X : Xt} {n : Nat} {h : HP} {a0 : Nat} {a1 : Nat} {x2 : Int} {x3 : Int} {l4 : Int} (hc : Cx X cX3_solve RX3 6 3 72) {K : KT} (hr : CxR X none K) 
    (P : Ok X 0 0 2 [(0, .ref a0), (1, .ref a1), (2, .int (i3 x2)), (3, .int (i3 (x3 + 1)))] [] n h) :
    Ok X 0 0 54 [(0, .ref a0), (1, .ref a1), (2, .int (i3 x2)), (3, .int (i3 x3)), (4, .long (i6 l4))] [] n h := by
  refine zk_iinc (pc := 54) hc (q := 3) (x := x3) (lv' := [(3, .int (i3 (x3 + 1))), (0, .ref a0), (1, .ref a1), (2, .int (i3 x2)), (4, .long (i6 l4))]) dX3_solve_54 rfl (by decide) rfl ?_
  refine ok_goto (pc := 57) (tgt := 2) hc dX3_solve_57 (by decide) ?_
  refine ok_lv [1, 2, 3, 0] rfl ?_
  exact P

def spec_X3_solve (args : List Value) (n : Nat) (h : HP) (K : KT) : Prop := ∃ (r a cap k : Nat) (D : Nat → Int) (N : Nat → Nat → Int) (ps : List Part), args = [.ref r, .ref a, .int (i3 k)] ∧ k ≤ 3 ∧ RpA h n r D N ∧ PtA h n a cap ps ∧ (a + 4 < r ∨ r + 18 < a) ∧ (∀ m, m < 2 ^ k → EOk 7 0 1 (rowsM (m : Nat) ps)) ∧ ∀ (h' : HP) (D' : Nat → Int) (N' : Nat → Nat → Int), RpA h' n r D' N' → (∀ m, m < 2 ^ k → D' m = solD ps m ∧ N' m = solN ps m) → Fr h h' (r + 1) (r + 18) → K (.inl none) n h'
theorem sp_X3_solve : Sp yX3_solve cX3_solve 6 none 3 72 0 0 spec_X3_solve := by
  refine sp_intro (by decide) (by rintro args n h K ⟨r, a, cap, k, D, N, ps, rfl, -⟩; exact Nat.le_of_ble_eq_true rfl) ?_
  rintro X args n h K hc hr ⟨r, a, cap, k, D, N, ps, rfl, hk, hR, hA, hd, hE, kk⟩
  have e2 : bshl 1 k = ((2 ^ k : Nat) : Int) := by
    rcases (by omega : k = 0 ∨ k = 1 ∨ k = 2 ∨ k = 3) with rfl | rfl | rfl | rfl <;> decide
  have e8 : 2 ^ k ≤ 8 ∧ ((2 ^ k : Nat) : Int) ≤ 8 ∧ 0 ≤ ((2 ^ k : Nat) : Int) := by
    rcases (by omega : k = 0 ∨ k = 1 ∨ k = 2 ∨ k = 3) with rfl | rfl | rfl | rfl <;> decide
  obtain ⟨e8, e8', e9⟩ := e8
  have L : ∀ (f m : Nat) (hh : HP) (D : Nat → Int) (N : Nat → Nat → Int), m + f = 2 ^ k → RpA hh n r D N → (∀ j, j < m → D j = solD ps j ∧ N j = solN ps j) → Fr h hh (r + 1) (r + 18) → Ok X 0 0 2 [(0, .ref r), (1, .ref a), (2, .int (i3 k)), (3, .int (i3 m))] [] n hh := by
    intro f
    induction f with
    | zero =>
      intro m hh D N hm hR hj hf
      have : m = 2 ^ k := by omega
      subst this
      exact sX3_solve_2 hc hr ⟨⟨by omega, by omega⟩, by rw [e2]; exact ⟨by omega, by omega⟩, fun _ => kk hh D N hR hj hf, fun c => absurd (by rw [e2]; omega) c⟩
    | succ f ih =>
      intro m hh D N hm hR hj hf
      obtain ⟨M, d, g, v, h1, h2, h3, h4⟩ := hR
      refine sX3_solve_2 hc hr ⟨R3_s (by omega), by rw [e2]; exact R3_s (by omega), fun c => absurd c (by rw [e2]; omega), fun _ => ?_⟩
      have ha := hA.fr hf (by omega)
      obtain ⟨_, _, _, hS0, _⟩ := h1.s
      refine sX3_solve_9 hc hr hS0.1 rfl ⟨r, a, cap, m, M, ps, rfl, h1, ha, hd, fun hb hMb hfb => ⟨rfl, ?_⟩⟩
      obtain ⟨_, _, _, hSb, _⟩ := hMb.s
      refine sX3_solve_15 hc hr hSb.1 rfl ⟨r, _, rfl, hMb, hE m (by omega), fun hc' hMc hfc => ⟨rfl, ?_⟩⟩
      obtain ⟨_, _, _, hSc, _⟩ := hMc.s
      have hf2 := hfb.tr hfc
      have h2c := h2.fr hf2 (by omega)
      have h3c := h3.fr hf2 (by omega)
      have h4c : ∀ j, j < 8 → At hc' n (r + 3 + j) (al 49 (v j)) := fun j hj => (h4 j hj).2.1.fr hf2 (by omega)
      have r6 : R6 (elimN 7 0 1 (rowsM (m : Nat) ps)).1 := (hE m (by omega)).R6 ⟨by decide, by decide⟩
      have gm : g (m : Int).toNat = some (r + 3 + m) := by rw [Int.toNat_natCast]; exact (h4 m (by omega)).1
      have fin : ∀ (G : Nat → Int), (∀ x, x < 49 → G x = solN ps m x) → Ok X 0 0 2 [(0, .ref r), (1, .ref a), (2, .int (i3 k)), (3, .int (i3 (m + 1 : Nat)))] [] n (va_up (va_up hc' (r + 1) (al 8 (va_up d (m : Int).toNat (solD ps m)))) (r + 3 + m) (al 49 G)) := by
        intro G hG
        refine ih (m + 1) _ (va_up D m (solD ps m)) (va_up N m (solN ps m)) (by omega) ⟨_, va_up d m (solD ps m), g, va_up v m G, ((hMc.fr (Fr.rf.up (c := r + 1) (e := al 8 (va_up d (m : Int).toNat (solD ps m))) (lo := r + 1) (hi := r + 10) (by omega)) (by omega) (by omega)).fr (Fr.rf.up (c := r + 3 + m) (lo := r + 1) (hi := r + 10) (by omega)) (by omega) (by omega)), ?_, ?_, fun j hj' => ?_⟩ (fun j hj' => ?_) (((hf.tr (hf2.sub (by omega) (by omega))).up (by omega)).up (by omega))
        · rw [Int.toNat_natCast]
          exact h2c.it.up (by omega)
        · exact (h3c.up (by omega)).up (by omega)
        · by_cases z : j = m
          · subst z
            rw [up_self, up_self, up_self, up_self]
            exact ⟨(h4 j hj').1, ((h4c j hj').up (by omega)).it, rfl, hG⟩
          · rw [up_ne z, up_ne z, up_ne z, up_ne z]
            exact ⟨(h4 j hj').1, ((h4c j hj').up (by omega)).up (by omega), (h4 j hj').2.2⟩
        · by_cases z : j = m
          · subst z
            rw [up_self, up_self]
            exact ⟨rfl, rfl⟩
          · rw [up_ne z, up_ne z]
            exact hj j (by omega)
      have R1 : RwA (va_up hc' (r + 1) (al 8 (va_up d (m : Int).toNat (absZ (elimN 7 0 1 (rowsM (m : Nat) ps)).1)))) n r _ := hMc.fr (Fr.rf.up (c := r + 1) (lo := r + 1) (hi := r + 1) (by omega)) (by omega) (by omega)
      have A1 : At (va_up hc' (r + 1) (al 8 (va_up d (m : Int).toNat (absZ (elimN 7 0 1 (rowsM (m : Nat) ps)).1)))) n (r + 3 + m) (al 49 (v m)) := (h4c m (by omega)).up (by omega)
      refine sX3_solve_19 hc hr hSc.1 rfl rfl h2c rfl h3c gm ⟨r6, ⟨by omega, by omega, by omega⟩, ⟨by omega, by omega, by omega⟩, ⟨r6, R6_0⟩, fun c => ?_, fun c => ?_⟩
      · refine ⟨r, r + 3 + m, 1, _, v m, rfl, R3_s (by omega), R1, A1, by omega, by omega, fun G hG => ⟨rfl, sX3_solve_54 hc hr ?_⟩⟩
        refine fin G (fun x hx => ?_)
        unfold solN
        rw [if_pos c]
        exact hG x hx
      · refine ⟨r, r + 3 + m, -1, _, v m, rfl, R3_s (by omega), R1, A1, by omega, by omega, fun G hG => ⟨rfl, sX3_solve_54 hc hr ?_⟩⟩
        refine fin G (fun x hx => ?_)
        unfold solN
        rw [if_neg c]
        exact hG x hx
  exact sX3_solve_0 hc hr (L (2 ^ k) 0 h D N (by omega) hR (fun j hj => absurd hj (Nat.not_lt_zero j)) Fr.rf)
/-- the parts that a text describes, if it describes parts -/
def compl (B : List Int) : Option (List Part) := (rrun (q0R (fun _ => 0) [] (-1)) B).2.bind endP
def RdRel (q q' : RdQ) : Prop := q'.1 = q.1 ∧ q'.2.1 = q.2.1 ∧ q'.2.2.1 = q.2.2.1 ∧ q'.2.2.2.1 = q.2.2.2.1 ∧ q'.2.2.2.2.1 = q.2.2.2.2.1 ∧ q'.2.2.2.2.2.2 = q.2.2.2.2.2.2 ∧ (q.1 ≠ 1 → ∀ j : Nat, (j : Int) < q.2.1 → q'.2.2.2.2.2.1 j = q.2.2.2.2.2.1 j)
theorem RdRel.endP {q q' : RdQ} (p : RdRel q q') : _root_.Jvm.Pilot.@@N@@.endP q' = _root_.Jvm.Pilot.@@N@@.endP q := by
  obtain ⟨k, c, nd, ng, v, D, ps⟩ := q
  obtain ⟨k', c', nd', ng', v', D', ps'⟩ := q'
  obtain ⟨rfl, rfl, rfl, rfl, rfl, rfl, h⟩ := p
  simp only at h
  unfold _root_.Jvm.Pilot.@@N@@.endP
  simp only
  split
  · rfl
  · split
    · rfl
    · split
      · rfl
      · rw [h (by assumption) 0 (by omega), h (by assumption) 1 (by omega), h (by assumption) 2 (by omega)]
def ORel : Option RdQ → Option RdQ → Prop
  | none, none => True
  | some a, some b => RdRel a b
  | _, _ => False
theorem RdRel.step {q q' : RdQ} (p : RdRel q q') (x : Int) : ORel (rstep q x) (rstep q' x) := by
  have hend := p.endP
  obtain ⟨k, c, nd, ng, v, D, ps⟩ := q
  obtain ⟨k', c', nd', ng', v', D', ps'⟩ := q'
  obtain ⟨rfl, rfl, rfl, rfl, rfl, rfl, h⟩ := p
  simp only at h
  have z0 : ∀ (D D' : Nat → Int) (ps : List Part) (k : Int), RdRel (q0R D ps k) (q0R D' ps k) := fun D D' ps k => ⟨rfl, rfl, rfl, rfl, rfl, rfl, fun _ j hj => absurd hj (by show ¬ ((j : Int) < 0); omega)⟩
  unfold rstep
  simp only
  by_cases c1 : k' = -1
  · rw [if_pos c1, if_pos c1]
    by_cases c2 : kl x = -1
    · rw [if_pos c2, if_pos c2]
      trivial
    · rw [if_neg c2, if_neg c2]
      exact z0 _ _ _ _
  · rw [if_neg c1, if_neg c1]
    by_cases c2 : x = 59
    · rw [if_pos c2, if_pos c2, hend]
      cases _root_.Jvm.Pilot.@@N@@.endP (k', c', nd', ng', v', D, ps') with
      | none => trivial
      | some ps => exact z0 _ _ _ _
    · rw [if_neg c2, if_neg c2]
      by_cases c3 : k' = 1
      · rw [if_pos c3, if_pos c3]
        unfold stepS stepV
        simp only
        split
        · split
          · trivial
          · exact ⟨rfl, rfl, rfl, rfl, rfl, rfl, fun z => absurd c3 z⟩
        · split
          · split
            · exact ⟨rfl, rfl, rfl, rfl, rfl, rfl, fun z => absurd c3 z⟩
            · trivial
          · split
            · exact ⟨rfl, rfl, rfl, rfl, rfl, rfl, fun z => absurd c3 z⟩
            · trivial
      · rw [if_neg c3, if_neg c3]
        unfold stepD digOk
        simp only
        generalize (if k' = 0 ∧ c' = 2 then decide (49 ≤ x ∧ x ≤ 52) else decide (48 ≤ x ∧ x ≤ 54)) = dg
        split
        · refine ⟨rfl, rfl, rfl, rfl, rfl, rfl, fun _ j hj => ?_⟩
          simp only at hj ⊢
          by_cases z : j = c'.toNat
          · rw [z, up_self, up_self]
          · rw [up_ne z, up_ne z]
            exact h c3 j (by omega)
        · trivial
theorem RdRel.run : ∀ {B : List Int} {q q' : RdQ}, RdRel q q' → (rrun q' B).1 = (rrun q B).1 ∧ ORel (rrun q B).2 (rrun q' B).2
  | [], q, q', p => ⟨rfl, p⟩
  | c :: cs, q, q', p => by
    have hs := p.step c
    unfold rrun
    cases h1 : rstep q c with
    | none =>
      cases h2 : rstep q' c with
      | none => exact ⟨rfl, trivial⟩
      | some b => rw [h1, h2] at hs; exact absurd hs id
    | some a =>
      cases h2 : rstep q' c with
      | none => rw [h1, h2] at hs; exact absurd hs id
      | some b =>
        rw [h1, h2] at hs
        have := RdRel.run (B := cs) hs
        exact ⟨congrArg (· + 1) this.1, this.2⟩
theorem rrun_len : ∀ {B : List Int} {q : RdQ}, (rrun q B).1 = B.length ↔ (rrun q B).2.isSome = true
  | [], q => by simp [rrun]
  | c :: cs, q => by
    unfold rrun
    cases h1 : rstep q c with
    | none => simp
    | some a => simp [rrun_len (B := cs)]
theorem compl_D (D : Nat → Int) (B : List Int) : compl B = (rrun (q0R D [] (-1)) B).2.bind endP := by
  have h := (RdRel.run (B := B) (q := q0R D [] (-1)) (q' := q0R (fun _ => 0) [] (-1)) ⟨rfl, rfl, rfl, rfl, rfl, rfl, fun _ j hj => absurd hj (by show ¬ ((j : Int) < 0); omega)⟩).2
  unfold compl
  cases h1 : (rrun (q0R D [] (-1)) B).2 with
  | none =>
    cases h2 : (rrun (q0R (fun _ => 0) [] (-1)) B).2 with
    | none => rfl
    | some b => rw [h1, h2] at h; exact absurd h id
  | some a =>
    cases h2 : (rrun (q0R (fun _ => 0) [] (-1)) B).2 with
    | none => rw [h1, h2] at h; exact absurd h id
    | some b =>
      rw [h1, h2] at h
      exact h.endP
set_option maxHeartbeats 4000000 in
set_option maxRecDepth 100000 in
theorem sX5_isComplete_0 {X : Xt} {n : Nat} {h : HP} {a0 : Nat} {fs1 : List Value} (hc : Cx X cX5_isComplete RX5 1 4 87) {K : KT} (hr : CxR X (some .boolean) K) (e1 : At h n a0 (.inl (5, fs1))) (z1 : fs1.length = 9)
    (P : spec_X5_read [.ref a0] n h (kc X 0 0 1 [(0, .ref a0)] [] n)) :
    Ok X 0 0 0 [(0, .ref a0)] [] n h := by
  refine ok_aload_n (pc := 0) hc dX5_isComplete_0 rfl 0 rfl ?_
  exact ok_callV (pc := 1) (a := a0) (cb := 0) (sb := 0) (st := []) hc [] cv_X5_42 sp_X5_read (by decide) dX5_isComplete_1 rfl e1.1 e1.2 rfl rfl rfl (Nat.le_of_ble_eq_true rfl) P

set_option maxHeartbeats 4000000 in
set_option maxRecDepth 100000 in
theorem sX5_isComplete_4 {X : Xt} {n : Nat} {h : HP} {a0 : Nat} {t0 : Int} {fs1 : List Value} {iv2 : Int} (hc : Cx X cX5_isComplete RX5 1 4 87) {K : KT} (hr : CxR X (some .boolean) K) (e1 : At h n a0 (.inl (5, fs1))) (z1 : fs1.length = 9) (v1_2 : fs1[2]? = some (.int (i3 iv2)))
    (P : (R3 t0) ∧ (R3 iv2) ∧ (¬ t0 = iv2 → K (.inl (some (.int (i3 0)))) n h) ∧ (t0 = iv2 → spec_X5_endsPart [.ref a0] n h (kc X 0 0 12 [(0, .ref a0)] [] n))) :
    Ok X 0 0 4 [(0, .ref a0)] [.int (i3 t0)] n h := by
  refine ok_aload_n (pc := 4) hc dX5_isComplete_4 rfl 0 rfl ?_
  refine ok_get (pc := 5) hc fl_X5_35 dX5_isComplete_5 e1.1 e1.2 v1_2 ?_
  obtain ⟨r3, P⟩ := P
  obtain ⟨r4, P⟩ := P
  refine zk_icmp_ne (pc := 8) (tgt := 22) hc dX5_isComplete_8 (by decide) r3 r4 (fun c => ?_) (fun c => ?_)
  · have P := P.1 c
    refine ok_iconst (pc := 22) hc (v := i3 0) dX5_isComplete_22 (by decide) ?_
    exact ok_zret (st := []) (pc := 23) hc (nar_z (by decide)) hr dX5_isComplete_23 P
  · have P := P.2 c
    refine ok_aload_n (pc := 11) hc dX5_isComplete_11 rfl 0 rfl ?_
    exact ok_callV (pc := 12) (a := a0) (cb := 0) (sb := 0) (st := []) hc [] cv_X5_46 sp_X5_endsPart (by decide) dX5_isComplete_12 rfl e1.1 e1.2 rfl rfl rfl (Nat.le_of_ble_eq_true rfl) P

set_option maxHeartbeats 4000000 in
set_option maxRecDepth 100000 in
theorem sX5_isComplete_15 {X : Xt} {n : Nat} {h : HP} {a0 : Nat} {t0 : Int} (hc : Cx X cX5_isComplete RX5 1 4 87) {K : KT} (hr : CxR X (some .boolean) K) 
    (P : (R3 t0) ∧ (t0 = 0 → K (.inl (some (.int (i3 0)))) n h) ∧ (¬ t0 = 0 → K (.inl (some (.int (i3 1)))) n h)) :
    Ok X 0 0 15 [(0, .ref a0)] [.int (i3 t0)] n h := by
  obtain ⟨r1, P⟩ := P
  refine zk_if_eq (pc := 15) (tgt := 22) hc dX5_isComplete_15 (by decide) r1 (fun c => ?_) (fun c => ?_)
  · have P := P.1 c
    refine ok_iconst (pc := 22) hc (v := i3 0) dX5_isComplete_22 (by decide) ?_
    exact ok_zret (st := []) (pc := 23) hc (nar_z (by decide)) hr dX5_isComplete_23 P
  · have P := P.2 c
    refine ok_iconst (pc := 18) hc (v := i3 1) dX5_isComplete_18 (by decide) ?_
    refine ok_goto (pc := 19) (tgt := 23) hc dX5_isComplete_19 (by decide) ?_
    exact ok_zret (st := []) (pc := 23) hc (nar_z (by decide)) hr dX5_isComplete_23 P

def spec_X5_isComplete (args : List Value) (n : Nat) (h : HP) (K : KT) : Prop := ∃ (T : Nat → Int) (B : List Int), args = [.ref 57] ∧ TxB T B ∧ RdX h n T B.length ∧ ∀ (h' : HP), RdX h' n T B.length → Fr h h' 57 64 → (∀ ps, compl B = some ps → PtA h' n 59 15 ps) → K (.inl (some (.int (i3 (bz (compl B).isSome))))) n h'
theorem sp_X5_isComplete : Sp yX5_isComplete cX5_isComplete 1 (some .boolean) 4 87 0 0 spec_X5_isComplete := by
  refine sp_intro (by decide) (by rintro args n h K ⟨T, B, rfl, -⟩; exact Nat.le_of_ble_eq_true rfl) ?_
  rintro X args n h K hc hr ⟨T, B, rfl, hT, hX, kk⟩
  obtain ⟨q, hq⟩ := id hX
  refine sX5_isComplete_0 hc hr hq.1 rfl ⟨T, B, rfl, hT, hX, fun h1 D hX1 hf1 hr1 => ⟨rfl, ?_⟩⟩
  obtain ⟨q1, hq1⟩ := id hX1
  have hl := hT.1
  have hle : (rrun (q0R D [] (-1)) B).1 ≤ 60 := by
    have : ∀ (B : List Int) (q : RdQ), (rrun q B).1 ≤ B.length := by
      intro B
      induction B with
      | nil => intro q; exact Nat.le_refl _
      | cons c cs ih =>
        intro q
        unfold rrun
        cases rstep q c with
        | none => exact Nat.zero_le _
        | some a => exact Nat.succ_le_succ (ih a)
    have := this B (q0R D [] (-1))
    omega
  have ec := compl_D D B
  refine sX5_isComplete_4 hc hr hq1.1 rfl rfl ⟨R3_s (by omega), R3_s (by omega), fun c => ?_, fun c => ?_⟩
  · have hn : (rrun (q0R D [] (-1)) B).2 = none := by
      cases h2 : (rrun (q0R D [] (-1)) B).2 with
      | none => rfl
      | some b => exact absurd (by rw [(rrun_len (B := B) (q := q0R D [] (-1))).mpr (by rw [h2]; rfl)]) c
    rw [hn] at ec
    have ec' : compl B = none := ec
    have := kk h1 hX1 hf1 (fun ps e => by rw [ec'] at e; cases e)
    rw [ec'] at this
    exact this
  · have hs := (rrun_len (B := B) (q := q0R D [] (-1))).mp (by omega)
    cases h2 : (rrun (q0R D [] (-1)) B).2 with
    | none => rw [h2] at hs; cases hs
    | some q2 =>
      rw [h2] at ec
      have ec' : compl B = endP q2 := ec
      obtain ⟨z1, z2⟩ := hr1 q2 h2
      refine ⟨B.length, T, B.length, q2, rfl, z1, z2, hl, ?_⟩
      cases h3 : endP q2 with
      | none =>
        have := kk h1 hX1 hf1 (fun ps e => by rw [ec', h3] at e; cases e)
        rw [ec', h3] at this
        exact ⟨rfl, sX5_isComplete_15 hc hr ⟨R3_0, fun _ => this, fun c => absurd rfl c⟩⟩
      | some ps =>
        intro h4 y1 y2
        have := kk h4 y1.x (hf1.tr y2) (fun ps' e => by rw [ec', h3] at e; cases e; exact y1.2.2.2)
        rw [ec', h3] at this
        exact ⟨rfl, sX5_isComplete_15 hc hr ⟨⟨by decide, by decide⟩, fun c => absurd c (by decide), fun _ => this⟩⟩
