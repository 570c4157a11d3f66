/-! part 37: the desk: its places, what holds of its states -/
def PwD (ps : List Part) : Prop := ps.Pairwise (fun p q => p.1 = 0 ∨ q.1 = 0 ∨ drv p ≠ drv q)
/-- parts that the document allows together -/
def GdP (ps : List Part) : Prop := ps.length ≤ 12 ∧ nA ps ≤ 3 ∧ (∀ p ∈ ps, PW p ∧ toldB p = true) ∧ PwD ps
theorem fit_of {ps : List Part} (h : GdP ps) : Fit ps := fun m _ => (lf_rows h.1 h.2.2.1).1
def GdS (S : Stt) : Prop := GdP S.1 ∧ (10 ≤ S.2.1 ∧ S.2.1 ≤ 200) ∧ (0 ≤ S.2.2.1 ∧ S.2.2.1 < 3 ^ nA S.1) ∧ (S.2.2.2 = 0 ∨ S.2.2.2 = 1)
abbrev Dsk : Type := Stt × List Stt × (Nat → Stt) × Int × List Int
def GdD (q : Dsk) : Prop := GdS q.1 ∧ (∀ S ∈ q.2.1, GdS S) ∧ (∀ j, j < 2 → GdS (q.2.2.1 j)) ∧ (0 ≤ q.2.2.2.1 ∧ q.2.2.2.1 ≤ 3)
def InA (h : HP) (n : Nat) (B : List Int) : Prop := ∃ T, TxB T B ∧ RdX h n T B.length
def ImA (h : HP) (n : Nat) (im : Nat → Stt) : Prop := At h n 115 (.inr (3, 2, .inr (.inr (fun j => if j < 2 then some (116 + 6 * j) else none)))) ∧ ∀ j, j < 2 → StA h n (116 + 6 * j) (im j)
theorem BnW.fr {h h' : HP} {n b lo hi : Nat} {S : Stt} (p : BnW h n b S) (f : Fr h h' lo hi) (d : b + 27 < lo ∨ hi < b) : BnW h' n b S := by
  obtain ⟨_, _, _, _, _, _, _, _, q⟩ := p
  exact ⟨_, _, _, _, _, _, _, _, q.fr f d⟩
theorem BnW.w {h : HP} {n b : Nat} {S : Stt} (p : BnW h n b S) : BnW h n b S := p
theorem BnW.obj {h : HP} {n b : Nat} {S : Stt} (p : BnW h n b S) : ∃ A F D N sat rsn cul G, BnC h n b S A F D N sat rsn cul G := p
def DkA (h : HP) (n : Nat) (q : Dsk) : Prop := At h n 0 (.inl (6, [.ref 1, .ref 29, .ref 57, .ref 65, .ref 115, .int (i3 q.2.2.2.1)])) ∧ BnA h n 1 q.1 ∧ (∃ T, BnW h n 29 T) ∧ InA h n q.2.2.2.2 ∧ HsA h n q.2.1 ∧ ImA h n q.2.2.1 ∧ GdD q
theorem InA.fr {h h' : HP} {n lo hi : Nat} {B : List Int} (p : InA h n B) (f : Fr h h' lo hi) (d : 64 < lo ∨ hi < 57) : InA h' n B := by
  obtain ⟨T, h1, h2⟩ := p
  exact ⟨T, h1, h2.fr f d⟩
theorem HsA.obj {h : HP} {n : Nat} {hist : List Stt} (p : HsA h n hist) : ∃ o : Nat, At h n 65 (.inl (1, [.ref 66, .int (i3 o), .int (i3 hist.length)])) := by
  obtain ⟨o, ho, h1, h2, h3, h4, h5⟩ := p
  exact ⟨o, h2⟩
theorem ImA.fr {h h' : HP} {n lo hi : Nat} {im : Nat → Stt} (p : ImA h n im) (f : Fr h h' lo hi) (d : 127 < lo ∨ hi < 115) : ImA h' n im := ⟨p.1.fr f (by omega), fun j hj => (p.2 j hj).fr f (by omega)⟩
theorem GdS.fit {S : Stt} (h : GdS S) : nA S.1 ≤ 3 ∧ Fit S.1 := ⟨h.1.2.1, fit_of h.1⟩
theorem nA_nil : nA [] = 0 := rfl
theorem gdP_nil : GdP [] := ⟨Nat.zero_le _, by rw [nA_nil]; omega, fun p hp => absurd hp List.not_mem_nil, List.Pairwise.nil⟩
theorem bestL_r (S : Stt) : ∀ (f : Nat) (c best few : Int), 0 ≤ c → c + f = 3 ^ nA S.1 → (best = -1 ∨ (0 ≤ best ∧ best < 3 ^ nA S.1)) → bestL S f c best few = -1 ∨ (0 ≤ bestL S f c best few ∧ bestL S f c best few < 3 ^ nA S.1)
  | 0, c, best, few, _, _, h => h
  | f + 1, c, best, few, h0, hc, h => by
    unfold bestL
    split
    · exact bestL_r S f (c + 1) best few (by omega) (by omega) h
    · split
      · exact bestL_r S f (c + 1) c _ (by omega) (by omega) (Or.inr ⟨h0, by omega⟩)
      · exact bestL_r S f (c + 1) best few (by omega) (by omega) h
theorem GdS.set {S : Stt} (h : GdS S) : GdS (setS S) := by
  have hb := bestL_r S (3 ^ nA S.1) 0 (-1) 4 (by omega) (by rw [Int.natCast_pow]; simp) (Or.inl rfl)
  unfold setS
  split
  · exact ⟨h.1, h.2.1, h.2.2.1, Or.inr rfl⟩
  · split
    · exact ⟨h.1, h.2.1, h.2.2.1, Or.inl rfl⟩
    · rename_i c
      rcases hb with q | q
      · exact absurd q c
      · exact ⟨h.1, h.2.1, q, Or.inr rfl⟩
theorem gd_push {hist : List Stt} {S : Stt} (h : ∀ T ∈ hist, GdS T) (hS : GdS S) : ∀ T ∈ pushH hist S, GdS T := by
  intro T hT
  unfold pushH at hT
  split at hT
  · rcases List.mem_append.mp hT with q | q
    · exact h T q
    · rw [List.mem_singleton.mp q]
      exact hS
  · rcases List.mem_append.mp hT with q | q
    · exact h T (List.mem_of_mem_tail q)
    · rw [List.mem_singleton.mp q]
      exact hS
/-- the answer of an operation -/
def oV : Int ⊕ String → Option Value ⊕ String
  | .inl z => .inl (some (.int (i3 z)))
  | .inr e => .inr e
def oL : Int ⊕ String → Option Value ⊕ String
  | .inl z => .inl (some (.long (i6 z)))
  | .inr e => .inr e
set_option maxHeartbeats 4000000 in
set_option maxRecDepth 100000 in
theorem sX6_begin_0 {X : Xt} {n : Nat} {h : HP} {a0 : Nat} {fs1 : List Value} {q2 : Nat} {fs3 : List Value} {q4 : Nat} {fs5 : List Value} {q6 : Nat} {fs7 : List Value} {iv8 : Int} {q9 : Nat} {fs10 : List Value} (hc : Cx X cX6_begin RX6 2 6 138) {K : KT} (hr : CxR X (some .int) K) (e1 : At h n a0 (.inl (6, fs1))) (z1 : fs1.length = 6) (v1_0 : fs1[0]? = some (.ref q2)) (e3 : At h n q2 (.inl (0, fs3))) (z3 : fs3.length = 8) (v3_0 : fs3[0]? = some (.ref q4)) (e5 : At h n q4 (.inl (4, fs5))) (z5 : fs5.length = 4) (v5_0 : fs5[0]? = some (.ref q6)) (e7 : At h n q6 (.inl (2, fs7))) (z7 : fs7.length = 5) (v7_4 : fs7[4]? = some (.int (i3 iv8))) (v1_3 : fs1[3]? = some (.ref q9)) (e10 : At h n q9 (.inl (1, fs10))) (z10 : fs10.length = 3)
    (P : spec_X1_record [.ref q9, .ref q4] n h (kc X 0 0 25 [(0, .ref a0), (1, .int (i3 iv8))] [] n)) :
    Ok X 0 0 0 [(0, .ref a0)] [] n h := by
  refine ok_aload_n (pc := 0) hc dX6_begin_0 rfl 0 rfl ?_
  refine ok_get (pc := 1) hc fl_X6_10 dX6_begin_1 e1.1 e1.2 v1_0 ?_
  refine ok_get (pc := 4) hc fl_X6_43 dX6_begin_4 e3.1 e3.2 v3_0 ?_
  refine ok_get (pc := 7) hc fl_X6_47 dX6_begin_7 e5.1 e5.2 v5_0 ?_
  refine ok_get (pc := 10) hc fl_X6_51 dX6_begin_10 e7.1 e7.2 v7_4 ?_
  refine ok_istore_n (pc := 13) hc (lv' := [(1, .int (i3 iv8)), (0, .ref a0)]) dX6_begin_13 rfl (by decide) rfl ?_
  refine ok_aload_n (pc := 14) hc dX6_begin_14 rfl 1 rfl ?_
  refine ok_get (pc := 15) hc fl_X6_29 dX6_begin_15 e1.1 e1.2 v1_3 ?_
  refine ok_aload_n (pc := 18) hc dX6_begin_18 rfl 1 rfl ?_
  refine ok_get (pc := 19) hc fl_X6_10 dX6_begin_19 e1.1 e1.2 v1_0 ?_
  refine ok_get (pc := 22) hc fl_X6_43 dX6_begin_22 e3.1 e3.2 v3_0 ?_
  refine ok_lv [1, 0] rfl ?_
  exact ok_callV (pc := 25) (a := q9) (cb := 0) (sb := 0) (st := []) hc [.ref q4] cv_X6_57 sp_X1_record (by decide) dX6_begin_25 rfl e10.1 e10.2 rfl rfl rfl (Nat.le_of_ble_eq_true rfl) P

set_option maxHeartbeats 4000000 in
set_option maxRecDepth 100000 in
theorem sX6_begin_28 {X : Xt} {n : Nat} {h : HP} {a0 : Nat} {x1 : Int} {fs1 : List Value} {q2 : Nat} {fs3 : List Value} {q4 : Nat} {fs5 : List Value} (hc : Cx X cX6_begin RX6 2 6 138) {K : KT} (hr : CxR X (some .int) K) (e1 : At h n a0 (.inl (6, fs1))) (z1 : fs1.length = 6) (v1_0 : fs1[0]? = some (.ref q2)) (e3 : At h n q2 (.inl (0, fs3))) (z3 : fs3.length = 8) (v3_0 : fs3[0]? = some (.ref q4)) (e5 : At h n q4 (.inl (4, fs5))) (z5 : fs5.length = 4)
    (P : spec_X4_empty [.ref q4] n h (kc X 0 0 35 [(0, .ref a0), (1, .int (i3 x1))] [] n)) :
    Ok X 0 0 28 [(0, .ref a0), (1, .int (i3 x1))] [] n h := by
  refine ok_aload_n (pc := 28) hc dX6_begin_28 rfl 0 rfl ?_
  refine ok_get (pc := 29) hc fl_X6_10 dX6_begin_29 e1.1 e1.2 v1_0 ?_
  refine ok_get (pc := 32) hc fl_X6_43 dX6_begin_32 e3.1 e3.2 v3_0 ?_
  exact ok_callV (pc := 35) (a := q4) (cb := 0) (sb := 0) (st := []) hc [] cv_X6_61 sp_X4_empty (by decide) dX6_begin_35 rfl e5.1 e5.2 rfl rfl rfl (Nat.le_of_ble_eq_true rfl) P

set_option maxHeartbeats 4000000 in
set_option maxRecDepth 100000 in
theorem sX6_begin_38 {X : Xt} {n : Nat} {h : HP} {a0 : Nat} {x1 : Int} {fs1 : List Value} {q2 : Nat} {fs3 : List Value} (hc : Cx X cX6_begin RX6 2 6 138) {K : KT} (hr : CxR X (some .int) K) (e1 : At h n a0 (.inl (6, fs1))) (z1 : fs1.length = 6) (v1_0 : fs1[0]? = some (.ref q2)) (e3 : At h n q2 (.inl (0, fs3))) (z3 : fs3.length = 8)
    (P : spec_X0_solve [.ref q2] n h (kc X 0 0 42 [(0, .ref a0), (1, .int (i3 x1))] [] n)) :
    Ok X 0 0 38 [(0, .ref a0), (1, .int (i3 x1))] [] n h := by
  refine ok_aload_n (pc := 38) hc dX6_begin_38 rfl 0 rfl ?_
  refine ok_get (pc := 39) hc fl_X6_10 dX6_begin_39 e1.1 e1.2 v1_0 ?_
  exact ok_callV (pc := 42) (a := q2) (cb := 0) (sb := 0) (st := []) hc [] cv_X6_40 sp_X0_solve (by decide) dX6_begin_42 rfl e3.1 e3.2 rfl rfl rfl (Nat.le_of_ble_eq_true rfl) P

set_option maxHeartbeats 4000000 in
set_option maxRecDepth 100000 in
theorem sX6_begin_45 {X : Xt} {n : Nat} {h : HP} {a0 : Nat} {x1 : Int} {fs1 : List Value} {q2 : Nat} {fs3 : List Value} (hc : Cx X cX6_begin RX6 2 6 138) {K : KT} (hr : CxR X (some .int) K) (e1 : At h n a0 (.inl (6, fs1))) (z1 : fs1.length = 6) (v1_0 : fs1[0]? = some (.ref q2)) (e3 : At h n q2 (.inl (0, fs3))) (z3 : fs3.length = 8)
    (P : spec_X0_settle [.ref q2] n h (kc X 0 0 49 [(0, .ref a0), (1, .int (i3 x1))] [] n)) :
    Ok X 0 0 45 [(0, .ref a0), (1, .int (i3 x1))] [] n h := by
  refine ok_aload_n (pc := 45) hc dX6_begin_45 rfl 0 rfl ?_
  refine ok_get (pc := 46) hc fl_X6_10 dX6_begin_46 e1.1 e1.2 v1_0 ?_
  exact ok_callV (pc := 49) (a := q2) (cb := 0) (sb := 0) (st := []) hc [] cv_X6_64 sp_X0_settle (by decide) dX6_begin_49 rfl e3.1 e3.2 rfl rfl rfl (Nat.le_of_ble_eq_true rfl) P

set_option maxHeartbeats 4000000 in
set_option maxRecDepth 100000 in
theorem sX6_begin_52 {X : Xt} {n : Nat} {h : HP} {a0 : Nat} {x1 : Int} (hc : Cx X cX6_begin RX6 2 6 138) {K : KT} (hr : CxR X (some .int) K) 
    (P : K (.inl (some (.int (i3 x1)))) n h) :
    Ok X 0 0 52 [(0, .ref a0), (1, .int (i3 x1))] [] n h := by
  refine ok_iload_n (pc := 52) hc dX6_begin_52 rfl 1 rfl ?_
  exact ok_iret (st := []) (pc := 53) hc hr dX6_begin_53 P

def opBegin (q : Dsk) : Dsk := (setS ([], 150, 0, q.1.2.2.2), pushH q.2.1 q.1, q.2.2)
def spec_X6_begin (args : List Value) (n : Nat) (h : HP) (K : KT) : Prop := ∃ (q : Dsk), args = [.ref 0] ∧ DkA h n q ∧ ∀ h', DkA h' n (opBegin q) → Fr h h' 0 127 → K (.inl (some (.int (i3 q.1.1.length)))) n h'
theorem BnA.obj {h : HP} {n b : Nat} {S : Stt} (p : BnA h n b S) : ∃ A F D N sat rsn cul G, BnC h n b S A F D N sat rsn cul G := by
  obtain ⟨_, _, _, _, _, _, _, q, -⟩ := p
  exact ⟨_, _, _, _, _, _, _, _, q⟩
theorem sp_X6_begin : Sp yX6_begin cX6_begin 2 (some .int) 6 138 0 0 spec_X6_begin := by
  refine sp_intro (by decide) (by rintro args n h K ⟨q, rfl, -⟩; exact Nat.le_of_ble_eq_true rfl) ?_
  rintro X args n h K hc hr ⟨⟨S, hist, im, kept, B⟩, rfl, ⟨h0, hN, ⟨T, hT⟩, hI, hH, hM, hG⟩, kk⟩
  obtain ⟨A, F, D, N, sat, rsn, cul, G, hB⟩ := hN.obj
  obtain ⟨o, hHo⟩ := hH.obj
  refine sX6_begin_0 hc hr h0 rfl rfl hB.1 rfl rfl hB.2.1.1 rfl rfl hB.2.1.2.1.obj rfl rfl rfl hHo rfl ⟨2, hist, S, rfl, hH, hB.2.1, by omega, fun h1 hH1 f1 => ⟨rfl, ?_⟩⟩
  have hB1 := hB.fr f1 (by omega)
  refine sX6_begin_28 hc hr (h0.fr f1 (by omega)) rfl rfl hB1.1 rfl rfl hB1.2.1.1 rfl ⟨2, S, rfl, hB1.2.1, fun h2 hS2 f2 => ⟨rfl, ?_⟩⟩
  have hB2 : BnC h2 n 1 ([], 150, 0, S.2.2.2) A F D N sat rsn cul G := ⟨hB1.1.fr f2 (by omega), hS2, hB1.2.2.1.fr f2 (by omega), hB1.2.2.2.1.fr f2 (by omega), hB1.2.2.2.2.fr f2 (by omega)⟩
  have g2 : GdS ([], 150, 0, S.2.2.2) := ⟨gdP_nil, ⟨(by decide : (10 : Int) ≤ 150), (by decide : (150 : Int) ≤ 200)⟩, ⟨Int.le_refl _, by show (0 : Int) < 3 ^ nA []; rw [nA_nil]; decide⟩, hG.1.2.2.2⟩
  refine sX6_begin_38 hc hr ((h0.fr f1 (by omega)).fr f2 (by omega)) rfl rfl hB2.1 rfl ⟨1, _, rfl, ⟨_, _, _, _, _, _, _, _, hB2⟩, g2.fit.1, g2.fit.2, fun h3 hA3 f3 => ⟨rfl, ?_⟩⟩
  obtain ⟨_, _, _, _, _, _, _, _, hB3⟩ := hA3.obj
  refine sX6_begin_45 hc hr (((h0.fr f1 (by omega)).fr f2 (by omega)).fr f3 (by omega)) rfl rfl hB3.1 rfl ⟨1, _, rfl, hA3, fun h4 hA4 f4 => ⟨rfl, sX6_begin_52 hc hr (kk h4 ?_ ?_)⟩⟩
  · have f14 : Fr h1 h4 1 28 := ((f2.sub (by omega) (by omega)).tr f3).tr f4
    exact ⟨(h0.fr f1 (by omega)).fr f14 (by omega), hA4, ⟨T, (hT.fr f1 (by omega)).fr f14 (by omega)⟩, (hI.fr f1 (by omega)).fr f14 (by omega), hH1.fr f14 (by omega), (hM.fr f1 (by omega)).fr f14 (by omega), g2.set, gd_push hG.2.1 hG.1, hG.2.2⟩
  · exact (((f1.sub (by omega) (by omega)).tr (f2.sub (by omega) (by omega))).tr (f3.sub (by omega) (by omega))).tr (f4.sub (by omega) (by omega))
