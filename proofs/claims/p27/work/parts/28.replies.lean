/-! part 28: class Replies: its rows -/
theorem zk_aastJ {X : Xt} {cc : ByteArray} {own : String} {nL f L cb sb pc n : Nat} {lv : List (Nat × Value)} {st : List Value} {h : HP} (hc : Cx X cc own nL f L) {a v len len2 : Nat} {g : Nat → Option Nat} {F : Nat → Int} {i : Int} (hd : decode cc pc = .ok (.aastore, 1)) (ha : a < n) (he : h a = .inr (4, len, .inr (.inr g))) (hv : v < n) (hev : h v = al len2 F) (r : Ix i len) (k : Ok X cb sb (pc + 1) lv st n (va_up h a (.inr (4, len, .inr (.inr (va_up g i.toNat (some v))))))) : Ok X cb sb pc lv (.ref v :: .int (i3 i) :: .ref a :: st) n h := by
  obtain ⟨p, l, e, R, s, m, args, below, meth, c, D, bs, A0, n0, Q⟩ := X
  obtain ⟨hx, hb, hown, hts, hml, hRf, hRl, hF, htr, hlk, hbs⟩ := hc
  intro A cy H locs ls cells slots h1 h2 h3 h4 hw hS hl h5 h6
  have hin := r.v
  have hlt : i.toNat < len := by have := r.1; have := r.2.1; omega
  have hcell : va_at D vwCl (A a, trE A (cy a) (h a)) H := hw.1 a _ (lst_get ha)
  rw [he] at hcell
  have hcv : va_at D vwCl (A v, trE A (cy v) (h v)) H := hw.1 v _ (lst_get hv)
  rw [hev] at hcv
  obtain ⟨comp, cA, kA, o1, o2, o3, o4, o5⟩ := ao_spec (va_AOA.use (A := #[]) hF.2.2.2.2.2.2.2.2.2.2.1)
  have ra : va_RA s (cy a) (.array .long) := (hw.2.2.1 a ha (.array .long) (by rw [he]; rfl)).2
  have rv : va_RA s (cy v) .long := (hw.2.2.1 v hv .long (by rw [hev]; rfl)).2
  have ea : cA = cy a := Option.some.inj (o5.symm.trans ra)
  have ev : comp = cy v := Option.some.inj (o1.symm.trans rv)
  subst ea; subst ev
  obtain ⟨kv, hkv, -⟩ := Vm.findClass_spec o1
  have has : s.vm.assignable (cy v) (cy v) = true := by
    show s.vm.assignableAux (255 + 1) (cy v) (cy v) = true
    rw [Vm.assignableAux, beq_self_eq_true, Bool.true_or]
  refine W.aast (cell := vp_cell (cy a) (len, .inr (.inr (.inr (.inr (fun j => (g j).map A)))))) (cv := vp_cell (cy v) (len2, .inr (.inl (fun j => i6 (F j))))) (rest := st.map (trV A)) hx hb hcell (fun q => by intro z; cases z) (by intro z; cases z) o3 o4 rfl hkv ⟨fun z => hin (Or.inl z), ?_⟩ hcv (fun q => by intro z; cases z) hkv has rfl rfl hd (fun H1 e1 e2 e3 => ?_)
  · show (i3 i).toNatClampNeg < (arrV _ _ _).slots.size
    rw [arrV_size, i3_nat r.r]
    exact hlt
  · refine k A cy H1 _ ls cells slots h1 h2 h3 h4 ⟨fun j q hq => ?_, hw.2.1, fun j hj ty hty => ?_, hw.2.2.2⟩ ⟨by rw [e2]; exact hS.1, fun q g1 g2 => ?_, fun q hq => ?_⟩ hl h5 h6
    · obtain ⟨hj, rfl⟩ := lst_got hq
      by_cases e : j = a
      · subst e
        rw [up_self]
        show H1[A j]? = some _
        rw [e1]
        refine congrArg some ?_
        show (arrV (cy j) len (fun z => va_rf ((g z).map A))).setSlot (i3 i).toNatClampNeg (.ref (A v)) = arrV (cy j) len (fun z => va_rf ((va_up g i.toNat (some v) z).map A))
        rw [arrV_store, i3_nat r.r]
        refine congrArg (arrV (cy j) len) (funext fun z => ?_)
        by_cases ez : z = i.toNat <;> simp [updV, va_up, ez, va_rf]
      · rw [up_ne e]
        exact (hw.1 j _ (lst_get hj)).kept (e3 (A j) (fun z => e (hw.2.2.2.1 j a hj ha z)))
    · by_cases e : j = a
      · subst e
        rw [up_self] at hty
        exact hw.2.2.1 j hj ty (by rw [he]; exact hty)
      · rw [up_ne e] at hty
        exact hw.2.2.1 j hj ty hty
    · rw [e3 q (fun z => g2 (by rw [z]; exact hw.2.2.2.2 a ha))]
      exact hS.2.1 q g1 g2
    · rcases List.mem_append.mp hq with z | z
      · exact hS.2.2 q z
      · rw [List.mem_singleton.mp z]
        exact hw.2.2.2.2 a ha
abbrev Mat : Type := Nat → Nat → Int
/-- the rows of the Replies at r -/
def RwA (h : HP) (n r : Nat) (M : Mat) : Prop := ∃ (g : Nat → Option Nat) (σ : Nat → Nat) (R : Mat), At h n r (.inl (3, [.ref (r + 1), .ref (r + 2), .ref (r + 11)])) ∧ At h n (r + 11) (.inr (4, 7, .inr (.inr g))) ∧ (∀ j, j < 7 → g j = some (r + 12 + σ j) ∧ σ j < 7) ∧ (∀ i j, i < 7 → j < 7 → σ i = σ j → i = j) ∧ (∀ i, i < 7 → At h n (r + 12 + σ i) (al 14 (R i))) ∧ ∀ i j, i < 7 → j < 14 → R i j = M i j
theorem RwA.fr {h h' : HP} {n r lo hi : Nat} {M : Mat} (p : RwA h n r M) (g9 : Fr h h' lo hi) (d1 : r < lo ∨ hi < r) (d : r + 18 < lo ∨ hi < r + 11) : RwA h' n r M := by
  obtain ⟨g, σ, R, h0, h1, h2, h3, h4, h5⟩ := p
  exact ⟨g, σ, R, h0.fr g9 d1, h1.fr g9 (by omega), h2, h3, fun i hi => (h4 i hi).fr g9 (by have := (h2 i hi).2; omega), h5⟩
theorem RwA.eq {h : HP} {n r : Nat} {M M' : Mat} (p : RwA h n r M) (e : ∀ i j, i < 7 → j < 14 → M i j = M' i j) : RwA h n r M' := by
  obtain ⟨g, σ, R, h0, h1, h2, h3, h4, h5⟩ := p
  exact ⟨g, σ, R, h0, h1, h2, h3, h4, fun i j hi hj => (h5 i j hi hj).trans (e i j hi hj)⟩
/-- another row in place i -/
theorem RwA.put {h : HP} {n r i : Nat} {M R : Mat} {g : Nat → Option Nat} {σ : Nat → Nat} {F G : Nat → Int} (h0 : At h n r (.inl (3, [.ref (r + 1), .ref (r + 2), .ref (r + 11)]))) (h1 : At h n (r + 11) (.inr (4, 7, .inr (.inr g)))) (h2 : ∀ j, j < 7 → g j = some (r + 12 + σ j) ∧ σ j < 7) (h3 : ∀ i j, i < 7 → j < 7 → σ i = σ j → i = j) (h4 : ∀ i, i < 7 → At h n (r + 12 + σ i) (al 14 (R i))) (h5 : ∀ i j, i < 7 → j < 14 → R i j = M i j) (hi : i < 7) (e : ∀ j, j < 14 → F j = G j) : RwA (va_up h (r + 12 + σ i) (al 14 F)) n r (va_up M i G) := by
  refine ⟨g, σ, va_up R i F, h0.up (by omega), h1.up (by omega), h2, h3, fun k hk => ?_, fun k j hk hj => ?_⟩
  · by_cases z : k = i
    · subst z
      rw [up_self]
      exact (h4 k hk).it
    · rw [up_ne z]
      exact (h4 k hk).up (fun q => z (h3 k i hk hi (by omega)))
  · by_cases z : k = i
    · subst z
      rw [up_self, up_self]
      exact e j hj
    · rw [up_ne z, up_ne z]
      exact h5 k j hk hj
def giveM (M : Mat) (k : Nat) : Mat := va_up M k (va_up (va_up (M k) k 1) (7 + k) 1)
set_option maxHeartbeats 4000000 in
set_option maxRecDepth 100000 in
theorem sX3_giveVoltage_0 {X : Xt} {n : Nat} {h : HP} {a0 : Nat} {x1 : Int} {fs1 : List Value} {q2 : Nat} {len3 : Nat} {f3 : Nat → Option Nat} {q4 : Nat} {len6 : Nat} {f6 : Nat → Int} (hc : Cx X cX3_giveVoltage RX3 2 0 0) {K : KT} (hr : CxR X none K) (e1 : At h n a0 (.inl (3, fs1))) (z1 : fs1.length = 3) (v1_2 : fs1[2]? = some (.ref q2)) (e3 : At h n q2 (.inr (4, len3, .inr (.inr f3)))) (g5 : (f3 (x1 : Int).toNat) = some q4) (e6 : At h n q4 (al len6 f6))
    (P : (Ix x1 len3) ∧ (Ix x1 len6) ∧ (Ix x1 len3) ∧ (Ix (7 + x1) len6) ∧ K (.inl none) n (va_up (va_up h q4 (al len6 (va_up f6 (x1 : Int).toNat 1))) q4 (al len6 (va_up (va_up f6 (x1 : Int).toNat 1) ((7 + x1) : Int).toNat 1)))) :
    Ok X 0 0 0 [(0, .ref a0), (1, .int (i3 x1))] [] n h := by
  refine ok_aload_n (pc := 0) hc dX3_giveVoltage_0 rfl 0 rfl ?_
  refine ok_get (pc := 1) hc fl_X3_20 dX3_giveVoltage_1 e1.1 e1.2 v1_2 ?_
  refine ok_iload_n (pc := 4) hc dX3_giveVoltage_4 rfl 1 rfl ?_
  obtain ⟨r, P⟩ := P
  refine zk_aald (pc := 5) hc dX3_giveVoltage_5 e3.1 e3.2 rfl r g5 ?_
  refine ok_iload_n (pc := 6) hc dX3_giveVoltage_6 rfl 1 rfl ?_
  refine ok_lconst (pc := 7) hc (v := i6 1) dX3_giveVoltage_7 (by decide) ?_
  obtain ⟨r, P⟩ := P
  refine zk_last (pc := 8) hc dX3_giveVoltage_8 e6.1 e6.2 r ?_
  refine ok_aload_n (pc := 9) hc dX3_giveVoltage_9 rfl 0 rfl ?_
  refine ok_get (pc := 10) hc fl_X3_20 dX3_giveVoltage_10 e1.1 ((up_ne (ne_oa e1.2 e6.2)).trans e1.2) v1_2 ?_
  refine ok_iload_n (pc := 13) hc dX3_giveVoltage_13 rfl 1 rfl ?_
  obtain ⟨r, P⟩ := P
  refine zk_aald (pc := 14) hc dX3_giveVoltage_14 e3.1 ((up_ne (ne_aa e3.2 e6.2 (by decide))).trans e3.2) rfl r g5 ?_
  refine ok_bipush (pc := 15) hc (v := i3 7) dX3_giveVoltage_15 (by decide) ?_
  refine ok_iload_n (pc := 17) hc dX3_giveVoltage_17 rfl 1 rfl ?_
  refine zk_iadd (pc := 18) hc dX3_giveVoltage_18 ?_
  refine ok_lconst (pc := 19) hc (v := i6 1) dX3_giveVoltage_19 (by decide) ?_
  obtain ⟨r, P⟩ := P
  refine zk_last (pc := 20) hc dX3_giveVoltage_20 e6.1 up_self r ?_
  exact ok_vret (st := []) (pc := 21) hc hr dX3_giveVoltage_21 P

def spec_X3_giveVoltage (args : List Value) (n : Nat) (h : HP) (K : KT) : Prop := ∃ (r k : Nat) (M : Mat), args = [.ref r, .int (i3 k)] ∧ k < 7 ∧ RwA h n r M ∧ ∀ h', RwA h' n r (giveM M k) → Fr h h' (r + 11) (r + 18) → K (.inl none) n h'
theorem up_pt {α : Type} {f g : Nat → α} {n k : Nat} {v w : α} (h : ∀ j, j < n → f j = g j) (e : v = w) : ∀ j, j < n → va_up f k v j = va_up g k w j := by
  intro j hj
  by_cases z : j = k
  · rw [z, up_self, up_self, e]
  · rw [up_ne z, up_ne z, h j hj]
theorem sp_X3_giveVoltage : Sp yX3_giveVoltage cX3_giveVoltage 2 none 0 0 0 0 spec_X3_giveVoltage := by
  refine sp_intro (by decide) (by rintro args n h K ⟨r, k, M, rfl, -⟩; exact Nat.le_of_ble_eq_true rfl) ?_
  rintro X args n h K hc hr ⟨r, k, M, rfl, hk, ⟨g, σ, R, h0, h1, h2, h3, h4, h5⟩, kk⟩
  have hs := (h2 k hk).2
  refine sX3_giveVoltage_0 hc hr h0 rfl rfl h1 (q4 := r + 12 + σ k) (by rw [Int.toNat_natCast]; exact (h2 k hk).1) (h4 k hk) ⟨⟨by omega, by omega, by omega⟩, ⟨by omega, by omega, by omega⟩, ⟨by omega, by omega, by omega⟩, ⟨by omega, by omega, by omega⟩, ?_⟩
  rw [up_up, Int.toNat_natCast, show ((7 : Int) + k).toNat = 7 + k by omega]
  exact kk _ (RwA.put h0 h1 h2 h3 h4 h5 hk (up_pt (up_pt (fun j hj => h5 k j hk hj) rfl) rfl)) (Fr.rf.up (by omega))
def joinM (bal : Int) (M : Mat) (a b : Nat) (g : Int) : Mat := if bcon bal a = 0 then M else va_up M a (va_up (va_up (M a) a (M a a + g)) b (va_up (M a) a (M a a + g) b - g))
set_option maxHeartbeats 4000000 in
set_option maxRecDepth 100000 in
theorem sX3_join_0 {X : Xt} {n : Nat} {h : HP} {a0 : Nat} {x1 : Int} {x2 : Int} {x3 : Int} {x4 : Int} {fs2 : List Value} {q3 : Nat} {len4 : Nat} {f4 : Nat → Option Nat} {q5 : Nat} {len7 : Nat} {f7 : Nat → Int} (hc : Cx X cX3_join RX3 5 1 21) {K : KT} (hr : CxR X none K) (e2 : At h n a0 (.inl (3, fs2))) (z2 : fs2.length = 3) (v2_2 : fs2[2]? = some (.ref q3)) (e4 : At h n q3 (.inr (4, len4, .inr (.inr f4)))) (g6 : (f4 (x1 : Int).toNat) = some q5) (e7 : At h n q5 (al len7 f7))
    (P : (R3 (bcon x4 x1)) ∧ ((bcon x4 x1) = 0 → K (.inl none) n h) ∧ (¬ (bcon x4 x1) = 0 → (Ix x1 len4) ∧ (Ix x1 len7) ∧ (R3 x3) ∧ (Ix x1 len7) ∧ (Ix x1 len4) ∧ (Ix x2 len7) ∧ (R3 x3) ∧ (Ix x2 len7) ∧ K (.inl none) n (va_up (va_up h q5 (al len7 (va_up f7 (x1 : Int).toNat ((f7 (x1 : Int).toNat) + x3)))) q5 (al len7 (va_up (va_up f7 (x1 : Int).toNat ((f7 (x1 : Int).toNat) + x3)) (x2 : Int).toNat (((va_up f7 (x1 : Int).toNat ((f7 (x1 : Int).toNat) + x3)) (x2 : Int).toNat) - x3)))))) :
    Ok X 0 0 0 [(0, .ref a0), (1, .int (i3 x1)), (2, .int (i3 x2)), (3, .int (i3 x3)), (4, .int (i3 x4))] [] n h := by
  refine ok_iload (pc := 0) hc dX3_join_0 4 rfl ?_
  refine ok_iload_n (pc := 2) hc dX3_join_2 rfl 1 rfl ?_
  refine ok_callN (pc := 3) (cb := 0) (sb := 0) (st := []) hc [.int (i3 x4), .int (i3 x1)] cn_X3_56 sp_X6_contains (by decide) dX3_join_3 rfl rfl rfl rfl (Nat.le_of_ble_eq_true rfl) (⟨_, _, rfl, rfl, ?_⟩)
  show Ok X 0 0 (3 + 3) [(0, .ref a0), (1, .int (i3 x1)), (2, .int (i3 x2)), (3, .int (i3 x3)), (4, .int (i3 x4))] [.int (i3 (bcon x4 x1))] n h
  obtain ⟨r1, P⟩ := P
  refine zk_if_eq (pc := 6) (tgt := 35) hc dX3_join_6 (by decide) r1 (fun c => ?_) (fun c => ?_)
  · have P := P.1 c
    exact ok_vret (st := []) (pc := 35) hc hr dX3_join_35 P
  · have P := P.2 c
    refine ok_aload_n (pc := 9) hc dX3_join_9 rfl 0 rfl ?_
    refine ok_get (pc := 10) hc fl_X3_20 dX3_join_10 e2.1 e2.2 v2_2 ?_
    refine ok_iload_n (pc := 13) hc dX3_join_13 rfl 1 rfl ?_
    obtain ⟨r, P⟩ := P
    refine zk_aald (pc := 14) hc dX3_join_14 e4.1 e4.2 rfl r g6 ?_
    refine ok_iload_n (pc := 15) hc dX3_join_15 rfl 1 rfl ?_
    refine ok_dup2_11 (pc := 16) hc dX3_join_16 rfl rfl ?_
    obtain ⟨r, P⟩ := P
    refine zk_lald (pc := 17) hc dX3_join_17 e7.1 e7.2 r ?_
    refine ok_iload_n (pc := 18) hc dX3_join_18 rfl 3 rfl ?_
    obtain ⟨r8, P⟩ := P
    refine zk_i2l (pc := 19) hc dX3_join_19 r8 ?_
    refine zk_ladd (pc := 20) hc dX3_join_20 ?_
    obtain ⟨r, P⟩ := P
    refine zk_last (pc := 21) hc dX3_join_21 e7.1 e7.2 r ?_
    refine ok_aload_n (pc := 22) hc dX3_join_22 rfl 0 rfl ?_
    refine ok_get (pc := 23) hc fl_X3_20 dX3_join_23 e2.1 ((up_ne (ne_oa e2.2 e7.2)).trans e2.2) v2_2 ?_
    refine ok_iload_n (pc := 26) hc dX3_join_26 rfl 1 rfl ?_
    obtain ⟨r, P⟩ := P
    refine zk_aald (pc := 27) hc dX3_join_27 e4.1 ((up_ne (ne_aa e4.2 e7.2 (by decide))).trans e4.2) rfl r g6 ?_
    refine ok_iload_n (pc := 28) hc dX3_join_28 rfl 2 rfl ?_
    refine ok_dup2_11 (pc := 29) hc dX3_join_29 rfl rfl ?_
    obtain ⟨r, P⟩ := P
    refine zk_lald (pc := 30) hc dX3_join_30 e7.1 up_self r ?_
    refine ok_iload_n (pc := 31) hc dX3_join_31 rfl 3 rfl ?_
    obtain ⟨r9, P⟩ := P
    refine zk_i2l (pc := 32) hc dX3_join_32 r9 ?_
    refine zk_lsub (pc := 33) hc dX3_join_33 ?_
    obtain ⟨r, P⟩ := P
    refine zk_last (pc := 34) hc dX3_join_34 e7.1 up_self r ?_
    exact ok_vret (st := []) (pc := 35) hc hr dX3_join_35 P

def spec_X3_join (args : List Value) (n : Nat) (h : HP) (K : KT) : Prop := ∃ (r a b : Nat) (g bal : Int) (M : Mat), args = [.ref r, .int (i3 a), .int (i3 b), .int (i3 g), .int (i3 bal)] ∧ a < 7 ∧ b < 7 ∧ R3 g ∧ RwA h n r M ∧ ∀ h', RwA h' n r (joinM bal M a b g) → Fr h h' (r + 11) (r + 18) → K (.inl none) n h'
theorem sp_X3_join : Sp yX3_join cX3_join 5 none 1 21 0 0 spec_X3_join := by
  refine sp_intro (by decide) (by rintro args n h K ⟨r, a, b, g, bal, M, rfl, -⟩; exact Nat.le_of_ble_eq_true rfl) ?_
  rintro X args n h K hc hr ⟨r, a, b, w, bal, M, rfl, ha, hb, hg, hM, kk⟩
  have hM' := hM
  obtain ⟨g, σ, R, h0, h1, h2, h3, h4, h5⟩ := hM
  have hs := (h2 a ha).2
  unfold joinM at kk
  refine sX3_join_0 hc hr h0 rfl rfl h1 (q5 := r + 12 + σ a) (by rw [Int.toNat_natCast]; exact (h2 a ha).1) (h4 a ha) ⟨R3_s (by rcases bcon01 bal a with q | q <;> omega), fun c => ?_, fun c => ⟨⟨by omega, by omega, by omega⟩, ⟨by omega, by omega, by omega⟩, hg, ⟨by omega, by omega, by omega⟩, ⟨by omega, by omega, by omega⟩, ⟨by omega, by omega, by omega⟩, hg, ⟨by omega, by omega, by omega⟩, ?_⟩⟩
  · rw [if_pos c] at kk
    exact kk h hM' Fr.rf
  · rw [if_neg c] at kk
    rw [up_up, Int.toNat_natCast, Int.toNat_natCast]
    have e1 : ∀ j, j < 14 → va_up (R a) a (R a a + w) j = va_up (M a) a (M a a + w) j := up_pt (fun j hj => h5 a j ha hj) (by rw [h5 a a ha (by omega)])
    exact kk _ (RwA.put h0 h1 h2 h3 h4 h5 ha (up_pt e1 (by rw [e1 b (by omega)]))) (Fr.rf.up (by omega))
set_option maxHeartbeats 4000000 in
set_option maxRecDepth 100000 in
theorem sJ7_fill_d0a16_0 {X : Xt} {n : Nat} {h : HP} {a0 : Nat} {l1 : Int} {len1 : Nat} {f1 : Nat → Int} (hc : Cx X cJ7_fill_d0a16 RJ7 5 0 0) {K : KT} (hr : CxR X none K) (e1 : At h n a0 (al len1 f1))
    (P : Ok X 0 0 6 [(0, .ref a0), (1, .long (i6 l1)), (3, .int (i3 0)), (4, .int (i3 (len1 : Int)))] [] n h) :
    Ok X 0 0 0 [(0, .ref a0), (1, .long (i6 l1))] [] n h := by
  refine ok_iconst (pc := 0) hc (v := i3 0) dJ7_fill_d0a16_0 (by decide) ?_
  refine ok_istore_n (pc := 1) hc (lv' := [(3, .int (i3 0)), (0, .ref a0), (1, .long (i6 l1))]) dJ7_fill_d0a16_1 rfl (by decide) rfl ?_
  refine ok_aload_n (pc := 2) hc dJ7_fill_d0a16_2 rfl 1 rfl ?_
  refine ok_alen (pc := 3) hc (v := i3 (len1 : Nat)) dJ7_fill_d0a16_3 e1.1 e1.2 (i3_nI _).symm ?_
  refine ok_istore (pc := 4) hc (lv' := [(4, .int (i3 (len1 : Int))), (3, .int (i3 0)), (0, .ref a0), (1, .long (i6 l1))]) dJ7_fill_d0a16_4 (by decide) rfl ?_
  refine ok_lv [2, 3, 1, 0] rfl ?_
  exact P

set_option maxHeartbeats 4000000 in
set_option maxRecDepth 100000 in
theorem sJ7_fill_d0a16_6 {X : Xt} {n : Nat} {h : HP} {a0 : Nat} {l1 : Int} {x3 : Int} {x4 : Int} {len3 : Nat} {f3 : Nat → Int} (hc : Cx X cJ7_fill_d0a16 RJ7 5 0 0) {K : KT} (hr : CxR X none K) (e3 : At h n a0 (al len3 f3))
    (P : (R3 x3) ∧ (R3 x4) ∧ (x4 ≤ x3 → K (.inl none) n h) ∧ (¬ x4 ≤ x3 → (Ix x3 len3) ∧ Ok X 0 0 6 [(0, .ref a0), (1, .long (i6 l1)), (3, .int (i3 (x3 + 1))), (4, .int (i3 x4))] [] n (va_up h a0 (al len3 (va_up f3 (x3 : Int).toNat l1))))) :
    Ok X 0 0 6 [(0, .ref a0), (1, .long (i6 l1)), (3, .int (i3 x3)), (4, .int (i3 x4))] [] n h := by
  refine ok_iload_n (pc := 6) hc dJ7_fill_d0a16_6 rfl 2 rfl ?_
  refine ok_iload (pc := 7) hc dJ7_fill_d0a16_7 3 rfl ?_
  obtain ⟨r1, P⟩ := P
  obtain ⟨r2, P⟩ := P
  refine zk_icmp_ge (pc := 9) (tgt := 22) hc dJ7_fill_d0a16_9 (by decide) r1 r2 (fun c => ?_) (fun c => ?_)
  · have P := P.1 c
    exact ok_vret (st := []) (pc := 22) hc hr dJ7_fill_d0a16_22 P
  · have P := P.2 c
    refine ok_aload_n (pc := 12) hc dJ7_fill_d0a16_12 rfl 0 rfl ?_
    refine ok_iload_n (pc := 13) hc dJ7_fill_d0a16_13 rfl 2 rfl ?_
    refine ok_lload_n (pc := 14) hc dJ7_fill_d0a16_14 rfl 1 rfl ?_
    obtain ⟨r, P⟩ := P
    refine zk_last (pc := 15) hc dJ7_fill_d0a16_15 e3.1 e3.2 r ?_
    refine zk_iinc (pc := 16) hc (q := 2) (x := x3) (lv' := [(3, .int (i3 (x3 + 1))), (0, .ref a0), (1, .long (i6 l1)), (4, .int (i3 x4))]) dJ7_fill_d0a16_16 rfl (by decide) rfl ?_
    refine ok_goto (pc := 19) (tgt := 6) hc dJ7_fill_d0a16_19 (by decide) ?_
    refine ok_lv [1, 2, 0, 3] rfl ?_
    exact P

def spec_J7_fill_d0a16 (args : List Value) (n : Nat) (h : HP) (K : KT) : Prop := ∃ (a len : Nat) (F : Nat → Int) (v : Int), args = [.ref a, .long (i6 v)] ∧ At h n a (al len F) ∧ len ≤ 1000 ∧ ∀ G : Nat → Int, (∀ j, j < len → G j = v) → K (.inl none) n (va_up h a (al len G))
theorem sp_J7_fill_d0a16 : Sp yJ7_fill_d0a16 cJ7_fill_d0a16 5 none 0 0 0 0 spec_J7_fill_d0a16 := by
  refine sp_intro (by decide) (by rintro args n h K ⟨a, len, F, v, rfl, -⟩; exact Nat.le_of_ble_eq_true rfl) ?_
  rintro X args n h K hc hr ⟨a, len, F, v, rfl, hA, hlen, kk⟩
  have L : ∀ (j i : Nat) (G : Nat → Int), i + j = len → (∀ k, k < i → G k = v) → Ok X 0 0 6 [(0, .ref a), (1, .long (i6 v)), (3, .int (i3 i)), (4, .int (i3 len))] [] n (va_up h a (al len G)) := by
    intro j
    induction j with
    | zero =>
      intro i G hi hG
      have : i = len := by omega
      subst this
      exact sJ7_fill_d0a16_6 hc hr hA.it ⟨R3_s (by omega), R3_s (by omega), fun _ => kk G hG, fun c => absurd (Int.le_refl _) c⟩
    | succ j ih =>
      intro i G hi hG
      refine sJ7_fill_d0a16_6 hc hr hA.it ⟨R3_s (by omega), R3_s (by omega), fun c => absurd c (by omega), fun _ => ⟨⟨by omega, by omega, by omega⟩, ?_⟩⟩
      rw [up_up, Int.toNat_natCast]
      refine ih (i + 1) _ (by omega) (fun k hk => ?_)
      by_cases z : k = i
      · rw [z, up_self]
      · rw [up_ne z]
        exact hG k (by omega)
  refine sJ7_fill_d0a16_0 hc hr hA ?_
  have e : h = va_up h a (al len F) := by
    funext z
    by_cases q : z = a
    · rw [q, up_self]
      exact hA.2
    · rw [up_ne q]
  have L0 := L len 0 F (by omega) (fun k hk => absurd hk (Nat.not_lt_zero k))
  rw [← e] at L0
  exact L0
def eqM (M : Mat) (p m o : Nat) : Mat := va_up M o (va_up (va_up (fun _ => 0) p 1) m (-1))
set_option maxHeartbeats 4000000 in
set_option maxRecDepth 100000 in
theorem sX3_equateInputs_0 {X : Xt} {n : Nat} {h : HP} {a0 : Nat} {x1 : Int} {x2 : Int} {x3 : Int} {fs1 : List Value} {q2 : Nat} {len3 : Nat} {f3 : Nat → Option Nat} {q4 : Nat} (hc : Cx X cX3_equateInputs RX3 4 1 24) {K : KT} (hr : CxR X none K) (e1 : At h n a0 (.inl (3, fs1))) (z1 : fs1.length = 3) (v1_2 : fs1[2]? = some (.ref q2)) (e3 : At h n q2 (.inr (4, len3, .inr (.inr f3)))) (g5 : (f3 (x3 : Int).toNat) = some q4)
    (P : (Ix x3 len3) ∧ spec_J7_fill_d0a16 [.ref q4, .long (i6 0)] n h (kc X 0 0 7 [(0, .ref a0), (1, .int (i3 x1)), (2, .int (i3 x2)), (3, .int (i3 x3))] [] n)) :
    Ok X 0 0 0 [(0, .ref a0), (1, .int (i3 x1)), (2, .int (i3 x2)), (3, .int (i3 x3))] [] n h := by
  refine ok_aload_n (pc := 0) hc dX3_equateInputs_0 rfl 0 rfl ?_
  refine ok_get (pc := 1) hc fl_X3_20 dX3_equateInputs_1 e1.1 e1.2 v1_2 ?_
  refine ok_iload_n (pc := 4) hc dX3_equateInputs_4 rfl 3 rfl ?_
  obtain ⟨r, P⟩ := P
  refine zk_aald (pc := 5) hc dX3_equateInputs_5 e3.1 e3.2 rfl r g5 ?_
  refine ok_lconst (pc := 6) hc (v := i6 0) dX3_equateInputs_6 (by decide) ?_
  exact ok_callS (pc := 7) (cb := 0) (sb := 0) (st := []) hc [.ref q4, .long (i6 0)] cs_X3_50 sp_J7_fill_d0a16 (by decide) dX3_equateInputs_7 rfl rfl rfl rfl (Nat.le_of_ble_eq_true rfl) P

set_option maxHeartbeats 4000000 in
set_option maxRecDepth 100000 in
theorem sX3_equateInputs_10 {X : Xt} {n : Nat} {h : HP} {a0 : Nat} {x1 : Int} {x2 : Int} {x3 : Int} {fs1 : List Value} {q2 : Nat} {len3 : Nat} {f3 : Nat → Option Nat} {q4 : Nat} {len6 : Nat} {f6 : Nat → Int} (hc : Cx X cX3_equateInputs RX3 4 1 24) {K : KT} (hr : CxR X none K) (e1 : At h n a0 (.inl (3, fs1))) (z1 : fs1.length = 3) (v1_2 : fs1[2]? = some (.ref q2)) (e3 : At h n q2 (.inr (4, len3, .inr (.inr f3)))) (g5 : (f3 (x3 : Int).toNat) = some q4) (e6 : At h n q4 (al len6 f6))
    (P : (Ix x3 len3) ∧ (Ix x1 len6) ∧ (Ix x3 len3) ∧ (Ix x2 len6) ∧ K (.inl none) n (va_up (va_up h q4 (al len6 (va_up f6 (x1 : Int).toNat 1))) q4 (al len6 (va_up (va_up f6 (x1 : Int).toNat 1) (x2 : Int).toNat (-1))))) :
    Ok X 0 0 10 [(0, .ref a0), (1, .int (i3 x1)), (2, .int (i3 x2)), (3, .int (i3 x3))] [] n h := by
  refine ok_aload_n (pc := 10) hc dX3_equateInputs_10 rfl 0 rfl ?_
  refine ok_get (pc := 11) hc fl_X3_20 dX3_equateInputs_11 e1.1 e1.2 v1_2 ?_
  refine ok_iload_n (pc := 14) hc dX3_equateInputs_14 rfl 3 rfl ?_
  obtain ⟨r, P⟩ := P
  refine zk_aald (pc := 15) hc dX3_equateInputs_15 e3.1 e3.2 rfl r g5 ?_
  refine ok_iload_n (pc := 16) hc dX3_equateInputs_16 rfl 1 rfl ?_
  refine ok_lconst (pc := 17) hc (v := i6 1) dX3_equateInputs_17 (by decide) ?_
  obtain ⟨r, P⟩ := P
  refine zk_last (pc := 18) hc dX3_equateInputs_18 e6.1 e6.2 r ?_
  refine ok_aload_n (pc := 19) hc dX3_equateInputs_19 rfl 0 rfl ?_
  refine ok_get (pc := 20) hc fl_X3_20 dX3_equateInputs_20 e1.1 ((up_ne (ne_oa e1.2 e6.2)).trans e1.2) v1_2 ?_
  refine ok_iload_n (pc := 23) hc dX3_equateInputs_23 rfl 3 rfl ?_
  obtain ⟨r, P⟩ := P
  refine zk_aald (pc := 24) hc dX3_equateInputs_24 e3.1 ((up_ne (ne_aa e3.2 e6.2 (by decide))).trans e3.2) rfl r g5 ?_
  refine ok_iload_n (pc := 25) hc dX3_equateInputs_25 rfl 2 rfl ?_
  refine ok_ldc2 (pc := 26) hc (v := i6 (-1)) dX3_equateInputs_26 (in_all (i := 284) (by decide +kernel) rfl) ?_
  obtain ⟨r, P⟩ := P
  refine zk_last (pc := 29) hc dX3_equateInputs_29 e6.1 up_self r ?_
  exact ok_vret (st := []) (pc := 30) hc hr dX3_equateInputs_30 P

def spec_X3_equateInputs (args : List Value) (n : Nat) (h : HP) (K : KT) : Prop := ∃ (r p m o : Nat) (M : Mat), args = [.ref r, .int (i3 p), .int (i3 m), .int (i3 o)] ∧ p < 7 ∧ m < 7 ∧ o < 7 ∧ RwA h n r M ∧ ∀ h', RwA h' n r (eqM M p m o) → Fr h h' (r + 11) (r + 18) → K (.inl none) n h'
theorem sp_X3_equateInputs : Sp yX3_equateInputs cX3_equateInputs 4 none 1 24 0 0 spec_X3_equateInputs := by
  refine sp_intro (by decide) (by rintro args n h K ⟨r, p, m, o, M, rfl, -⟩; exact Nat.le_of_ble_eq_true rfl) ?_
  rintro X args n h K hc hr ⟨r, p, m, o, M, rfl, hp, hm, ho, ⟨g, σ, R, h0, h1, h2, h3, h4, h5⟩, kk⟩
  have hs := (h2 o ho).2
  have hg : g (o : Int).toNat = some (r + 12 + σ o) := by rw [Int.toNat_natCast]; exact (h2 o ho).1
  refine sX3_equateInputs_0 hc hr h0 rfl rfl h1 hg ⟨⟨by omega, by omega, by omega⟩, r + 12 + σ o, 14, R o, 0, rfl, h4 o ho, by omega, fun G hG => ⟨rfl, ?_⟩⟩
  refine sX3_equateInputs_10 hc hr (h0.up (by omega)) rfl rfl (h1.up (by omega)) hg (h4 o ho).it ⟨⟨by omega, by omega, by omega⟩, ⟨by omega, by omega, by omega⟩, ⟨by omega, by omega, by omega⟩, ⟨by omega, by omega, by omega⟩, ?_⟩
  rw [up_up, up_up, Int.toNat_natCast, Int.toNat_natCast]
  exact kk _ (RwA.put h0 h1 h2 h3 h4 h5 ho (up_pt (up_pt hG rfl) rfl)) (Fr.rf.up (by omega))
