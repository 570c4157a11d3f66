/-! part 87: the reference: canBe, fits, load -/
set_option maxHeartbeats 4000000 in
set_option maxRecDepth 100000 in
theorem sX7_canBe_0 {X : Xt} {n : Nat} {h : HP} {a0 : Nat} {x1 : Int} {fs1 : List Value} {q2 : Nat} {len3 : Nat} {f3 : Nat → Int} (hc : Cx X cX7_canBe RX7 6 0 0) {K : KT} (hr : CxR X (some .boolean) K) (e1 : At h n a0 (.inl (7, fs1))) (z1 : fs1.length = 24) (v1_18 : fs1[18]? = some (.ref q2)) (e3 : At h n q2 (ai len3 f3))
    (P : (Ix (4 * x1) len3) ∧ (Ix ((4 * x1) + 1) len3) ∧ (Ix ((4 * x1) + 2) len3) ∧ (Ix ((4 * x1) + 3) len3) ∧ (R3 (f3 ((4 * x1) : Int).toNat)) ∧ (¬ (f3 ((4 * x1) : Int).toNat) = 1 → (R3 (f3 (((4 * x1) + 1) : Int).toNat)) ∧ (R3 (f3 (((4 * x1) + 2) : Int).toNat)) ∧ ((f3 (((4 * x1) + 1) : Int).toNat) = (f3 (((4 * x1) + 2) : Int).toNat) → K (.inl (some (.int (i3 0)))) n h) ∧ (¬ (f3 (((4 * x1) + 1) : Int).toNat) = (f3 (((4 * x1) + 2) : Int).toNat) → (R3 (f3 ((4 * x1) : Int).toNat)) ∧ ((f3 ((4 * x1) : Int).toNat) = 0 → K (.inl (some (.int (i3 1)))) n h) ∧ (¬ (f3 ((4 * x1) : Int).toNat) = 0 → (R3 (f3 (((4 * x1) + 3) : Int).toNat)) ∧ ((f3 (((4 * x1) + 3) : Int).toNat) = 0 → K (.inl (some (.int (i3 0)))) n h) ∧ (¬ (f3 (((4 * x1) + 3) : Int).toNat) = 0 → (R3 (f3 (((4 * x1) + 3) : Int).toNat)) ∧ (R3 (f3 (((4 * x1) + 1) : Int).toNat)) ∧ ((f3 (((4 * x1) + 3) : Int).toNat) = (f3 (((4 * x1) + 1) : Int).toNat) → K (.inl (some (.int (i3 0)))) n h) ∧ (¬ (f3 (((4 * x1) + 3) : Int).toNat) = (f3 (((4 * x1) + 1) : Int).toNat) → (R3 (f3 (((4 * x1) + 3) : Int).toNat)) ∧ (R3 (f3 (((4 * x1) + 2) : Int).toNat)) ∧ ((f3 (((4 * x1) + 3) : Int).toNat) = (f3 (((4 * x1) + 2) : Int).toNat) → K (.inl (some (.int (i3 0)))) n h) ∧ (¬ (f3 (((4 * x1) + 3) : Int).toNat) = (f3 (((4 * x1) + 2) : Int).toNat) → K (.inl (some (.int (i3 1)))) n h)))))) ∧ ((f3 ((4 * x1) : Int).toNat) = 1 → (R3 (f3 (((4 * x1) + 1) : Int).toNat)) ∧ ((f3 (((4 * x1) + 1) : Int).toNat) = 0 → K (.inl (some (.int (i3 0)))) n h) ∧ (¬ (f3 (((4 * x1) + 1) : Int).toNat) = 0 → K (.inl (some (.int (i3 1)))) n h))) :
    Ok X 0 0 0 [(0, .ref a0), (1, .int (i3 x1))] [] n h := by
  refine ok_aload_n (pc := 0) hc dX7_canBe_0 rfl 0 rfl ?_
  refine ok_get (pc := 1) hc fl_X7_38 dX7_canBe_1 e1.1 e1.2 v1_18 ?_
  refine ok_iconst (pc := 4) hc (v := i3 4) dX7_canBe_4 (by decide) ?_
  refine ok_iload_n (pc := 5) hc dX7_canBe_5 rfl 1 rfl ?_
  refine zk_imul (pc := 6) hc dX7_canBe_6 ?_
  obtain ⟨r, P⟩ := P
  refine zk_iald (pc := 7) hc dX7_canBe_7 e3.1 e3.2 r ?_
  refine ok_istore_n (pc := 8) hc (lv' := [(2, .int (i3 (f3 ((4 * x1) : Int).toNat))), (0, .ref a0), (1, .int (i3 x1))]) dX7_canBe_8 rfl (by decide) rfl ?_
  refine ok_aload_n (pc := 9) hc dX7_canBe_9 rfl 1 rfl ?_
  refine ok_get (pc := 10) hc fl_X7_38 dX7_canBe_10 e1.1 e1.2 v1_18 ?_
  refine ok_iconst (pc := 13) hc (v := i3 4) dX7_canBe_13 (by decide) ?_
  refine ok_iload_n (pc := 14) hc dX7_canBe_14 rfl 2 rfl ?_
  refine zk_imul (pc := 15) hc dX7_canBe_15 ?_
  refine ok_iconst (pc := 16) hc (v := i3 1) dX7_canBe_16 (by decide) ?_
  refine zk_iadd (pc := 17) hc dX7_canBe_17 ?_
  obtain ⟨r, P⟩ := P
  refine zk_iald (pc := 18) hc dX7_canBe_18 e3.1 e3.2 r ?_
  refine ok_istore_n (pc := 19) hc (lv' := [(3, .int (i3 (f3 (((4 * x1) + 1) : Int).toNat))), (2, .int (i3 (f3 ((4 * x1) : Int).toNat))), (0, .ref a0), (1, .int (i3 x1))]) dX7_canBe_19 rfl (by decide) rfl ?_
  refine ok_aload_n (pc := 20) hc dX7_canBe_20 rfl 2 rfl ?_
  refine ok_get (pc := 21) hc fl_X7_38 dX7_canBe_21 e1.1 e1.2 v1_18 ?_
  refine ok_iconst (pc := 24) hc (v := i3 4) dX7_canBe_24 (by decide) ?_
  refine ok_iload_n (pc := 25) hc dX7_canBe_25 rfl 3 rfl ?_
  refine zk_imul (pc := 26) hc dX7_canBe_26 ?_
  refine ok_iconst (pc := 27) hc (v := i3 2) dX7_canBe_27 (by decide) ?_
  refine zk_iadd (pc := 28) hc dX7_canBe_28 ?_
  obtain ⟨r, P⟩ := P
  refine zk_iald (pc := 29) hc dX7_canBe_29 e3.1 e3.2 r ?_
  refine ok_istore (pc := 30) hc (lv' := [(4, .int (i3 (f3 (((4 * x1) + 2) : Int).toNat))), (3, .int (i3 (f3 (((4 * x1) + 1) : Int).toNat))), (2, .int (i3 (f3 ((4 * x1) : Int).toNat))), (0, .ref a0), (1, .int (i3 x1))]) dX7_canBe_30 (by decide) rfl ?_
  refine ok_aload_n (pc := 32) hc dX7_canBe_32 rfl 3 rfl ?_
  refine ok_get (pc := 33) hc fl_X7_38 dX7_canBe_33 e1.1 e1.2 v1_18 ?_
  refine ok_iconst (pc := 36) hc (v := i3 4) dX7_canBe_36 (by decide) ?_
  refine ok_iload_n (pc := 37) hc dX7_canBe_37 rfl 4 rfl ?_
  refine zk_imul (pc := 38) hc dX7_canBe_38 ?_
  refine ok_iconst (pc := 39) hc (v := i3 3) dX7_canBe_39 (by decide) ?_
  refine zk_iadd (pc := 40) hc dX7_canBe_40 ?_
  obtain ⟨r, P⟩ := P
  refine zk_iald (pc := 41) hc dX7_canBe_41 e3.1 e3.2 r ?_
  refine ok_istore (pc := 42) hc (lv' := [(5, .int (i3 (f3 (((4 * x1) + 3) : Int).toNat))), (4, .int (i3 (f3 (((4 * x1) + 2) : Int).toNat))), (3, .int (i3 (f3 (((4 * x1) + 1) : Int).toNat))), (2, .int (i3 (f3 ((4 * x1) : Int).toNat))), (0, .ref a0), (1, .int (i3 x1))]) dX7_canBe_42 (by decide) rfl ?_
  refine ok_iload_n (pc := 44) hc dX7_canBe_44 rfl 3 rfl ?_
  refine ok_iconst (pc := 45) hc (v := i3 1) dX7_canBe_45 (by decide) ?_
  obtain ⟨r4, P⟩ := P
  refine zk_icmp_ne (pc := 46) (tgt := 59) hc dX7_canBe_46 (by decide) r4 ⟨by decide, by decide⟩ (fun c => ?_) (fun c => ?_)
  · have P := P.1 c
    refine ok_iload_n (pc := 59) hc dX7_canBe_59 rfl 2 rfl ?_
    refine ok_iload (pc := 60) hc dX7_canBe_60 1 rfl ?_
    obtain ⟨r5, P⟩ := P
    obtain ⟨r6, P⟩ := P
    refine zk_icmp_eq (pc := 62) (tgt := 91) hc dX7_canBe_62 (by decide) r5 r6 (fun c => ?_) (fun c => ?_)
    · have P := P.1 c
      refine ok_iconst (pc := 91) hc (v := i3 0) dX7_canBe_91 (by decide) ?_
      exact ok_zret (st := []) (pc := 92) hc (nar_z (by decide)) hr dX7_canBe_92 P
    · have P := P.2 c
      refine ok_iload_n (pc := 65) hc dX7_canBe_65 rfl 3 rfl ?_
      obtain ⟨r7, P⟩ := P
      refine zk_if_eq (pc := 66) (tgt := 87) hc dX7_canBe_66 (by decide) r7 (fun c => ?_) (fun c => ?_)
      · have P := P.1 c
        refine ok_iconst (pc := 87) hc (v := i3 1) dX7_canBe_87 (by decide) ?_
        refine ok_goto (pc := 88) (tgt := 92) hc dX7_canBe_88 (by decide) ?_
        exact ok_zret (st := []) (pc := 92) hc (nar_z (by decide)) hr dX7_canBe_92 P
      · have P := P.2 c
        refine ok_iload (pc := 69) hc dX7_canBe_69 0 rfl ?_
        obtain ⟨r8, P⟩ := P
        refine zk_if_eq (pc := 71) (tgt := 91) hc dX7_canBe_71 (by decide) r8 (fun c => ?_) (fun c => ?_)
        · have P := P.1 c
          refine ok_iconst (pc := 91) hc (v := i3 0) dX7_canBe_91 (by decide) ?_
          exact ok_zret (st := []) (pc := 92) hc (nar_z (by decide)) hr dX7_canBe_92 P
        · have P := P.2 c
          refine ok_iload (pc := 74) hc dX7_canBe_74 0 rfl ?_
          refine ok_iload_n (pc := 76) hc dX7_canBe_76 rfl 2 rfl ?_
          obtain ⟨r9, P⟩ := P
          obtain ⟨r10, P⟩ := P
          refine zk_icmp_eq (pc := 77) (tgt := 91) hc dX7_canBe_77 (by decide) r9 r10 (fun c => ?_) (fun c => ?_)
          · have P := P.1 c
            refine ok_iconst (pc := 91) hc (v := i3 0) dX7_canBe_91 (by decide) ?_
            exact ok_zret (st := []) (pc := 92) hc (nar_z (by decide)) hr dX7_canBe_92 P
          · have P := P.2 c
            refine ok_iload (pc := 80) hc dX7_canBe_80 0 rfl ?_
            refine ok_iload (pc := 82) hc dX7_canBe_82 1 rfl ?_
            obtain ⟨r11, P⟩ := P
            obtain ⟨r12, P⟩ := P
            refine zk_icmp_eq (pc := 84) (tgt := 91) hc dX7_canBe_84 (by decide) r11 r12 (fun c => ?_) (fun c => ?_)
            · have P := P.1 c
              refine ok_iconst (pc := 91) hc (v := i3 0) dX7_canBe_91 (by decide) ?_
              exact ok_zret (st := []) (pc := 92) hc (nar_z (by decide)) hr dX7_canBe_92 P
            · have P := P.2 c
              refine ok_iconst (pc := 87) hc (v := i3 1) dX7_canBe_87 (by decide) ?_
              refine ok_goto (pc := 88) (tgt := 92) hc dX7_canBe_88 (by decide) ?_
              exact ok_zret (st := []) (pc := 92) hc (nar_z (by decide)) hr dX7_canBe_92 P
  · have P := P.2 c
    refine ok_iload_n (pc := 49) hc dX7_canBe_49 rfl 2 rfl ?_
    obtain ⟨r13, P⟩ := P
    refine zk_if_eq (pc := 50) (tgt := 57) hc dX7_canBe_50 (by decide) r13 (fun c => ?_) (fun c => ?_)
    · have P := P.1 c
      refine ok_iconst (pc := 57) hc (v := i3 0) dX7_canBe_57 (by decide) ?_
      exact ok_zret (st := []) (pc := 58) hc (nar_z (by decide)) hr dX7_canBe_58 P
    · have P := P.2 c
      refine ok_iconst (pc := 53) hc (v := i3 1) dX7_canBe_53 (by decide) ?_
      refine ok_goto (pc := 54) (tgt := 58) hc dX7_canBe_54 (by decide) ?_
      exact ok_zret (st := []) (pc := 58) hc (nar_z (by decide)) hr dX7_canBe_58 P

def spec_X7_canBe (args : List Value) (n : Nat) (h : HP) (K : KT) : Prop := ∃ (I : Nat → Int) (F : Nat → Nat → Int) (k : Nat) (p : Part), args = [.ref 128, .int (i3 k)] ∧ MAt h n I F ∧ k < 20 ∧ PW p ∧ p = (F 10 (4 * k), F 10 (4 * k + 1), F 10 (4 * k + 2), F 10 (4 * k + 3)) ∧ K (.inl (some (.int (i3 (bz (toldB p)))))) n h
theorem sp_X7_canBe : Sp yX7_canBe cX7_canBe 6 (some .boolean) 0 0 0 0 spec_X7_canBe := by
  refine sp_intro (by decide) (by rintro args n h K ⟨I, F, k, p, rfl, -⟩; exact Nat.le_of_ble_eq_true rfl) ?_
  rintro X args n h K hc hr ⟨I, F, k, p, rfl, hM, hk, hpw, hp, kk⟩
  have b := hpw.b
  have e0 : F 10 (4 * (k : Int)).toNat = p.1 := by rw [show (4 * (k : Int)).toNat = 4 * k by omega, hp]
  have e1 : F 10 (4 * (k : Int) + 1).toNat = p.2.1 := by rw [show (4 * (k : Int) + 1).toNat = 4 * k + 1 by omega, hp]
  have e2 : F 10 (4 * (k : Int) + 2).toNat = p.2.2.1 := by rw [show (4 * (k : Int) + 2).toNat = 4 * k + 2 by omega, hp]
  have e3 : F 10 (4 * (k : Int) + 3).toNat = p.2.2.2 := by rw [show (4 * (k : Int) + 3).toNat = 4 * k + 3 by omega, hp]
  have yes : toldB p = true → K (.inl (some (.int (i3 1)))) n h := fun z => by rw [z] at kk; exact kk
  have no : toldB p = false → K (.inl (some (.int (i3 0)))) n h := fun z => by rw [z] at kk; exact kk
  refine sX7_canBe_0 hc hr hM.o rfl rfl hM.d ⟨⟨by omega, by omega, by omega⟩, ⟨by omega, by omega, by omega⟩, ⟨by omega, by omega, by omega⟩, ⟨by omega, by omega, by omega⟩, ?_⟩
  rw [e0, e1, e2, e3]
  have r0 : R3 p.1 := R3_s (by omega)
  have r1 : R3 p.2.1 := R3_s (by omega)
  have r2 : R3 p.2.2.1 := R3_s (by omega)
  have r3 : R3 p.2.2.2 := R3_s (by omega)
  unfold toldB at yes no
  refine ⟨r0, fun z => ⟨r1, r2, fun w => no ?_, fun w => ⟨r0, fun v => yes ?_, fun v => ⟨r3, fun u => no ?_, fun u => ⟨r3, r1, fun s => no ?_, fun s => ⟨r3, r2, fun y => no ?_, fun y => yes ?_⟩⟩⟩⟩⟩, fun z => ⟨r1, fun w => no ?_, fun w => yes ?_⟩⟩ <;> (clear yes no kk e0 e1 e2 e3 hp; simp [*])
/-- parts that are read are parts that can be written -/
theorem endP_pw {q : RdQ} {i : Nat} {ps : List Part} (h : RI q i) (he : endP q = some ps) (hp : ∀ p ∈ q.2.2.2.2.2.2, PW p) : ∀ p ∈ ps, PW p := by
  unfold endP at he
  have app : ∀ x : Part, PW x → some (q.2.2.2.2.2.2 ++ [x]) = some ps → ∀ p ∈ ps, PW p := by
    intro x hx e p hm
    rw [← Option.some.inj e] at hm
    rcases List.mem_append.mp hm with z | z
    · exact hp p z
    · rw [List.mem_singleton.mp z]
      exact hx
  rcases h with ⟨k1, _⟩ | ⟨k1, k2, k3, k4⟩ | ⟨k1, k2, k3, k4, k5, k6⟩
  · rw [if_pos k1] at he
    cases he
  · rw [if_neg (by omega), if_pos k1] at he
    by_cases c : q.2.1 = 0
    · rw [if_pos c] at he
      cases he
    · rw [if_neg c] at he
      have hv : -200 ≤ (if q.2.2.2.1 = 0 then q.2.2.2.2.1 else -q.2.2.2.2.1) ∧ (if q.2.2.2.1 = 0 then q.2.2.2.2.1 else -q.2.2.2.2.1) ≤ 200 := by split <;> omega
      have hn : 0 ≤ q.2.2.1 ∧ q.2.2.1 ≤ 6 := by omega
      exact app _ (Or.inr (Or.inl ⟨rfl, hn.1, hn.2, rfl, hv.1, hv.2⟩)) he
  · rw [if_neg (by omega), if_neg (by omega)] at he
    by_cases c : q.2.1 < 3
    · rw [if_pos c] at he
      cases he
    · rw [if_neg c] at he
      refine app _ ?_ he
      have a0 := k5 0 (by omega)
      have a1 := k5 1 (by omega)
      have a2 := k5 2 (by omega)
      have a3 : q.1 = 0 → 1 ≤ q.2.2.2.2.2.1 2 ∧ q.2.2.2.2.2.1 2 ≤ 4 := fun z => k6 z (by omega)
      unfold PW
      simp only
      rcases k1 with k1 | k1
      · have := a3 k1
        omega
      · omega
theorem rrun_pw : ∀ {B : List Int} {q q' : RdQ} {i : Nat}, RI q i → i + B.length ≤ 60 → (∀ p ∈ q.2.2.2.2.2.2, PW p) → (rrun q B).2 = some q' → ∀ p ∈ q'.2.2.2.2.2.2, PW p
  | [], q, q', i, _, _, hp, e => by
    have : some q = some q' := e
    rw [← Option.some.inj this]
    exact hp
  | c :: B, q, q', i, hI, hi, hp, e => by
    rw [List.length_cons] at hi
    have er : (rrun q (c :: B)).2 = match rstep q c with
      | none => none
      | some q1 => (rrun q1 B).2 := by
      show (match rstep q c with | none => ((0 : Nat), (none : Option RdQ)) | some q' => ((rrun q' B).1 + 1, (rrun q' B).2)).2 = _
      cases rstep q c <;> rfl
    rw [er] at e
    cases es : rstep q c with
    | none =>
      rw [es] at e
      cases e
    | some q1 =>
      rw [es] at e
      refine rrun_pw (hI.step (by omega) es) (by omega) ?_ e
      have es' := es
      unfold rstep at es
      split at es
      · split at es
        · cases es
        · rw [← Option.some.inj es]
          exact hp
      · split at es
        · cases ee : endP q with
          | none =>
            rw [ee] at es
            cases es
          | some ps =>
            rw [ee] at es
            rw [← Option.some.inj es]
            exact endP_pw hI ee hp
        · split at es
          · unfold stepS at es
            split at es
            · split at es
              · cases es
              · rw [← Option.some.inj es]
                exact hp
            · split at es
              · split at es
                · rw [← Option.some.inj es]
                  exact hp
                · cases es
              · unfold stepV at es
                split at es
                · rw [← Option.some.inj es]
                  exact hp
                · cases es
          · unfold stepD at es
            split at es
            · rw [← Option.some.inj es]
              exact hp
            · cases es
/-- a node that nothing drives -/
theorem dv_no {l : List Part} (hp : ∀ p ∈ l, PW p) {k : Nat} (hk : k < 7) : bcon (drivenM l) (k : Nat) = 0 ↔ srcI l k = -1 ∧ l.any (fun p => outB p k) = false := by
  rw [drv_con hp (by omega)]
  have hd : l.any (fun p => dvB p k) = true ↔ srcI l k ≠ -1 ∨ l.any (fun p => outB p k) = true := by
    constructor
    · intro h
      obtain ⟨p, hpm, hpe⟩ := List.any_eq_true.mp h
      unfold dvB at hpe
      rw [Bool.and_eq_true, decide_eq_true_eq, decide_eq_true_eq] at hpe
      have hpw := hp p hpm
      by_cases c : p.1 = 1
      · left
        rw [drv_src c] at hpe
        intro z
        rcases srcI_r l k with ⟨_, h2⟩ | ⟨j, q, h1, _⟩
        · exact h2 p hpm ⟨c, hpe.2⟩
        · omega
      · right
        have c2 : p.1 = 2 := by
          unfold PW at hpw
          omega
        rw [drv_amp c2] at hpe
        refine List.any_eq_true.mpr ⟨p, hpm, ?_⟩
        unfold outB
        rw [decide_eq_true c2, decide_eq_true hpe.2]
        rfl
    · rintro (h | h)
      · rcases srcI_r l k with ⟨h1, _⟩ | ⟨j, q, h1, h2, h3, h4⟩
        · exact absurd h1 h
        · refine List.any_eq_true.mpr ⟨q, List.mem_of_getElem? h2, ?_⟩
          unfold dvB
          rw [decide_eq_true (show q.1 ≠ 0 by omega), drv_src h3, decide_eq_true h4]
          rfl
      · obtain ⟨q, hq, hqe⟩ := List.any_eq_true.mp h
        unfold outB at hqe
        rw [Bool.and_eq_true, decide_eq_true_eq, decide_eq_true_eq] at hqe
        refine List.any_eq_true.mpr ⟨q, hq, ?_⟩
        unfold dvB
        rw [decide_eq_true (show q.1 ≠ 0 by omega), drv_amp hqe.1, decide_eq_true hqe.2]
        rfl
  cases e : l.any (fun p => dvB p k) with
  | true =>
    rw [if_pos rfl]
    rw [e] at hd
    rcases hd.mp rfl with z | z
    · exact ⟨fun y => absurd y (by decide), fun y => absurd y.1 z⟩
    · rw [z]
      exact ⟨fun y => absurd y (by decide), fun y => by cases y.2⟩
  | false =>
    rw [if_neg (by decide)]
    rw [e] at hd
    refine ⟨fun _ => ⟨?_, ?_⟩, fun _ => rfl⟩
    · by_cases z : srcI l k = -1
      · exact z
      · exact absurd (hd.mpr (Or.inl z)) (by decide)
    · cases z : l.any (fun p => outB p k) with
      | false => rfl
      | true => exact absurd (hd.mpr (Or.inr z)) (by decide)
theorem ZPs.app {Z Z' : Nat → Int} {l : List Part} {p : Part} (h : ZPs Z l) (hp : PW p) (hl : l.length < 12) (e0 : Z' (4 * l.length) = p.1) (e1 : Z' (4 * l.length + 1) = p.2.1) (e2 : Z' (4 * l.length + 2) = p.2.2.1) (e3 : Z' (4 * l.length + 3) = p.2.2.2) (e48 : Z' 48 = Z 48 + 1) (ez : ∀ x, x < 4 * l.length → Z' x = Z x) : ZPs Z' (l ++ [p]) := by
  refine ⟨?_, ?_, fun i hi => ?_, fun q hq => ?_⟩
  · rw [e48, h.1, List.length_append]
    rfl
  · rw [List.length_append, List.length_singleton]
    omega
  · rw [List.length_append, List.length_singleton] at hi
    by_cases c : i = l.length
    · subst c
      rw [List.getElem?_append, if_neg (by omega), Nat.sub_self, e0, e1, e2, e3]
      rfl
    · rw [List.getElem?_append, if_pos (by omega), ez _ (by omega), ez _ (by omega), ez _ (by omega), ez _ (by omega)]
      exact h.2.2.1 i (by omega)
  · rcases List.mem_append.mp hq with z | z
    · exact h.2.2.2 q z
    · rw [List.mem_singleton.mp z]
      exact hp
theorem freeW_c (m : Int) (p : Part) (ps : List Part) : freeW m (p :: ps) = if p.1 = 0 then freeW m ps else if bcon m (drv p) = 0 then freeW (bor m (bshl 1 (drv p))) ps else false := rfl
set_option maxHeartbeats 4000000 in
set_option maxRecDepth 100000 in
theorem sX7_fits_0 {X : Xt} {n : Nat} {h : HP} {a0 : Nat} {fs1 : List Value} {q2 : Nat} {len3 : Nat} {f3 : Nat → Int} {iv4 : Int} (hc : Cx X cX7_fits RX7 5 3 67) {K : KT} (hr : CxR X (some .boolean) K) (e1 : At h n a0 (.inl (7, fs1))) (z1 : fs1.length = 24) (v1_1 : fs1[1]? = some (.ref q2)) (e3 : At h n q2 (ai len3 f3)) (v1_17 : fs1[17]? = some (.int (i3 iv4)))
    (P : (Ix 48 len3) ∧ (R3 ((f3 (48 : Int).toNat) + iv4)) ∧ (12 < ((f3 (48 : Int).toNat) + iv4) → Ok X 0 0 25 [(0, .ref a0), (1, .int (i3 0)), (2, .int (i3 0))] [] n h) ∧ (¬ 12 < ((f3 (48 : Int).toNat) + iv4) → Ok X 0 0 25 [(0, .ref a0), (1, .int (i3 1)), (2, .int (i3 0))] [] n h)) :
    Ok X 0 0 0 [(0, .ref a0)] [] n h := by
  refine ok_aload_n (pc := 0) hc dX7_fits_0 rfl 0 rfl ?_
  refine ok_get (pc := 1) hc fl_X7_7 dX7_fits_1 e1.1 e1.2 v1_1 ?_
  refine ok_bipush (pc := 4) hc (v := i3 48) dX7_fits_4 (by decide) ?_
  obtain ⟨r, P⟩ := P
  refine zk_iald (pc := 6) hc dX7_fits_6 e3.1 e3.2 r ?_
  refine ok_aload_n (pc := 7) hc dX7_fits_7 rfl 0 rfl ?_
  refine ok_get (pc := 8) hc fl_X7_169 dX7_fits_8 e1.1 e1.2 v1_17 ?_
  refine zk_iadd (pc := 11) hc dX7_fits_11 ?_
  refine ok_bipush (pc := 12) hc (v := i3 12) dX7_fits_12 (by decide) ?_
  obtain ⟨r5, P⟩ := P
  refine zk_icmp_gt (pc := 14) (tgt := 21) hc dX7_fits_14 (by decide) r5 ⟨by decide, by decide⟩ (fun c => ?_) (fun c => ?_)
  · have P := P.1 c
    refine ok_iconst (pc := 21) hc (v := i3 0) dX7_fits_21 (by decide) ?_
    refine ok_istore_n (pc := 22) hc (lv' := [(1, .int (i3 0)), (0, .ref a0)]) dX7_fits_22 rfl (by decide) rfl ?_
    refine ok_iconst (pc := 23) hc (v := i3 0) dX7_fits_23 (by decide) ?_
    refine ok_istore_n (pc := 24) hc (lv' := [(2, .int (i3 0)), (1, .int (i3 0)), (0, .ref a0)]) dX7_fits_24 rfl (by decide) rfl ?_
    refine ok_lv [2, 1, 0] rfl ?_
    exact P
  · have P := P.2 c
    refine ok_iconst (pc := 17) hc (v := i3 1) dX7_fits_17 (by decide) ?_
    refine ok_goto (pc := 18) (tgt := 22) hc dX7_fits_18 (by decide) ?_
    refine ok_istore_n (pc := 22) hc (lv' := [(1, .int (i3 1)), (0, .ref a0)]) dX7_fits_22 rfl (by decide) rfl ?_
    refine ok_iconst (pc := 23) hc (v := i3 0) dX7_fits_23 (by decide) ?_
    refine ok_istore_n (pc := 24) hc (lv' := [(2, .int (i3 0)), (1, .int (i3 1)), (0, .ref a0)]) dX7_fits_24 rfl (by decide) rfl ?_
    refine ok_lv [2, 1, 0] rfl ?_
    exact P

set_option maxHeartbeats 4000000 in
set_option maxRecDepth 100000 in
theorem sX7_fits_25 {X : Xt} {n : Nat} {h : HP} {a0 : Nat} {x1 : Int} {x2 : Int} {fs1 : List Value} {iv2 : Int} (hc : Cx X cX7_fits RX7 5 3 67) {K : KT} (hr : CxR X (some .boolean) K) (e1 : At h n a0 (.inl (7, fs1))) (z1 : fs1.length = 24) (v1_17 : fs1[17]? = some (.int (i3 iv2)))
    (P : (R3 x2) ∧ (R3 iv2) ∧ (iv2 ≤ x2 → Ok X 0 0 177 [(0, .ref a0), (1, .int (i3 x1)), (2, .int (i3 x2))] [] n h) ∧ (¬ iv2 ≤ x2 → (R3 x1) ∧ (x1 = 0 → Ok X 0 0 177 [(0, .ref a0), (1, .int (i3 x1)), (2, .int (i3 x2))] [] n h) ∧ (¬ x1 = 0 → Ok X 0 0 37 [(0, .ref a0), (1, .int (i3 x1)), (2, .int (i3 x2))] [] n h))) :
    Ok X 0 0 25 [(0, .ref a0), (1, .int (i3 x1)), (2, .int (i3 x2))] [] n h := by
  refine ok_iload_n (pc := 25) hc dX7_fits_25 rfl 2 rfl ?_
  refine ok_aload_n (pc := 26) hc dX7_fits_26 rfl 0 rfl ?_
  refine ok_get (pc := 27) hc fl_X7_169 dX7_fits_27 e1.1 e1.2 v1_17 ?_
  obtain ⟨r3, P⟩ := P
  obtain ⟨r4, P⟩ := P
  refine zk_icmp_ge (pc := 30) (tgt := 177) hc dX7_fits_30 (by decide) r3 r4 (fun c => ?_) (fun c => ?_)
  · have P := P.1 c
    exact P
  · have P := P.2 c
    refine ok_iload_n (pc := 33) hc dX7_fits_33 rfl 1 rfl ?_
    obtain ⟨r5, P⟩ := P
    refine zk_if_eq (pc := 34) (tgt := 177) hc dX7_fits_34 (by decide) r5 (fun c => ?_) (fun c => ?_)
    · have P := P.1 c
      exact P
    · have P := P.2 c
      exact P

set_option maxHeartbeats 4000000 in
set_option maxRecDepth 100000 in
theorem sX7_fits_37 {X : Xt} {n : Nat} {h : HP} {a0 : Nat} {x1 : Int} {x2 : Int} {fs1 : List Value} {q2 : Nat} {len3 : Nat} {f3 : Nat → Int} (hc : Cx X cX7_fits RX7 5 3 67) {K : KT} (hr : CxR X (some .boolean) K) (e1 : At h n a0 (.inl (7, fs1))) (z1 : fs1.length = 24) (v1_18 : fs1[18]? = some (.ref q2)) (e3 : At h n q2 (ai len3 f3))
    (P : (Ix (4 * x2) len3) ∧ (R3 (f3 ((4 * x2) : Int).toNat)) ∧ (¬ (f3 ((4 * x2) : Int).toNat) = 1 → (Ix (4 * x2) len3) ∧ (R3 (f3 ((4 * x2) : Int).toNat)) ∧ (¬ (f3 ((4 * x2) : Int).toNat) = 2 → Ok X 0 0 89 [(0, .ref a0), (1, .int (i3 x1)), (2, .int (i3 x2)), (3, .int (i3 (-1)))] [] n h) ∧ ((f3 ((4 * x2) : Int).toNat) = 2 → (Ix ((4 * x2) + 3) len3) ∧ Ok X 0 0 89 [(0, .ref a0), (1, .int (i3 x1)), (2, .int (i3 x2)), (3, .int (i3 (f3 (((4 * x2) + 3) : Int).toNat)))] [] n h)) ∧ ((f3 ((4 * x2) : Int).toNat) = 1 → (Ix ((4 * x2) + 1) len3) ∧ Ok X 0 0 89 [(0, .ref a0), (1, .int (i3 x1)), (2, .int (i3 x2)), (3, .int (i3 (f3 (((4 * x2) + 1) : Int).toNat)))] [] n h)) :
    Ok X 0 0 37 [(0, .ref a0), (1, .int (i3 x1)), (2, .int (i3 x2))] [] n h := by
  refine ok_aload_n (pc := 37) hc dX7_fits_37 rfl 0 rfl ?_
  refine ok_get (pc := 38) hc fl_X7_38 dX7_fits_38 e1.1 e1.2 v1_18 ?_
  refine ok_iconst (pc := 41) hc (v := i3 4) dX7_fits_41 (by decide) ?_
  refine ok_iload_n (pc := 42) hc dX7_fits_42 rfl 2 rfl ?_
  refine zk_imul (pc := 43) hc dX7_fits_43 ?_
  obtain ⟨r, P⟩ := P
  refine zk_iald (pc := 44) hc dX7_fits_44 e3.1 e3.2 r ?_
  refine ok_iconst (pc := 45) hc (v := i3 1) dX7_fits_45 (by decide) ?_
  obtain ⟨r4, P⟩ := P
  refine zk_icmp_ne (pc := 46) (tgt := 62) hc dX7_fits_46 (by decide) r4 ⟨by decide, by decide⟩ (fun c => ?_) (fun c => ?_)
  · have P := P.1 c
    refine ok_aload_n (pc := 62) hc dX7_fits_62 rfl 0 rfl ?_
    refine ok_get (pc := 63) hc fl_X7_38 dX7_fits_63 e1.1 e1.2 v1_18 ?_
    refine ok_iconst (pc := 66) hc (v := i3 4) dX7_fits_66 (by decide) ?_
    refine ok_iload_n (pc := 67) hc dX7_fits_67 rfl 2 rfl ?_
    refine zk_imul (pc := 68) hc dX7_fits_68 ?_
    obtain ⟨r, P⟩ := P
    refine zk_iald (pc := 69) hc dX7_fits_69 e3.1 e3.2 r ?_
    refine ok_iconst (pc := 70) hc (v := i3 2) dX7_fits_70 (by decide) ?_
    obtain ⟨r5, P⟩ := P
    refine zk_icmp_ne (pc := 71) (tgt := 87) hc dX7_fits_71 (by decide) r5 ⟨by decide, by decide⟩ (fun c => ?_) (fun c => ?_)
    · have P := P.1 c
      refine ok_iconst (pc := 87) hc (v := i3 (-1)) dX7_fits_87 (by decide) ?_
      refine ok_istore_n (pc := 88) hc (lv' := [(3, .int (i3 (-1))), (0, .ref a0), (1, .int (i3 x1)), (2, .int (i3 x2))]) dX7_fits_88 rfl (by decide) rfl ?_
      refine ok_lv [1, 2, 3, 0] rfl ?_
      exact P
    · have P := P.2 c
      refine ok_aload_n (pc := 74) hc dX7_fits_74 rfl 0 rfl ?_
      refine ok_get (pc := 75) hc fl_X7_38 dX7_fits_75 e1.1 e1.2 v1_18 ?_
      refine ok_iconst (pc := 78) hc (v := i3 4) dX7_fits_78 (by decide) ?_
      refine ok_iload_n (pc := 79) hc dX7_fits_79 rfl 2 rfl ?_
      refine zk_imul (pc := 80) hc dX7_fits_80 ?_
      refine ok_iconst (pc := 81) hc (v := i3 3) dX7_fits_81 (by decide) ?_
      refine zk_iadd (pc := 82) hc dX7_fits_82 ?_
      obtain ⟨r, P⟩ := P
      refine zk_iald (pc := 83) hc dX7_fits_83 e3.1 e3.2 r ?_
      refine ok_goto (pc := 84) (tgt := 88) hc dX7_fits_84 (by decide) ?_
      refine ok_istore_n (pc := 88) hc (lv' := [(3, .int (i3 (f3 (((4 * x2) + 3) : Int).toNat))), (0, .ref a0), (1, .int (i3 x1)), (2, .int (i3 x2))]) dX7_fits_88 rfl (by decide) rfl ?_
      refine ok_lv [1, 2, 3, 0] rfl ?_
      exact P
  · have P := P.2 c
    refine ok_aload_n (pc := 49) hc dX7_fits_49 rfl 0 rfl ?_
    refine ok_get (pc := 50) hc fl_X7_38 dX7_fits_50 e1.1 e1.2 v1_18 ?_
    refine ok_iconst (pc := 53) hc (v := i3 4) dX7_fits_53 (by decide) ?_
    refine ok_iload_n (pc := 54) hc dX7_fits_54 rfl 2 rfl ?_
    refine zk_imul (pc := 55) hc dX7_fits_55 ?_
    refine ok_iconst (pc := 56) hc (v := i3 1) dX7_fits_56 (by decide) ?_
    refine zk_iadd (pc := 57) hc dX7_fits_57 ?_
    obtain ⟨r, P⟩ := P
    refine zk_iald (pc := 58) hc dX7_fits_58 e3.1 e3.2 r ?_
    refine ok_goto (pc := 59) (tgt := 88) hc dX7_fits_59 (by decide) ?_
    refine ok_istore_n (pc := 88) hc (lv' := [(3, .int (i3 (f3 (((4 * x2) + 1) : Int).toNat))), (0, .ref a0), (1, .int (i3 x1)), (2, .int (i3 x2))]) dX7_fits_88 rfl (by decide) rfl ?_
    refine ok_lv [1, 2, 3, 0] rfl ?_
    exact P

set_option maxHeartbeats 4000000 in
set_option maxRecDepth 100000 in
theorem sX7_fits_89 {X : Xt} {n : Nat} {h : HP} {a0 : Nat} {x1 : Int} {x2 : Int} {x3 : Int} {fs2 : List Value} {q3 : Nat} {f4 : Nat → Int} {ps5 : List Part} (hc : Cx X cX7_fits RX7 5 3 67) {K : KT} (hr : CxR X (some .boolean) K) (e2 : At h n a0 (.inl (7, fs2))) (z2 : fs2.length = 24) (v2_1 : fs2[1]? = some (.ref q3)) (e4 : At h n q3 (ai 52 f4)) (hP5 : ZPs f4 ps5)
    (P : (R3 x3) ∧ (x3 = (-1) → Ok X 0 0 120 [(0, .ref a0), (1, .int (i3 1)), (2, .int (i3 x2)), (3, .int (i3 x3)), (4, .int (i3 0))] [] n h) ∧ (¬ x3 = (-1) → (R3 x3) ∧ (R3 (srcI ps5 x3)) ∧ (¬ (srcI ps5 x3) = (-1) → Ok X 0 0 120 [(0, .ref a0), (1, .int (i3 0)), (2, .int (i3 x2)), (3, .int (i3 x3)), (4, .int (i3 0))] [] n h) ∧ ((srcI ps5 x3) = (-1) → (R3 x3) ∧ ((ps5.any (fun p => outB p x3)) = true → Ok X 0 0 120 [(0, .ref a0), (1, .int (i3 0)), (2, .int (i3 x2)), (3, .int (i3 x3)), (4, .int (i3 0))] [] n h) ∧ ((ps5.any (fun p => outB p x3)) = false → Ok X 0 0 120 [(0, .ref a0), (1, .int (i3 1)), (2, .int (i3 x2)), (3, .int (i3 x3)), (4, .int (i3 0))] [] n h)))) :
    Ok X 0 0 89 [(0, .ref a0), (1, .int (i3 x1)), (2, .int (i3 x2)), (3, .int (i3 x3))] [] n h := by
  refine ok_iload_n (pc := 89) hc dX7_fits_89 rfl 3 rfl ?_
  refine ok_iconst (pc := 90) hc (v := i3 (-1)) dX7_fits_90 (by decide) ?_
  obtain ⟨r1, P⟩ := P
  refine zk_icmp_eq (pc := 91) (tgt := 111) hc dX7_fits_91 (by decide) r1 ⟨by decide, by decide⟩ (fun c => ?_) (fun c => ?_)
  · have P := P.1 c
    refine ok_iconst (pc := 111) hc (v := i3 1) dX7_fits_111 (by decide) ?_
    refine ok_goto (pc := 112) (tgt := 116) hc dX7_fits_112 (by decide) ?_
    refine ok_istore_n (pc := 116) hc (lv' := [(1, .int (i3 1)), (0, .ref a0), (2, .int (i3 x2)), (3, .int (i3 x3))]) dX7_fits_116 rfl (by decide) rfl ?_
    refine ok_iconst (pc := 117) hc (v := i3 0) dX7_fits_117 (by decide) ?_
    refine ok_istore (pc := 118) hc (lv' := [(4, .int (i3 0)), (1, .int (i3 1)), (0, .ref a0), (2, .int (i3 x2)), (3, .int (i3 x3))]) dX7_fits_118 (by decide) rfl ?_
    refine ok_lv [2, 1, 3, 4, 0] rfl ?_
    exact P
  · have P := P.2 c
    refine ok_aload_n (pc := 94) hc dX7_fits_94 rfl 0 rfl ?_
    refine ok_iload_n (pc := 95) hc dX7_fits_95 rfl 3 rfl ?_
    obtain ⟨r0, P⟩ := P
    refine ok_callV (pc := 96) (a := a0) (cb := 0) (sb := 0) (st := []) hc [.int (i3 x3)] cv_X7_75 sp_X7_sourceAt (by decide) dX7_fits_96 rfl e2.1 e2.2 rfl rfl rfl (Nat.le_of_ble_eq_true rfl) (⟨_, _, _, _, rfl, ⟨_, _, ⟨e2.1, e2.2⟩, z2, v2_1, ⟨e4.1, e4.2⟩⟩, hP5, r0, rfl, ?_⟩)
    show Ok X 0 0 (96 + 3) [(0, .ref a0), (1, .int (i3 x1)), (2, .int (i3 x2)), (3, .int (i3 x3))] [.int (i3 (srcI ps5 x3))] n h
    refine ok_iconst (pc := 99) hc (v := i3 (-1)) dX7_fits_99 (by decide) ?_
    obtain ⟨r6, P⟩ := P
    refine zk_icmp_ne (pc := 100) (tgt := 115) hc dX7_fits_100 (by decide) r6 ⟨by decide, by decide⟩ (fun c => ?_) (fun c => ?_)
    · have P := P.1 c
      refine ok_iconst (pc := 115) hc (v := i3 0) dX7_fits_115 (by decide) ?_
      refine ok_istore_n (pc := 116) hc (lv' := [(1, .int (i3 0)), (0, .ref a0), (2, .int (i3 x2)), (3, .int (i3 x3))]) dX7_fits_116 rfl (by decide) rfl ?_
      refine ok_iconst (pc := 117) hc (v := i3 0) dX7_fits_117 (by decide) ?_
      refine ok_istore (pc := 118) hc (lv' := [(4, .int (i3 0)), (1, .int (i3 0)), (0, .ref a0), (2, .int (i3 x2)), (3, .int (i3 x3))]) dX7_fits_118 (by decide) rfl ?_
      refine ok_lv [2, 1, 3, 4, 0] rfl ?_
      exact P
    · have P := P.2 c
      refine ok_aload_n (pc := 103) hc dX7_fits_103 rfl 0 rfl ?_
      refine ok_iload_n (pc := 104) hc dX7_fits_104 rfl 3 rfl ?_
      obtain ⟨r0, P⟩ := P
      refine ok_callV (pc := 105) (a := a0) (cb := 0) (sb := 0) (st := []) hc [.int (i3 x3)] cv_X7_103 sp_X7_isOutput (by decide) dX7_fits_105 rfl e2.1 e2.2 rfl rfl rfl (Nat.le_of_ble_eq_true rfl) (⟨_, _, _, _, rfl, ⟨_, _, ⟨e2.1, e2.2⟩, z2, v2_1, ⟨e4.1, e4.2⟩⟩, hP5, r0, rfl, ?_⟩)
      show Ok X 0 0 (105 + 3) [(0, .ref a0), (1, .int (i3 x1)), (2, .int (i3 x2)), (3, .int (i3 x3))] [.int (i3 (bz (ps5.any (fun p => outB p x3))))] n h
      refine zk_if_ne (pc := 108) (tgt := 115) hc dX7_fits_108 (by decide) R3_bz (fun c => ?_) (fun c => ?_)
      · have P := P.1 (bz_1.mp c)
        refine ok_iconst (pc := 115) hc (v := i3 0) dX7_fits_115 (by decide) ?_
        refine ok_istore_n (pc := 116) hc (lv' := [(1, .int (i3 0)), (0, .ref a0), (2, .int (i3 x2)), (3, .int (i3 x3))]) dX7_fits_116 rfl (by decide) rfl ?_
        refine ok_iconst (pc := 117) hc (v := i3 0) dX7_fits_117 (by decide) ?_
        refine ok_istore (pc := 118) hc (lv' := [(4, .int (i3 0)), (1, .int (i3 0)), (0, .ref a0), (2, .int (i3 x2)), (3, .int (i3 x3))]) dX7_fits_118 (by decide) rfl ?_
        refine ok_lv [2, 1, 3, 4, 0] rfl ?_
        exact P
      · have P := P.2 (bz_0.mp c)
        refine ok_iconst (pc := 111) hc (v := i3 1) dX7_fits_111 (by decide) ?_
        refine ok_goto (pc := 112) (tgt := 116) hc dX7_fits_112 (by decide) ?_
        refine ok_istore_n (pc := 116) hc (lv' := [(1, .int (i3 1)), (0, .ref a0), (2, .int (i3 x2)), (3, .int (i3 x3))]) dX7_fits_116 rfl (by decide) rfl ?_
        refine ok_iconst (pc := 117) hc (v := i3 0) dX7_fits_117 (by decide) ?_
        refine ok_istore (pc := 118) hc (lv' := [(4, .int (i3 0)), (1, .int (i3 1)), (0, .ref a0), (2, .int (i3 x2)), (3, .int (i3 x3))]) dX7_fits_118 (by decide) rfl ?_
        refine ok_lv [2, 1, 3, 4, 0] rfl ?_
        exact P

set_option maxHeartbeats 4000000 in
set_option maxRecDepth 100000 in
theorem sX7_fits_120 {X : Xt} {n : Nat} {h : HP} {a0 : Nat} {x1 : Int} {x2 : Int} {x3 : Int} {x4 : Int} (hc : Cx X cX7_fits RX7 5 3 67) {K : KT} (hr : CxR X (some .boolean) K) 
    (P : (R3 x4) ∧ (4 ≤ x4 → Ok X 0 0 160 [(0, .ref a0), (1, .int (i3 x1)), (2, .int (i3 x2)), (3, .int (i3 x3)), (4, .int (i3 x4))] [] n h) ∧ (¬ 4 ≤ x4 → Ok X 0 0 126 [(0, .ref a0), (1, .int (i3 x1)), (2, .int (i3 x2)), (3, .int (i3 x3)), (4, .int (i3 x4))] [] n h)) :
    Ok X 0 0 120 [(0, .ref a0), (1, .int (i3 x1)), (2, .int (i3 x2)), (3, .int (i3 x3)), (4, .int (i3 x4))] [] n h := by
  refine ok_iload (pc := 120) hc dX7_fits_120 4 rfl ?_
  refine ok_iconst (pc := 122) hc (v := i3 4) dX7_fits_122 (by decide) ?_
  obtain ⟨r1, P⟩ := P
  refine zk_icmp_ge (pc := 123) (tgt := 160) hc dX7_fits_123 (by decide) r1 ⟨by decide, by decide⟩ (fun c => ?_) (fun c => ?_)
  · have P := P.1 c
    exact P
  · have P := P.2 c
    exact P

set_option maxHeartbeats 4000000 in
set_option maxRecDepth 100000 in
theorem sX7_fits_126 {X : Xt} {n : Nat} {h : HP} {a0 : Nat} {x1 : Int} {x2 : Int} {x3 : Int} {x4 : Int} {fs1 : List Value} {q2 : Nat} {len3 : Nat} {f3 : Nat → Int} {q4 : Nat} {len5 : Nat} {f5 : Nat → Int} (hc : Cx X cX7_fits RX7 5 3 67) {K : KT} (hr : CxR X (some .boolean) K) (e1 : At h n a0 (.inl (7, fs1))) (z1 : fs1.length = 24) (v1_1 : fs1[1]? = some (.ref q2)) (e3 : At h n q2 (ai len3 f3)) (v1_18 : fs1[18]? = some (.ref q4)) (e5 : At h n q4 (ai len5 f5))
    (P : (Ix 48 len3) ∧ (Ix ((4 * x2) + x4) len5) ∧ (Ix ((4 * (f3 (48 : Int).toNat)) + x4) len3) ∧ Ok X 0 0 120 [(0, .ref a0), (1, .int (i3 x1)), (2, .int (i3 x2)), (3, .int (i3 x3)), (4, .int (i3 (x4 + 1)))] [] n (va_up h q2 (ai len3 (va_up f3 (((4 * (f3 (48 : Int).toNat)) + x4) : Int).toNat (f5 (((4 * x2) + x4) : Int).toNat))))) :
    Ok X 0 0 126 [(0, .ref a0), (1, .int (i3 x1)), (2, .int (i3 x2)), (3, .int (i3 x3)), (4, .int (i3 x4))] [] n h := by
  refine ok_aload_n (pc := 126) hc dX7_fits_126 rfl 0 rfl ?_
  refine ok_get (pc := 127) hc fl_X7_7 dX7_fits_127 e1.1 e1.2 v1_1 ?_
  refine ok_iconst (pc := 130) hc (v := i3 4) dX7_fits_130 (by decide) ?_
  refine ok_aload_n (pc := 131) hc dX7_fits_131 rfl 0 rfl ?_
  refine ok_get (pc := 132) hc fl_X7_7 dX7_fits_132 e1.1 e1.2 v1_1 ?_
  refine ok_bipush (pc := 135) hc (v := i3 48) dX7_fits_135 (by decide) ?_
  obtain ⟨r, P⟩ := P
  refine zk_iald (pc := 137) hc dX7_fits_137 e3.1 e3.2 r ?_
  refine zk_imul (pc := 138) hc dX7_fits_138 ?_
  refine ok_iload (pc := 139) hc dX7_fits_139 4 rfl ?_
  refine zk_iadd (pc := 141) hc dX7_fits_141 ?_
  refine ok_aload_n (pc := 142) hc dX7_fits_142 rfl 0 rfl ?_
  refine ok_get (pc := 143) hc fl_X7_38 dX7_fits_143 e1.1 e1.2 v1_18 ?_
  refine ok_iconst (pc := 146) hc (v := i3 4) dX7_fits_146 (by decide) ?_
  refine ok_iload_n (pc := 147) hc dX7_fits_147 rfl 2 rfl ?_
  refine zk_imul (pc := 148) hc dX7_fits_148 ?_
  refine ok_iload (pc := 149) hc dX7_fits_149 4 rfl ?_
  refine zk_iadd (pc := 151) hc dX7_fits_151 ?_
  obtain ⟨r, P⟩ := P
  refine zk_iald (pc := 152) hc dX7_fits_152 e5.1 e5.2 r ?_
  obtain ⟨r, P⟩ := P
  refine zk_iast (pc := 153) hc dX7_fits_153 e3.1 e3.2 r ?_
  refine zk_iinc (pc := 154) hc (q := 4) (x := x4) (lv' := [(4, .int (i3 (x4 + 1))), (0, .ref a0), (1, .int (i3 x1)), (2, .int (i3 x2)), (3, .int (i3 x3))]) dX7_fits_154 rfl (by decide) rfl ?_
  refine ok_goto (pc := 157) (tgt := 120) hc dX7_fits_157 (by decide) ?_
  refine ok_lv [1, 2, 3, 4, 0] rfl ?_
  exact P

set_option maxHeartbeats 4000000 in
set_option maxRecDepth 100000 in
theorem sX7_fits_160 {X : Xt} {n : Nat} {h : HP} {a0 : Nat} {x1 : Int} {x2 : Int} {x3 : Int} {x4 : Int} {fs1 : List Value} {q2 : Nat} {len3 : Nat} {f3 : Nat → Int} (hc : Cx X cX7_fits RX7 5 3 67) {K : KT} (hr : CxR X (some .boolean) K) (e1 : At h n a0 (.inl (7, fs1))) (z1 : fs1.length = 24) (v1_1 : fs1[1]? = some (.ref q2)) (e3 : At h n q2 (ai len3 f3))
    (P : (Ix 48 len3) ∧ (Ix 48 len3) ∧ Ok X 0 0 25 [(0, .ref a0), (1, .int (i3 x1)), (2, .int (i3 (x2 + 1)))] [] n (va_up h q2 (ai len3 (va_up f3 (48 : Int).toNat ((f3 (48 : Int).toNat) + 1))))) :
    Ok X 0 0 160 [(0, .ref a0), (1, .int (i3 x1)), (2, .int (i3 x2)), (3, .int (i3 x3)), (4, .int (i3 x4))] [] n h := by
  refine ok_aload_n (pc := 160) hc dX7_fits_160 rfl 0 rfl ?_
  refine ok_get (pc := 161) hc fl_X7_7 dX7_fits_161 e1.1 e1.2 v1_1 ?_
  refine ok_bipush (pc := 164) hc (v := i3 48) dX7_fits_164 (by decide) ?_
  refine ok_dup2_11 (pc := 166) hc dX7_fits_166 rfl rfl ?_
  obtain ⟨r, P⟩ := P
  refine zk_iald (pc := 167) hc dX7_fits_167 e3.1 e3.2 r ?_
  refine ok_iconst (pc := 168) hc (v := i3 1) dX7_fits_168 (by decide) ?_
  refine zk_iadd (pc := 169) hc dX7_fits_169 ?_
  obtain ⟨r, P⟩ := P
  refine zk_iast (pc := 170) hc dX7_fits_170 e3.1 e3.2 r ?_
  refine zk_iinc (pc := 171) hc (q := 2) (x := x2) (lv' := [(2, .int (i3 (x2 + 1))), (0, .ref a0), (1, .int (i3 x1)), (3, .int (i3 x3)), (4, .int (i3 x4))]) dX7_fits_171 rfl (by decide) rfl ?_
  refine ok_goto (pc := 174) (tgt := 25) hc dX7_fits_174 (by decide) ?_
  refine ok_lv [1, 2, 0] rfl ?_
  exact P

set_option maxHeartbeats 4000000 in
set_option maxRecDepth 100000 in
theorem sX7_fits_177 {X : Xt} {n : Nat} {h : HP} {a0 : Nat} {x1 : Int} {x2 : Int} {fs2 : List Value} {q3 : Nat} {f4 : Nat → Int} {ps5 : List Part} (hc : Cx X cX7_fits RX7 5 3 67) {K : KT} (hr : CxR X (some .boolean) K) (e2 : At h n a0 (.inl (7, fs2))) (z2 : fs2.length = 24) (v2_1 : fs2[1]? = some (.ref q3)) (e4 : At h n q3 (ai 52 f4)) (hP5 : ZPs f4 ps5)
    (P : (R3 x1) ∧ (x1 = 0 → K (.inl (some (.int (i3 0)))) n h) ∧ (¬ x1 = 0 → (R3 (nA ps5 : Int)) ∧ (3 < (nA ps5 : Int) → K (.inl (some (.int (i3 0)))) n h) ∧ (¬ 3 < (nA ps5 : Int) → K (.inl (some (.int (i3 1)))) n h))) :
    Ok X 0 0 177 [(0, .ref a0), (1, .int (i3 x1)), (2, .int (i3 x2))] [] n h := by
  refine ok_iload_n (pc := 177) hc dX7_fits_177 rfl 1 rfl ?_
  obtain ⟨r1, P⟩ := P
  refine zk_if_eq (pc := 178) (tgt := 193) hc dX7_fits_178 (by decide) r1 (fun c => ?_) (fun c => ?_)
  · have P := P.1 c
    refine ok_iconst (pc := 193) hc (v := i3 0) dX7_fits_193 (by decide) ?_
    exact ok_zret (st := []) (pc := 194) hc (nar_z (by decide)) hr dX7_fits_194 P
  · have P := P.2 c
    refine ok_aload_n (pc := 181) hc dX7_fits_181 rfl 0 rfl ?_
    refine ok_callV (pc := 182) (a := a0) (cb := 0) (sb := 0) (st := []) hc [] cv_X7_64 sp_X7_amplifiers (by decide) dX7_fits_182 rfl e2.1 e2.2 rfl rfl rfl (Nat.le_of_ble_eq_true rfl) (⟨_, _, _, rfl, ⟨_, _, ⟨e2.1, e2.2⟩, z2, v2_1, ⟨e4.1, e4.2⟩⟩, hP5, rfl, ?_⟩)
    show Ok X 0 0 (182 + 3) [(0, .ref a0), (1, .int (i3 x1)), (2, .int (i3 x2))] [.int (i3 (nA ps5 : Int))] n h
    refine ok_iconst (pc := 185) hc (v := i3 3) dX7_fits_185 (by decide) ?_
    obtain ⟨r6, P⟩ := P
    refine zk_icmp_gt (pc := 186) (tgt := 193) hc dX7_fits_186 (by decide) r6 ⟨by decide, by decide⟩ (fun c => ?_) (fun c => ?_)
    · have P := P.1 c
      refine ok_iconst (pc := 193) hc (v := i3 0) dX7_fits_193 (by decide) ?_
      exact ok_zret (st := []) (pc := 194) hc (nar_z (by decide)) hr dX7_fits_194 P
    · have P := P.2 c
      refine ok_iconst (pc := 189) hc (v := i3 1) dX7_fits_189 (by decide) ?_
      refine ok_goto (pc := 190) (tgt := 194) hc dX7_fits_190 (by decide) ?_
      exact ok_zret (st := []) (pc := 194) hc (nar_z (by decide)) hr dX7_fits_194 P

def spec_X7_fits (args : List Value) (n : Nat) (h : HP) (K : KT) : Prop := ∃ (I : Nat → Int) (F : Nat → Nat → Int) (qs ps : List Part), args = [.ref 128] ∧ MAt h n I F ∧ ZPs (F 1) qs ∧ RMp (F 10) ps ∧ I 17 = ps.length ∧ ps.length ≤ 16 ∧ (∀ p ∈ ps, PW p) ∧ ∀ (h' : HP) (Z' : Nat → Int), MAt h' n I (va_up F 1 Z') → (roomB qs ps = true → ZPs Z' (qs ++ ps)) → Z' 49 = F 1 49 → Z' 50 = F 1 50 → Z' 51 = F 1 51 → Fr h h' 128 138 → K (.inl (some (.int (i3 (bz (roomB qs ps)))))) n h'
theorem sp_X7_fits : Sp yX7_fits cX7_fits 5 (some .boolean) 3 67 0 0 spec_X7_fits := by
  refine sp_intro (by decide) (by rintro args n h K ⟨I, F, qs, ps, rfl, -⟩; exact Nat.le_of_ble_eq_true rfl) ?_
  rintro X args n h K hc hr ⟨I, F, qs, ps, rfl, hM0, hP0, hD, h17, hl16, hpw, kk⟩
  have hql := hP0.2.1
  have e48 : F 1 (48 : Int).toNat = qs.length := hP0.1
  have hM0 := hM0.u1 (j := 1) (by omega)
  refine sX7_fits_0 hc hr hM0.o rfl rfl hM0.z rfl ⟨⟨by decide, by decide, by decide⟩, ?_⟩
  have e480 : va_up F 1 (F 1) 1 (48 : Int).toNat = qs.length := e48
  rw [e480, h17]
  refine ⟨R3_s (by omega), fun big => ?_, fun room => ?_⟩
  · have hno : roomB qs ps = false := by
      unfold roomB
      rw [decide_eq_false (by omega), Bool.false_and]
    have k := kk h (F 1) hM0 (fun z => by rw [hno] at z; cases z) rfl rfl rfl Fr.rf
    rw [hno] at k
    have h177 := sX7_fits_177 (x1 := 0) (x2 := 0) hc hr hM0.o rfl rfl hM0.z hP0 ⟨R3_0, fun _ => k, fun z => absurd rfl z⟩
    exact sX7_fits_25 hc hr hM0.o rfl rfl ⟨R3_0, by rw [h17]; exact R3_s (by omega), fun _ => h177, fun _ => ⟨R3_0, fun _ => h177, fun z => absurd rfl z⟩⟩
  · have hroom : qs.length + ps.length ≤ 12 := by omega
    have hrb : roomB qs ps = (decide (nA qs + nA ps ≤ 3) && freeW (drivenM qs) ps) := by
      unfold roomB
      rw [decide_eq_true hroom, Bool.true_and]
    have L : ∀ (d k : Nat) (hh : HP) (Z : Nat → Int), k + d = ps.length → freeW (drivenM qs) ps = freeW (drivenM (qs ++ ps.take k)) (ps.drop k) → MAt hh n I (va_up F 1 Z) → ZPs Z (qs ++ ps.take k) → Z 49 = F 1 49 → Z 50 = F 1 50 → Z 51 = F 1 51 → Fr h hh 128 138 → Ok X 0 0 25 [(0, .ref 128), (1, .int (i3 1)), (2, .int (i3 k))] [] n hh := by
      intro d
      induction d with
      | zero =>
        intro k hh Z hk hfw hM hP z49 z50 z51 hf
        have : k = ps.length := by omega
        subst this
        rw [List.take_length] at hP hfw
        have hfw2 : freeW (drivenM qs) ps = true := by
          rw [hfw, List.drop_of_length_le (Nat.le_refl _)]
          rfl
        rw [hfw2, Bool.and_true] at hrb
        have hna : nA (qs ++ ps) = nA qs + nA ps := nA_app qs ps
        have nl := nA_le (qs ++ ps)
        have h12 := hP.2.1
        refine sX7_fits_25 hc hr hM.o rfl rfl ⟨R3_s (by omega), by rw [h17]; exact R3_s (by omega), fun _ => ?_, fun z => absurd (by omega) z⟩
        refine sX7_fits_177 hc hr hM.o rfl rfl hM.z hP ⟨⟨by decide, by decide⟩, fun z => absurd z (by decide), fun _ => ⟨R3_s (by omega), fun z => ?_, fun z => ?_⟩⟩
        · have hno : roomB qs ps = false := by rw [hrb]; exact decide_eq_false (by omega)
          have k := kk hh Z hM (fun z => by rw [hno] at z; cases z) z49 z50 z51 hf
          rw [hno] at k
          exact k
        · have hyes : roomB qs ps = true := by rw [hrb]; exact decide_eq_true (by omega)
          have k := kk hh Z hM (fun _ => hP) z49 z50 z51 hf
          rw [hyes] at k
          exact k
      | succ d ih =>
        intro k hh Z hk hfw hM hP z49 z50 z51 hf
        have hkl : k < ps.length := by omega
        have hpk : ps[k]? = some ps[k] := List.getElem?_eq_getElem hkl
        have hDk := hD k hkl
        generalize ps[k] = p at hpk
        have hpD := Option.some.inj (hDk.symm.trans hpk)
        have hpp := hpw p (List.mem_of_getElem? hpk)
        have hb := hpp.b
        have hll : (qs ++ ps.take k).length = qs.length + k := by rw [List.length_append, List.length_take, Nat.min_eq_left (by omega)]
        rw [drop_s hpk] at hfw
        have hpwl : ∀ x ∈ qs ++ ps.take k, PW x := hP.2.2.2
        have hdr : drivenM (qs ++ ps.take (k + 1)) = dm1 (drivenM (qs ++ ps.take k)) p := by
          unfold drivenM
          rw [take_s hpk, ← List.append_assoc, List.foldl_append]
          rfl
        have e48k : Z 48 = ((qs.length + k : Nat) : Int) := by
          have := hP.1
          rw [hll] at this
          exact this
        have d0 : F 10 (4 * (k : Int)).toNat = p.1 := by rw [show (4 * (k : Int)).toNat = 4 * k by omega, ← hpD]
        have d1 : F 10 (4 * (k : Int) + 1).toNat = p.2.1 := by rw [show (4 * (k : Int) + 1).toNat = 4 * k + 1 by omega, ← hpD]
        have d3 : F 10 (4 * (k : Int) + 3).toNat = p.2.2.2 := by rw [show (4 * (k : Int) + 3).toNat = 4 * k + 3 by omega, ← hpD]
        -- behind the look at the node: the part is put
        have h120 : ∀ (f x3 : Int), (f = 0 ∧ roomB qs ps = false) ∨ (f = 1 ∧ freeW (drivenM qs) ps = freeW (drivenM (qs ++ ps.take (k + 1))) (ps.drop (k + 1))) → Ok X 0 0 120 [(0, .ref 128), (1, .int (i3 f)), (2, .int (i3 k)), (3, .int (i3 x3)), (4, .int (i3 0))] [] n hh := by
          intro f x3 hfx
          have LE : ∀ (j e : Nat) (h2 : HP) (Y : Nat → Int), e + j = 4 → MAt h2 n I (va_up F 1 Y) → (∀ x, Y x = if 4 * (qs.length + k) ≤ x ∧ x < 4 * (qs.length + k) + e then F 10 (4 * k + (x - 4 * (qs.length + k))) else Z x) → Fr h h2 128 138 → Ok X 0 0 120 [(0, .ref 128), (1, .int (i3 f)), (2, .int (i3 k)), (3, .int (i3 x3)), (4, .int (i3 e))] [] n h2 := by
            intro j
            induction j with
            | zero =>
              intro e h2 Y he hM2 hY hf2
              have : e = 4 := by omega
              subst this
              have y48 : Y 48 = ((qs.length + k : Nat) : Int) := by rw [hY, if_neg (by omega)]; exact e48k
              have ez : (va_up F 1 Y) 1 (48 : Int).toNat = ((qs.length + k : Nat) : Int) := y48
              have hM3 := hM2.uu (j := 1) (by omega) (va_up Y 48 (((qs.length + k : Nat) : Int) + 1))
              have w49 : va_up Y 48 (((qs.length + k : Nat) : Int) + 1) 49 = F 1 49 := by rw [up_ne (by decide), hY, if_neg (by omega)]; exact z49
              have w50 : va_up Y 48 (((qs.length + k : Nat) : Int) + 1) 50 = F 1 50 := by rw [up_ne (by decide), hY, if_neg (by omega)]; exact z50
              have w51 : va_up Y 48 (((qs.length + k : Nat) : Int) + 1) 51 = F 1 51 := by rw [up_ne (by decide), hY, if_neg (by omega)]; exact z51
              have hP3 : ZPs (va_up Y 48 (((qs.length + k : Nat) : Int) + 1)) (qs ++ ps.take (k + 1)) := by
                rw [take_s hpk, ← List.append_assoc]
                refine hP.app hpp (by omega) ?_ ?_ ?_ ?_ ?_ (fun x hx => ?_)
                · rw [hll, up_ne (by omega), hY, if_pos (by omega), Nat.sub_self, Nat.add_zero, ← hpD]
                · rw [hll, up_ne (by omega), hY, if_pos (by omega), show 4 * (qs.length + k) + 1 - 4 * (qs.length + k) = 1 by omega, ← hpD]
                · rw [hll, up_ne (by omega), hY, if_pos (by omega), show 4 * (qs.length + k) + 2 - 4 * (qs.length + k) = 2 by omega, ← hpD]
                · rw [hll, up_ne (by omega), hY, if_pos (by omega), show 4 * (qs.length + k) + 3 - 4 * (qs.length + k) = 3 by omega, ← hpD]
                · rw [up_self, e48k]
                · rw [hll] at hx
                  rw [up_ne (by omega), hY, if_neg (by omega)]
              refine sX7_fits_120 hc hr ⟨R3_s (by omega), fun _ => sX7_fits_160 hc hr hM2.o rfl rfl hM2.z ⟨⟨by decide, by decide, by decide⟩, ⟨by decide, by decide, by decide⟩, ?_⟩, fun z => absurd (by omega) z⟩
              rw [ez]
              rcases hfx with ⟨f0, hno⟩ | ⟨f1, hfw2⟩
              · subst f0
                have kf := kk _ _ hM3 (fun z => by rw [hno] at z; cases z) w49 w50 w51 (hf2.up (by omega))
                rw [hno] at kf
                have h177 := sX7_fits_177 (x1 := 0) (x2 := (k : Int) + 1) hc hr hM3.o rfl rfl hM3.z hP3 ⟨R3_0, fun _ => kf, fun z => absurd rfl z⟩
                exact sX7_fits_25 hc hr hM3.o rfl rfl ⟨R3_s (by omega), by rw [h17]; exact R3_s (by omega), fun _ => h177, fun _ => ⟨R3_0, fun _ => h177, fun z => absurd rfl z⟩⟩
              · subst f1
                exact ih (k + 1) _ _ (by omega) hfw2 hM3 hP3 w49 w50 w51 (hf2.up (by omega))
            | succ j ihe =>
              intro e h2 Y he hM2 hY hf2
              have y48 : Y 48 = ((qs.length + k : Nat) : Int) := by rw [hY, if_neg (by omega)]; exact e48k
              have ez : (va_up F 1 Y) 1 (48 : Int).toNat = ((qs.length + k : Nat) : Int) := y48
              refine sX7_fits_120 hc hr ⟨R3_s (by omega), fun z => absurd z (by omega), fun _ => ?_⟩
              refine sX7_fits_126 hc hr hM2.o rfl rfl hM2.z rfl hM2.d ⟨⟨by decide, by decide, by decide⟩, ⟨by omega, by omega, by omega⟩, ?_⟩
              rw [ez]
              have i1 : (4 * ((qs.length + k : Nat) : Int) + (e : Int)).toNat = 4 * (qs.length + k) + e := by omega
              have i2 : (4 * (k : Int) + (e : Int)).toNat = 4 * k + e := by omega
              rw [i1, i2]
              refine ⟨⟨by omega, by omega, by omega⟩, ?_⟩
              refine ihe (e + 1) _ (va_up Y (4 * (qs.length + k) + e) (F 10 (4 * k + e))) (by omega) (hM2.uu (j := 1) (by omega) _) (fun x => ?_) (hf2.up (by omega))
              by_cases c : x = 4 * (qs.length + k) + e
              · subst c
                rw [up_self, if_pos (by omega), Nat.add_sub_cancel_left]
              · rw [up_ne c, hY]
                by_cases c2 : 4 * (qs.length + k) ≤ x ∧ x < 4 * (qs.length + k) + e
                · rw [if_pos c2, if_pos (by omega)]
                · rw [if_neg c2, if_neg (by omega)]
          exact LE 4 0 hh Z (by omega) hM (fun x => by rw [if_neg (by omega)]) hf
        -- the node
        have h89 : ∀ x3 : Int, x3 = drv p → Ok X 0 0 89 [(0, .ref 128), (1, .int (i3 1)), (2, .int (i3 k)), (3, .int (i3 x3))] [] n hh := by
          intro x3 hx3
          have hrange : p.1 ≠ 0 → 0 ≤ drv p ∧ drv p ≤ 6 := fun z => hpp.drv z
          have h0 : p.1 = 0 → drv p = -1 := fun z => by
            unfold drv
            rw [if_neg (by omega), if_neg (by omega)]
          have hx6 : -1 ≤ x3 ∧ x3 ≤ 6 := by
            by_cases z : p.1 = 0
            · have := h0 z
              omega
            · have := hrange z
              omega
          have hss := srcI_b (qs ++ ps.take k) x3
          have hl12 := hP.2.1
          refine sX7_fits_89 hc hr hM.o rfl rfl hM.z hP ⟨R3_s (by omega), fun z => h120 1 _ (Or.inr ⟨rfl, ?_⟩), fun z => ⟨R3_s (by omega), R3_s (by omega), fun w => h120 0 _ (Or.inl ⟨rfl, ?_⟩), fun w => ⟨R3_s (by omega), fun v => h120 0 _ (Or.inl ⟨rfl, ?_⟩), fun v => h120 1 _ (Or.inr ⟨rfl, ?_⟩)⟩⟩⟩
          · have p0 : p.1 = 0 := by
              by_cases y : p.1 = 0
              · exact y
              · have := hrange y
                omega
            rw [hfw, hdr, freeW_c]
            unfold dm1
            rw [if_pos p0, if_pos p0]
          all_goals
            have p0 : ¬ p.1 = 0 := fun y => by
              have := h0 y
              omega
            have hr6 := hrange p0
            obtain ⟨nd, hnd⟩ : ∃ nd : Nat, x3 = nd := ⟨x3.toNat, by omega⟩
            have hdn := dv_no hpwl (k := nd) (by omega)
          · have hb1 : ¬ bcon (drivenM (qs ++ ps.take k)) (drv p) = 0 := fun y => w (by rw [hnd]; exact (hdn.mp (by rw [← hnd, hx3]; exact y)).1)
            rw [hrb, hfw, freeW_c, if_neg p0, if_neg hb1, Bool.and_false]
          · have hb1 : ¬ bcon (drivenM (qs ++ ps.take k)) (drv p) = 0 := fun y => by
              have := (hdn.mp (by rw [← hnd, hx3]; exact y)).2
              rw [← hnd, v] at this
              cases this
            rw [hrb, hfw, freeW_c, if_neg p0, if_neg hb1, Bool.and_false]
          · have hb1 : bcon (drivenM (qs ++ ps.take k)) (drv p) = 0 := by
              rw [← hx3, hnd]
              exact hdn.mpr ⟨by rw [← hnd]; exact w, by rw [← hnd]; exact v⟩
            rw [hfw, hdr, freeW_c]
            unfold dm1
            rw [if_neg p0, if_pos hb1, if_neg p0]
        refine sX7_fits_25 hc hr hM.o rfl rfl ⟨R3_s (by omega), by rw [h17]; exact R3_s (by omega), fun z => absurd z (by omega), fun _ => ⟨⟨by decide, by decide⟩, fun z => absurd z (by decide), fun _ => ?_⟩⟩
        refine sX7_fits_37 hc hr hM.o rfl rfl hM.d ⟨⟨by omega, by omega, by omega⟩, ?_⟩
        show R3 (F 10 _) ∧ (¬ F 10 _ = 1 → Ix _ _ ∧ R3 (F 10 _) ∧ (¬ F 10 _ = 2 → _) ∧ (F 10 _ = 2 → Ix _ _ ∧ Ok X 0 0 89 [_, _, _, (3, .int (i3 (F 10 _)))] [] n hh)) ∧ (F 10 _ = 1 → Ix _ _ ∧ Ok X 0 0 89 [_, _, _, (3, .int (i3 (F 10 _)))] [] n hh)
        rw [d0, d1, d3]
        refine ⟨R3_s (by omega), fun z => ⟨⟨by omega, by omega, by omega⟩, R3_s (by omega), fun w => h89 _ ?_, fun w => ⟨⟨by omega, by omega, by omega⟩, h89 _ (drv_amp w).symm⟩⟩, fun z => ⟨⟨by omega, by omega, by omega⟩, h89 _ (drv_src z).symm⟩⟩
        unfold drv
        rw [if_neg z, if_neg w]
    refine L ps.length 0 h (F 1) (by omega) ?_ hM0 ?_ rfl rfl rfl Fr.rf
    · rw [List.take_zero, List.append_nil, List.drop_zero]
    · rw [List.take_zero, List.append_nil]
      exact hP0
