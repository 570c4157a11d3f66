/-! part a30: the law's put and type; texts of parts -/
set_option maxHeartbeats 4000000 in
set_option maxRecDepth 100000 in
theorem sL_put_0 {X : Xt} {n : Nat} {h : HP} {x0 : Int} {x1 : Int} {x2 : Int} {x3 : Int} {a4 : Nat} {a5 : Nat} {f1 : Nat → Int} {f2 : Nat → Int} (hc : Cx X cL_put RL 6 0 0) {K : KT} (hr : CxR X none K) (e1 : At h n a4 (ai 4 f1)) (e2 : At h n a5 (ai 48 f2)) (ne3 : a4 ≠ a5)
    (P : (Ix 0 4) ∧ (Ix (4 * (f1 (0 : Int).toNat)) 48) ∧ (Ix 0 4) ∧ (Ix ((4 * (f1 (0 : Int).toNat)) + 1) 48) ∧ (Ix 0 4) ∧ (Ix ((4 * (f1 (0 : Int).toNat)) + 2) 48) ∧ (Ix 0 4) ∧ (Ix ((4 * (f1 (0 : Int).toNat)) + 3) 48) ∧ (Ix 0 4) ∧ (Ix 0 4) ∧ K (.inl none) n (va_up (va_up (va_up (va_up (va_up h a5 (ai 48 (va_up f2 ((4 * (f1 (0 : Int).toNat)) : Int).toNat x0))) a5 (ai 48 (va_up (va_up f2 ((4 * (f1 (0 : Int).toNat)) : Int).toNat x0) (((4 * (f1 (0 : Int).toNat)) + 1) : Int).toNat x1))) a5 (ai 48 (va_up (va_up (va_up f2 ((4 * (f1 (0 : Int).toNat)) : Int).toNat x0) (((4 * (f1 (0 : Int).toNat)) + 1) : Int).toNat x1) (((4 * (f1 (0 : Int).toNat)) + 2) : Int).toNat x2))) a5 (ai 48 (va_up (va_up (va_up (va_up f2 ((4 * (f1 (0 : Int).toNat)) : Int).toNat x0) (((4 * (f1 (0 : Int).toNat)) + 1) : Int).toNat x1) (((4 * (f1 (0 : Int).toNat)) + 2) : Int).toNat x2) (((4 * (f1 (0 : Int).toNat)) + 3) : Int).toNat x3))) a4 (ai 4 (va_up f1 (0 : Int).toNat ((f1 (0 : Int).toNat) + 1))))) :
    Ok X 0 0 0 [(0, .int (i3 x0)), (1, .int (i3 x1)), (2, .int (i3 x2)), (3, .int (i3 x3)), (4, .ref a4), (5, .ref a5)] [] n h := by
  refine ok_aload (pc := 0) hc dL_put_0 5 rfl ?_
  refine ok_iconst (pc := 2) hc (v := i3 4) dL_put_2 (by decide) ?_
  refine ok_aload (pc := 3) hc dL_put_3 4 rfl ?_
  refine ok_iconst (pc := 5) hc (v := i3 0) dL_put_5 (by decide) ?_
  obtain ⟨r, P⟩ := P
  refine zk_iald (pc := 6) hc dL_put_6 e1.1 e1.2 r ?_
  refine zk_imul (pc := 7) hc dL_put_7 ?_
  refine ok_iload_n (pc := 8) hc dL_put_8 rfl 0 rfl ?_
  obtain ⟨r, P⟩ := P
  refine zk_iast (pc := 9) hc dL_put_9 e2.1 e2.2 r ?_
  refine ok_aload (pc := 10) hc dL_put_10 5 rfl ?_
  refine ok_iconst (pc := 12) hc (v := i3 4) dL_put_12 (by decide) ?_
  refine ok_aload (pc := 13) hc dL_put_13 4 rfl ?_
  refine ok_iconst (pc := 15) hc (v := i3 0) dL_put_15 (by decide) ?_
  obtain ⟨r, P⟩ := P
  refine zk_iald (pc := 16) hc dL_put_16 e1.1 ((up_ne ne3).trans e1.2) r ?_
  refine zk_imul (pc := 17) hc dL_put_17 ?_
  refine ok_iconst (pc := 18) hc (v := i3 1) dL_put_18 (by decide) ?_
  refine zk_iadd (pc := 19) hc dL_put_19 ?_
  refine ok_iload_n (pc := 20) hc dL_put_20 rfl 1 rfl ?_
  obtain ⟨r, P⟩ := P
  refine zk_iast (pc := 21) hc dL_put_21 e2.1 up_self r ?_
  refine ok_aload (pc := 22) hc dL_put_22 5 rfl ?_
  refine ok_iconst (pc := 24) hc (v := i3 4) dL_put_24 (by decide) ?_
  refine ok_aload (pc := 25) hc dL_put_25 4 rfl ?_
  refine ok_iconst (pc := 27) hc (v := i3 0) dL_put_27 (by decide) ?_
  obtain ⟨r, P⟩ := P
  refine zk_iald (pc := 28) hc dL_put_28 e1.1 ((up_ne ne3).trans ((up_ne ne3).trans e1.2)) r ?_
  refine zk_imul (pc := 29) hc dL_put_29 ?_
  refine ok_iconst (pc := 30) hc (v := i3 2) dL_put_30 (by decide) ?_
  refine zk_iadd (pc := 31) hc dL_put_31 ?_
  refine ok_iload_n (pc := 32) hc dL_put_32 rfl 2 rfl ?_
  obtain ⟨r, P⟩ := P
  refine zk_iast (pc := 33) hc dL_put_33 e2.1 up_self r ?_
  refine ok_aload (pc := 34) hc dL_put_34 5 rfl ?_
  refine ok_iconst (pc := 36) hc (v := i3 4) dL_put_36 (by decide) ?_
  refine ok_aload (pc := 37) hc dL_put_37 4 rfl ?_
  refine ok_iconst (pc := 39) hc (v := i3 0) dL_put_39 (by decide) ?_
  obtain ⟨r, P⟩ := P
  refine zk_iald (pc := 40) hc dL_put_40 e1.1 ((up_ne ne3).trans ((up_ne ne3).trans ((up_ne ne3).trans e1.2))) r ?_
  refine zk_imul (pc := 41) hc dL_put_41 ?_
  refine ok_iconst (pc := 42) hc (v := i3 3) dL_put_42 (by decide) ?_
  refine zk_iadd (pc := 43) hc dL_put_43 ?_
  refine ok_iload_n (pc := 44) hc dL_put_44 rfl 3 rfl ?_
  obtain ⟨r, P⟩ := P
  refine zk_iast (pc := 45) hc dL_put_45 e2.1 up_self r ?_
  refine ok_aload (pc := 46) hc dL_put_46 4 rfl ?_
  refine ok_iconst (pc := 48) hc (v := i3 0) dL_put_48 (by decide) ?_
  refine ok_dup2_11 (pc := 49) hc dL_put_49 rfl rfl ?_
  obtain ⟨r, P⟩ := P
  refine zk_iald (pc := 50) hc dL_put_50 e1.1 ((up_ne ne3).trans ((up_ne ne3).trans ((up_ne ne3).trans ((up_ne ne3).trans e1.2)))) r ?_
  refine ok_iconst (pc := 51) hc (v := i3 1) dL_put_51 (by decide) ?_
  refine zk_iadd (pc := 52) hc dL_put_52 ?_
  obtain ⟨r, P⟩ := P
  refine zk_iast (pc := 53) hc dL_put_53 e1.1 ((up_ne ne3).trans ((up_ne ne3).trans ((up_ne ne3).trans ((up_ne ne3).trans e1.2)))) r ?_
  exact ok_vret (st := []) (pc := 54) hc hr dL_put_54 P

theorem PaF.app {F : Nat → Int} {ps : List Part} {k a b v : Int} {p : Part} (h : PaF F ps) (hl : ps.length < 12) (hp : PW p) (e0 : k = p.1) (e1 : a = p.2.1) (e2 : p.1 ≠ 1 → b = p.2.2.1) (rb : R3 b) (e3 : v = p.2.2.2) : PaF (va_up (va_up (va_up (va_up F (4 * ps.length) k) (4 * ps.length + 1) a) (4 * ps.length + 2) b) (4 * ps.length + 3) v) (ps ++ [p]) := by
  obtain ⟨h1, h2, h3, h4⟩ := h
  have hp' := hp
  unfold PW at hp'
  refine ⟨by rw [List.length_append]; show ps.length + 1 ≤ 12; omega, fun i r hr => ?_, fun r hr => ?_, fun j => ?_⟩
  · by_cases z : i < ps.length
    · rw [List.getElem?_append_left z] at hr
      obtain ⟨a1, a2, a3, a4⟩ := h2 i r hr
      rw [up_ne (by omega), up_ne (by omega), up_ne (by omega), up_ne (by omega), up_ne (by omega), up_ne (by omega), up_ne (by omega), up_ne (by omega), up_ne (by omega), up_ne (by omega), up_ne (by omega), up_ne (by omega), up_ne (by omega), up_ne (by omega), up_ne (by omega), up_ne (by omega)]
      exact ⟨a1, a2, a3, a4⟩
    · rw [List.getElem?_append_right (by omega)] at hr
      have hi : i = ps.length := by
        by_cases y : i - ps.length = 0
        · omega
        · rw [List.getElem?_eq_none (by show 1 ≤ i - ps.length; omega)] at hr
          cases hr
      subst hi
      rw [Nat.sub_self] at hr
      obtain rfl : p = r := Option.some.inj hr
      refine ⟨?_, ?_, fun z => ?_, ?_⟩
      · rw [up_ne (by omega), up_ne (by omega), up_ne (by omega), up_self, e0]
      · rw [up_ne (by omega), up_ne (by omega), up_self, e1]
      · rw [up_ne (by omega), up_self, e2 z]
      · rw [up_self, e3]
  · rcases List.mem_append.mp hr with y | y
    · exact h3 r y
    · rw [List.mem_singleton.mp y]
      exact hp
  · unfold va_up
    split
    · exact R3_s (by omega)
    · split
      · exact rb
      · split
        · exact R3_s (by omega)
        · split
          · exact R3_s (by omega)
          · exact h4 j
def spec_L_put (args : List Value) (n : Nat) (h : HP) (K : KT) : Prop := ∃ (k a b v : Int) (d f : Nat) (Fd F : Nat → Int) (ps : List Part) (p : Part), args = [.int (i3 k), .int (i3 a), .int (i3 b), .int (i3 v), .ref d, .ref f] ∧ At h n d (ai 4 Fd) ∧ At h n f (ai 48 F) ∧ d ≠ f ∧ Fd 0 = ps.length ∧ PaF F ps ∧ ps.length < 12 ∧ PW p ∧ (k = p.1 ∧ a = p.2.1 ∧ (p.1 ≠ 1 → b = p.2.2.1) ∧ R3 b ∧ v = p.2.2.2) ∧ ∀ F', PaF F' (ps ++ [p]) → K (.inl none) n (va_up (va_up h f (ai 48 F')) d (ai 4 (va_up Fd 0 ((ps.length : Int) + 1))))
theorem va_up2 {α : Type} {f : Nat → α} {k : Nat} {v w : α} : va_up (va_up f k v) k w = va_up f k w := funext fun j => by
  by_cases z : j = k
  · rw [z, up_self, up_self]
  · rw [up_ne z, up_ne z, up_ne z]
set_option maxHeartbeats 4000000 in
theorem sp_L_put : Sp yL_put cL_put 6 none 0 0 0 0 spec_L_put := by
  refine sp_intro (by decide) (by rintro args n h K ⟨k, a, b, v, d, f, Fd, F, ps, p, rfl, -⟩; exact Nat.le_of_ble_eq_true rfl) ?_
  rintro X args n h K hc hr ⟨k, a, b, v, d, f, Fd, F, ps, p, rfl, ed, ef, hdf, hD, hP, hl, hp, ⟨e0, e1, e2, rb, e3⟩, kk⟩
  have kk := kk _ (hP.app hl hp e0 e1 e2 rb e3)
  have d0 : Fd (0 : Int).toNat = ps.length := hD
  have x0 : Ix (4 * (ps.length : Int)) 48 := ⟨by omega, by omega, by omega⟩
  have x1 : Ix (4 * (ps.length : Int) + 1) 48 := ⟨by omega, by omega, by omega⟩
  have x2 : Ix (4 * (ps.length : Int) + 2) 48 := ⟨by omega, by omega, by omega⟩
  have x3 : Ix (4 * (ps.length : Int) + 3) 48 := ⟨by omega, by omega, by omega⟩
  refine sL_put_0 hc hr ed ef hdf ?_
  rw [d0, va_up2, va_up2, va_up2, show (4 * (ps.length : Int) : Int).toNat = 4 * ps.length by omega, show (4 * (ps.length : Int) + 1 : Int).toNat = 4 * ps.length + 1 by omega, show (4 * (ps.length : Int) + 2 : Int).toNat = 4 * ps.length + 2 by omega, show (4 * (ps.length : Int) + 3 : Int).toNat = 4 * ps.length + 3 by omega]
  have i4 : Ix 0 4 := ⟨by decide, by decide, by decide⟩
  exact ⟨i4, x0, i4, x1, i4, x2, i4, x3, i4, i4, kk⟩
