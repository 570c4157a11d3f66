/-! part a17: the law's settle -/
theorem faultF_v {S : Stt} {m : Nat} {G : Nat → Int} {a : Nat} {p : Part} {st : Int} : faultF S m G a p st = 0 ∨ (2 ≤ faultF S m G a p st ∧ faultF S m G a p st ≤ 5) := by
  unfold faultF
  split
  · split <;> simp
  · split
    · split <;> simp
    · split
      · split <;> simp
      · simp
theorem judL_v {S : Stt} {m : Nat} {G : Nat → Int} {c : Int} : ∀ (l : List Part) (a : Nat), ((judL S m G c l a).1 = 0 ∧ (judL S m G c l a).2 = -1) ∨ ((2 ≤ (judL S m G c l a).1 ∧ (judL S m G c l a).1 ≤ 5) ∧ (a : Int) ≤ (judL S m G c l a).2 ∧ (judL S m G c l a).2 < a + l.length)
  | [], _ => Or.inl ⟨rfl, rfl⟩
  | p :: l, a => by
    unfold judL
    have ih := judL_v (S := S) (m := m) (G := G) (c := c) l (a + 1)
    by_cases z : faultF S m G a p (c / 3 ^ a % 3) = 0
    · rw [if_pos z, List.length_cons]
      rcases ih with h | h
      · exact Or.inl h
      · right
        refine ⟨h.1, ?_, ?_⟩
        · have := h.2.1
          omega
        · have := h.2.2
          omega
    · rw [if_neg z, List.length_cons]
      right
      rcases faultF_v (S := S) (m := m) (G := G) (a := a) (p := p) (st := c / 3 ^ a % 3) with h | h
      · exact absurd h z
      · exact ⟨h, Int.le_refl _, by show (a : Int) < _; omega⟩
theorem jud_v {S : Stt} (h3 : nA S.1 ≤ 3) (c : Int) : (((jud S c).1 = 0 ∨ (jud S c).1 = 1) ∧ (jud S c).2 = -1) ∨ ((2 ≤ (jud S c).1 ∧ (jud S c).1 ≤ 5) ∧ 0 ≤ (jud S c).2 ∧ (jud S c).2 < 3) := by
  unfold jud
  split
  · exact Or.inl ⟨Or.inr rfl, rfl⟩
  · have hl := amps_len S.1
    rcases judL_v (S := S) (m := satN c (nA S.1)) (G := givC S c) (c := c) (amps S.1) 0 with h | h
    · exact Or.inl ⟨Or.inl h.1, h.2⟩
    · right
      refine ⟨h.1, ?_, ?_⟩
      · have := h.2.1
        omega
      · have := h.2.2
        omega
theorem whyI_v {S : Stt} (h3 : nA S.1 ≤ 3) (c : Int) : (0 ≤ whyI S c ∧ whyI S c ≤ 60) ∧ (whyI S c = 0 ↔ (jud S c).1 = 0) := by
  unfold whyI
  rcases jud_v h3 c with ⟨h | h, _⟩ | h
  · rw [if_pos h]
    exact ⟨⟨by decide, by decide⟩, fun _ => h, fun _ => rfl⟩
  · rw [h, if_neg (by decide), if_pos rfl]
    exact ⟨⟨by decide, by decide⟩, fun z => absurd z (by decide), fun z => absurd z (by decide)⟩
  · rw [if_neg (by omega), if_neg (by omega)]
    omega
/-- the best of the cases from lo on -/
def Bst (S : Stt) (lo N b : Int) : Prop := (b = -1 ∧ ∀ c, lo ≤ c → c < N → (jud S c).1 ≠ 0) ∨ ((lo ≤ b ∧ b < N) ∧ (jud S b).1 = 0 ∧ ∀ c, lo ≤ c → c < N → (jud S c).1 = 0 → chgN b S.2.2.1 (nA S.1) < chgN c S.2.2.1 (nA S.1) ∨ (chgN b S.2.2.1 (nA S.1) = chgN c S.2.2.1 (nA S.1) ∧ b ≤ c))
theorem Bst.one {S : Stt} {N b b' : Int} (h : Bst S 0 N b) (h' : Bst S 0 N b') : b = b' := by
  rcases h with ⟨h1, h2⟩ | ⟨h1, h2, h3⟩
  · rcases h' with ⟨g1, g2⟩ | ⟨g1, g2, g3⟩
    · omega
    · exact absurd g2 (h2 b' g1.1 g1.2)
  · rcases h' with ⟨g1, g2⟩ | ⟨g1, g2, g3⟩
    · exact absurd h2 (g2 b h1.1 h1.2)
    · have q1 := h3 b' g1.1 g1.2 g2
      have q2 := g3 b h1.1 h1.2 h2
      omega
theorem refL_bst (S : Stt) : ∀ (f : Nat) (c b : Int), 0 ≤ c → Bst S 0 c b → Bst S 0 (c + f) (refL S f c b)
  | 0, c, b, _, h => by
    have e : c + ((0 : Nat) : Int) = c := by omega
    rw [e]
    exact h
  | f + 1, c, b, h0, h => by
    unfold refL
    have e : c + ((f + 1 : Nat) : Int) = (c + 1) + (f : Nat) := by omega
    rw [e]
    by_cases z : (b = -1 ∨ chgN c S.2.2.1 (nA S.1) < chgN b S.2.2.1 (nA S.1)) ∧ (jud S c).1 = 0
    · rw [if_pos z]
      refine refL_bst S f (c + 1) c (by omega) (Or.inr ⟨⟨h0, by omega⟩, z.2, fun x hx1 hx2 hx => ?_⟩)
      by_cases y : x = c
      · rw [y]
        exact Or.inr ⟨rfl, Int.le_refl _⟩
      · rcases h with ⟨h1, h2⟩ | ⟨h1, h2, h3⟩
        · exact absurd hx (h2 x hx1 (by omega))
        · have := h3 x hx1 (by omega) hx
          rcases z.1 with w | w
          · omega
          · left
            omega
    · rw [if_neg z]
      refine refL_bst S f (c + 1) b (by omega) ?_
      rcases h with ⟨h1, h2⟩ | ⟨h1, h2, h3⟩
      · refine Or.inl ⟨h1, fun x hx1 hx2 hx => ?_⟩
        by_cases y : x = c
        · rw [y] at hx
          exact z ⟨Or.inl h1, hx⟩
        · exact h2 x hx1 (by omega) hx
      · refine Or.inr ⟨⟨h1.1, by omega⟩, h2, fun x hx1 hx2 hx => ?_⟩
        by_cases y : x = c
        · rw [y] at hx ⊢
          have : ¬ chgN c S.2.2.1 (nA S.1) < chgN b S.2.2.1 (nA S.1) := fun w => z ⟨Or.inr w, hx⟩
          omega
        · exact h3 x hx1 (by omega) hx
/-- the numbers d of a state -/
def DFS (Fd : Nat → Int) (S : Stt) : Prop := Fd 0 = S.1.length ∧ Fd 1 = S.2.1 ∧ Fd 2 = S.2.2.1 ∧ Fd 3 = S.2.2.2
set_option maxHeartbeats 4000000 in
set_option maxRecDepth 100000 in
theorem sL_settle_0 {X : Xt} {n : Nat} {h : HP} {a0 : Nat} {a1 : Nat} {a2 : Nat} {a3 : Nat} {f1 : Nat → Int} {f2 : Nat → Int} {ps3 : List Part} (hc : Cx X cL_settle RL 10 5 126) {K : KT} (hr : CxR X (some .int) K) (e1 : At h n a0 (ai 4 f1)) (e2 : At h n a1 (ai 48 f2)) (hP3 : PaF f2 ps3)
    (P : (Ix 2 4) ∧ (Ix 0 4) ∧ (0 ≤ (f1 (0 : Int).toNat) ∧ (f1 (0 : Int).toNat) ≤ ps3.length) ∧ (0 ≤ (nA (ps3.take ((f1 (0 : Int).toNat) : Int).toNat) : Int) ∧ (nA (ps3.take ((f1 (0 : Int).toNat) : Int).toNat) : Int) < 4) ∧ Ok X 0 0 26 [(0, .ref a0), (1, .ref a1), (2, .ref a2), (3, .ref a3), (4, .int (i3 (-1))), (5, .int (i3 9)), (6, .int (i3 (f1 (2 : Int).toNat))), (7, .int (i3 (((3 : Int) ^ ((nA (ps3.take ((f1 (0 : Int).toNat) : Int).toNat) : Int) : Int).toNat) - 1)))] [] n h) :
    Ok X 0 0 0 [(0, .ref a0), (1, .ref a1), (2, .ref a2), (3, .ref a3)] [] n h := by
  refine ok_iconst (pc := 0) hc (v := i3 (-1)) dL_settle_0 (by decide) ?_
  refine ok_istore (pc := 1) hc (lv' := [(4, .int (i3 (-1))), (0, .ref a0), (1, .ref a1), (2, .ref a2), (3, .ref a3)]) dL_settle_1 (by decide) rfl ?_
  refine ok_bipush (pc := 3) hc (v := i3 9) dL_settle_3 (by decide) ?_
  refine ok_istore (pc := 5) hc (lv' := [(5, .int (i3 9)), (4, .int (i3 (-1))), (0, .ref a0), (1, .ref a1), (2, .ref a2), (3, .ref a3)]) dL_settle_5 (by decide) rfl ?_
  refine ok_aload_n (pc := 7) hc dL_settle_7 rfl 2 rfl ?_
  refine ok_iconst (pc := 8) hc (v := i3 2) dL_settle_8 (by decide) ?_
  obtain ⟨r, P⟩ := P
  refine zk_iald (pc := 9) hc dL_settle_9 e1.1 e1.2 r ?_
  refine ok_istore (pc := 10) hc (lv' := [(6, .int (i3 (f1 (2 : Int).toNat))), (5, .int (i3 9)), (4, .int (i3 (-1))), (0, .ref a0), (1, .ref a1), (2, .ref a2), (3, .ref a3)]) dL_settle_10 (by decide) rfl ?_
  refine ok_aload_n (pc := 12) hc dL_settle_12 rfl 3 rfl ?_
  refine ok_iconst (pc := 13) hc (v := i3 0) dL_settle_13 (by decide) ?_
  obtain ⟨r, P⟩ := P
  refine zk_iald (pc := 14) hc dL_settle_14 e1.1 e1.2 r ?_
  refine ok_aload_n (pc := 15) hc dL_settle_15 rfl 4 rfl ?_
  obtain ⟨r0, P⟩ := P
  refine ok_callS (pc := 16) (cb := 0) (sb := 0) (st := []) hc [.int (i3 (f1 (0 : Int).toNat)), .ref a1] cs_L_18 sp_L_amplifiers (by decide) dL_settle_16 rfl rfl rfl rfl (Nat.le_of_ble_eq_true rfl) (⟨((f1 (0 : Int).toNat) : Int).toNat, _, _, _, (by rw [Int.toNat_of_nonneg r0.1]), ⟨e2.1, e2.2⟩, hP3, (by omega), rfl, ?_⟩)
  show Ok X 0 0 (16 + 3) [(6, .int (i3 (f1 (2 : Int).toNat))), (5, .int (i3 9)), (4, .int (i3 (-1))), (0, .ref a0), (1, .ref a1), (2, .ref a2), (3, .ref a3)] [.int (i3 (nA (ps3.take ((f1 (0 : Int).toNat) : Int).toNat) : Int))] n h
  obtain ⟨r0, P⟩ := P
  refine ok_callS (pc := 19) (cb := 0) (sb := 0) (st := []) hc [.int (i3 (nA (ps3.take ((f1 (0 : Int).toNat) : Int).toNat) : Int))] cs_L_21 sp_L_power (by decide) dL_settle_19 rfl rfl rfl rfl (Nat.le_of_ble_eq_true rfl) (⟨_, rfl, r0, rfl, ?_⟩)
  show Ok X 0 0 (19 + 3) [(6, .int (i3 (f1 (2 : Int).toNat))), (5, .int (i3 9)), (4, .int (i3 (-1))), (0, .ref a0), (1, .ref a1), (2, .ref a2), (3, .ref a3)] [.int (i3 ((3 : Int) ^ ((nA (ps3.take ((f1 (0 : Int).toNat) : Int).toNat) : Int) : Int).toNat))] n h
  refine ok_iconst (pc := 22) hc (v := i3 1) dL_settle_22 (by decide) ?_
  refine zk_isub (pc := 23) hc dL_settle_23 ?_
  refine ok_istore (pc := 24) hc (lv' := [(7, .int (i3 (((3 : Int) ^ ((nA (ps3.take ((f1 (0 : Int).toNat) : Int).toNat) : Int) : Int).toNat) - 1))), (6, .int (i3 (f1 (2 : Int).toNat))), (5, .int (i3 9)), (4, .int (i3 (-1))), (0, .ref a0), (1, .ref a1), (2, .ref a2), (3, .ref a3)]) dL_settle_24 (by decide) rfl ?_
  refine ok_lv [4, 5, 6, 7, 3, 2, 1, 0] rfl ?_
  exact P

set_option maxHeartbeats 4000000 in
set_option maxRecDepth 100000 in
theorem sL_settle_26 {X : Xt} {n : Nat} {h : HP} {a0 : Nat} {a1 : Nat} {a2 : Nat} {a3 : Nat} {x4 : Int} {x5 : Int} {x6 : Int} {x7 : Int} (hc : Cx X cL_settle RL 10 5 126) {K : KT} (hr : CxR X (some .int) K) 
    (P : (R3 x7) ∧ (x7 < 0 → Ok X 0 0 113 [(0, .ref a0), (1, .ref a1), (2, .ref a2), (3, .ref a3), (4, .int (i3 x4)), (5, .int (i3 x5)), (6, .int (i3 x6)), (7, .int (i3 x7))] [] n h) ∧ (¬ x7 < 0 → Ok X 0 0 37 [(0, .ref a0), (1, .ref a1), (2, .ref a2), (3, .ref a3), (4, .int (i3 x4)), (5, .int (i3 x5)), (6, .int (i3 x6)), (7, .int (i3 x7)), (8, .int (i3 0)), (9, .int (i3 0))] [] n h)) :
    Ok X 0 0 26 [(0, .ref a0), (1, .ref a1), (2, .ref a2), (3, .ref a3), (4, .int (i3 x4)), (5, .int (i3 x5)), (6, .int (i3 x6)), (7, .int (i3 x7))] [] n h := by
  refine ok_iload (pc := 26) hc dL_settle_26 7 rfl ?_
  obtain ⟨r1, P⟩ := P
  refine zk_if_lt (pc := 28) (tgt := 113) hc dL_settle_28 (by decide) r1 (fun c => ?_) (fun c => ?_)
  · have P := P.1 c
    exact P
  · have P := P.2 c
    refine ok_iconst (pc := 31) hc (v := i3 0) dL_settle_31 (by decide) ?_
    refine ok_istore (pc := 32) hc (lv' := [(8, .int (i3 0)), (0, .ref a0), (1, .ref a1), (2, .ref a2), (3, .ref a3), (4, .int (i3 x4)), (5, .int (i3 x5)), (6, .int (i3 x6)), (7, .int (i3 x7))]) dL_settle_32 (by decide) rfl ?_
    refine ok_iconst (pc := 34) hc (v := i3 0) dL_settle_34 (by decide) ?_
    refine ok_istore (pc := 35) hc (lv' := [(9, .int (i3 0)), (8, .int (i3 0)), (0, .ref a0), (1, .ref a1), (2, .ref a2), (3, .ref a3), (4, .int (i3 x4)), (5, .int (i3 x5)), (6, .int (i3 x6)), (7, .int (i3 x7))]) dL_settle_35 (by decide) rfl ?_
    refine ok_lv [2, 3, 4, 5, 6, 7, 8, 9, 1, 0] rfl ?_
    exact P

set_option maxHeartbeats 4000000 in
set_option maxRecDepth 100000 in
theorem sL_settle_37 {X : Xt} {n : Nat} {h : HP} {a0 : Nat} {a1 : Nat} {a2 : Nat} {a3 : Nat} {x4 : Int} {x5 : Int} {x6 : Int} {x7 : Int} {x8 : Int} {x9 : Int} {f2 : Nat → Int} (hc : Cx X cL_settle RL 10 5 126) {K : KT} (hr : CxR X (some .int) K) (e2 : At h n a0 (ai 4 f2))
    (P : (R3 x9) ∧ (3 ≤ x9 → Ok X 0 0 77 [(0, .ref a0), (1, .ref a1), (2, .ref a2), (3, .ref a3), (4, .int (i3 x4)), (5, .int (i3 x5)), (6, .int (i3 x6)), (7, .int (i3 x7)), (8, .int (i3 x8)), (9, .int (i3 x9))] [] n h) ∧ (¬ 3 ≤ x9 → ((0 ≤ x7 ∧ x7 ≤ 2147483647) ∧ 0 ≤ x9 ∧ x9 < 4) ∧ (Ix 2 4) ∧ ((0 ≤ (f2 (2 : Int).toNat) ∧ (f2 (2 : Int).toNat) ≤ 2147483647) ∧ 0 ≤ x9 ∧ x9 < 4) ∧ (R3 (x7 / 3 ^ (x9 : Int).toNat % 3)) ∧ (R3 ((f2 (2 : Int).toNat) / 3 ^ (x9 : Int).toNat % 3)) ∧ ((x7 / 3 ^ (x9 : Int).toNat % 3) = ((f2 (2 : Int).toNat) / 3 ^ (x9 : Int).toNat % 3) → Ok X 0 0 37 [(0, .ref a0), (1, .ref a1), (2, .ref a2), (3, .ref a3), (4, .int (i3 x4)), (5, .int (i3 x5)), (6, .int (i3 x6)), (7, .int (i3 x7)), (8, .int (i3 (x8 + 0))), (9, .int (i3 (x9 + 1)))] [] n h) ∧ (¬ (x7 / 3 ^ (x9 : Int).toNat % 3) = ((f2 (2 : Int).toNat) / 3 ^ (x9 : Int).toNat % 3) → Ok X 0 0 37 [(0, .ref a0), (1, .ref a1), (2, .ref a2), (3, .ref a3), (4, .int (i3 x4)), (5, .int (i3 x5)), (6, .int (i3 x6)), (7, .int (i3 x7)), (8, .int (i3 (x8 + 1))), (9, .int (i3 (x9 + 1)))] [] n h))) :
    Ok X 0 0 37 [(0, .ref a0), (1, .ref a1), (2, .ref a2), (3, .ref a3), (4, .int (i3 x4)), (5, .int (i3 x5)), (6, .int (i3 x6)), (7, .int (i3 x7)), (8, .int (i3 x8)), (9, .int (i3 x9))] [] n h := by
  refine ok_iload (pc := 37) hc dL_settle_37 9 rfl ?_
  refine ok_iconst (pc := 39) hc (v := i3 3) dL_settle_39 (by decide) ?_
  obtain ⟨r1, P⟩ := P
  refine zk_icmp_ge (pc := 40) (tgt := 77) hc dL_settle_40 (by decide) r1 ⟨by decide, by decide⟩ (fun c => ?_) (fun c => ?_)
  · have P := P.1 c
    exact P
  · have P := P.2 c
    refine ok_iload (pc := 43) hc dL_settle_43 8 rfl ?_
    refine ok_iload (pc := 45) hc dL_settle_45 7 rfl ?_
    refine ok_iload (pc := 47) hc dL_settle_47 9 rfl ?_
    obtain ⟨r0, P⟩ := P
    refine ok_callS (pc := 49) (cb := 0) (sb := 0) (st := [.int (i3 x8)]) hc [.int (i3 x7), .int (i3 x9)] cs_L_33 sp_L_state (by decide) dL_settle_49 rfl rfl rfl rfl (Nat.le_of_ble_eq_true rfl) (⟨_, _, rfl, r0, rfl, ?_⟩)
    show Ok X 0 0 (49 + 3) [(0, .ref a0), (1, .ref a1), (2, .ref a2), (3, .ref a3), (4, .int (i3 x4)), (5, .int (i3 x5)), (6, .int (i3 x6)), (7, .int (i3 x7)), (8, .int (i3 x8)), (9, .int (i3 x9))] [.int (i3 (x7 / 3 ^ (x9 : Int).toNat % 3)), .int (i3 x8)] n h
    refine ok_aload_n (pc := 52) hc dL_settle_52 rfl 0 rfl ?_
    refine ok_iconst (pc := 53) hc (v := i3 2) dL_settle_53 (by decide) ?_
    obtain ⟨r, P⟩ := P
    refine zk_iald (pc := 54) hc dL_settle_54 e2.1 e2.2 r ?_
    refine ok_iload (pc := 55) hc dL_settle_55 9 rfl ?_
    obtain ⟨r0, P⟩ := P
    refine ok_callS (pc := 57) (cb := 0) (sb := 0) (st := [.int (i3 (x7 / 3 ^ (x9 : Int).toNat % 3)), .int (i3 x8)]) hc [.int (i3 (f2 (2 : Int).toNat)), .int (i3 x9)] cs_L_33 sp_L_state (by decide) dL_settle_57 rfl rfl rfl rfl (Nat.le_of_ble_eq_true rfl) (⟨_, _, rfl, r0, rfl, ?_⟩)
    show Ok X 0 0 (57 + 3) [(0, .ref a0), (1, .ref a1), (2, .ref a2), (3, .ref a3), (4, .int (i3 x4)), (5, .int (i3 x5)), (6, .int (i3 x6)), (7, .int (i3 x7)), (8, .int (i3 x8)), (9, .int (i3 x9))] [.int (i3 ((f2 (2 : Int).toNat) / 3 ^ (x9 : Int).toNat % 3)), .int (i3 (x7 / 3 ^ (x9 : Int).toNat % 3)), .int (i3 x8)] n h
    obtain ⟨r3, P⟩ := P
    obtain ⟨r4, P⟩ := P
    refine zk_icmp_eq (pc := 60) (tgt := 67) hc dL_settle_60 (by decide) r3 r4 (fun c => ?_) (fun c => ?_)
    · have P := P.1 c
      refine ok_iconst (pc := 67) hc (v := i3 0) dL_settle_67 (by decide) ?_
      refine zk_iadd (pc := 68) hc dL_settle_68 ?_
      refine ok_istore (pc := 69) hc (lv' := [(8, .int (i3 (x8 + 0))), (0, .ref a0), (1, .ref a1), (2, .ref a2), (3, .ref a3), (4, .int (i3 x4)), (5, .int (i3 x5)), (6, .int (i3 x6)), (7, .int (i3 x7)), (9, .int (i3 x9))]) dL_settle_69 (by decide) rfl ?_
      refine zk_iinc (pc := 71) hc (q := 9) (x := x9) (lv' := [(9, .int (i3 (x9 + 1))), (8, .int (i3 (x8 + 0))), (0, .ref a0), (1, .ref a1), (2, .ref a2), (3, .ref a3), (4, .int (i3 x4)), (5, .int (i3 x5)), (6, .int (i3 x6)), (7, .int (i3 x7))]) dL_settle_71 rfl (by decide) rfl ?_
      refine ok_goto (pc := 74) (tgt := 37) hc dL_settle_74 (by decide) ?_
      refine ok_lv [2, 3, 4, 5, 6, 7, 8, 9, 1, 0] rfl ?_
      exact P
    · have P := P.2 c
      refine ok_iconst (pc := 63) hc (v := i3 1) dL_settle_63 (by decide) ?_
      refine ok_goto (pc := 64) (tgt := 68) hc dL_settle_64 (by decide) ?_
      refine zk_iadd (pc := 68) hc dL_settle_68 ?_
      refine ok_istore (pc := 69) hc (lv' := [(8, .int (i3 (x8 + 1))), (0, .ref a0), (1, .ref a1), (2, .ref a2), (3, .ref a3), (4, .int (i3 x4)), (5, .int (i3 x5)), (6, .int (i3 x6)), (7, .int (i3 x7)), (9, .int (i3 x9))]) dL_settle_69 (by decide) rfl ?_
      refine zk_iinc (pc := 71) hc (q := 9) (x := x9) (lv' := [(9, .int (i3 (x9 + 1))), (8, .int (i3 (x8 + 1))), (0, .ref a0), (1, .ref a1), (2, .ref a2), (3, .ref a3), (4, .int (i3 x4)), (5, .int (i3 x5)), (6, .int (i3 x6)), (7, .int (i3 x7))]) dL_settle_71 rfl (by decide) rfl ?_
      refine ok_goto (pc := 74) (tgt := 37) hc dL_settle_74 (by decide) ?_
      refine ok_lv [2, 3, 4, 5, 6, 7, 8, 9, 1, 0] rfl ?_
      exact P

set_option maxHeartbeats 4000000 in
set_option maxRecDepth 100000 in
theorem sL_settle_77 {X : Xt} {n : Nat} {h : HP} {a0 : Nat} {a1 : Nat} {a2 : Nat} {a3 : Nat} {x4 : Int} {x5 : Int} {x6 : Int} {x7 : Int} {x8 : Int} {x9 : Int} (hc : Cx X cL_settle RL 10 5 126) {K : KT} (hr : CxR X (some .int) K) 
    (P : (R3 x8) ∧ (R3 x5) ∧ (x5 < x8 → Ok X 0 0 107 [(0, .ref a0), (1, .ref a1), (2, .ref a2), (3, .ref a3), (4, .int (i3 x4)), (5, .int (i3 x5)), (6, .int (i3 x6)), (7, .int (i3 x7)), (8, .int (i3 x8)), (9, .int (i3 x9))] [] n h) ∧ (¬ x5 < x8 → spec_L_why [.int (i3 x7), .ref a0, .ref a1, .ref a2, .ref a3] n h (kc X 0 0 90 [(0, .ref a0), (1, .ref a1), (2, .ref a2), (3, .ref a3), (4, .int (i3 x4)), (5, .int (i3 x5)), (6, .int (i3 x6)), (7, .int (i3 x7)), (8, .int (i3 x8)), (9, .int (i3 x9))] [] n))) :
    Ok X 0 0 77 [(0, .ref a0), (1, .ref a1), (2, .ref a2), (3, .ref a3), (4, .int (i3 x4)), (5, .int (i3 x5)), (6, .int (i3 x6)), (7, .int (i3 x7)), (8, .int (i3 x8)), (9, .int (i3 x9))] [] n h := by
  refine ok_iload (pc := 77) hc dL_settle_77 8 rfl ?_
  refine ok_iload (pc := 79) hc dL_settle_79 5 rfl ?_
  obtain ⟨r1, P⟩ := P
  obtain ⟨r2, P⟩ := P
  refine zk_icmp_gt (pc := 81) (tgt := 107) hc dL_settle_81 (by decide) r1 r2 (fun c => ?_) (fun c => ?_)
  · have P := P.1 c
    exact P
  · have P := P.2 c
    refine ok_iload (pc := 84) hc dL_settle_84 7 rfl ?_
    refine ok_aload_n (pc := 86) hc dL_settle_86 rfl 0 rfl ?_
    refine ok_aload_n (pc := 87) hc dL_settle_87 rfl 1 rfl ?_
    refine ok_aload_n (pc := 88) hc dL_settle_88 rfl 2 rfl ?_
    refine ok_aload_n (pc := 89) hc dL_settle_89 rfl 3 rfl ?_
    exact ok_callS (pc := 90) (cb := 0) (sb := 0) (st := []) hc [.int (i3 x7), .ref a0, .ref a1, .ref a2, .ref a3] cs_L_60 sp_L_why (by decide) dL_settle_90 rfl rfl rfl rfl (Nat.le_of_ble_eq_true rfl) P

set_option maxHeartbeats 4000000 in
set_option maxRecDepth 100000 in
theorem sL_settle_93 {X : Xt} {n : Nat} {h : HP} {a0 : Nat} {a1 : Nat} {a2 : Nat} {a3 : Nat} {x4 : Int} {x5 : Int} {x6 : Int} {x7 : Int} {x8 : Int} {x9 : Int} {t0 : Int} (hc : Cx X cL_settle RL 10 5 126) {K : KT} (hr : CxR X (some .int) K) 
    (P : (R3 t0) ∧ (t0 ≤ 0 → Ok X 0 0 107 [(0, .ref a0), (1, .ref a1), (2, .ref a2), (3, .ref a3), (4, .int (i3 x7)), (5, .int (i3 x8)), (6, .int (i3 x6)), (7, .int (i3 x7)), (8, .int (i3 x8)), (9, .int (i3 x9))] [] n h) ∧ (¬ t0 ≤ 0 → Ok X 0 0 107 [(0, .ref a0), (1, .ref a1), (2, .ref a2), (3, .ref a3), (4, .int (i3 x4)), (5, .int (i3 x5)), (6, .int (i3 x6)), (7, .int (i3 x7)), (8, .int (i3 x8)), (9, .int (i3 x9))] [] n h)) :
    Ok X 0 0 93 [(0, .ref a0), (1, .ref a1), (2, .ref a2), (3, .ref a3), (4, .int (i3 x4)), (5, .int (i3 x5)), (6, .int (i3 x6)), (7, .int (i3 x7)), (8, .int (i3 x8)), (9, .int (i3 x9))] [.int (i3 t0)] n h := by
  obtain ⟨r1, P⟩ := P
  refine zk_if_le (pc := 93) (tgt := 99) hc dL_settle_93 (by decide) r1 (fun c => ?_) (fun c => ?_)
  · have P := P.1 c
    refine ok_iload (pc := 99) hc dL_settle_99 7 rfl ?_
    refine ok_istore (pc := 101) hc (lv' := [(4, .int (i3 x7)), (0, .ref a0), (1, .ref a1), (2, .ref a2), (3, .ref a3), (5, .int (i3 x5)), (6, .int (i3 x6)), (7, .int (i3 x7)), (8, .int (i3 x8)), (9, .int (i3 x9))]) dL_settle_101 (by decide) rfl ?_
    refine ok_iload (pc := 103) hc dL_settle_103 8 rfl ?_
    refine ok_istore (pc := 105) hc (lv' := [(5, .int (i3 x8)), (4, .int (i3 x7)), (0, .ref a0), (1, .ref a1), (2, .ref a2), (3, .ref a3), (6, .int (i3 x6)), (7, .int (i3 x7)), (8, .int (i3 x8)), (9, .int (i3 x9))]) dL_settle_105 (by decide) rfl ?_
    refine ok_lv [2, 3, 4, 5, 1, 0, 6, 7, 8, 9] rfl ?_
    exact P
  · have P := P.2 c
    refine ok_goto (pc := 96) (tgt := 107) hc dL_settle_96 (by decide) ?_
    exact P

set_option maxHeartbeats 4000000 in
set_option maxRecDepth 100000 in
theorem sL_settle_107 {X : Xt} {n : Nat} {h : HP} {a0 : Nat} {a1 : Nat} {a2 : Nat} {a3 : Nat} {x4 : Int} {x5 : Int} {x6 : Int} {x7 : Int} {x8 : Int} {x9 : Int} (hc : Cx X cL_settle RL 10 5 126) {K : KT} (hr : CxR X (some .int) K) 
    (P : Ok X 0 0 26 [(0, .ref a0), (1, .ref a1), (2, .ref a2), (3, .ref a3), (4, .int (i3 x4)), (5, .int (i3 x5)), (6, .int (i3 x6)), (7, .int (i3 (x7 + (-1))))] [] n h) :
    Ok X 0 0 107 [(0, .ref a0), (1, .ref a1), (2, .ref a2), (3, .ref a3), (4, .int (i3 x4)), (5, .int (i3 x5)), (6, .int (i3 x6)), (7, .int (i3 x7)), (8, .int (i3 x8)), (9, .int (i3 x9))] [] n h := by
  refine zk_iinc (pc := 107) hc (q := 7) (x := x7) (lv' := [(7, .int (i3 (x7 + (-1)))), (0, .ref a0), (1, .ref a1), (2, .ref a2), (3, .ref a3), (4, .int (i3 x4)), (5, .int (i3 x5)), (6, .int (i3 x6)), (8, .int (i3 x8)), (9, .int (i3 x9))]) dL_settle_107 rfl (by decide) rfl ?_
  refine ok_goto (pc := 110) (tgt := 26) hc dL_settle_110 (by decide) ?_
  refine ok_lv [1, 2, 3, 4, 5, 6, 7, 0] rfl ?_
  exact P

set_option maxHeartbeats 4000000 in
set_option maxRecDepth 100000 in
theorem sL_settle_113 {X : Xt} {n : Nat} {h : HP} {a0 : Nat} {a1 : Nat} {a2 : Nat} {a3 : Nat} {x4 : Int} {x5 : Int} {x6 : Int} {x7 : Int} {f2 : Nat → Int} (hc : Cx X cL_settle RL 10 5 126) {K : KT} (hr : CxR X (some .int) K) (e2 : At h n a0 (ai 4 f2))
    (P : (R3 x4) ∧ (0 ≤ x4 → (Ix 3 4) ∧ (R3 x4) ∧ (0 ≤ x4 → (Ix 2 4) ∧ (Ix 2 4) ∧ (R3 ((va_up (va_up f2 (3 : Int).toNat 1) (2 : Int).toNat x4) (2 : Int).toNat)) ∧ (R3 x6) ∧ (¬ ((va_up (va_up f2 (3 : Int).toNat 1) (2 : Int).toNat x4) (2 : Int).toNat) = x6 → K (.inl (some (.int (i3 1)))) n (va_up (va_up h a0 (ai 4 (va_up f2 (3 : Int).toNat 1))) a0 (ai 4 (va_up (va_up f2 (3 : Int).toNat 1) (2 : Int).toNat x4)))) ∧ (((va_up (va_up f2 (3 : Int).toNat 1) (2 : Int).toNat x4) (2 : Int).toNat) = x6 → K (.inl (some (.int (i3 0)))) n (va_up (va_up h a0 (ai 4 (va_up f2 (3 : Int).toNat 1))) a0 (ai 4 (va_up (va_up f2 (3 : Int).toNat 1) (2 : Int).toNat x4))))) ∧ (¬ 0 ≤ x4 → (Ix 2 4) ∧ (Ix 2 4) ∧ (R3 ((va_up (va_up f2 (3 : Int).toNat 1) (2 : Int).toNat x6) (2 : Int).toNat)) ∧ (R3 x6) ∧ (¬ ((va_up (va_up f2 (3 : Int).toNat 1) (2 : Int).toNat x6) (2 : Int).toNat) = x6 → K (.inl (some (.int (i3 1)))) n (va_up (va_up h a0 (ai 4 (va_up f2 (3 : Int).toNat 1))) a0 (ai 4 (va_up (va_up f2 (3 : Int).toNat 1) (2 : Int).toNat x6)))) ∧ (((va_up (va_up f2 (3 : Int).toNat 1) (2 : Int).toNat x6) (2 : Int).toNat) = x6 → K (.inl (some (.int (i3 0)))) n (va_up (va_up h a0 (ai 4 (va_up f2 (3 : Int).toNat 1))) a0 (ai 4 (va_up (va_up f2 (3 : Int).toNat 1) (2 : Int).toNat x6)))))) ∧ (¬ 0 ≤ x4 → (Ix 3 4) ∧ (R3 x4) ∧ (0 ≤ x4 → (Ix 2 4) ∧ (Ix 2 4) ∧ (R3 ((va_up (va_up f2 (3 : Int).toNat 0) (2 : Int).toNat x4) (2 : Int).toNat)) ∧ (R3 x6) ∧ (¬ ((va_up (va_up f2 (3 : Int).toNat 0) (2 : Int).toNat x4) (2 : Int).toNat) = x6 → K (.inl (some (.int (i3 1)))) n (va_up (va_up h a0 (ai 4 (va_up f2 (3 : Int).toNat 0))) a0 (ai 4 (va_up (va_up f2 (3 : Int).toNat 0) (2 : Int).toNat x4)))) ∧ (((va_up (va_up f2 (3 : Int).toNat 0) (2 : Int).toNat x4) (2 : Int).toNat) = x6 → K (.inl (some (.int (i3 0)))) n (va_up (va_up h a0 (ai 4 (va_up f2 (3 : Int).toNat 0))) a0 (ai 4 (va_up (va_up f2 (3 : Int).toNat 0) (2 : Int).toNat x4))))) ∧ (¬ 0 ≤ x4 → (Ix 2 4) ∧ (Ix 2 4) ∧ (R3 ((va_up (va_up f2 (3 : Int).toNat 0) (2 : Int).toNat x6) (2 : Int).toNat)) ∧ (R3 x6) ∧ (¬ ((va_up (va_up f2 (3 : Int).toNat 0) (2 : Int).toNat x6) (2 : Int).toNat) = x6 → K (.inl (some (.int (i3 1)))) n (va_up (va_up h a0 (ai 4 (va_up f2 (3 : Int).toNat 0))) a0 (ai 4 (va_up (va_up f2 (3 : Int).toNat 0) (2 : Int).toNat x6)))) ∧ (((va_up (va_up f2 (3 : Int).toNat 0) (2 : Int).toNat x6) (2 : Int).toNat) = x6 → K (.inl (some (.int (i3 0)))) n (va_up (va_up h a0 (ai 4 (va_up f2 (3 : Int).toNat 0))) a0 (ai 4 (va_up (va_up f2 (3 : Int).toNat 0) (2 : Int).toNat x6))))))) :
    Ok X 0 0 113 [(0, .ref a0), (1, .ref a1), (2, .ref a2), (3, .ref a3), (4, .int (i3 x4)), (5, .int (i3 x5)), (6, .int (i3 x6)), (7, .int (i3 x7))] [] n h := by
  refine ok_aload_n (pc := 113) hc dL_settle_113 rfl 0 rfl ?_
  refine ok_iconst (pc := 114) hc (v := i3 3) dL_settle_114 (by decide) ?_
  refine ok_iload (pc := 115) hc dL_settle_115 4 rfl ?_
  obtain ⟨r1, P⟩ := P
  refine zk_if_ge (pc := 117) (tgt := 124) hc dL_settle_117 (by decide) r1 (fun c => ?_) (fun c => ?_)
  · have P := P.1 c
    refine ok_iconst (pc := 124) hc (v := i3 1) dL_settle_124 (by decide) ?_
    obtain ⟨r, P⟩ := P
    refine zk_iast (pc := 125) hc dL_settle_125 e2.1 e2.2 r ?_
    refine ok_aload_n (pc := 126) hc dL_settle_126 rfl 0 rfl ?_
    refine ok_iconst (pc := 127) hc (v := i3 2) dL_settle_127 (by decide) ?_
    refine ok_iload (pc := 128) hc dL_settle_128 4 rfl ?_
    obtain ⟨r3, P⟩ := P
    refine zk_if_ge (pc := 130) (tgt := 138) hc dL_settle_130 (by decide) r3 (fun c => ?_) (fun c => ?_)
    · have P := P.1 c
      refine ok_iload (pc := 138) hc dL_settle_138 4 rfl ?_
      obtain ⟨r, P⟩ := P
      refine zk_iast (pc := 140) hc dL_settle_140 e2.1 up_self r ?_
      refine ok_aload_n (pc := 141) hc dL_settle_141 rfl 0 rfl ?_
      refine ok_iconst (pc := 142) hc (v := i3 2) dL_settle_142 (by decide) ?_
      obtain ⟨r, P⟩ := P
      refine zk_iald (pc := 143) hc dL_settle_143 e2.1 up_self r ?_
      refine ok_iload (pc := 144) hc dL_settle_144 6 rfl ?_
      obtain ⟨r4, P⟩ := P
      obtain ⟨r5, P⟩ := P
      refine zk_icmp_ne (pc := 146) (tgt := 153) hc dL_settle_146 (by decide) r4 r5 (fun c => ?_) (fun c => ?_)
      · have P := P.1 c
        refine ok_iconst (pc := 153) hc (v := i3 1) dL_settle_153 (by decide) ?_
        exact ok_iret (st := []) (pc := 154) hc hr dL_settle_154 P
      · have P := P.2 c
        refine ok_iconst (pc := 149) hc (v := i3 0) dL_settle_149 (by decide) ?_
        refine ok_goto (pc := 150) (tgt := 154) hc dL_settle_150 (by decide) ?_
        exact ok_iret (st := []) (pc := 154) hc hr dL_settle_154 P
    · have P := P.2 c
      refine ok_iload (pc := 133) hc dL_settle_133 6 rfl ?_
      refine ok_goto (pc := 135) (tgt := 140) hc dL_settle_135 (by decide) ?_
      obtain ⟨r, P⟩ := P
      refine zk_iast (pc := 140) hc dL_settle_140 e2.1 up_self r ?_
      refine ok_aload_n (pc := 141) hc dL_settle_141 rfl 0 rfl ?_
      refine ok_iconst (pc := 142) hc (v := i3 2) dL_settle_142 (by decide) ?_
      obtain ⟨r, P⟩ := P
      refine zk_iald (pc := 143) hc dL_settle_143 e2.1 up_self r ?_
      refine ok_iload (pc := 144) hc dL_settle_144 6 rfl ?_
      obtain ⟨r6, P⟩ := P
      obtain ⟨r7, P⟩ := P
      refine zk_icmp_ne (pc := 146) (tgt := 153) hc dL_settle_146 (by decide) r6 r7 (fun c => ?_) (fun c => ?_)
      · have P := P.1 c
        refine ok_iconst (pc := 153) hc (v := i3 1) dL_settle_153 (by decide) ?_
        exact ok_iret (st := []) (pc := 154) hc hr dL_settle_154 P
      · have P := P.2 c
        refine ok_iconst (pc := 149) hc (v := i3 0) dL_settle_149 (by decide) ?_
        refine ok_goto (pc := 150) (tgt := 154) hc dL_settle_150 (by decide) ?_
        exact ok_iret (st := []) (pc := 154) hc hr dL_settle_154 P
  · have P := P.2 c
    refine ok_iconst (pc := 120) hc (v := i3 0) dL_settle_120 (by decide) ?_
    refine ok_goto (pc := 121) (tgt := 125) hc dL_settle_121 (by decide) ?_
    obtain ⟨r, P⟩ := P
    refine zk_iast (pc := 125) hc dL_settle_125 e2.1 e2.2 r ?_
    refine ok_aload_n (pc := 126) hc dL_settle_126 rfl 0 rfl ?_
    refine ok_iconst (pc := 127) hc (v := i3 2) dL_settle_127 (by decide) ?_
    refine ok_iload (pc := 128) hc dL_settle_128 4 rfl ?_
    obtain ⟨r8, P⟩ := P
    refine zk_if_ge (pc := 130) (tgt := 138) hc dL_settle_130 (by decide) r8 (fun c => ?_) (fun c => ?_)
    · have P := P.1 c
      refine ok_iload (pc := 138) hc dL_settle_138 4 rfl ?_
      obtain ⟨r, P⟩ := P
      refine zk_iast (pc := 140) hc dL_settle_140 e2.1 up_self r ?_
      refine ok_aload_n (pc := 141) hc dL_settle_141 rfl 0 rfl ?_
      refine ok_iconst (pc := 142) hc (v := i3 2) dL_settle_142 (by decide) ?_
      obtain ⟨r, P⟩ := P
      refine zk_iald (pc := 143) hc dL_settle_143 e2.1 up_self r ?_
      refine ok_iload (pc := 144) hc dL_settle_144 6 rfl ?_
      obtain ⟨r9, P⟩ := P
      obtain ⟨r10, P⟩ := P
      refine zk_icmp_ne (pc := 146) (tgt := 153) hc dL_settle_146 (by decide) r9 r10 (fun c => ?_) (fun c => ?_)
      · have P := P.1 c
        refine ok_iconst (pc := 153) hc (v := i3 1) dL_settle_153 (by decide) ?_
        exact ok_iret (st := []) (pc := 154) hc hr dL_settle_154 P
      · have P := P.2 c
        refine ok_iconst (pc := 149) hc (v := i3 0) dL_settle_149 (by decide) ?_
        refine ok_goto (pc := 150) (tgt := 154) hc dL_settle_150 (by decide) ?_
        exact ok_iret (st := []) (pc := 154) hc hr dL_settle_154 P
    · have P := P.2 c
      refine ok_iload (pc := 133) hc dL_settle_133 6 rfl ?_
      refine ok_goto (pc := 135) (tgt := 140) hc dL_settle_135 (by decide) ?_
      obtain ⟨r, P⟩ := P
      refine zk_iast (pc := 140) hc dL_settle_140 e2.1 up_self r ?_
      refine ok_aload_n (pc := 141) hc dL_settle_141 rfl 0 rfl ?_
      refine ok_iconst (pc := 142) hc (v := i3 2) dL_settle_142 (by decide) ?_
      obtain ⟨r, P⟩ := P
      refine zk_iald (pc := 143) hc dL_settle_143 e2.1 up_self r ?_
      refine ok_iload (pc := 144) hc dL_settle_144 6 rfl ?_
      obtain ⟨r11, P⟩ := P
      obtain ⟨r12, P⟩ := P
      refine zk_icmp_ne (pc := 146) (tgt := 153) hc dL_settle_146 (by decide) r11 r12 (fun c => ?_) (fun c => ?_)
      · have P := P.1 c
        refine ok_iconst (pc := 153) hc (v := i3 1) dL_settle_153 (by decide) ?_
        exact ok_iret (st := []) (pc := 154) hc hr dL_settle_154 P
      · have P := P.2 c
        refine ok_iconst (pc := 149) hc (v := i3 0) dL_settle_149 (by decide) ?_
        refine ok_goto (pc := 150) (tgt := 154) hc dL_settle_150 (by decide) ?_
        exact ok_iret (st := []) (pc := 154) hc hr dL_settle_154 P

def spec_L_settle (args : List Value) (n : Nat) (h : HP) (K : KT) : Prop := ∃ (d a e f : Nat) (Fd F Ee Ef : Nat → Int) (S : Stt), args = [.ref d, .ref a, .ref e, .ref f] ∧ At h n d (ai 4 Fd) ∧ At h n a (ai 48 F) ∧ At h n e (al 56 Ee) ∧ At h n f (al 56 Ef) ∧ (e ≠ f ∧ d ≠ a) ∧ DFS Fd S ∧ PaF F S.1 ∧ GdS S ∧ ∀ E' F' Fd', DFS Fd' (setS S) → K (.inl (some (.int (i3 (if (setS S).2.2.1 = S.2.2.1 then 0 else 1))))) n (va_up (va_up (va_up h e (al 56 E')) f (al 56 F')) d (ai 4 Fd'))
set_option maxHeartbeats 4000000 in
theorem sp_L_settle : Sp yL_settle cL_settle 10 (some .int) 5 126 0 0 spec_L_settle := by
  refine sp_intro (by decide) (by rintro args n h K ⟨d, a, e, f, Fd, F, Ee, Ef, S, rfl, -⟩; exact Nat.le_of_ble_eq_true rfl) ?_
  rintro X args n h K hc hr ⟨d, a, e, f, Fd, F, Ee, Ef, S, rfl, ed0, ea0, ee0, ef0, ⟨hef, hda⟩, hD, hP, hG, kk⟩
  have hl := hP.1
  have hn3 := hG.1.2.1
  have hpr := hG.2.2.1
  have hrl : 0 ≤ S.2.1 ∧ S.2.1 ≤ 200 := ⟨by have := hG.2.1.1; omega, hG.2.1.2⟩
  obtain ⟨d0, d1, d2, d3⟩ := id hD
  have d0' : Fd (0 : Int).toNat = S.1.length := d0
  have d2' : Fd (2 : Int).toNat = S.2.2.1 := d2
  have h27 := ref_27 hG
  have nde : d ≠ e := ne_aa ed0.2 ee0.2 (by decide)
  have nae : a ≠ e := ne_aa ea0.2 ee0.2 (by decide)
  have ndf : d ≠ f := ne_aa ed0.2 ef0.2 (by decide)
  have naf : a ≠ f := ne_aa ea0.2 ef0.2 (by decide)
  have ed : ∀ Fe Ff, At (va_up (va_up h e (al 56 Fe)) f (al 56 Ff)) n d (ai 4 Fd) := fun Fe Ff => (ed0.up nde).up ndf
  have ea : ∀ Fe Ff, At (va_up (va_up h e (al 56 Fe)) f (al 56 Ff)) n a (ai 48 F) := fun Fe Ff => (ea0.up nae).up naf
  have ee : ∀ Fe Ff, At (va_up (va_up h e (al 56 Fe)) f (al 56 Ff)) n e (al 56 Fe) := fun Fe Ff => ee0.it.up hef
  have ef : ∀ Fe Ff, At (va_up (va_up h e (al 56 Fe)) f (al 56 Ff)) n f (al 56 Ff) := fun Fe Ff => (ef0.up (fun z => hef z.symm)).it
  have eid : va_up (va_up h e (al 56 Ee)) f (al 56 Ef) = h := by
    rw [up_id (ef0.up (fun z => hef z.symm)), up_id ee0]
  have up4 : ∀ Fe Ff Fe' Ff', va_up (va_up (va_up (va_up h e (al 56 Fe)) f (al 56 Ff)) e (al 56 Fe')) f (al 56 Ff') = va_up (va_up h e (al 56 Fe')) f (al 56 Ff') := by
    intro Fe Ff Fe' Ff'
    funext x
    by_cases x1 : x = f
    · rw [x1, up_self, up_self]
    · rw [up_ne x1, up_ne x1]
      by_cases x2 : x = e
      · rw [x2, up_self, up_self]
      · rw [up_ne x2, up_ne x1, up_ne x2, up_ne x2]
  obtain ⟨N, hN⟩ : ∃ N : Nat, N = 3 ^ nA S.1 := ⟨_, rfl⟩
  have hN3 : (3 : Int) ^ nA S.1 = (N : Int) := by rw [hN, pow_c]
  rw [hN3] at h27 hpr
  have far3 : ∀ c : Int, 0 ≤ c → c < N → chgN c S.2.2.1 3 = chgN c S.2.2.1 (nA S.1) := fun c h0 h1 => chg_3 hn3 ⟨h0, by rw [hN3]; exact h1⟩ ⟨hpr.1, by rw [hN3]; exact hpr.2⟩
  have sref := set_ref hG
  have hbst : Bst S 0 (N : Int) (refL S (3 ^ nA S.1) 0 (-1)) := by
    have := refL_bst S (3 ^ nA S.1) 0 (-1) (Int.le_refl _) (Or.inl ⟨rfl, fun c h1 h2 => absurd h1 (by omega)⟩)
    rw [← hN, Int.zero_add] at this
    rw [← hN]
    exact this
  -- the cases, from the last down
  have L : ∀ (k : Nat), k ≤ N → ∀ (b : Int) (Fe Ff : Nat → Int), Bst S k N b → Ok X 0 0 26 [(0, .ref d), (1, .ref a), (2, .ref e), (3, .ref f), (4, .int (i3 b)), (5, .int (i3 (if b = -1 then 9 else chgN b S.2.2.1 (nA S.1)))), (6, .int (i3 S.2.2.1)), (7, .int (i3 ((k : Int) - 1)))] [] n (va_up (va_up h e (al 56 Fe)) f (al 56 Ff)) := by
    intro k
    induction k with
    | zero =>
      intro hk b Fe Ff hB
      have hb := hB.one hbst
      rw [← hb] at sref
      have rb : -1 ≤ b ∧ b < N := by
        rcases hB with ⟨h1, _⟩ | ⟨h1, _⟩
        · omega
        · omega
      refine sL_settle_26 hc hr ⟨R3_s (by omega), fun _ => ?_, fun z => absurd (by omega) z⟩
      have x2 : Ix 2 4 := ⟨by decide, by decide, by decide⟩
      have x3 : Ix 3 4 := ⟨by decide, by decide, by decide⟩
      have rb3 : R3 b := R3_s (by omega)
      have rp3 : R3 S.2.2.1 := R3_s (by omega)
      have fin : ∀ v w : Int, v = (setS S).2.2.2 → w = (setS S).2.2.1 → DFS (va_up (va_up Fd (3 : Int).toNat v) (2 : Int).toNat w) (setS S) := by
        intro v w hv hw
        refine ⟨?_, ?_, ?_, ?_⟩
        · show Fd 0 = _
          rw [setS_1]
          exact d0
        · show Fd 1 = _
          rw [sref]
          exact d1
        · exact hw
        · exact hv
      refine sL_settle_113 hc hr (ed Fe Ff) ?_
      rw [up_self, up_self, up_self]
      rw [up_up, up_up, up_up, up_up]
      by_cases z : b = -1
      · have e1 : (setS S).2.2.2 = 0 := by
          rw [sref, if_pos z, if_pos z]
        have e2 : (setS S).2.2.1 = S.2.2.1 := by
          rw [sref, if_pos z, if_pos z]
        have k1 := kk Fe Ff _ (fin 0 S.2.2.1 e1.symm e2.symm)
        rw [e2, if_pos rfl] at k1
        exact ⟨rb3, fun y => absurd y (by omega), fun _ => ⟨x3, rb3, fun y => absurd y (by omega), fun _ => ⟨x2, x2, rp3, rp3, fun y => absurd rfl y, fun _ => k1⟩⟩⟩
      · have e1 : (setS S).2.2.2 = 1 := by
          rw [sref, if_neg z, if_neg z]
        have e2 : (setS S).2.2.1 = b := by
          rw [sref, if_neg z, if_neg z]
        have k1 := kk Fe Ff _ (fin 1 b e1.symm e2.symm)
        rw [e2] at k1
        refine ⟨rb3, fun _ => ⟨x3, rb3, fun _ => ⟨x2, x2, rb3, rp3, fun y => ?_, fun y => ?_⟩, fun y => absurd (by omega) y⟩, fun y => absurd (by omega) y⟩
        · rw [if_neg y] at k1
          exact k1
        · rw [if_pos y] at k1
          exact k1
    | succ k ih =>
      intro hk b Fe Ff hB
      have hcr : 0 ≤ ((k : Nat) : Int) ∧ ((k : Nat) : Int) ≤ 26 := by omega
      have rb : -1 ≤ b ∧ b < N := by
        rcases hB with ⟨h1, _⟩ | ⟨h1, _⟩
        · omega
        · omega
      have hcb := chgN_r b S.2.2.1 (nA S.1)
      have hck := chgN_r (k : Int) S.2.2.1 (nA S.1)
      have rl : R3 (if b = -1 then 9 else chgN b S.2.2.1 (nA S.1)) := by
        split
        · exact ⟨by decide, by decide⟩
        · exact R3_s (by omega)
      have ek : ((k + 1 : Nat) : Int) - 1 = (k : Int) := by omega
      rw [ek]
      have hwv := whyI_v hn3 (k : Int)
      have x2 : Ix 2 4 := ⟨by decide, by decide, by decide⟩
      -- kept as it was
      have keep : (∀ b' : Int, (jud S k).1 = 0 → ¬ (b = -1) ∧ chgN b S.2.2.1 (nA S.1) < chgN (k : Int) S.2.2.1 (nA S.1)) → ∀ (Fe Ff : Nat → Int) (x8 x9 : Int), Ok X 0 0 107 [(0, .ref d), (1, .ref a), (2, .ref e), (3, .ref f), (4, .int (i3 b)), (5, .int (i3 (if b = -1 then 9 else chgN b S.2.2.1 (nA S.1)))), (6, .int (i3 S.2.2.1)), (7, .int (i3 (k : Int))), (8, .int (i3 x8)), (9, .int (i3 x9))] [] n (va_up (va_up h e (al 56 Fe)) f (al 56 Ff)) := by
        intro hz Fe Ff x8 x9
        refine sL_settle_107 hc hr ?_
        rw [show (k : Int) + -1 = (k : Int) - 1 by omega]
        refine ih (by omega) b Fe Ff ?_
        rcases hB with ⟨h1, h2⟩ | ⟨h1, h2, h3⟩
        · refine Or.inl ⟨h1, fun c hc1 hc2 hc3 => ?_⟩
          by_cases y : c = k
          · rw [y] at hc3
            exact (hz 0 hc3).1 h1
          · exact h2 c (by omega) hc2 hc3
        · refine Or.inr ⟨⟨by omega, h1.2⟩, h2, fun c hc1 hc2 hc3 => ?_⟩
          by_cases y : c = k
          · rw [y] at hc3 ⊢
            exact Or.inl (hz 0 hc3).2
          · exact h3 c (by omega) hc2 hc3
      have C3 : ∀ (j i : Nat), i + j = 3 → Ok X 0 0 37 [(0, .ref d), (1, .ref a), (2, .ref e), (3, .ref f), (4, .int (i3 b)), (5, .int (i3 (if b = -1 then 9 else chgN b S.2.2.1 (nA S.1)))), (6, .int (i3 S.2.2.1)), (7, .int (i3 (k : Int))), (8, .int (i3 (chgN k S.2.2.1 i))), (9, .int (i3 i))] [] n (va_up (va_up h e (al 56 Fe)) f (al 56 Ff)) := by
        intro j
        induction j with
        | zero =>
          intro i hi
          have : i = 3 := by omega
          subst this
          rw [far3 k (by omega) (by omega)]
          refine sL_settle_37 hc hr (ed Fe Ff) ⟨R3_s (by omega), fun _ => ?_, fun z => absurd (by omega) z⟩
          refine sL_settle_77 hc hr ⟨R3_s (by omega), rl, fun z => keep (fun _ _ => ?_) Fe Ff _ _, fun z => ⟨d, a, e, f, Fd, F, Fe, Ff, S, k, rfl, ed Fe Ff, ea Fe Ff, ee Fe Ff, ef Fe Ff, hef, ⟨d0, d1⟩, hP, hG.1, hrl, hcr, fun E' F' => ⟨rfl, ?_⟩⟩⟩
          · by_cases y : b = -1
            · rw [if_pos y] at z
              omega
            · rw [if_neg y] at z
              exact ⟨y, z⟩
          · rw [up4]
            refine sL_settle_93 hc hr ⟨R3_s (by omega), fun y => ?_, fun y => keep (fun _ w => absurd (hwv.2.mpr w) (by omega)) E' F' _ _⟩
            have hj : (jud S k).1 = 0 := hwv.2.mp (by omega)
            refine sL_settle_107 hc hr ?_
            rw [show (k : Int) + -1 = (k : Int) - 1 by omega]
            have i1 := ih (by omega) (k : Int) E' F' (Or.inr ⟨⟨Int.le_refl _, by omega⟩, hj, fun c hc1 hc2 hc3 => ?_⟩)
            · rw [if_neg (show ¬ (k : Int) = -1 by omega)] at i1
              exact i1
            · by_cases w : c = k
              · rw [w]
                exact Or.inr ⟨rfl, Int.le_refl _⟩
              · rcases hB with ⟨h1, h2⟩ | ⟨h1, h2, h3⟩
                · exact absurd hc3 (h2 c (by omega) hc2)
                · rw [if_neg (by omega)] at z
                  have := h3 c (by omega) hc2 hc3
                  omega
        | succ j ihc =>
          intro i hi
          have hci := chgN_r (k : Int) S.2.2.1 i
          have i1 := ihc (i + 1) (by omega)
          rw [show chgN (k : Int) S.2.2.1 (i + 1) = chgN k S.2.2.1 i + (if (k : Int) / 3 ^ i % 3 = S.2.2.1 / 3 ^ i % 3 then 0 else 1) from rfl] at i1
          have etn : (i : Int).toNat = i := by omega
          have s1 := st3 (k : Int) i
          have s2 := st3 S.2.2.1 i
          refine sL_settle_37 hc hr (ed Fe Ff) ?_
          rw [d2', etn]
          refine ⟨R3_s (by omega), fun z => absurd z (by omega), fun _ => ⟨⟨⟨by omega, by omega⟩, by omega, by omega⟩, x2, ⟨⟨by omega, by omega⟩, by omega, by omega⟩, R3_s (by omega), R3_s (by omega), fun z => ?_, fun z => ?_⟩⟩
          · rw [if_pos z] at i1
            exact i1
          · rw [if_neg z] at i1
            exact i1
      exact sL_settle_26 hc hr ⟨R3_s (by omega), fun z => absurd z (by omega), fun _ => C3 3 0 rfl⟩
  have L0 := L N (Nat.le_refl N) (-1) Ee Ef (Or.inl ⟨rfl, fun c h1 h2 => absurd h1 (by omega)⟩)
  rw [eid, if_pos rfl] at L0
  refine sL_settle_0 hc hr ed0 ea0 hP ?_
  rw [d0', d2', show ((S.1.length : Nat) : Int).toNat = S.1.length by omega, List.take_length, show ((nA S.1 : Nat) : Int).toNat = nA S.1 by omega, hN3]
  exact ⟨⟨by decide, by decide, by decide⟩, ⟨by decide, by decide, by decide⟩, ⟨by omega, by omega⟩, ⟨by omega, by omega⟩, L0⟩
