/-! part 99k: the law: its loop -/
set_option maxHeartbeats 4000000 in
set_option maxRecDepth 100000 in
theorem sL_law_23 {X : Xt} {n : Nat} {h : HP} {a1 : Nat} {a2 : Nat} {a3 : Nat} {x4 : Int} {bb : Nat} {sb9 : Nat} (hc : Cx X cL_law RL 9 13 302) {L9 : Nat} {xs : Nat → Int32} (hX : ScX X L9 xs) (hL : CxL X) 
    (P : (R3 x4) ∧ (R3 ((L9 : Int) - 4)) ∧ (((L9 : Int) - 4) < x4 → Ok X bb sb9 1421 [(0, .ref (SA + 1)), (1, .ref a1), (2, .ref a2), (3, .ref a3), (4, .int (i3 x4))] [] n h) ∧ (¬ ((L9 : Int) - 4) < x4 → (Ix x4 L9) ∧ (R3 (band ((xs (x4 : Int).toNat).toInt) 31)) ∧ ((band ((xs (x4 : Int).toNat).toInt) 31) < 0 ∨ 23 < (band ((xs (x4 : Int).toNat).toInt) 31) → Ok X bb sb9 1415 [(0, .ref (SA + 1)), (1, .ref a1), (2, .ref a2), (3, .ref a3), (4, .int (i3 x4))] [] n h) ∧ ((band ((xs (x4 : Int).toNat).toInt) 31) = 0 → Ok X bb sb9 148 [(0, .ref (SA + 1)), (1, .ref a1), (2, .ref a2), (3, .ref a3), (4, .int (i3 x4))] [] n h) ∧ ((band ((xs (x4 : Int).toNat).toInt) 31) = 1 → Ok X bb sb9 161 [(0, .ref (SA + 1)), (1, .ref a1), (2, .ref a2), (3, .ref a3), (4, .int (i3 x4))] [] n h) ∧ ((band ((xs (x4 : Int).toNat).toInt) 31) = 2 → Ok X bb sb9 205 [(0, .ref (SA + 1)), (1, .ref a1), (2, .ref a2), (3, .ref a3), (4, .int (i3 x4))] [] n h) ∧ ((band ((xs (x4 : Int).toNat).toInt) 31) = 3 → Ok X bb sb9 273 [(0, .ref (SA + 1)), (1, .ref a1), (2, .ref a2), (3, .ref a3), (4, .int (i3 x4))] [] n h) ∧ ((band ((xs (x4 : Int).toNat).toInt) 31) = 4 → Ok X bb sb9 329 [(0, .ref (SA + 1)), (1, .ref a1), (2, .ref a2), (3, .ref a3), (4, .int (i3 x4))] [] n h) ∧ ((band ((xs (x4 : Int).toNat).toInt) 31) = 5 → Ok X bb sb9 385 [(0, .ref (SA + 1)), (1, .ref a1), (2, .ref a2), (3, .ref a3), (4, .int (i3 x4))] [] n h) ∧ ((band ((xs (x4 : Int).toNat).toInt) 31) = 6 → Ok X bb sb9 453 [(0, .ref (SA + 1)), (1, .ref a1), (2, .ref a2), (3, .ref a3), (4, .int (i3 x4))] [] n h) ∧ ((band ((xs (x4 : Int).toNat).toInt) 31) = 7 → Ok X bb sb9 497 [(0, .ref (SA + 1)), (1, .ref a1), (2, .ref a2), (3, .ref a3), (4, .int (i3 x4))] [] n h) ∧ ((band ((xs (x4 : Int).toNat).toInt) 31) = 8 → Ok X bb sb9 553 [(0, .ref (SA + 1)), (1, .ref a1), (2, .ref a2), (3, .ref a3), (4, .int (i3 x4))] [] n h) ∧ ((band ((xs (x4 : Int).toNat).toInt) 31) = 9 → Ok X bb sb9 609 [(0, .ref (SA + 1)), (1, .ref a1), (2, .ref a2), (3, .ref a3), (4, .int (i3 x4))] [] n h) ∧ ((band ((xs (x4 : Int).toNat).toInt) 31) = 10 → Ok X bb sb9 665 [(0, .ref (SA + 1)), (1, .ref a1), (2, .ref a2), (3, .ref a3), (4, .int (i3 x4))] [] n h) ∧ ((band ((xs (x4 : Int).toNat).toInt) 31) = 11 → Ok X bb sb9 678 [(0, .ref (SA + 1)), (1, .ref a1), (2, .ref a2), (3, .ref a3), (4, .int (i3 x4))] [] n h) ∧ ((band ((xs (x4 : Int).toNat).toInt) 31) = 12 → Ok X bb sb9 691 [(0, .ref (SA + 1)), (1, .ref a1), (2, .ref a2), (3, .ref a3), (4, .int (i3 x4))] [] n h) ∧ ((band ((xs (x4 : Int).toNat).toInt) 31) = 13 → Ok X bb sb9 758 [(0, .ref (SA + 1)), (1, .ref a1), (2, .ref a2), (3, .ref a3), (4, .int (i3 x4))] [] n h) ∧ ((band ((xs (x4 : Int).toNat).toInt) 31) = 14 → Ok X bb sb9 825 [(0, .ref (SA + 1)), (1, .ref a1), (2, .ref a2), (3, .ref a3), (4, .int (i3 x4))] [] n h) ∧ ((band ((xs (x4 : Int).toNat).toInt) 31) = 15 → Ok X bb sb9 893 [(0, .ref (SA + 1)), (1, .ref a1), (2, .ref a2), (3, .ref a3), (4, .int (i3 x4))] [] n h) ∧ ((band ((xs (x4 : Int).toNat).toInt) 31) = 16 → Ok X bb sb9 949 [(0, .ref (SA + 1)), (1, .ref a1), (2, .ref a2), (3, .ref a3), (4, .int (i3 x4))] [] n h) ∧ ((band ((xs (x4 : Int).toNat).toInt) 31) = 17 → Ok X bb sb9 1005 [(0, .ref (SA + 1)), (1, .ref a1), (2, .ref a2), (3, .ref a3), (4, .int (i3 x4))] [] n h) ∧ ((band ((xs (x4 : Int).toNat).toInt) 31) = 18 → Ok X bb sb9 1084 [(0, .ref (SA + 1)), (1, .ref a1), (2, .ref a2), (3, .ref a3), (4, .int (i3 x4))] [] n h) ∧ ((band ((xs (x4 : Int).toNat).toInt) 31) = 19 → Ok X bb sb9 1168 [(0, .ref (SA + 1)), (1, .ref a1), (2, .ref a2), (3, .ref a3), (4, .int (i3 x4))] [] n h) ∧ ((band ((xs (x4 : Int).toNat).toInt) 31) = 20 → Ok X bb sb9 1236 [(0, .ref (SA + 1)), (1, .ref a1), (2, .ref a2), (3, .ref a3), (4, .int (i3 x4))] [] n h) ∧ ((band ((xs (x4 : Int).toNat).toInt) 31) = 21 → Ok X bb sb9 1304 [(0, .ref (SA + 1)), (1, .ref a1), (2, .ref a2), (3, .ref a3), (4, .int (i3 x4))] [] n h) ∧ ((band ((xs (x4 : Int).toNat).toInt) 31) = 22 → Ok X bb sb9 1360 [(0, .ref (SA + 1)), (1, .ref a1), (2, .ref a2), (3, .ref a3), (4, .int (i3 x4))] [] n h) ∧ ((band ((xs (x4 : Int).toNat).toInt) 31) = 23 → Ok X bb sb9 1401 [(0, .ref (SA + 1)), (1, .ref a1), (2, .ref a2), (3, .ref a3), (4, .int (i3 x4))] [] n h))) :
    Ok X bb sb9 23 [(0, .ref (SA + 1)), (1, .ref a1), (2, .ref a2), (3, .ref a3), (4, .int (i3 x4))] [] n h := by
  refine ok_iload (pc := 23) hc dL_law_23 4 rfl ?_
  refine ok_aload_n (pc := 25) hc dL_law_25 rfl 0 rfl ?_
  refine ok_slen (pc := 26) hc hX dL_law_26 ?_
  refine ok_iconst (pc := 27) hc (v := i3 4) dL_law_27 (by decide) ?_
  refine zk_isub (pc := 28) hc dL_law_28 ?_
  obtain ⟨r1, P⟩ := P
  obtain ⟨r2, P⟩ := P
  refine zk_icmp_gt (pc := 29) (tgt := 1421) hc dL_law_29 (by decide) r1 r2 (fun c => ?_) (fun c => ?_)
  · have P := P.1 c
    exact P
  · have P := P.2 c
    refine ok_aload_n (pc := 32) hc dL_law_32 rfl 0 rfl ?_
    refine ok_iload (pc := 33) hc dL_law_33 4 rfl ?_
    obtain ⟨r, P⟩ := P
    refine ok_sld (pc := 35) hc hX dL_law_35 r ?_
    refine ok_bipush (pc := 36) hc (v := i3 31) dL_law_36 (by decide) ?_
    refine zk_iand (pc := 38) hc dL_law_38 ?_
    obtain ⟨r3, P⟩ := P
    rcases (show ((band ((xs (x4 : Int).toNat).toInt) 31) < 0 ∨ 23 < (band ((xs (x4 : Int).toNat).toInt) 31)) ∨ (band ((xs (x4 : Int).toNat).toInt) 31) = 0 ∨ (band ((xs (x4 : Int).toNat).toInt) 31) = 1 ∨ (band ((xs (x4 : Int).toNat).toInt) 31) = 2 ∨ (band ((xs (x4 : Int).toNat).toInt) 31) = 3 ∨ (band ((xs (x4 : Int).toNat).toInt) 31) = 4 ∨ (band ((xs (x4 : Int).toNat).toInt) 31) = 5 ∨ (band ((xs (x4 : Int).toNat).toInt) 31) = 6 ∨ (band ((xs (x4 : Int).toNat).toInt) 31) = 7 ∨ (band ((xs (x4 : Int).toNat).toInt) 31) = 8 ∨ (band ((xs (x4 : Int).toNat).toInt) 31) = 9 ∨ (band ((xs (x4 : Int).toNat).toInt) 31) = 10 ∨ (band ((xs (x4 : Int).toNat).toInt) 31) = 11 ∨ (band ((xs (x4 : Int).toNat).toInt) 31) = 12 ∨ (band ((xs (x4 : Int).toNat).toInt) 31) = 13 ∨ (band ((xs (x4 : Int).toNat).toInt) 31) = 14 ∨ (band ((xs (x4 : Int).toNat).toInt) 31) = 15 ∨ (band ((xs (x4 : Int).toNat).toInt) 31) = 16 ∨ (band ((xs (x4 : Int).toNat).toInt) 31) = 17 ∨ (band ((xs (x4 : Int).toNat).toInt) 31) = 18 ∨ (band ((xs (x4 : Int).toNat).toInt) 31) = 19 ∨ (band ((xs (x4 : Int).toNat).toInt) 31) = 20 ∨ (band ((xs (x4 : Int).toNat).toInt) 31) = 21 ∨ (band ((xs (x4 : Int).toNat).toInt) 31) = 22 ∨ (band ((xs (x4 : Int).toNat).toInt) 31) = 23 by omega) with c | c | c | c | c | c | c | c | c | c | c | c | c | c | c | c | c | c | c | c | c | c | c | c | c
    · have P := P.1 c
      refine ok_tableOut (pc := 39) (tgt := 1415) hc dL_law_39 (by rw [i3_toInt r3]; exact c) (by decide) ?_
      exact P
    · have P := P.2.1 c
      refine ok_tableIn (pc := 39) (off := 109) (tgt := 148) hc dL_law_39 (by rw [i3_toInt r3, c]; decide) (by rw [i3_toInt r3, c]; decide) (by rw [i3_toInt r3, c]; rfl) (by decide) ?_
      exact P
    · have P := P.2.2.1 c
      refine ok_tableIn (pc := 39) (off := 122) (tgt := 161) hc dL_law_39 (by rw [i3_toInt r3, c]; decide) (by rw [i3_toInt r3, c]; decide) (by rw [i3_toInt r3, c]; rfl) (by decide) ?_
      exact P
    · have P := P.2.2.2.1 c
      refine ok_tableIn (pc := 39) (off := 166) (tgt := 205) hc dL_law_39 (by rw [i3_toInt r3, c]; decide) (by rw [i3_toInt r3, c]; decide) (by rw [i3_toInt r3, c]; rfl) (by decide) ?_
      exact P
    · have P := P.2.2.2.2.1 c
      refine ok_tableIn (pc := 39) (off := 234) (tgt := 273) hc dL_law_39 (by rw [i3_toInt r3, c]; decide) (by rw [i3_toInt r3, c]; decide) (by rw [i3_toInt r3, c]; rfl) (by decide) ?_
      exact P
    · have P := P.2.2.2.2.2.1 c
      refine ok_tableIn (pc := 39) (off := 290) (tgt := 329) hc dL_law_39 (by rw [i3_toInt r3, c]; decide) (by rw [i3_toInt r3, c]; decide) (by rw [i3_toInt r3, c]; rfl) (by decide) ?_
      exact P
    · have P := P.2.2.2.2.2.2.1 c
      refine ok_tableIn (pc := 39) (off := 346) (tgt := 385) hc dL_law_39 (by rw [i3_toInt r3, c]; decide) (by rw [i3_toInt r3, c]; decide) (by rw [i3_toInt r3, c]; rfl) (by decide) ?_
      exact P
    · have P := P.2.2.2.2.2.2.2.1 c
      refine ok_tableIn (pc := 39) (off := 414) (tgt := 453) hc dL_law_39 (by rw [i3_toInt r3, c]; decide) (by rw [i3_toInt r3, c]; decide) (by rw [i3_toInt r3, c]; rfl) (by decide) ?_
      exact P
    · have P := P.2.2.2.2.2.2.2.2.1 c
      refine ok_tableIn (pc := 39) (off := 458) (tgt := 497) hc dL_law_39 (by rw [i3_toInt r3, c]; decide) (by rw [i3_toInt r3, c]; decide) (by rw [i3_toInt r3, c]; rfl) (by decide) ?_
      exact P
    · have P := P.2.2.2.2.2.2.2.2.2.1 c
      refine ok_tableIn (pc := 39) (off := 514) (tgt := 553) hc dL_law_39 (by rw [i3_toInt r3, c]; decide) (by rw [i3_toInt r3, c]; decide) (by rw [i3_toInt r3, c]; rfl) (by decide) ?_
      exact P
    · have P := P.2.2.2.2.2.2.2.2.2.2.1 c
      refine ok_tableIn (pc := 39) (off := 570) (tgt := 609) hc dL_law_39 (by rw [i3_toInt r3, c]; decide) (by rw [i3_toInt r3, c]; decide) (by rw [i3_toInt r3, c]; rfl) (by decide) ?_
      exact P
    · have P := P.2.2.2.2.2.2.2.2.2.2.2.1 c
      refine ok_tableIn (pc := 39) (off := 626) (tgt := 665) hc dL_law_39 (by rw [i3_toInt r3, c]; decide) (by rw [i3_toInt r3, c]; decide) (by rw [i3_toInt r3, c]; rfl) (by decide) ?_
      exact P
    · have P := P.2.2.2.2.2.2.2.2.2.2.2.2.1 c
      refine ok_tableIn (pc := 39) (off := 639) (tgt := 678) hc dL_law_39 (by rw [i3_toInt r3, c]; decide) (by rw [i3_toInt r3, c]; decide) (by rw [i3_toInt r3, c]; rfl) (by decide) ?_
      exact P
    · have P := P.2.2.2.2.2.2.2.2.2.2.2.2.2.1 c
      refine ok_tableIn (pc := 39) (off := 652) (tgt := 691) hc dL_law_39 (by rw [i3_toInt r3, c]; decide) (by rw [i3_toInt r3, c]; decide) (by rw [i3_toInt r3, c]; rfl) (by decide) ?_
      exact P
    · have P := P.2.2.2.2.2.2.2.2.2.2.2.2.2.2.1 c
      refine ok_tableIn (pc := 39) (off := 719) (tgt := 758) hc dL_law_39 (by rw [i3_toInt r3, c]; decide) (by rw [i3_toInt r3, c]; decide) (by rw [i3_toInt r3, c]; rfl) (by decide) ?_
      exact P
    · have P := P.2.2.2.2.2.2.2.2.2.2.2.2.2.2.2.1 c
      refine ok_tableIn (pc := 39) (off := 786) (tgt := 825) hc dL_law_39 (by rw [i3_toInt r3, c]; decide) (by rw [i3_toInt r3, c]; decide) (by rw [i3_toInt r3, c]; rfl) (by decide) ?_
      exact P
    · have P := P.2.2.2.2.2.2.2.2.2.2.2.2.2.2.2.2.1 c
      refine ok_tableIn (pc := 39) (off := 854) (tgt := 893) hc dL_law_39 (by rw [i3_toInt r3, c]; decide) (by rw [i3_toInt r3, c]; decide) (by rw [i3_toInt r3, c]; rfl) (by decide) ?_
      exact P
    · have P := P.2.2.2.2.2.2.2.2.2.2.2.2.2.2.2.2.2.1 c
      refine ok_tableIn (pc := 39) (off := 910) (tgt := 949) hc dL_law_39 (by rw [i3_toInt r3, c]; decide) (by rw [i3_toInt r3, c]; decide) (by rw [i3_toInt r3, c]; rfl) (by decide) ?_
      exact P
    · have P := P.2.2.2.2.2.2.2.2.2.2.2.2.2.2.2.2.2.2.1 c
      refine ok_tableIn (pc := 39) (off := 966) (tgt := 1005) hc dL_law_39 (by rw [i3_toInt r3, c]; decide) (by rw [i3_toInt r3, c]; decide) (by rw [i3_toInt r3, c]; rfl) (by decide) ?_
      exact P
    · have P := P.2.2.2.2.2.2.2.2.2.2.2.2.2.2.2.2.2.2.2.1 c
      refine ok_tableIn (pc := 39) (off := 1045) (tgt := 1084) hc dL_law_39 (by rw [i3_toInt r3, c]; decide) (by rw [i3_toInt r3, c]; decide) (by rw [i3_toInt r3, c]; rfl) (by decide) ?_
      exact P
    · have P := P.2.2.2.2.2.2.2.2.2.2.2.2.2.2.2.2.2.2.2.2.1 c
      refine ok_tableIn (pc := 39) (off := 1129) (tgt := 1168) hc dL_law_39 (by rw [i3_toInt r3, c]; decide) (by rw [i3_toInt r3, c]; decide) (by rw [i3_toInt r3, c]; rfl) (by decide) ?_
      exact P
    · have P := P.2.2.2.2.2.2.2.2.2.2.2.2.2.2.2.2.2.2.2.2.2.1 c
      refine ok_tableIn (pc := 39) (off := 1197) (tgt := 1236) hc dL_law_39 (by rw [i3_toInt r3, c]; decide) (by rw [i3_toInt r3, c]; decide) (by rw [i3_toInt r3, c]; rfl) (by decide) ?_
      exact P
    · have P := P.2.2.2.2.2.2.2.2.2.2.2.2.2.2.2.2.2.2.2.2.2.2.1 c
      refine ok_tableIn (pc := 39) (off := 1265) (tgt := 1304) hc dL_law_39 (by rw [i3_toInt r3, c]; decide) (by rw [i3_toInt r3, c]; decide) (by rw [i3_toInt r3, c]; rfl) (by decide) ?_
      exact P
    · have P := P.2.2.2.2.2.2.2.2.2.2.2.2.2.2.2.2.2.2.2.2.2.2.2.1 c
      refine ok_tableIn (pc := 39) (off := 1321) (tgt := 1360) hc dL_law_39 (by rw [i3_toInt r3, c]; decide) (by rw [i3_toInt r3, c]; decide) (by rw [i3_toInt r3, c]; rfl) (by decide) ?_
      exact P
    · have P := P.2.2.2.2.2.2.2.2.2.2.2.2.2.2.2.2.2.2.2.2.2.2.2.2 c
      refine ok_tableIn (pc := 39) (off := 1362) (tgt := 1401) hc dL_law_39 (by rw [i3_toInt r3, c]; decide) (by rw [i3_toInt r3, c]; decide) (by rw [i3_toInt r3, c]; rfl) (by decide) ?_
      exact P
set_option maxHeartbeats 4000000 in
set_option maxRecDepth 100000 in
theorem sL_law_1415 {X : Xt} {n : Nat} {h : HP} {a1 : Nat} {a2 : Nat} {a3 : Nat} {x4 : Int} {bb : Nat} {sb9 : Nat} (hc : Cx X cL_law RL 9 13 302) {L9 : Nat} {xs : Nat → Int32} (hX : ScX X L9 xs) (hL : CxL X) 
    (P : Ok X bb sb9 23 [(0, .ref (SA + 1)), (1, .ref a1), (2, .ref a2), (3, .ref a3), (4, .int (i3 (x4 + 4)))] [] n h) :
    Ok X bb sb9 1415 [(0, .ref (SA + 1)), (1, .ref a1), (2, .ref a2), (3, .ref a3), (4, .int (i3 x4))] [] n h := by
  refine zk_iinc (pc := 1415) hc (q := 4) (x := x4) (lv' := [(4, .int (i3 (x4 + 4))), (0, .ref (SA + 1)), (1, .ref a1), (2, .ref a2), (3, .ref a3)]) dL_law_1415 rfl (by decide) rfl ?_
  refine ok_goto (pc := 1418) (tgt := 23) hc dL_law_1418 (by decide) ?_
  refine ok_lv [1, 2, 3, 4, 0] rfl ?_
  exact P
set_option maxHeartbeats 4000000 in
set_option maxRecDepth 100000 in
theorem sL_law_1421 {X : Xt} {n : Nat} {h : HP} {a1 : Nat} {a2 : Nat} {a3 : Nat} {x4 : Int} {bb : Nat} {sb9 : Nat} (hc : Cx X cL_law RL 9 13 302) {L9 : Nat} {xs : Nat → Int32} (hX : ScX X L9 xs) (hL : CxL X) 
    (P : 1 = (1 : Int)) :
    Ok X bb sb9 1421 [(0, .ref (SA + 1)), (1, .ref a1), (2, .ref a2), (3, .ref a3), (4, .int (i3 x4))] [] n h := by
  refine ok_iconst (pc := 1421) hc (v := i3 1) dL_law_1421 (by decide) ?_
  exact ok_retL hc hL dL_law_1422 P
theorem lw_loop {X : Xt} {L9 : Nat} {xs : Nat → Int32} (hc : Cx X cL_law RL 9 13 302) (hX : ScX X L9 xs) (hL : CxL X) (hL9 : L9 ≤ 2048) : ∀ (f i : Nat) (h : HP) (q : Dsk), L9 ≤ i + 4 * f + 3 → i ≤ 2048 → LwI h q → Ok X (221 * f) (1326 * f) 23 [(0, .ref (SA + 1)), (1, .ref 0), (2, .ref 128), (3, .ref 139), (4, .int (i3 i))] [] 140 h := by
  intro f
  induction f with
  | zero =>
    intro i h q hi hi2 I
    exact sL_law_23 hc hX hL ⟨R3_s (by omega), R3_s (by omega), fun _ => sL_law_1421 hc hX hL rfl, fun z => absurd (by omega) z⟩
  | succ f ih =>
    intro i h q hi hi2 I
    refine sL_law_23 hc hX hL ⟨R3_s (by omega), R3_s (by omega), fun _ => sL_law_1421 hc hX hL rfl, fun z => ?_⟩
    have k : ∀ (h' : HP) (q' : Dsk), LwI h' q' → Ok X (221 * f) (1326 * f) 1415 [(0, .ref (SA + 1)), (1, .ref 0), (2, .ref 128), (3, .ref 139), (4, .int (i3 i))] [] 140 h' := fun h' q' I' => sL_law_1415 hc hX hL (ih (i + 4) h' q' (by omega) (by omega) I')
    exact ⟨⟨by omega, by omega, by omega⟩, R3_T _, fun _ => (k h q I).up (by omega) (by omega), fun _ => (lw_begin (bb := 221 * f) (sb9 := 1326 * f) hc hX hL hL9 (by omega) I k).up (by omega) (by omega), fun _ => (lw_load (bb := 221 * f) (sb9 := 1326 * f) hc hX hL hL9 (by omega) I k).up (by omega) (by omega), fun _ => (lw_setValue (bb := 221 * f) (sb9 := 1326 * f) hc hX hL hL9 (by omega) I k).up (by omega) (by omega), fun _ => (lw_setRail (bb := 221 * f) (sb9 := 1326 * f) hc hX hL hL9 (by omega) I k).up (by omega) (by omega), fun _ => (lw_drop (bb := 221 * f) (sb9 := 1326 * f) hc hX hL hL9 (by omega) I k).up (by omega) (by omega), fun _ => (lw_sweep (bb := 221 * f) (sb9 := 1326 * f) hc hX hL hL9 (by omega) I k).up (by omega) (by omega), fun _ => (lw_undo (bb := 221 * f) (sb9 := 1326 * f) hc hX hL hL9 (by omega) I k).up (by omega) (by omega), fun _ => (lw_keep (bb := 221 * f) (sb9 := 1326 * f) hc hX hL hL9 (by omega) I k).up (by omega) (by omega), fun _ => (lw_back (bb := 221 * f) (sb9 := 1326 * f) hc hX hL hL9 (by omega) I k).up (by omega) (by omega), fun _ => (lw_append (bb := 221 * f) (sb9 := 1326 * f) hc hX hL hL9 (by omega) I k).up (by omega) (by omega), fun _ => (lw_clearInput (bb := 221 * f) (sb9 := 1326 * f) hc hX hL hL9 (by omega) I k).up (by omega) (by omega), fun _ => (lw_firstError (bb := 221 * f) (sb9 := 1326 * f) hc hX hL hL9 (by omega) I k).up (by omega) (by omega), fun _ => (lw_voltage (bb := 221 * f) (sb9 := 1326 * f) hc hX hL hL9 (by omega) I k).up (by omega) (by omega), fun _ => (lw_current (bb := 221 * f) (sb9 := 1326 * f) hc hX hL hL9 (by omega) I k).up (by omega) (by omega), fun _ => (lw_amplifier (bb := 221 * f) (sb9 := 1326 * f) hc hX hL hL9 (by omega) I k).up (by omega) (by omega), fun _ => (lw_why (bb := 221 * f) (sb9 := 1326 * f) hc hX hL hL9 (by omega) I k).up (by omega) (by omega), fun _ => (lw_concerned (bb := 221 * f) (sb9 := 1326 * f) hc hX hL hL9 (by omega) I k).up (by omega) (by omega), fun _ => (lw_inCase (bb := 221 * f) (sb9 := 1326 * f) hc hX hL hL9 (by omega) I k).up (by omega) (by omega), fun _ => (lw_trip (bb := 221 * f) (sb9 := 1326 * f) hc hX hL hL9 (by omega) I k).up (by omega) (by omega), fun _ => (lw_ifValue (bb := 221 * f) (sb9 := 1326 * f) hc hX hL hL9 (by omega) I k).up (by omega) (by omega), fun _ => (lw_part (bb := 221 * f) (sb9 := 1326 * f) hc hX hL hL9 (by omega) I k).up (by omega) (by omega), fun _ => (lw_count (bb := 221 * f) (sb9 := 1326 * f) hc hX hL hL9 (by omega) I k).up (by omega) (by omega), fun _ => (lw_meanVoltage (bb := 221 * f) (sb9 := 1326 * f) hc hX hL hL9 (by omega) I k).up (by omega) (by omega), fun _ => (lw_digest (bb := 221 * f) (sb9 := 1326 * f) hc hX hL hL9 (by omega) I k).up (by omega) (by omega)⟩
