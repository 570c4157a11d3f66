/-! part a35: the law's act: sweeps, drops -/
set_option maxHeartbeats 4000000 in
set_option maxRecDepth 100000 in
theorem sL_act_298 {X : Xt} {n : Nat} {h : HP} {a0 : Nat} {x1 : Int} {x2 : Int} {x3 : Int} {a4 : Nat} {a5 : Nat} {a6 : Nat} {a7 : Nat} {x8 : Int} {x9 : Int} {x10 : Int} {x11 : Int} {x12 : Int} {bb : Nat} {sb9 : Nat} {f1 : Nat → Int} (hc : Cx X cL_act RL 13 9 194) {K : KT} (hr : CxR X (some .boolean) K) (e1 : At h n a5 (ai 48 f1))
    (P : (Ix ((4 * x8) + 3) 48) ∧ (R3 (f1 (((4 * x8) + 3) : Int).toNat)) ∧ (R3 x11) ∧ ((f1 (((4 * x8) + 3) : Int).toNat) = x11 → Ok X bb sb9 362 [(0, .ref a0), (1, .int (i3 x1)), (2, .int (i3 x2)), (3, .int (i3 x3)), (4, .ref a4), (5, .ref a5), (6, .ref a6), (7, .ref a7), (8, .int (i3 x8)), (9, .int (i3 x9)), (10, .int (i3 x10)), (11, .int (i3 x11)), (12, .int (i3 x12))] [] n h) ∧ (¬ (f1 (((4 * x8) + 3) : Int).toNat) = x11 → Ok X bb sb9 312 [(0, .ref a0), (1, .int (i3 x1)), (2, .int (i3 x2)), (3, .int (i3 x3)), (4, .ref a4), (5, .ref a5), (6, .ref a6), (7, .ref a7), (8, .int (i3 x8)), (9, .int (i3 x9)), (10, .int (i3 x10)), (11, .int (i3 x11)), (12, .int (i3 x12))] [] n h)) :
    Ok X bb sb9 298 [(0, .ref a0), (1, .int (i3 x1)), (2, .int (i3 x2)), (3, .int (i3 x3)), (4, .ref a4), (5, .ref a5), (6, .ref a6), (7, .ref a7), (8, .int (i3 x8)), (9, .int (i3 x9)), (10, .int (i3 x10)), (11, .int (i3 x11)), (12, .int (i3 x12))] [] n h := by
  refine ok_aload (pc := 298) hc dL_act_298 5 rfl ?_
  refine ok_iconst (pc := 300) hc (v := i3 4) dL_act_300 (by decide) ?_
  refine ok_iload (pc := 301) hc dL_act_301 8 rfl ?_
  refine zk_imul (pc := 303) hc dL_act_303 ?_
  refine ok_iconst (pc := 304) hc (v := i3 3) dL_act_304 (by decide) ?_
  refine zk_iadd (pc := 305) hc dL_act_305 ?_
  obtain ⟨r, P⟩ := P
  refine zk_iald (pc := 306) hc dL_act_306 e1.1 e1.2 r ?_
  refine ok_iload (pc := 307) hc dL_act_307 11 rfl ?_
  obtain ⟨r2, P⟩ := P
  obtain ⟨r3, P⟩ := P
  refine zk_icmp_eq (pc := 309) (tgt := 362) hc dL_act_309 (by decide) r2 r3 (fun c => ?_) (fun c => ?_)
  · have P := P.1 c
    exact P
  · have P := P.2 c
    exact P

set_option maxHeartbeats 4000000 in
set_option maxRecDepth 100000 in
theorem sL_act_312 {X : Xt} {n : Nat} {h : HP} {a0 : Nat} {x1 : Int} {x2 : Int} {x3 : Int} {a4 : Nat} {a5 : Nat} {a6 : Nat} {a7 : Nat} {x8 : Int} {x9 : Int} {x10 : Int} {x11 : Int} {x12 : Int} {bb : Nat} {sb9 : Nat} {f1 : Nat → Int} (hc : Cx X cL_act RL 13 9 194) {K : KT} (hr : CxR X (some .boolean) K) (e1 : At h n a5 (ai 48 f1))
    (P : (Ix ((4 * x8) + 3) 48) ∧ (Ix ((4 * x8) + 3) 48) ∧ (R3 (f1 (((4 * x8) + 3) : Int).toNat)) ∧ (R3 x11) ∧ (x11 ≤ (f1 (((4 * x8) + 3) : Int).toNat) → (Ix ((4 * x8) + 3) 48) ∧ spec_L_settle [.ref a4, .ref a5, .ref a6, .ref a7] n (va_up h a5 (ai 48 (va_up f1 (((4 * x8) + 3) : Int).toNat ((f1 (((4 * x8) + 3) : Int).toNat) + (-1))))) (kc X bb sb9 353 [(0, .ref a0), (1, .int (i3 x1)), (2, .int (i3 x2)), (3, .int (i3 x3)), (4, .ref a4), (5, .ref a5), (6, .ref a6), (7, .ref a7), (8, .int (i3 x8)), (9, .int (i3 x9)), (10, .int (i3 x10)), (11, .int (i3 x11)), (12, .int (i3 x12))] [.int (i3 x12)] n)) ∧ (¬ x11 ≤ (f1 (((4 * x8) + 3) : Int).toNat) → (Ix ((4 * x8) + 3) 48) ∧ spec_L_settle [.ref a4, .ref a5, .ref a6, .ref a7] n (va_up h a5 (ai 48 (va_up f1 (((4 * x8) + 3) : Int).toNat ((f1 (((4 * x8) + 3) : Int).toNat) + 1)))) (kc X bb sb9 353 [(0, .ref a0), (1, .int (i3 x1)), (2, .int (i3 x2)), (3, .int (i3 x3)), (4, .ref a4), (5, .ref a5), (6, .ref a6), (7, .ref a7), (8, .int (i3 x8)), (9, .int (i3 x9)), (10, .int (i3 x10)), (11, .int (i3 x11)), (12, .int (i3 x12))] [.int (i3 x12)] n))) :
    Ok X bb sb9 312 [(0, .ref a0), (1, .int (i3 x1)), (2, .int (i3 x2)), (3, .int (i3 x3)), (4, .ref a4), (5, .ref a5), (6, .ref a6), (7, .ref a7), (8, .int (i3 x8)), (9, .int (i3 x9)), (10, .int (i3 x10)), (11, .int (i3 x11)), (12, .int (i3 x12))] [] n h := by
  refine ok_aload (pc := 312) hc dL_act_312 5 rfl ?_
  refine ok_iconst (pc := 314) hc (v := i3 4) dL_act_314 (by decide) ?_
  refine ok_iload (pc := 315) hc dL_act_315 8 rfl ?_
  refine zk_imul (pc := 317) hc dL_act_317 ?_
  refine ok_iconst (pc := 318) hc (v := i3 3) dL_act_318 (by decide) ?_
  refine zk_iadd (pc := 319) hc dL_act_319 ?_
  refine ok_dup2_11 (pc := 320) hc dL_act_320 rfl rfl ?_
  obtain ⟨r, P⟩ := P
  refine zk_iald (pc := 321) hc dL_act_321 e1.1 e1.2 r ?_
  refine ok_aload (pc := 322) hc dL_act_322 5 rfl ?_
  refine ok_iconst (pc := 324) hc (v := i3 4) dL_act_324 (by decide) ?_
  refine ok_iload (pc := 325) hc dL_act_325 8 rfl ?_
  refine zk_imul (pc := 327) hc dL_act_327 ?_
  refine ok_iconst (pc := 328) hc (v := i3 3) dL_act_328 (by decide) ?_
  refine zk_iadd (pc := 329) hc dL_act_329 ?_
  obtain ⟨r, P⟩ := P
  refine zk_iald (pc := 330) hc dL_act_330 e1.1 e1.2 r ?_
  refine ok_iload (pc := 331) hc dL_act_331 11 rfl ?_
  obtain ⟨r2, P⟩ := P
  obtain ⟨r3, P⟩ := P
  refine zk_icmp_ge (pc := 333) (tgt := 340) hc dL_act_333 (by decide) r2 r3 (fun c => ?_) (fun c => ?_)
  · have P := P.1 c
    refine ok_iconst (pc := 340) hc (v := i3 (-1)) dL_act_340 (by decide) ?_
    refine zk_iadd (pc := 341) hc dL_act_341 ?_
    obtain ⟨r, P⟩ := P
    refine zk_iast (pc := 342) hc dL_act_342 e1.1 e1.2 r ?_
    refine ok_iload (pc := 343) hc dL_act_343 12 rfl ?_
    refine ok_aload (pc := 345) hc dL_act_345 4 rfl ?_
    refine ok_aload (pc := 347) hc dL_act_347 5 rfl ?_
    refine ok_aload (pc := 349) hc dL_act_349 6 rfl ?_
    refine ok_aload (pc := 351) hc dL_act_351 7 rfl ?_
    exact ok_callS (pc := 353) (cb := bb) (sb := sb9) (st := [.int (i3 x12)]) hc [.ref a4, .ref a5, .ref a6, .ref a7] cs_L_105 sp_L_settle (by decide) dL_act_353 rfl rfl rfl rfl (Nat.le_of_ble_eq_true rfl) P
  · have P := P.2 c
    refine ok_iconst (pc := 336) hc (v := i3 1) dL_act_336 (by decide) ?_
    refine ok_goto (pc := 337) (tgt := 341) hc dL_act_337 (by decide) ?_
    refine zk_iadd (pc := 341) hc dL_act_341 ?_
    obtain ⟨r, P⟩ := P
    refine zk_iast (pc := 342) hc dL_act_342 e1.1 e1.2 r ?_
    refine ok_iload (pc := 343) hc dL_act_343 12 rfl ?_
    refine ok_aload (pc := 345) hc dL_act_345 4 rfl ?_
    refine ok_aload (pc := 347) hc dL_act_347 5 rfl ?_
    refine ok_aload (pc := 349) hc dL_act_349 6 rfl ?_
    refine ok_aload (pc := 351) hc dL_act_351 7 rfl ?_
    exact ok_callS (pc := 353) (cb := bb) (sb := sb9) (st := [.int (i3 x12)]) hc [.ref a4, .ref a5, .ref a6, .ref a7] cs_L_105 sp_L_settle (by decide) dL_act_353 rfl rfl rfl rfl (Nat.le_of_ble_eq_true rfl) P

set_option maxHeartbeats 4000000 in
set_option maxRecDepth 100000 in
theorem sL_act_356 {X : Xt} {n : Nat} {h : HP} {a0 : Nat} {x1 : Int} {x2 : Int} {x3 : Int} {a4 : Nat} {a5 : Nat} {a6 : Nat} {a7 : Nat} {x8 : Int} {x9 : Int} {x10 : Int} {x11 : Int} {x12 : Int} {t0 : Int} {t1 : Int} {bb : Nat} {sb9 : Nat} (hc : Cx X cL_act RL 13 9 194) {K : KT} (hr : CxR X (some .boolean) K) 
    (P : Ok X bb sb9 298 [(0, .ref a0), (1, .int (i3 x1)), (2, .int (i3 x2)), (3, .int (i3 x3)), (4, .ref a4), (5, .ref a5), (6, .ref a6), (7, .ref a7), (8, .int (i3 x8)), (9, .int (i3 x9)), (10, .int (i3 x10)), (11, .int (i3 x11)), (12, .int (i3 (t1 + t0)))] [] n h) :
    Ok X bb sb9 356 [(0, .ref a0), (1, .int (i3 x1)), (2, .int (i3 x2)), (3, .int (i3 x3)), (4, .ref a4), (5, .ref a5), (6, .ref a6), (7, .ref a7), (8, .int (i3 x8)), (9, .int (i3 x9)), (10, .int (i3 x10)), (11, .int (i3 x11)), (12, .int (i3 x12))] [.int (i3 t0), .int (i3 t1)] n h := by
  refine zk_iadd (pc := 356) hc dL_act_356 ?_
  refine ok_istore (pc := 357) hc (lv' := [(12, .int (i3 (t1 + t0))), (0, .ref a0), (1, .int (i3 x1)), (2, .int (i3 x2)), (3, .int (i3 x3)), (4, .ref a4), (5, .ref a5), (6, .ref a6), (7, .ref a7), (8, .int (i3 x8)), (9, .int (i3 x9)), (10, .int (i3 x10)), (11, .int (i3 x11))]) dL_act_357 (by decide) rfl ?_
  refine ok_goto (pc := 359) (tgt := 298) hc dL_act_359 (by decide) ?_
  refine ok_lv [1, 2, 3, 4, 5, 6, 7, 8, 9, 10, 11, 12, 0] rfl ?_
  exact P

set_option maxHeartbeats 4000000 in
set_option maxRecDepth 100000 in
theorem sL_act_455 {X : Xt} {n : Nat} {h : HP} {a0 : Nat} {x1 : Int} {x2 : Int} {x3 : Int} {a4 : Nat} {a5 : Nat} {a6 : Nat} {a7 : Nat} {x8 : Int} {x9 : Int} {x10 : Int} {bb : Nat} {sb9 : Nat} {f1 : Nat → Int} (hc : Cx X cL_act RL 13 9 194) {K : KT} (hr : CxR X (some .boolean) K) (e1 : At h n a4 (ai 4 f1))
    (P : (Ix 0 4) ∧ (R3 x10) ∧ (R3 (4 * (f1 (0 : Int).toNat))) ∧ ((4 * (f1 (0 : Int).toNat)) ≤ x10 → Ok X bb sb9 484 [(0, .ref a0), (1, .int (i3 x1)), (2, .int (i3 x2)), (3, .int (i3 x3)), (4, .ref a4), (5, .ref a5), (6, .ref a6), (7, .ref a7), (8, .int (i3 x8)), (9, .int (i3 x9)), (10, .int (i3 x10))] [] n h) ∧ (¬ (4 * (f1 (0 : Int).toNat)) ≤ x10 → Ok X bb sb9 466 [(0, .ref a0), (1, .int (i3 x1)), (2, .int (i3 x2)), (3, .int (i3 x3)), (4, .ref a4), (5, .ref a5), (6, .ref a6), (7, .ref a7), (8, .int (i3 x8)), (9, .int (i3 x9)), (10, .int (i3 x10))] [] n h)) :
    Ok X bb sb9 455 [(0, .ref a0), (1, .int (i3 x1)), (2, .int (i3 x2)), (3, .int (i3 x3)), (4, .ref a4), (5, .ref a5), (6, .ref a6), (7, .ref a7), (8, .int (i3 x8)), (9, .int (i3 x9)), (10, .int (i3 x10))] [] n h := by
  refine ok_iload (pc := 455) hc dL_act_455 10 rfl ?_
  refine ok_iconst (pc := 457) hc (v := i3 4) dL_act_457 (by decide) ?_
  refine ok_aload (pc := 458) hc dL_act_458 4 rfl ?_
  refine ok_iconst (pc := 460) hc (v := i3 0) dL_act_460 (by decide) ?_
  obtain ⟨r, P⟩ := P
  refine zk_iald (pc := 461) hc dL_act_461 e1.1 e1.2 r ?_
  refine zk_imul (pc := 462) hc dL_act_462 ?_
  obtain ⟨r2, P⟩ := P
  obtain ⟨r3, P⟩ := P
  refine zk_icmp_ge (pc := 463) (tgt := 484) hc dL_act_463 (by decide) r2 r3 (fun c => ?_) (fun c => ?_)
  · have P := P.1 c
    exact P
  · have P := P.2 c
    exact P

set_option maxHeartbeats 4000000 in
set_option maxRecDepth 100000 in
theorem sL_act_466 {X : Xt} {n : Nat} {h : HP} {a0 : Nat} {x1 : Int} {x2 : Int} {x3 : Int} {a4 : Nat} {a5 : Nat} {a6 : Nat} {a7 : Nat} {x8 : Int} {x9 : Int} {x10 : Int} {bb : Nat} {sb9 : Nat} {f1 : Nat → Int} (hc : Cx X cL_act RL 13 9 194) {K : KT} (hr : CxR X (some .boolean) K) (e1 : At h n a5 (ai 48 f1))
    (P : (Ix (x10 + 4) 48) ∧ (Ix x10 48) ∧ Ok X bb sb9 455 [(0, .ref a0), (1, .int (i3 x1)), (2, .int (i3 x2)), (3, .int (i3 x3)), (4, .ref a4), (5, .ref a5), (6, .ref a6), (7, .ref a7), (8, .int (i3 x8)), (9, .int (i3 x9)), (10, .int (i3 (x10 + 1)))] [] n (va_up h a5 (ai 48 (va_up f1 (x10 : Int).toNat (f1 ((x10 + 4) : Int).toNat))))) :
    Ok X bb sb9 466 [(0, .ref a0), (1, .int (i3 x1)), (2, .int (i3 x2)), (3, .int (i3 x3)), (4, .ref a4), (5, .ref a5), (6, .ref a6), (7, .ref a7), (8, .int (i3 x8)), (9, .int (i3 x9)), (10, .int (i3 x10))] [] n h := by
  refine ok_aload (pc := 466) hc dL_act_466 5 rfl ?_
  refine ok_iload (pc := 468) hc dL_act_468 10 rfl ?_
  refine ok_aload (pc := 470) hc dL_act_470 5 rfl ?_
  refine ok_iload (pc := 472) hc dL_act_472 10 rfl ?_
  refine ok_iconst (pc := 474) hc (v := i3 4) dL_act_474 (by decide) ?_
  refine zk_iadd (pc := 475) hc dL_act_475 ?_
  obtain ⟨r, P⟩ := P
  refine zk_iald (pc := 476) hc dL_act_476 e1.1 e1.2 r ?_
  obtain ⟨r, P⟩ := P
  refine zk_iast (pc := 477) hc dL_act_477 e1.1 e1.2 r ?_
  refine zk_iinc (pc := 478) hc (q := 10) (x := x10) (lv' := [(10, .int (i3 (x10 + 1))), (0, .ref a0), (1, .int (i3 x1)), (2, .int (i3 x2)), (3, .int (i3 x3)), (4, .ref a4), (5, .ref a5), (6, .ref a6), (7, .ref a7), (8, .int (i3 x8)), (9, .int (i3 x9))]) dL_act_478 rfl (by decide) rfl ?_
  refine ok_goto (pc := 481) (tgt := 455) hc dL_act_481 (by decide) ?_
  refine ok_lv [1, 2, 3, 4, 5, 6, 7, 8, 9, 10, 0] rfl ?_
  exact P

set_option maxHeartbeats 8000000 in
theorem act_sw {X : Xt} {n d a e f i : Nat} {h : HP} {q : Dsk} {x1 x2 x3 x9 x10 v dd : Int} {R : Stt × Int} {bb sb9 : Nat} (hc : Cx X cL_act RL 13 9 194) {K : KT} (hr : CxR X (some .boolean) K) (D : D4 d a e f) (hdd : dd = 1 ∨ dd = -1) (hv : -200 ≤ v ∧ v ≤ 200)
    (k : ∀ hh Fd F, V4 h n d a e f q Fd F hh → DFS Fd R.1 → PaF F R.1.1 → GdS R.1 → setS R.1 = R.1 → R3 R.2 → Ok X bb sb9 362 [(0, .ref 0), (1, .int (i3 x1)), (2, .int (i3 x2)), (3, .int (i3 x3)), (4, .ref d), (5, .ref a), (6, .ref e), (7, .ref f), (8, .int (i3 (i : Int))), (9, .int (i3 x9)), (10, .int (i3 x10)), (11, .int (i3 v)), (12, .int (i3 R.2))] [] n hh) :
    ∀ (j : Nat) (S : Stt) (p : Part) (hh : HP) (Fd F : Nat → Int) (many : Int), v = p.2.2.2 + dd * (j : Nat) → V4 h n d a e f q Fd F hh → DFS Fd S → PaF F S.1 → GdS S → setS S = S → S.1[i]? = some p → p.1 = 1 → swpL i dd j S many = R → 0 ≤ many ∧ many + j ≤ 1000 → Ok X bb sb9 298 [(0, .ref 0), (1, .int (i3 x1)), (2, .int (i3 x2)), (3, .int (i3 x3)), (4, .ref d), (5, .ref a), (6, .ref e), (7, .ref f), (8, .int (i3 (i : Int))), (9, .int (i3 x9)), (10, .int (i3 x10)), (11, .int (i3 v)), (12, .int (i3 many))] [] n hh := by
  have rv : R3 v := R3_s (by omega)
  intro j
  induction j with
  | zero =>
    intro S p hh Fd F many hj hw hDS hPS hG hfx hp h1 hR hm
    obtain ⟨g0, g1, g2, g3, hi', hl', hpw⟩ := hPS.g hp
    have hR : (S, many) = R := hR
    subst hR
    have i93 : Ix (4 * (i : Int) + 3) 48 := ⟨by omega, by omega, by omega⟩
    have e : p.2.2.2 = v := by
      have : dd * ((0 : Nat) : Int) = 0 := Int.mul_zero _
      omega
    refine sL_act_298 hc hr hw.2.2.1 ?_
    rw [g3]
    exact ⟨i93, by rw [e]; exact rv, rv, fun _ => k hh Fd F hw hDS hPS hG hfx (R3_s (by show -1000000 ≤ many ∧ many ≤ 1000000; omega)), fun z => absurd e z⟩
  | succ j ih =>
    intro S p hh Fd F many hj hw hDS hPS hG hfx hp h1 hR hm
    obtain ⟨g0, g1, g2, g3, hi', hl', hpw⟩ := hPS.g hp
    have i93 : Ix (4 * (i : Int) + 3) 48 := ⟨by omega, by omega, by omega⟩
    have hs := told_src (hG.1.2.2.1 p (List.mem_of_getElem? hp)) h1
    have hv2 : -200 ≤ p.2.2.2 + dd ∧ p.2.2.2 + dd ≤ 200 ∧ (v ≤ p.2.2.2 → dd = -1) ∧ (¬ v ≤ p.2.2.2 → dd = 1) ∧ p.2.2.2 ≠ v ∧ v = p.2.2.2 + dd + dd * (j : Nat) := by
      rcases hdd with e | e <;> subst e <;> omega
    obtain ⟨b1, b2, b3, b4, b5, b6⟩ := hv2
    have r1 : R3 (p.2.2.2 + dd) := R3_s (by omega)
    have rp : R3 p.2.2.2 := R3_s (by omega)
    have hPv := pw_src hpw h1 ⟨b1, b2⟩
    have hG2 := hG.val hp (by rw [h1]; decide) hPv
    have hP2 := hPS.set hp hPv r1
    have eA := addV_eq (d := dd) hp
    have e1 := setS_1 (S.1.set i (valP p (p.2.2.2 + dd)), S.2)
    have hR : swpL i dd j (setS (addV S.1 i dd, S.2)) (if (setS (addV S.1 i dd, S.2)).2.2.1 = S.2.2.1 then many else many + 1) = R := hR
    rw [eA] at hR
    have go : spec_L_settle [.ref d, .ref a, .ref e, .ref f] n (va_up hh a (ai 48 (va_up F (4 * (i : Int) + 3 : Int).toNat (p.2.2.2 + dd)))) (kc X bb sb9 353 [(0, .ref 0), (1, .int (i3 x1)), (2, .int (i3 x2)), (3, .int (i3 x3)), (4, .ref d), (5, .ref a), (6, .ref e), (7, .ref f), (8, .int (i3 (i : Int))), (9, .int (i3 x9)), (10, .int (i3 x10)), (11, .int (i3 v)), (12, .int (i3 many))] [.int (i3 many)] n) := by
      refine st_ok (hw.a D) D (hDS.set (List.length_set ..)) hP2 hG2 (fun h2 Fd2 hw2 hD2 => ⟨rfl, ?_⟩)
      refine sL_act_356 (t0 := if (setS (S.1.set i (valP p (p.2.2.2 + dd)), S.2)).2.2.1 = S.2.2.1 then 0 else 1) hc hr ?_
      by_cases z : (setS (S.1.set i (valP p (p.2.2.2 + dd)), S.2)).2.2.1 = S.2.2.1
      · rw [if_pos z] at hR ⊢
        have := ih _ (valP p (p.2.2.2 + dd)) h2 Fd2 _ many b6 hw2 hD2 (by rw [e1]; exact hP2) hG2.set (setS_fix hG2) (by rw [e1]; exact List.getElem?_set_self hi') h1 hR (by omega)
        rw [Int.add_zero]
        exact this
      · rw [if_neg z] at hR ⊢
        exact ih _ (valP p (p.2.2.2 + dd)) h2 Fd2 _ (many + 1) b6 hw2 hD2 (by rw [e1]; exact hP2) hG2.set (setS_fix hG2) (by rw [e1]; exact List.getElem?_set_self hi') h1 hR (by omega)
    refine sL_act_298 hc hr hw.2.2.1 ?_
    rw [g3]
    refine ⟨i93, rp, rv, fun z => absurd z b5, fun _ => ?_⟩
    refine sL_act_312 hc hr hw.2.2.1 ?_
    rw [g3]
    refine ⟨i93, i93, rp, rv, fun z => ⟨i93, ?_⟩, fun z => ⟨i93, ?_⟩⟩
    · rw [b3 z] at go
      exact go
    · rw [b4 z] at go
      exact go
theorem PaF.erase {F G : Nat → Int} {ps : List Part} {m : Nat} (h : PaF F ps) (hm : m < ps.length) (g1 : ∀ x, x < 4 * m → G x = F x) (g2 : ∀ x, 4 * m ≤ x → x < 4 * (ps.length - 1) → G x = F (x + 4)) (g3 : ∀ x, R3 (G x)) : PaF G (ps.eraseIdx m) := by
  obtain ⟨h1, h2, h3, h4⟩ := h
  have hlen : (ps.eraseIdx m).length = ps.length - 1 := List.length_eraseIdx_of_lt hm
  refine ⟨by omega, fun i p hp => ?_, fun p hp => h3 p (List.mem_of_mem_eraseIdx hp), g3⟩
  have hi := (List.getElem?_eq_some_iff.mp hp).1
  rw [hlen] at hi
  rw [List.getElem?_eraseIdx] at hp
  by_cases z : i < m
  · rw [if_pos z] at hp
    rw [g1 _ (by omega), g1 _ (by omega), g1 _ (by omega), g1 _ (by omega)]
    exact h2 i p hp
  · rw [if_neg z] at hp
    rw [g2 _ (by omega) (by omega), g2 _ (by omega) (by omega), g2 _ (by omega) (by omega), g2 _ (by omega) (by omega)]
    exact h2 (i + 1) p hp
set_option maxHeartbeats 4000000 in
theorem act_dr {X : Xt} {n d a e f m L : Nat} {h : HP} {q : Dsk} {x1 x2 x3 x9 : Int} {Fd F : Nat → Int} {bb sb9 : Nat} (hc : Cx X cL_act RL 13 9 194) {K : KT} (hr : CxR X (some .boolean) K) (D : D4 d a e f) (hL : L ≤ 11) (hm : m ≤ L) (hd : Fd 0 = L) (rF : ∀ x, R3 (F x))
    (k : ∀ hh G x10, V4 h n d a e f q Fd G hh → (∀ x, x < 4 * m → G x = F x) → (∀ x, 4 * m ≤ x → x < 4 * L → G x = F (x + 4)) → (∀ x, R3 (G x)) → Ok X bb sb9 484 [(0, .ref 0), (1, .int (i3 x1)), (2, .int (i3 x2)), (3, .int (i3 x3)), (4, .ref d), (5, .ref a), (6, .ref e), (7, .ref f), (8, .int (i3 (m : Int))), (9, .int (i3 x9)), (10, .int (i3 x10))] [] n hh) :
    ∀ (j c : Nat), c + j = 4 * L → 4 * m ≤ c → ∀ hh G, V4 h n d a e f q Fd G hh → (∀ x, x < 4 * m → G x = F x) → (∀ x, 4 * m ≤ x → x < c → G x = F (x + 4)) → (∀ x, c ≤ x → G x = F x) → Ok X bb sb9 455 [(0, .ref 0), (1, .int (i3 x1)), (2, .int (i3 x2)), (3, .int (i3 x3)), (4, .ref d), (5, .ref a), (6, .ref e), (7, .ref f), (8, .int (i3 (m : Int))), (9, .int (i3 x9)), (10, .int (i3 (c : Int)))] [] n hh := by
  have d0 : Fd (0 : Int).toNat = L := hd
  intro j
  induction j with
  | zero =>
    intro c hcL hmc hh G hw g1 g2 g3
    obtain rfl : c = 4 * L := by omega
    refine sL_act_455 hc hr hw.2.1 ?_
    rw [d0]
    refine ⟨⟨by decide, by decide, by decide⟩, R3_s (by omega), R3_s (by omega), fun _ => k hh G _ hw g1 g2 (fun x => ?_), fun z => absurd (by omega) z⟩
    by_cases z1 : x < 4 * m
    · rw [g1 x z1]; exact rF x
    · by_cases z2 : x < 4 * L
      · rw [g2 x (by omega) z2]; exact rF _
      · rw [g3 x (by omega)]; exact rF x
  | succ j ih =>
    intro c hcL hmc hh G hw g1 g2 g3
    refine sL_act_455 hc hr hw.2.1 ?_
    rw [d0]
    refine ⟨⟨by decide, by decide, by decide⟩, R3_s (by omega), R3_s (by omega), fun z => absurd z (by omega), fun _ => sL_act_466 hc hr hw.2.2.1 ⟨⟨by omega, by omega, by omega⟩, ⟨by omega, by omega, by omega⟩, ?_⟩⟩
    rw [show ((c : Int) + 4 : Int).toNat = c + 4 by omega, show (c : Int).toNat = c by omega, g3 (c + 4) (by omega)]
    refine ih (c + 1) (by omega) (by omega) _ _ (hw.a D) (fun x hx => ?_) (fun x h1 h2 => ?_) (fun x hx => ?_)
    · rw [up_ne (by omega)]
      exact g1 x hx
    · by_cases z : x = c
      · subst z
        exact up_self
      · rw [up_ne z]
        exact g2 x h1 (by omega)
    · rw [up_ne (by omega)]
      exact g3 x (by omega)
