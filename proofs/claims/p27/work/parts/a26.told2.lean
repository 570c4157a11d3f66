/-! part a26: the law's told: the parts, the present case, the nodes -/
set_option maxHeartbeats 4000000 in
set_option maxRecDepth 100000 in
theorem sL_told_249 {X : Xt} {n : Nat} {h : HP} {a0 : Nat} {x1 : Int} {a2 : Nat} {a3 : Nat} {a4 : Nat} {a5 : Nat} {x6 : Int} {x7 : Int} {x8 : Int} {x9 : Int} {x10 : Int} {x11 : Int} {x12 : Int} {bb : Nat} {sb9 : Nat} (hc : Cx X cL_told RL 18 10 182) {K : KT} (hr : CxR X (some .boolean) K) 
    (P : Ok X bb sb9 252 [(0, .ref a0), (1, .int (i3 x1)), (2, .ref a2), (3, .ref a3), (4, .ref a4), (5, .ref a5), (6, .int (i3 x6)), (7, .int (i3 x7)), (8, .int (i3 x8)), (9, .int (i3 x9)), (10, .int (i3 x10)), (11, .int (i3 x11)), (12, .int (i3 0))] [] n h) :
    Ok X bb sb9 249 [(0, .ref a0), (1, .int (i3 x1)), (2, .ref a2), (3, .ref a3), (4, .ref a4), (5, .ref a5), (6, .int (i3 x6)), (7, .int (i3 x7)), (8, .int (i3 x8)), (9, .int (i3 x9)), (10, .int (i3 x10)), (11, .int (i3 x11)), (12, .int (i3 x12))] [] n h := by
  refine ok_iconst (pc := 249) hc (v := i3 0) dL_told_249 (by decide) ?_
  refine ok_istore (pc := 250) hc (lv' := [(12, .int (i3 0)), (0, .ref a0), (1, .int (i3 x1)), (2, .ref a2), (3, .ref a3), (4, .ref a4), (5, .ref a5), (6, .int (i3 x6)), (7, .int (i3 x7)), (8, .int (i3 x8)), (9, .int (i3 x9)), (10, .int (i3 x10)), (11, .int (i3 x11))]) dL_told_250 (by decide) rfl ?_
  refine ok_lv [1, 2, 3, 4, 5, 6, 7, 8, 9, 10, 11, 12, 0] rfl ?_
  exact P

set_option maxHeartbeats 4000000 in
set_option maxRecDepth 100000 in
theorem sL_told_252 {X : Xt} {n : Nat} {h : HP} {a0 : Nat} {x1 : Int} {a2 : Nat} {a3 : Nat} {a4 : Nat} {a5 : Nat} {x6 : Int} {x7 : Int} {x8 : Int} {x9 : Int} {x10 : Int} {x11 : Int} {x12 : Int} {bb : Nat} {sb9 : Nat} {f1 : Nat → Int} (hc : Cx X cL_told RL 18 10 182) {K : KT} (hr : CxR X (some .boolean) K) (e1 : At h n a2 (ai 4 f1))
    (P : (Ix 0 4) ∧ (R3 x12) ∧ (R3 (f1 (0 : Int).toNat)) ∧ ((f1 (0 : Int).toNat) ≤ x12 → Ok X bb sb9 323 [(0, .ref a0), (1, .int (i3 x1)), (2, .ref a2), (3, .ref a3), (4, .ref a4), (5, .ref a5), (6, .int (i3 x6)), (7, .int (i3 x7)), (8, .int (i3 x8)), (9, .int (i3 x9)), (10, .int (i3 x10)), (11, .int (i3 x11)), (12, .int (i3 x12))] [] n h) ∧ (¬ (f1 (0 : Int).toNat) ≤ x12 → Ok X bb sb9 260 [(0, .ref a0), (1, .int (i3 x1)), (2, .ref a2), (3, .ref a3), (4, .ref a4), (5, .ref a5), (6, .int (i3 x6)), (7, .int (i3 x7)), (8, .int (i3 x8)), (9, .int (i3 x9)), (10, .int (i3 x10)), (11, .int (i3 x11)), (12, .int (i3 x12))] [] n h)) :
    Ok X bb sb9 252 [(0, .ref a0), (1, .int (i3 x1)), (2, .ref a2), (3, .ref a3), (4, .ref a4), (5, .ref a5), (6, .int (i3 x6)), (7, .int (i3 x7)), (8, .int (i3 x8)), (9, .int (i3 x9)), (10, .int (i3 x10)), (11, .int (i3 x11)), (12, .int (i3 x12))] [] n h := by
  refine ok_iload (pc := 252) hc dL_told_252 12 rfl ?_
  refine ok_aload_n (pc := 254) hc dL_told_254 rfl 2 rfl ?_
  refine ok_iconst (pc := 255) hc (v := i3 0) dL_told_255 (by decide) ?_
  obtain ⟨r, P⟩ := P
  refine zk_iald (pc := 256) hc dL_told_256 e1.1 e1.2 r ?_
  obtain ⟨r2, P⟩ := P
  obtain ⟨r3, P⟩ := P
  refine zk_icmp_ge (pc := 257) (tgt := 323) hc dL_told_257 (by decide) r2 r3 (fun c => ?_) (fun c => ?_)
  · have P := P.1 c
    exact P
  · have P := P.2 c
    exact P

set_option maxHeartbeats 4000000 in
set_option maxRecDepth 100000 in
theorem sL_told_260 {X : Xt} {n : Nat} {h : HP} {a0 : Nat} {x1 : Int} {a2 : Nat} {a3 : Nat} {a4 : Nat} {a5 : Nat} {x6 : Int} {x7 : Int} {x8 : Int} {x9 : Int} {x10 : Int} {x11 : Int} {x12 : Int} {bb : Nat} {sb9 : Nat} (hc : Cx X cL_told RL 18 10 182) {K : KT} (hr : CxR X (some .boolean) K) 
    (P : Ok X bb sb9 263 [(0, .ref a0), (1, .int (i3 x1)), (2, .ref a2), (3, .ref a3), (4, .ref a4), (5, .ref a5), (6, .int (i3 x6)), (7, .int (i3 x7)), (8, .int (i3 x8)), (9, .int (i3 x9)), (10, .int (i3 x10)), (11, .int (i3 x11)), (12, .int (i3 x12)), (13, .int (i3 0))] [] n h) :
    Ok X bb sb9 260 [(0, .ref a0), (1, .int (i3 x1)), (2, .ref a2), (3, .ref a3), (4, .ref a4), (5, .ref a5), (6, .int (i3 x6)), (7, .int (i3 x7)), (8, .int (i3 x8)), (9, .int (i3 x9)), (10, .int (i3 x10)), (11, .int (i3 x11)), (12, .int (i3 x12))] [] n h := by
  refine ok_iconst (pc := 260) hc (v := i3 0) dL_told_260 (by decide) ?_
  refine ok_istore (pc := 261) hc (lv' := [(13, .int (i3 0)), (0, .ref a0), (1, .int (i3 x1)), (2, .ref a2), (3, .ref a3), (4, .ref a4), (5, .ref a5), (6, .int (i3 x6)), (7, .int (i3 x7)), (8, .int (i3 x8)), (9, .int (i3 x9)), (10, .int (i3 x10)), (11, .int (i3 x11)), (12, .int (i3 x12))]) dL_told_261 (by decide) rfl ?_
  refine ok_lv [1, 2, 3, 4, 5, 6, 7, 8, 9, 10, 11, 12, 13, 0] rfl ?_
  exact P

set_option maxHeartbeats 4000000 in
set_option maxRecDepth 100000 in
theorem sL_told_263 {X : Xt} {n : Nat} {h : HP} {a0 : Nat} {x1 : Int} {a2 : Nat} {a3 : Nat} {a4 : Nat} {a5 : Nat} {x6 : Int} {x7 : Int} {x8 : Int} {x9 : Int} {x10 : Int} {x11 : Int} {x12 : Int} {x13 : Int} {bb : Nat} {sb9 : Nat} (hc : Cx X cL_told RL 18 10 182) {K : KT} (hr : CxR X (some .boolean) K) 
    (P : (R3 x13) ∧ (4 ≤ x13 → Ok X bb sb9 317 [(0, .ref a0), (1, .int (i3 x1)), (2, .ref a2), (3, .ref a3), (4, .ref a4), (5, .ref a5), (6, .int (i3 x6)), (7, .int (i3 x7)), (8, .int (i3 x8)), (9, .int (i3 x9)), (10, .int (i3 x10)), (11, .int (i3 x11)), (12, .int (i3 x12)), (13, .int (i3 x13))] [] n h) ∧ (¬ 4 ≤ x13 → Ok X bb sb9 269 [(0, .ref a0), (1, .int (i3 x1)), (2, .ref a2), (3, .ref a3), (4, .ref a4), (5, .ref a5), (6, .int (i3 x6)), (7, .int (i3 x7)), (8, .int (i3 x8)), (9, .int (i3 x9)), (10, .int (i3 x10)), (11, .int (i3 x11)), (12, .int (i3 x12)), (13, .int (i3 x13))] [] n h)) :
    Ok X bb sb9 263 [(0, .ref a0), (1, .int (i3 x1)), (2, .ref a2), (3, .ref a3), (4, .ref a4), (5, .ref a5), (6, .int (i3 x6)), (7, .int (i3 x7)), (8, .int (i3 x8)), (9, .int (i3 x9)), (10, .int (i3 x10)), (11, .int (i3 x11)), (12, .int (i3 x12)), (13, .int (i3 x13))] [] n h := by
  refine ok_iload (pc := 263) hc dL_told_263 13 rfl ?_
  refine ok_iconst (pc := 265) hc (v := i3 4) dL_told_265 (by decide) ?_
  obtain ⟨r1, P⟩ := P
  refine zk_icmp_ge (pc := 266) (tgt := 317) hc dL_told_266 (by decide) r1 ⟨by decide, by decide⟩ (fun c => ?_) (fun c => ?_)
  · have P := P.1 c
    exact P
  · have P := P.2 c
    exact P

set_option maxHeartbeats 4000000 in
set_option maxRecDepth 100000 in
theorem sL_told_269 {X : Xt} {n : Nat} {h : HP} {a0 : Nat} {x1 : Int} {a2 : Nat} {a3 : Nat} {a4 : Nat} {a5 : Nat} {x6 : Int} {x7 : Int} {x8 : Int} {x9 : Int} {x10 : Int} {x11 : Int} {x12 : Int} {x13 : Int} {bb : Nat} {sb9 : Nat} {fs1 : List Value} (hc : Cx X cL_told RL 18 10 182) {K : KT} (hr : CxR X (some .boolean) K) (e1 : At h n a0 (.inl (6, fs1))) (z1 : fs1.length = 6)
    (P : spec_X6_part [.ref a0, .int (i3 x12), .int (i3 x13)] n h (kc X bb sb9 274 [(0, .ref a0), (1, .int (i3 x1)), (2, .ref a2), (3, .ref a3), (4, .ref a4), (5, .ref a5), (6, .int (i3 x6)), (7, .int (i3 x7)), (8, .int (i3 x8)), (9, .int (i3 x9)), (10, .int (i3 x10)), (11, .int (i3 x11)), (12, .int (i3 x12)), (13, .int (i3 x13))] [] n)) :
    Ok X (bb + 2) (sb9 + 12) 269 [(0, .ref a0), (1, .int (i3 x1)), (2, .ref a2), (3, .ref a3), (4, .ref a4), (5, .ref a5), (6, .int (i3 x6)), (7, .int (i3 x7)), (8, .int (i3 x8)), (9, .int (i3 x9)), (10, .int (i3 x10)), (11, .int (i3 x11)), (12, .int (i3 x12)), (13, .int (i3 x13))] [] n h := by
  refine ok_aload_n (pc := 269) hc dL_told_269 rfl 0 rfl ?_
  refine ok_iload (pc := 270) hc dL_told_270 12 rfl ?_
  refine ok_iload (pc := 272) hc dL_told_272 13 rfl ?_
  exact ok_callV (pc := 274) (a := a0) (cb := bb) (sb := sb9) (st := []) hc [.int (i3 x12), .int (i3 x13)] cv_L_78 sp_X6_part (by decide) dL_told_274 rfl e1.1 e1.2 rfl rfl rfl (Nat.le_of_ble_eq_true rfl) P

set_option maxHeartbeats 4000000 in
set_option maxRecDepth 100000 in
theorem sL_told_277 {X : Xt} {n : Nat} {h : HP} {a0 : Nat} {x1 : Int} {a2 : Nat} {a3 : Nat} {a4 : Nat} {a5 : Nat} {x6 : Int} {x7 : Int} {x8 : Int} {x9 : Int} {x10 : Int} {x11 : Int} {x12 : Int} {x13 : Int} {t0 : Int} {bb : Nat} {sb9 : Nat} {f2 : Nat → Int} (hc : Cx X cL_told RL 18 10 182) {K : KT} (hr : CxR X (some .boolean) K) (e2 : At h n a3 (ai 48 f2))
    (P : (R3 x13) ∧ (¬ x13 = 2 → (Ix ((4 * x12) + x13) 48) ∧ (R3 t0) ∧ (R3 (f2 (((4 * x12) + x13) : Int).toNat)) ∧ (t0 = (f2 (((4 * x12) + x13) : Int).toNat) → Ok X bb sb9 263 [(0, .ref a0), (1, .int (i3 x1)), (2, .ref a2), (3, .ref a3), (4, .ref a4), (5, .ref a5), (6, .int (i3 x6)), (7, .int (i3 x7)), (8, .int (i3 x8)), (9, .int (i3 x9)), (10, .int (i3 x10)), (11, .int (i3 x11)), (12, .int (i3 x12)), (13, .int (i3 (x13 + 1)))] [] n h) ∧ (¬ t0 = (f2 (((4 * x12) + x13) : Int).toNat) → K (.inl (some (.int (i3 0)))) n h)) ∧ (x13 = 2 → (Ix (4 * x12) 48) ∧ (R3 (f2 (4 * x12 : Int).toNat)) ∧ (¬ (f2 (4 * x12 : Int).toNat) = 1 → (Ix ((4 * x12) + x13) 48) ∧ (R3 t0) ∧ (R3 (f2 (((4 * x12) + x13) : Int).toNat)) ∧ (t0 = (f2 (((4 * x12) + x13) : Int).toNat) → Ok X bb sb9 263 [(0, .ref a0), (1, .int (i3 x1)), (2, .ref a2), (3, .ref a3), (4, .ref a4), (5, .ref a5), (6, .int (i3 x6)), (7, .int (i3 x7)), (8, .int (i3 x8)), (9, .int (i3 x9)), (10, .int (i3 x10)), (11, .int (i3 x11)), (12, .int (i3 x12)), (13, .int (i3 (x13 + 1)))] [] n h) ∧ (¬ t0 = (f2 (((4 * x12) + x13) : Int).toNat) → K (.inl (some (.int (i3 0)))) n h)) ∧ ((f2 (4 * x12 : Int).toNat) = 1 → (R3 t0) ∧ (t0 = (-1) → Ok X bb sb9 263 [(0, .ref a0), (1, .int (i3 x1)), (2, .ref a2), (3, .ref a3), (4, .ref a4), (5, .ref a5), (6, .int (i3 x6)), (7, .int (i3 x7)), (8, .int (i3 x8)), (9, .int (i3 x9)), (10, .int (i3 x10)), (11, .int (i3 x11)), (12, .int (i3 x12)), (13, .int (i3 (x13 + 1)))] [] n h) ∧ (¬ t0 = (-1) → K (.inl (some (.int (i3 0)))) n h)))) :
    Ok X bb sb9 277 [(0, .ref a0), (1, .int (i3 x1)), (2, .ref a2), (3, .ref a3), (4, .ref a4), (5, .ref a5), (6, .int (i3 x6)), (7, .int (i3 x7)), (8, .int (i3 x8)), (9, .int (i3 x9)), (10, .int (i3 x10)), (11, .int (i3 x11)), (12, .int (i3 x12)), (13, .int (i3 x13))] [.int (i3 t0)] n h := by
  refine ok_iload (pc := 277) hc dL_told_277 13 rfl ?_
  refine ok_iconst (pc := 279) hc (v := i3 2) dL_told_279 (by decide) ?_
  obtain ⟨r1, P⟩ := P
  refine zk_icmp_ne (pc := 280) (tgt := 297) hc dL_told_280 (by decide) r1 ⟨by decide, by decide⟩ (fun c => ?_) (fun c => ?_)
  · have P := P.1 c
    refine ok_aload_n (pc := 297) hc dL_told_297 rfl 3 rfl ?_
    refine ok_iconst (pc := 298) hc (v := i3 4) dL_told_298 (by decide) ?_
    refine ok_iload (pc := 299) hc dL_told_299 12 rfl ?_
    refine zk_imul (pc := 301) hc dL_told_301 ?_
    refine ok_iload (pc := 302) hc dL_told_302 13 rfl ?_
    refine zk_iadd (pc := 304) hc dL_told_304 ?_
    obtain ⟨r, P⟩ := P
    refine zk_iald (pc := 305) hc dL_told_305 e2.1 e2.2 r ?_
    obtain ⟨r3, P⟩ := P
    obtain ⟨r4, P⟩ := P
    refine zk_icmp_eq (pc := 306) (tgt := 311) hc dL_told_306 (by decide) r3 r4 (fun c => ?_) (fun c => ?_)
    · have P := P.1 c
      refine zk_iinc (pc := 311) hc (q := 13) (x := x13) (lv' := [(13, .int (i3 (x13 + 1))), (0, .ref a0), (1, .int (i3 x1)), (2, .ref a2), (3, .ref a3), (4, .ref a4), (5, .ref a5), (6, .int (i3 x6)), (7, .int (i3 x7)), (8, .int (i3 x8)), (9, .int (i3 x9)), (10, .int (i3 x10)), (11, .int (i3 x11)), (12, .int (i3 x12))]) dL_told_311 rfl (by decide) rfl ?_
      refine ok_goto (pc := 314) (tgt := 263) hc dL_told_314 (by decide) ?_
      refine ok_lv [1, 2, 3, 4, 5, 6, 7, 8, 9, 10, 11, 12, 13, 0] rfl ?_
      exact P
    · have P := P.2 c
      refine ok_iconst (pc := 309) hc (v := i3 0) dL_told_309 (by decide) ?_
      exact ok_zret (st := []) (pc := 310) hc (nar_z (by decide)) hr dL_told_310 P
  · have P := P.2 c
    refine ok_iload (pc := 283) hc dL_told_283 12 rfl ?_
    refine ok_aload_n (pc := 285) hc dL_told_285 rfl 3 rfl ?_
    obtain ⟨r0, P⟩ := P
    refine ok_callS (pc := 286) (cb := bb) (sb := sb9) (st := [.int (i3 t0)]) hc [.int (i3 x12), .ref a3] cs_L_8 sp_L_kind (by decide) dL_told_286 rfl rfl rfl rfl (Nat.le_of_ble_eq_true rfl) (⟨_, _, _, _, rfl, ⟨e2.1, e2.2⟩, r0, rfl, ?_⟩)
    show Ok X bb sb9 (286 + 3) [(0, .ref a0), (1, .int (i3 x1)), (2, .ref a2), (3, .ref a3), (4, .ref a4), (5, .ref a5), (6, .int (i3 x6)), (7, .int (i3 x7)), (8, .int (i3 x8)), (9, .int (i3 x9)), (10, .int (i3 x10)), (11, .int (i3 x11)), (12, .int (i3 x12)), (13, .int (i3 x13))] [.int (i3 (f2 (4 * x12 : Int).toNat)), .int (i3 t0)] n h
    refine ok_iconst (pc := 289) hc (v := i3 1) dL_told_289 (by decide) ?_
    obtain ⟨r5, P⟩ := P
    refine zk_icmp_ne (pc := 290) (tgt := 297) hc dL_told_290 (by decide) r5 ⟨by decide, by decide⟩ (fun c => ?_) (fun c => ?_)
    · have P := P.1 c
      refine ok_aload_n (pc := 297) hc dL_told_297 rfl 3 rfl ?_
      refine ok_iconst (pc := 298) hc (v := i3 4) dL_told_298 (by decide) ?_
      refine ok_iload (pc := 299) hc dL_told_299 12 rfl ?_
      refine zk_imul (pc := 301) hc dL_told_301 ?_
      refine ok_iload (pc := 302) hc dL_told_302 13 rfl ?_
      refine zk_iadd (pc := 304) hc dL_told_304 ?_
      obtain ⟨r, P⟩ := P
      refine zk_iald (pc := 305) hc dL_told_305 e2.1 e2.2 r ?_
      obtain ⟨r6, P⟩ := P
      obtain ⟨r7, P⟩ := P
      refine zk_icmp_eq (pc := 306) (tgt := 311) hc dL_told_306 (by decide) r6 r7 (fun c => ?_) (fun c => ?_)
      · have P := P.1 c
        refine zk_iinc (pc := 311) hc (q := 13) (x := x13) (lv' := [(13, .int (i3 (x13 + 1))), (0, .ref a0), (1, .int (i3 x1)), (2, .ref a2), (3, .ref a3), (4, .ref a4), (5, .ref a5), (6, .int (i3 x6)), (7, .int (i3 x7)), (8, .int (i3 x8)), (9, .int (i3 x9)), (10, .int (i3 x10)), (11, .int (i3 x11)), (12, .int (i3 x12))]) dL_told_311 rfl (by decide) rfl ?_
        refine ok_goto (pc := 314) (tgt := 263) hc dL_told_314 (by decide) ?_
        refine ok_lv [1, 2, 3, 4, 5, 6, 7, 8, 9, 10, 11, 12, 13, 0] rfl ?_
        exact P
      · have P := P.2 c
        refine ok_iconst (pc := 309) hc (v := i3 0) dL_told_309 (by decide) ?_
        exact ok_zret (st := []) (pc := 310) hc (nar_z (by decide)) hr dL_told_310 P
    · have P := P.2 c
      refine ok_iconst (pc := 293) hc (v := i3 (-1)) dL_told_293 (by decide) ?_
      refine ok_goto (pc := 294) (tgt := 306) hc dL_told_294 (by decide) ?_
      obtain ⟨r8, P⟩ := P
      refine zk_icmp_eq (pc := 306) (tgt := 311) hc dL_told_306 (by decide) r8 ⟨by decide, by decide⟩ (fun c => ?_) (fun c => ?_)
      · have P := P.1 c
        refine zk_iinc (pc := 311) hc (q := 13) (x := x13) (lv' := [(13, .int (i3 (x13 + 1))), (0, .ref a0), (1, .int (i3 x1)), (2, .ref a2), (3, .ref a3), (4, .ref a4), (5, .ref a5), (6, .int (i3 x6)), (7, .int (i3 x7)), (8, .int (i3 x8)), (9, .int (i3 x9)), (10, .int (i3 x10)), (11, .int (i3 x11)), (12, .int (i3 x12))]) dL_told_311 rfl (by decide) rfl ?_
        refine ok_goto (pc := 314) (tgt := 263) hc dL_told_314 (by decide) ?_
        refine ok_lv [1, 2, 3, 4, 5, 6, 7, 8, 9, 10, 11, 12, 13, 0] rfl ?_
        exact P
      · have P := P.2 c
        refine ok_iconst (pc := 309) hc (v := i3 0) dL_told_309 (by decide) ?_
        exact ok_zret (st := []) (pc := 310) hc (nar_z (by decide)) hr dL_told_310 P

set_option maxHeartbeats 4000000 in
set_option maxRecDepth 100000 in
theorem sL_told_317 {X : Xt} {n : Nat} {h : HP} {a0 : Nat} {x1 : Int} {a2 : Nat} {a3 : Nat} {a4 : Nat} {a5 : Nat} {x6 : Int} {x7 : Int} {x8 : Int} {x9 : Int} {x10 : Int} {x11 : Int} {x12 : Int} {x13 : Int} {bb : Nat} {sb9 : Nat} (hc : Cx X cL_told RL 18 10 182) {K : KT} (hr : CxR X (some .boolean) K) 
    (P : Ok X bb sb9 252 [(0, .ref a0), (1, .int (i3 x1)), (2, .ref a2), (3, .ref a3), (4, .ref a4), (5, .ref a5), (6, .int (i3 x6)), (7, .int (i3 x7)), (8, .int (i3 x8)), (9, .int (i3 x9)), (10, .int (i3 x10)), (11, .int (i3 x11)), (12, .int (i3 (x12 + 1)))] [] n h) :
    Ok X bb sb9 317 [(0, .ref a0), (1, .int (i3 x1)), (2, .ref a2), (3, .ref a3), (4, .ref a4), (5, .ref a5), (6, .int (i3 x6)), (7, .int (i3 x7)), (8, .int (i3 x8)), (9, .int (i3 x9)), (10, .int (i3 x10)), (11, .int (i3 x11)), (12, .int (i3 x12)), (13, .int (i3 x13))] [] n h := by
  refine zk_iinc (pc := 317) hc (q := 12) (x := x12) (lv' := [(12, .int (i3 (x12 + 1))), (0, .ref a0), (1, .int (i3 x1)), (2, .ref a2), (3, .ref a3), (4, .ref a4), (5, .ref a5), (6, .int (i3 x6)), (7, .int (i3 x7)), (8, .int (i3 x8)), (9, .int (i3 x9)), (10, .int (i3 x10)), (11, .int (i3 x11)), (13, .int (i3 x13))]) dL_told_317 rfl (by decide) rfl ?_
  refine ok_goto (pc := 320) (tgt := 252) hc dL_told_320 (by decide) ?_
  refine ok_lv [1, 2, 3, 4, 5, 6, 7, 8, 9, 10, 11, 12, 0] rfl ?_
  exact P

set_option maxHeartbeats 4000000 in
set_option maxRecDepth 100000 in
theorem sL_told_323 {X : Xt} {n : Nat} {h : HP} {a0 : Nat} {x1 : Int} {a2 : Nat} {a3 : Nat} {a4 : Nat} {a5 : Nat} {x6 : Int} {x7 : Int} {x8 : Int} {x9 : Int} {x10 : Int} {x11 : Int} {x12 : Int} {bb : Nat} {sb9 : Nat} {f1 : Nat → Int} (hc : Cx X cL_told RL 18 10 182) {K : KT} (hr : CxR X (some .boolean) K) (e1 : At h n a2 (ai 4 f1))
    (P : (Ix 2 4) ∧ spec_L_equations [.int (i3 (f1 (2 : Int).toNat)), .int (i3 (-1)), .ref a2, .ref a3, .ref a4] n h (kc X bb sb9 331 [(0, .ref a0), (1, .int (i3 x1)), (2, .ref a2), (3, .ref a3), (4, .ref a4), (5, .ref a5), (6, .int (i3 x6)), (7, .int (i3 x7)), (8, .int (i3 x8)), (9, .int (i3 x9)), (10, .int (i3 x10)), (11, .int (i3 x11)), (12, .int (i3 x12))] [] n)) :
    Ok X bb sb9 323 [(0, .ref a0), (1, .int (i3 x1)), (2, .ref a2), (3, .ref a3), (4, .ref a4), (5, .ref a5), (6, .int (i3 x6)), (7, .int (i3 x7)), (8, .int (i3 x8)), (9, .int (i3 x9)), (10, .int (i3 x10)), (11, .int (i3 x11)), (12, .int (i3 x12))] [] n h := by
  refine ok_aload_n (pc := 323) hc dL_told_323 rfl 2 rfl ?_
  refine ok_iconst (pc := 324) hc (v := i3 2) dL_told_324 (by decide) ?_
  obtain ⟨r, P⟩ := P
  refine zk_iald (pc := 325) hc dL_told_325 e1.1 e1.2 r ?_
  refine ok_iconst (pc := 326) hc (v := i3 (-1)) dL_told_326 (by decide) ?_
  refine ok_aload_n (pc := 327) hc dL_told_327 rfl 2 rfl ?_
  refine ok_aload_n (pc := 328) hc dL_told_328 rfl 3 rfl ?_
  refine ok_aload (pc := 329) hc dL_told_329 4 rfl ?_
  exact ok_callS (pc := 331) (cb := bb) (sb := sb9) (st := []) hc [.int (i3 (f1 (2 : Int).toNat)), .int (i3 (-1)), .ref a2, .ref a3, .ref a4] cs_L_45 sp_L_equations (by decide) dL_told_331 rfl rfl rfl rfl (Nat.le_of_ble_eq_true rfl) P

set_option maxHeartbeats 4000000 in
set_option maxRecDepth 100000 in
theorem sL_told_334 {X : Xt} {n : Nat} {h : HP} {a0 : Nat} {x1 : Int} {a2 : Nat} {a3 : Nat} {a4 : Nat} {a5 : Nat} {x6 : Int} {x7 : Int} {x8 : Int} {x9 : Int} {x10 : Int} {x11 : Int} {x12 : Int} {bb : Nat} {sb9 : Nat} {f1 : Nat → Int} (hc : Cx X cL_told RL 18 10 182) {K : KT} (hr : CxR X (some .boolean) K) (e1 : At h n a2 (ai 4 f1))
    (P : (Ix 3 4) ∧ (R3 (f1 (3 : Int).toNat)) ∧ (¬ (f1 (3 : Int).toNat) = 1 → Ok X bb sb9 353 [(0, .ref a0), (1, .int (i3 x1)), (2, .ref a2), (3, .ref a3), (4, .ref a4), (5, .ref a5), (6, .int (i3 x6)), (7, .int (i3 x7)), (8, .int (i3 x8)), (9, .int (i3 x9)), (10, .int (i3 x10)), (11, .int (i3 x11)), (12, .int (i3 x12))] [] n h) ∧ ((f1 (3 : Int).toNat) = 1 → Ok X bb sb9 341 [(0, .ref a0), (1, .int (i3 x1)), (2, .ref a2), (3, .ref a3), (4, .ref a4), (5, .ref a5), (6, .int (i3 x6)), (7, .int (i3 x7)), (8, .int (i3 x8)), (9, .int (i3 x9)), (10, .int (i3 x10)), (11, .int (i3 x11)), (12, .int (i3 x12))] [] n h)) :
    Ok X bb sb9 334 [(0, .ref a0), (1, .int (i3 x1)), (2, .ref a2), (3, .ref a3), (4, .ref a4), (5, .ref a5), (6, .int (i3 x6)), (7, .int (i3 x7)), (8, .int (i3 x8)), (9, .int (i3 x9)), (10, .int (i3 x10)), (11, .int (i3 x11)), (12, .int (i3 x12))] [] n h := by
  refine ok_aload_n (pc := 334) hc dL_told_334 rfl 2 rfl ?_
  refine ok_iconst (pc := 335) hc (v := i3 3) dL_told_335 (by decide) ?_
  obtain ⟨r, P⟩ := P
  refine zk_iald (pc := 336) hc dL_told_336 e1.1 e1.2 r ?_
  refine ok_iconst (pc := 337) hc (v := i3 1) dL_told_337 (by decide) ?_
  obtain ⟨r2, P⟩ := P
  refine zk_icmp_ne (pc := 338) (tgt := 353) hc dL_told_338 (by decide) r2 ⟨by decide, by decide⟩ (fun c => ?_) (fun c => ?_)
  · have P := P.1 c
    exact P
  · have P := P.2 c
    exact P

set_option maxHeartbeats 4000000 in
set_option maxRecDepth 100000 in
theorem sL_told_341 {X : Xt} {n : Nat} {h : HP} {a0 : Nat} {x1 : Int} {a2 : Nat} {a3 : Nat} {a4 : Nat} {a5 : Nat} {x6 : Int} {x7 : Int} {x8 : Int} {x9 : Int} {x10 : Int} {x11 : Int} {x12 : Int} {bb : Nat} {sb9 : Nat} (hc : Cx X cL_told RL 18 10 182) {K : KT} (hr : CxR X (some .boolean) K) 
    (P : spec_L_solve [.ref a4] n h (kc X bb sb9 343 [(0, .ref a0), (1, .int (i3 x1)), (2, .ref a2), (3, .ref a3), (4, .ref a4), (5, .ref a5), (6, .int (i3 x6)), (7, .int (i3 x7)), (8, .int (i3 x8)), (9, .int (i3 x9)), (10, .int (i3 x10)), (11, .int (i3 x11)), (12, .int (i3 x12))] [] n)) :
    Ok X bb sb9 341 [(0, .ref a0), (1, .int (i3 x1)), (2, .ref a2), (3, .ref a3), (4, .ref a4), (5, .ref a5), (6, .int (i3 x6)), (7, .int (i3 x7)), (8, .int (i3 x8)), (9, .int (i3 x9)), (10, .int (i3 x10)), (11, .int (i3 x11)), (12, .int (i3 x12))] [] n h := by
  refine ok_aload (pc := 341) hc dL_told_341 4 rfl ?_
  exact ok_callS (pc := 343) (cb := bb) (sb := sb9) (st := []) hc [.ref a4] cs_L_49 sp_L_solve (by decide) dL_told_343 rfl rfl rfl rfl (Nat.le_of_ble_eq_true rfl) P

set_option maxHeartbeats 4000000 in
set_option maxRecDepth 100000 in
theorem sL_told_346 {X : Xt} {n : Nat} {h : HP} {a0 : Nat} {x1 : Int} {a2 : Nat} {a3 : Nat} {a4 : Nat} {a5 : Nat} {x6 : Int} {x7 : Int} {x8 : Int} {x9 : Int} {x10 : Int} {x11 : Int} {x12 : Int} {t0 : Int} {bb : Nat} {sb9 : Nat} (hc : Cx X cL_told RL 18 10 182) {K : KT} (hr : CxR X (some .boolean) K) 
    (P : (R3 t0) ∧ (t0 = 0 → Ok X bb sb9 356 [(0, .ref a0), (1, .int (i3 x1)), (2, .ref a2), (3, .ref a3), (4, .ref a4), (5, .ref a5), (6, .int (i3 x6)), (7, .int (i3 x7)), (8, .int (i3 x8)), (9, .int (i3 x9)), (10, .int (i3 x10)), (11, .int (i3 x11)), (12, .int (i3 0))] [] n h) ∧ (¬ t0 = 0 → Ok X bb sb9 356 [(0, .ref a0), (1, .int (i3 x1)), (2, .ref a2), (3, .ref a3), (4, .ref a4), (5, .ref a5), (6, .int (i3 x6)), (7, .int (i3 x7)), (8, .int (i3 x8)), (9, .int (i3 x9)), (10, .int (i3 x10)), (11, .int (i3 x11)), (12, .int (i3 1))] [] n h)) :
    Ok X bb sb9 346 [(0, .ref a0), (1, .int (i3 x1)), (2, .ref a2), (3, .ref a3), (4, .ref a4), (5, .ref a5), (6, .int (i3 x6)), (7, .int (i3 x7)), (8, .int (i3 x8)), (9, .int (i3 x9)), (10, .int (i3 x10)), (11, .int (i3 x11)), (12, .int (i3 x12))] [.int (i3 t0)] n h := by
  obtain ⟨r1, P⟩ := P
  refine zk_if_eq (pc := 346) (tgt := 353) hc dL_told_346 (by decide) r1 (fun c => ?_) (fun c => ?_)
  · have P := P.1 c
    refine ok_iconst (pc := 353) hc (v := i3 0) dL_told_353 (by decide) ?_
    refine ok_istore (pc := 354) hc (lv' := [(12, .int (i3 0)), (0, .ref a0), (1, .int (i3 x1)), (2, .ref a2), (3, .ref a3), (4, .ref a4), (5, .ref a5), (6, .int (i3 x6)), (7, .int (i3 x7)), (8, .int (i3 x8)), (9, .int (i3 x9)), (10, .int (i3 x10)), (11, .int (i3 x11))]) dL_told_354 (by decide) rfl ?_
    refine ok_lv [1, 2, 3, 4, 5, 6, 7, 8, 9, 10, 11, 12, 0] rfl ?_
    exact P
  · have P := P.2 c
    refine ok_iconst (pc := 349) hc (v := i3 1) dL_told_349 (by decide) ?_
    refine ok_goto (pc := 350) (tgt := 354) hc dL_told_350 (by decide) ?_
    refine ok_istore (pc := 354) hc (lv' := [(12, .int (i3 1)), (0, .ref a0), (1, .int (i3 x1)), (2, .ref a2), (3, .ref a3), (4, .ref a4), (5, .ref a5), (6, .int (i3 x6)), (7, .int (i3 x7)), (8, .int (i3 x8)), (9, .int (i3 x9)), (10, .int (i3 x10)), (11, .int (i3 x11))]) dL_told_354 (by decide) rfl ?_
    refine ok_lv [1, 2, 3, 4, 5, 6, 7, 8, 9, 10, 11, 12, 0] rfl ?_
    exact P

set_option maxHeartbeats 4000000 in
set_option maxRecDepth 100000 in
theorem sL_told_353 {X : Xt} {n : Nat} {h : HP} {a0 : Nat} {x1 : Int} {a2 : Nat} {a3 : Nat} {a4 : Nat} {a5 : Nat} {x6 : Int} {x7 : Int} {x8 : Int} {x9 : Int} {x10 : Int} {x11 : Int} {x12 : Int} {bb : Nat} {sb9 : Nat} (hc : Cx X cL_told RL 18 10 182) {K : KT} (hr : CxR X (some .boolean) K) 
    (P : Ok X bb sb9 356 [(0, .ref a0), (1, .int (i3 x1)), (2, .ref a2), (3, .ref a3), (4, .ref a4), (5, .ref a5), (6, .int (i3 x6)), (7, .int (i3 x7)), (8, .int (i3 x8)), (9, .int (i3 x9)), (10, .int (i3 x10)), (11, .int (i3 x11)), (12, .int (i3 0))] [] n h) :
    Ok X bb sb9 353 [(0, .ref a0), (1, .int (i3 x1)), (2, .ref a2), (3, .ref a3), (4, .ref a4), (5, .ref a5), (6, .int (i3 x6)), (7, .int (i3 x7)), (8, .int (i3 x8)), (9, .int (i3 x9)), (10, .int (i3 x10)), (11, .int (i3 x11)), (12, .int (i3 x12))] [] n h := by
  refine ok_iconst (pc := 353) hc (v := i3 0) dL_told_353 (by decide) ?_
  refine ok_istore (pc := 354) hc (lv' := [(12, .int (i3 0)), (0, .ref a0), (1, .int (i3 x1)), (2, .ref a2), (3, .ref a3), (4, .ref a4), (5, .ref a5), (6, .int (i3 x6)), (7, .int (i3 x7)), (8, .int (i3 x8)), (9, .int (i3 x9)), (10, .int (i3 x10)), (11, .int (i3 x11))]) dL_told_354 (by decide) rfl ?_
  refine ok_lv [1, 2, 3, 4, 5, 6, 7, 8, 9, 10, 11, 12, 0] rfl ?_
  exact P

set_option maxHeartbeats 4000000 in
set_option maxRecDepth 100000 in
theorem sL_told_356 {X : Xt} {n : Nat} {h : HP} {a0 : Nat} {x1 : Int} {a2 : Nat} {a3 : Nat} {a4 : Nat} {a5 : Nat} {x6 : Int} {x7 : Int} {x8 : Int} {x9 : Int} {x10 : Int} {x11 : Int} {x12 : Int} {bb : Nat} {sb9 : Nat} {f1 : Nat → Int} (hc : Cx X cL_told RL 18 10 182) {K : KT} (hr : CxR X (some .boolean) K) (e1 : At h n a2 (ai 4 f1))
    (P : (Ix 3 4) ∧ (R3 (f1 (3 : Int).toNat)) ∧ (¬ (f1 (3 : Int).toNat) = 1 → Ok X bb sb9 370 [(0, .ref a0), (1, .int (i3 x1)), (2, .ref a2), (3, .ref a3), (4, .ref a4), (5, .ref a5), (6, .int (i3 x6)), (7, .int (i3 x7)), (8, .int (i3 x8)), (9, .int (i3 x9)), (10, .int (i3 x10)), (11, .int (i3 x11)), (12, .int (i3 x12))] [] n h) ∧ ((f1 (3 : Int).toNat) = 1 → (R3 x12) ∧ (¬ x12 = 0 → Ok X bb sb9 370 [(0, .ref a0), (1, .int (i3 x1)), (2, .ref a2), (3, .ref a3), (4, .ref a4), (5, .ref a5), (6, .int (i3 x6)), (7, .int (i3 x7)), (8, .int (i3 x8)), (9, .int (i3 x9)), (10, .int (i3 x10)), (11, .int (i3 x11)), (12, .int (i3 x12))] [] n h) ∧ (x12 = 0 → K (.inl (some (.int (i3 0)))) n h))) :
    Ok X bb sb9 356 [(0, .ref a0), (1, .int (i3 x1)), (2, .ref a2), (3, .ref a3), (4, .ref a4), (5, .ref a5), (6, .int (i3 x6)), (7, .int (i3 x7)), (8, .int (i3 x8)), (9, .int (i3 x9)), (10, .int (i3 x10)), (11, .int (i3 x11)), (12, .int (i3 x12))] [] n h := by
  refine ok_aload_n (pc := 356) hc dL_told_356 rfl 2 rfl ?_
  refine ok_iconst (pc := 357) hc (v := i3 3) dL_told_357 (by decide) ?_
  obtain ⟨r, P⟩ := P
  refine zk_iald (pc := 358) hc dL_told_358 e1.1 e1.2 r ?_
  refine ok_iconst (pc := 359) hc (v := i3 1) dL_told_359 (by decide) ?_
  obtain ⟨r2, P⟩ := P
  refine zk_icmp_ne (pc := 360) (tgt := 370) hc dL_told_360 (by decide) r2 ⟨by decide, by decide⟩ (fun c => ?_) (fun c => ?_)
  · have P := P.1 c
    exact P
  · have P := P.2 c
    refine ok_iload (pc := 363) hc dL_told_363 12 rfl ?_
    obtain ⟨r3, P⟩ := P
    refine zk_if_ne (pc := 365) (tgt := 370) hc dL_told_365 (by decide) r3 (fun c => ?_) (fun c => ?_)
    · have P := P.1 c
      exact P
    · have P := P.2 c
      refine ok_iconst (pc := 368) hc (v := i3 0) dL_told_368 (by decide) ?_
      exact ok_zret (st := []) (pc := 369) hc (nar_z (by decide)) hr dL_told_369 P

set_option maxHeartbeats 4000000 in
set_option maxRecDepth 100000 in
theorem sL_told_370 {X : Xt} {n : Nat} {h : HP} {a0 : Nat} {x1 : Int} {a2 : Nat} {a3 : Nat} {a4 : Nat} {a5 : Nat} {x6 : Int} {x7 : Int} {x8 : Int} {x9 : Int} {x10 : Int} {x11 : Int} {x12 : Int} {bb : Nat} {sb9 : Nat} (hc : Cx X cL_told RL 18 10 182) {K : KT} (hr : CxR X (some .boolean) K) 
    (P : Ok X bb sb9 373 [(0, .ref a0), (1, .int (i3 x1)), (2, .ref a2), (3, .ref a3), (4, .ref a4), (5, .ref a5), (6, .int (i3 x6)), (7, .int (i3 x7)), (8, .int (i3 x8)), (9, .int (i3 x9)), (10, .int (i3 x10)), (11, .int (i3 x11)), (12, .int (i3 x12)), (13, .int (i3 0))] [] n h) :
    Ok X bb sb9 370 [(0, .ref a0), (1, .int (i3 x1)), (2, .ref a2), (3, .ref a3), (4, .ref a4), (5, .ref a5), (6, .int (i3 x6)), (7, .int (i3 x7)), (8, .int (i3 x8)), (9, .int (i3 x9)), (10, .int (i3 x10)), (11, .int (i3 x11)), (12, .int (i3 x12))] [] n h := by
  refine ok_iconst (pc := 370) hc (v := i3 0) dL_told_370 (by decide) ?_
  refine ok_istore (pc := 371) hc (lv' := [(13, .int (i3 0)), (0, .ref a0), (1, .int (i3 x1)), (2, .ref a2), (3, .ref a3), (4, .ref a4), (5, .ref a5), (6, .int (i3 x6)), (7, .int (i3 x7)), (8, .int (i3 x8)), (9, .int (i3 x9)), (10, .int (i3 x10)), (11, .int (i3 x11)), (12, .int (i3 x12))]) dL_told_371 (by decide) rfl ?_
  refine ok_lv [1, 2, 3, 4, 5, 6, 7, 8, 9, 10, 11, 12, 13, 0] rfl ?_
  exact P

set_option maxHeartbeats 4000000 in
set_option maxRecDepth 100000 in
theorem sL_told_373 {X : Xt} {n : Nat} {h : HP} {a0 : Nat} {x1 : Int} {a2 : Nat} {a3 : Nat} {a4 : Nat} {a5 : Nat} {x6 : Int} {x7 : Int} {x8 : Int} {x9 : Int} {x10 : Int} {x11 : Int} {x12 : Int} {x13 : Int} {bb : Nat} {sb9 : Nat} (hc : Cx X cL_told RL 18 10 182) {K : KT} (hr : CxR X (some .boolean) K) 
    (P : (R3 x13) ∧ (7 ≤ x13 → Ok X bb sb9 513 [(0, .ref a0), (1, .int (i3 x1)), (2, .ref a2), (3, .ref a3), (4, .ref a4), (5, .ref a5), (6, .int (i3 x6)), (7, .int (i3 x7)), (8, .int (i3 x8)), (9, .int (i3 x9)), (10, .int (i3 x10)), (11, .int (i3 x11)), (12, .int (i3 x12)), (13, .int (i3 x13))] [] n h) ∧ (¬ 7 ≤ x13 → Ok X bb sb9 380 [(0, .ref a0), (1, .int (i3 x1)), (2, .ref a2), (3, .ref a3), (4, .ref a4), (5, .ref a5), (6, .int (i3 x6)), (7, .int (i3 x7)), (8, .int (i3 x8)), (9, .int (i3 x9)), (10, .int (i3 x10)), (11, .int (i3 x11)), (12, .int (i3 x12)), (13, .int (i3 x13))] [] n h)) :
    Ok X bb sb9 373 [(0, .ref a0), (1, .int (i3 x1)), (2, .ref a2), (3, .ref a3), (4, .ref a4), (5, .ref a5), (6, .int (i3 x6)), (7, .int (i3 x7)), (8, .int (i3 x8)), (9, .int (i3 x9)), (10, .int (i3 x10)), (11, .int (i3 x11)), (12, .int (i3 x12)), (13, .int (i3 x13))] [] n h := by
  refine ok_iload (pc := 373) hc dL_told_373 13 rfl ?_
  refine ok_bipush (pc := 375) hc (v := i3 7) dL_told_375 (by decide) ?_
  obtain ⟨r1, P⟩ := P
  refine zk_icmp_ge (pc := 377) (tgt := 513) hc dL_told_377 (by decide) r1 ⟨by decide, by decide⟩ (fun c => ?_) (fun c => ?_)
  · have P := P.1 c
    exact P
  · have P := P.2 c
    exact P

set_option maxHeartbeats 4000000 in
set_option maxRecDepth 100000 in
theorem sL_told_380 {X : Xt} {n : Nat} {h : HP} {a0 : Nat} {x1 : Int} {a2 : Nat} {a3 : Nat} {a4 : Nat} {a5 : Nat} {x6 : Int} {x7 : Int} {x8 : Int} {x9 : Int} {x10 : Int} {x11 : Int} {x12 : Int} {x13 : Int} {bb : Nat} {sb9 : Nat} {f3 : Nat → Int} {ps4 : List Part} {f5 : Nat → Int} (hc : Cx X cL_told RL 18 10 182) {K : KT} (hr : CxR X (some .boolean) K) (e3 : At h n a3 (ai 48 f3)) (hP4 : PaF f3 ps4) (e5 : At h n a2 (ai 4 f5)) (hD6 : f5 0 = ps4.length)
    (P : (R3 x12) ∧ (x12 = 0 → Ok X bb sb9 407 [(0, .ref a0), (1, .int (i3 x1)), (2, .ref a2), (3, .ref a3), (4, .ref a4), (5, .ref a5), (6, .int (i3 x6)), (7, .int (i3 x7)), (8, .int (i3 x8)), (9, .int (i3 x9)), (10, .int (i3 x10)), (11, .int (i3 x11)), (12, .int (i3 x12)), (13, .int (i3 x13)), (14, .int (i3 0))] [] n h) ∧ (¬ x12 = 0 → (R3 x13) ∧ (x13 = 0 → Ok X bb sb9 407 [(0, .ref a0), (1, .int (i3 x1)), (2, .ref a2), (3, .ref a3), (4, .ref a4), (5, .ref a5), (6, .int (i3 x6)), (7, .int (i3 x7)), (8, .int (i3 x8)), (9, .int (i3 x9)), (10, .int (i3 x10)), (11, .int (i3 x11)), (12, .int (i3 x12)), (13, .int (i3 x13)), (14, .int (i3 1))] [] n h) ∧ (¬ x13 = 0 → (R3 x13) ∧ ((ps4.any (fun p => atB p x13)) = false → Ok X bb sb9 407 [(0, .ref a0), (1, .int (i3 x1)), (2, .ref a2), (3, .ref a3), (4, .ref a4), (5, .ref a5), (6, .int (i3 x6)), (7, .int (i3 x7)), (8, .int (i3 x8)), (9, .int (i3 x9)), (10, .int (i3 x10)), (11, .int (i3 x11)), (12, .int (i3 x12)), (13, .int (i3 x13)), (14, .int (i3 0))] [] n h) ∧ ((ps4.any (fun p => atB p x13)) = true → Ok X bb sb9 407 [(0, .ref a0), (1, .int (i3 x1)), (2, .ref a2), (3, .ref a3), (4, .ref a4), (5, .ref a5), (6, .int (i3 x6)), (7, .int (i3 x7)), (8, .int (i3 x8)), (9, .int (i3 x9)), (10, .int (i3 x10)), (11, .int (i3 x11)), (12, .int (i3 x12)), (13, .int (i3 x13)), (14, .int (i3 1))] [] n h)))) :
    Ok X bb sb9 380 [(0, .ref a0), (1, .int (i3 x1)), (2, .ref a2), (3, .ref a3), (4, .ref a4), (5, .ref a5), (6, .int (i3 x6)), (7, .int (i3 x7)), (8, .int (i3 x8)), (9, .int (i3 x9)), (10, .int (i3 x10)), (11, .int (i3 x11)), (12, .int (i3 x12)), (13, .int (i3 x13))] [] n h := by
  refine ok_iload (pc := 380) hc dL_told_380 12 rfl ?_
  obtain ⟨r1, P⟩ := P
  refine zk_if_eq (pc := 382) (tgt := 404) hc dL_told_382 (by decide) r1 (fun c => ?_) (fun c => ?_)
  · have P := P.1 c
    refine ok_iconst (pc := 404) hc (v := i3 0) dL_told_404 (by decide) ?_
    refine ok_istore (pc := 405) hc (lv' := [(14, .int (i3 0)), (0, .ref a0), (1, .int (i3 x1)), (2, .ref a2), (3, .ref a3), (4, .ref a4), (5, .ref a5), (6, .int (i3 x6)), (7, .int (i3 x7)), (8, .int (i3 x8)), (9, .int (i3 x9)), (10, .int (i3 x10)), (11, .int (i3 x11)), (12, .int (i3 x12)), (13, .int (i3 x13))]) dL_told_405 (by decide) rfl ?_
    refine ok_lv [1, 2, 3, 4, 5, 6, 7, 8, 9, 10, 11, 12, 13, 14, 0] rfl ?_
    exact P
  · have P := P.2 c
    refine ok_iload (pc := 385) hc dL_told_385 13 rfl ?_
    obtain ⟨r2, P⟩ := P
    refine zk_if_eq (pc := 387) (tgt := 400) hc dL_told_387 (by decide) r2 (fun c => ?_) (fun c => ?_)
    · have P := P.1 c
      refine ok_iconst (pc := 400) hc (v := i3 1) dL_told_400 (by decide) ?_
      refine ok_goto (pc := 401) (tgt := 405) hc dL_told_401 (by decide) ?_
      refine ok_istore (pc := 405) hc (lv' := [(14, .int (i3 1)), (0, .ref a0), (1, .int (i3 x1)), (2, .ref a2), (3, .ref a3), (4, .ref a4), (5, .ref a5), (6, .int (i3 x6)), (7, .int (i3 x7)), (8, .int (i3 x8)), (9, .int (i3 x9)), (10, .int (i3 x10)), (11, .int (i3 x11)), (12, .int (i3 x12)), (13, .int (i3 x13))]) dL_told_405 (by decide) rfl ?_
      refine ok_lv [1, 2, 3, 4, 5, 6, 7, 8, 9, 10, 11, 12, 13, 14, 0] rfl ?_
      exact P
    · have P := P.2 c
      refine ok_iload (pc := 390) hc dL_told_390 13 rfl ?_
      refine ok_aload_n (pc := 392) hc dL_told_392 rfl 2 rfl ?_
      refine ok_aload_n (pc := 393) hc dL_told_393 rfl 3 rfl ?_
      obtain ⟨r0, P⟩ := P
      refine ok_callS (pc := 394) (cb := bb) (sb := sb9) (st := []) hc [.int (i3 x13), .ref a2, .ref a3] cs_L_29 sp_L_used (by decide) dL_told_394 rfl rfl rfl rfl (Nat.le_of_ble_eq_true rfl) (⟨_, _, _, _, _, _, rfl, ⟨e5.1, e5.2⟩, ⟨e3.1, e3.2⟩, hD6, hP4, r0, rfl, ?_⟩)
      show Ok X bb sb9 (394 + 3) [(0, .ref a0), (1, .int (i3 x1)), (2, .ref a2), (3, .ref a3), (4, .ref a4), (5, .ref a5), (6, .int (i3 x6)), (7, .int (i3 x7)), (8, .int (i3 x8)), (9, .int (i3 x9)), (10, .int (i3 x10)), (11, .int (i3 x11)), (12, .int (i3 x12)), (13, .int (i3 x13))] [.int (i3 (bz (ps4.any (fun p => atB p x13))))] n h
      refine zk_if_eq (pc := 397) (tgt := 404) hc dL_told_397 (by decide) R3_bz (fun c => ?_) (fun c => ?_)
      · have P := P.1 (bz_0.mp c)
        refine ok_iconst (pc := 404) hc (v := i3 0) dL_told_404 (by decide) ?_
        refine ok_istore (pc := 405) hc (lv' := [(14, .int (i3 0)), (0, .ref a0), (1, .int (i3 x1)), (2, .ref a2), (3, .ref a3), (4, .ref a4), (5, .ref a5), (6, .int (i3 x6)), (7, .int (i3 x7)), (8, .int (i3 x8)), (9, .int (i3 x9)), (10, .int (i3 x10)), (11, .int (i3 x11)), (12, .int (i3 x12)), (13, .int (i3 x13))]) dL_told_405 (by decide) rfl ?_
        refine ok_lv [1, 2, 3, 4, 5, 6, 7, 8, 9, 10, 11, 12, 13, 14, 0] rfl ?_
        exact P
      · have P := P.2 (bz_1.mp c)
        refine ok_iconst (pc := 400) hc (v := i3 1) dL_told_400 (by decide) ?_
        refine ok_goto (pc := 401) (tgt := 405) hc dL_told_401 (by decide) ?_
        refine ok_istore (pc := 405) hc (lv' := [(14, .int (i3 1)), (0, .ref a0), (1, .int (i3 x1)), (2, .ref a2), (3, .ref a3), (4, .ref a4), (5, .ref a5), (6, .int (i3 x6)), (7, .int (i3 x7)), (8, .int (i3 x8)), (9, .int (i3 x9)), (10, .int (i3 x10)), (11, .int (i3 x11)), (12, .int (i3 x12)), (13, .int (i3 x13))]) dL_told_405 (by decide) rfl ?_
        refine ok_lv [1, 2, 3, 4, 5, 6, 7, 8, 9, 10, 11, 12, 13, 14, 0] rfl ?_
        exact P

set_option maxHeartbeats 4000000 in
set_option maxRecDepth 100000 in
theorem sL_told_407 {X : Xt} {n : Nat} {h : HP} {a0 : Nat} {x1 : Int} {a2 : Nat} {a3 : Nat} {a4 : Nat} {a5 : Nat} {x6 : Int} {x7 : Int} {x8 : Int} {x9 : Int} {x10 : Int} {x11 : Int} {x12 : Int} {x13 : Int} {x14 : Int} {bb : Nat} {sb9 : Nat} {f2 : Nat → Int} {ps3 : List Part} {f4 : Nat → Int} (hc : Cx X cL_told RL 18 10 182) {K : KT} (hr : CxR X (some .boolean) K) (e2 : At h n a3 (ai 48 f2)) (hP3 : PaF f2 ps3) (e4 : At h n a2 (ai 4 f4)) (hD5 : f4 0 = ps3.length)
    (P : (R3 x13) ∧ (x13 ≤ 0 → Ok X bb sb9 432 [(0, .ref a0), (1, .int (i3 x1)), (2, .ref a2), (3, .ref a3), (4, .ref a4), (5, .ref a5), (6, .int (i3 x6)), (7, .int (i3 x7)), (8, .int (i3 x8)), (9, .int (i3 x9)), (10, .int (i3 x10)), (11, .int (i3 (x11 + 0))), (12, .int (i3 x12)), (13, .int (i3 x13)), (14, .int (i3 x14))] [] n h) ∧ (¬ x13 ≤ 0 → (R3 x13) ∧ ((ps3.any (fun p => atB p x13)) = false → Ok X bb sb9 432 [(0, .ref a0), (1, .int (i3 x1)), (2, .ref a2), (3, .ref a3), (4, .ref a4), (5, .ref a5), (6, .int (i3 x6)), (7, .int (i3 x7)), (8, .int (i3 x8)), (9, .int (i3 x9)), (10, .int (i3 x10)), (11, .int (i3 (x11 + 0))), (12, .int (i3 x12)), (13, .int (i3 x13)), (14, .int (i3 x14))] [] n h) ∧ ((ps3.any (fun p => atB p x13)) = true → Ok X bb sb9 432 [(0, .ref a0), (1, .int (i3 x1)), (2, .ref a2), (3, .ref a3), (4, .ref a4), (5, .ref a5), (6, .int (i3 x6)), (7, .int (i3 x7)), (8, .int (i3 x8)), (9, .int (i3 x9)), (10, .int (i3 x10)), (11, .int (i3 (x11 + 1))), (12, .int (i3 x12)), (13, .int (i3 x13)), (14, .int (i3 x14))] [] n h))) :
    Ok X bb sb9 407 [(0, .ref a0), (1, .int (i3 x1)), (2, .ref a2), (3, .ref a3), (4, .ref a4), (5, .ref a5), (6, .int (i3 x6)), (7, .int (i3 x7)), (8, .int (i3 x8)), (9, .int (i3 x9)), (10, .int (i3 x10)), (11, .int (i3 x11)), (12, .int (i3 x12)), (13, .int (i3 x13)), (14, .int (i3 x14))] [] n h := by
  refine ok_iload (pc := 407) hc dL_told_407 11 rfl ?_
  refine ok_iload (pc := 409) hc dL_told_409 13 rfl ?_
  obtain ⟨r1, P⟩ := P
  refine zk_if_le (pc := 411) (tgt := 428) hc dL_told_411 (by decide) r1 (fun c => ?_) (fun c => ?_)
  · have P := P.1 c
    refine ok_iconst (pc := 428) hc (v := i3 0) dL_told_428 (by decide) ?_
    refine zk_iadd (pc := 429) hc dL_told_429 ?_
    refine ok_istore (pc := 430) hc (lv' := [(11, .int (i3 (x11 + 0))), (0, .ref a0), (1, .int (i3 x1)), (2, .ref a2), (3, .ref a3), (4, .ref a4), (5, .ref a5), (6, .int (i3 x6)), (7, .int (i3 x7)), (8, .int (i3 x8)), (9, .int (i3 x9)), (10, .int (i3 x10)), (12, .int (i3 x12)), (13, .int (i3 x13)), (14, .int (i3 x14))]) dL_told_430 (by decide) rfl ?_
    refine ok_lv [1, 2, 3, 4, 5, 6, 7, 8, 9, 10, 11, 0, 12, 13, 14] rfl ?_
    exact P
  · have P := P.2 c
    refine ok_iload (pc := 414) hc dL_told_414 13 rfl ?_
    refine ok_aload_n (pc := 416) hc dL_told_416 rfl 2 rfl ?_
    refine ok_aload_n (pc := 417) hc dL_told_417 rfl 3 rfl ?_
    obtain ⟨r0, P⟩ := P
    refine ok_callS (pc := 418) (cb := bb) (sb := sb9) (st := [.int (i3 x11)]) hc [.int (i3 x13), .ref a2, .ref a3] cs_L_29 sp_L_used (by decide) dL_told_418 rfl rfl rfl rfl (Nat.le_of_ble_eq_true rfl) (⟨_, _, _, _, _, _, rfl, ⟨e4.1, e4.2⟩, ⟨e2.1, e2.2⟩, hD5, hP3, r0, rfl, ?_⟩)
    show Ok X bb sb9 (418 + 3) [(0, .ref a0), (1, .int (i3 x1)), (2, .ref a2), (3, .ref a3), (4, .ref a4), (5, .ref a5), (6, .int (i3 x6)), (7, .int (i3 x7)), (8, .int (i3 x8)), (9, .int (i3 x9)), (10, .int (i3 x10)), (11, .int (i3 x11)), (12, .int (i3 x12)), (13, .int (i3 x13)), (14, .int (i3 x14))] [.int (i3 (bz (ps3.any (fun p => atB p x13)))), .int (i3 x11)] n h
    refine zk_if_eq (pc := 421) (tgt := 428) hc dL_told_421 (by decide) R3_bz (fun c => ?_) (fun c => ?_)
    · have P := P.1 (bz_0.mp c)
      refine ok_iconst (pc := 428) hc (v := i3 0) dL_told_428 (by decide) ?_
      refine zk_iadd (pc := 429) hc dL_told_429 ?_
      refine ok_istore (pc := 430) hc (lv' := [(11, .int (i3 (x11 + 0))), (0, .ref a0), (1, .int (i3 x1)), (2, .ref a2), (3, .ref a3), (4, .ref a4), (5, .ref a5), (6, .int (i3 x6)), (7, .int (i3 x7)), (8, .int (i3 x8)), (9, .int (i3 x9)), (10, .int (i3 x10)), (12, .int (i3 x12)), (13, .int (i3 x13)), (14, .int (i3 x14))]) dL_told_430 (by decide) rfl ?_
      refine ok_lv [1, 2, 3, 4, 5, 6, 7, 8, 9, 10, 11, 0, 12, 13, 14] rfl ?_
      exact P
    · have P := P.2 (bz_1.mp c)
      refine ok_iconst (pc := 424) hc (v := i3 1) dL_told_424 (by decide) ?_
      refine ok_goto (pc := 425) (tgt := 429) hc dL_told_425 (by decide) ?_
      refine zk_iadd (pc := 429) hc dL_told_429 ?_
      refine ok_istore (pc := 430) hc (lv' := [(11, .int (i3 (x11 + 1))), (0, .ref a0), (1, .int (i3 x1)), (2, .ref a2), (3, .ref a3), (4, .ref a4), (5, .ref a5), (6, .int (i3 x6)), (7, .int (i3 x7)), (8, .int (i3 x8)), (9, .int (i3 x9)), (10, .int (i3 x10)), (12, .int (i3 x12)), (13, .int (i3 x13)), (14, .int (i3 x14))]) dL_told_430 (by decide) rfl ?_
      refine ok_lv [1, 2, 3, 4, 5, 6, 7, 8, 9, 10, 11, 0, 12, 13, 14] rfl ?_
      exact P

set_option maxHeartbeats 4000000 in
set_option maxRecDepth 100000 in
theorem sL_told_432 {X : Xt} {n : Nat} {h : HP} {a0 : Nat} {x1 : Int} {a2 : Nat} {a3 : Nat} {a4 : Nat} {a5 : Nat} {x6 : Int} {x7 : Int} {x8 : Int} {x9 : Int} {x10 : Int} {x11 : Int} {x12 : Int} {x13 : Int} {x14 : Int} {bb : Nat} {sb9 : Nat} {f2 : Nat → Int} {ps3 : List Part} {f4 : Nat → Int} (hc : Cx X cL_told RL 18 10 182) {K : KT} (hr : CxR X (some .boolean) K) (e2 : At h n a3 (ai 48 f2)) (hP3 : PaF f2 ps3) (e4 : At h n a2 (ai 4 f4)) (hD5 : f4 0 = ps3.length)
    (P : (R3 x13) ∧ (x13 ≤ 0 → Ok X bb sb9 460 [(0, .ref a0), (1, .int (i3 x1)), (2, .ref a2), (3, .ref a3), (4, .ref a4), (5, .ref a5), (6, .int (i3 x6)), (7, .int (i3 x7)), (8, .int (i3 x8)), (9, .int (i3 x9)), (10, .int (i3 (bor x10 0))), (11, .int (i3 x11)), (12, .int (i3 x12)), (13, .int (i3 x13)), (14, .int (i3 x14))] [] n h) ∧ (¬ x13 ≤ 0 → (R3 x13) ∧ ((ps3.any (fun p => atB p x13)) = false → Ok X bb sb9 460 [(0, .ref a0), (1, .int (i3 x1)), (2, .ref a2), (3, .ref a3), (4, .ref a4), (5, .ref a5), (6, .int (i3 x6)), (7, .int (i3 x7)), (8, .int (i3 x8)), (9, .int (i3 x9)), (10, .int (i3 (bor x10 0))), (11, .int (i3 x11)), (12, .int (i3 x12)), (13, .int (i3 x13)), (14, .int (i3 x14))] [] n h) ∧ ((ps3.any (fun p => atB p x13)) = true → Ok X bb sb9 460 [(0, .ref a0), (1, .int (i3 x1)), (2, .ref a2), (3, .ref a3), (4, .ref a4), (5, .ref a5), (6, .int (i3 x6)), (7, .int (i3 x7)), (8, .int (i3 x8)), (9, .int (i3 x9)), (10, .int (i3 (bor x10 (bshl 1 x13)))), (11, .int (i3 x11)), (12, .int (i3 x12)), (13, .int (i3 x13)), (14, .int (i3 x14))] [] n h))) :
    Ok X bb sb9 432 [(0, .ref a0), (1, .int (i3 x1)), (2, .ref a2), (3, .ref a3), (4, .ref a4), (5, .ref a5), (6, .int (i3 x6)), (7, .int (i3 x7)), (8, .int (i3 x8)), (9, .int (i3 x9)), (10, .int (i3 x10)), (11, .int (i3 x11)), (12, .int (i3 x12)), (13, .int (i3 x13)), (14, .int (i3 x14))] [] n h := by
  refine ok_iload (pc := 432) hc dL_told_432 10 rfl ?_
  refine ok_iload (pc := 434) hc dL_told_434 13 rfl ?_
  obtain ⟨r1, P⟩ := P
  refine zk_if_le (pc := 436) (tgt := 456) hc dL_told_436 (by decide) r1 (fun c => ?_) (fun c => ?_)
  · have P := P.1 c
    refine ok_iconst (pc := 456) hc (v := i3 0) dL_told_456 (by decide) ?_
    refine zk_ior (pc := 457) hc dL_told_457 ?_
    refine ok_istore (pc := 458) hc (lv' := [(10, .int (i3 (bor x10 0))), (0, .ref a0), (1, .int (i3 x1)), (2, .ref a2), (3, .ref a3), (4, .ref a4), (5, .ref a5), (6, .int (i3 x6)), (7, .int (i3 x7)), (8, .int (i3 x8)), (9, .int (i3 x9)), (11, .int (i3 x11)), (12, .int (i3 x12)), (13, .int (i3 x13)), (14, .int (i3 x14))]) dL_told_458 (by decide) rfl ?_
    refine ok_lv [1, 2, 3, 4, 5, 6, 7, 8, 9, 10, 0, 11, 12, 13, 14] rfl ?_
    exact P
  · have P := P.2 c
    refine ok_iload (pc := 439) hc dL_told_439 13 rfl ?_
    refine ok_aload_n (pc := 441) hc dL_told_441 rfl 2 rfl ?_
    refine ok_aload_n (pc := 442) hc dL_told_442 rfl 3 rfl ?_
    obtain ⟨r0, P⟩ := P
    refine ok_callS (pc := 443) (cb := bb) (sb := sb9) (st := [.int (i3 x10)]) hc [.int (i3 x13), .ref a2, .ref a3] cs_L_29 sp_L_used (by decide) dL_told_443 rfl rfl rfl rfl (Nat.le_of_ble_eq_true rfl) (⟨_, _, _, _, _, _, rfl, ⟨e4.1, e4.2⟩, ⟨e2.1, e2.2⟩, hD5, hP3, r0, rfl, ?_⟩)
    show Ok X bb sb9 (443 + 3) [(0, .ref a0), (1, .int (i3 x1)), (2, .ref a2), (3, .ref a3), (4, .ref a4), (5, .ref a5), (6, .int (i3 x6)), (7, .int (i3 x7)), (8, .int (i3 x8)), (9, .int (i3 x9)), (10, .int (i3 x10)), (11, .int (i3 x11)), (12, .int (i3 x12)), (13, .int (i3 x13)), (14, .int (i3 x14))] [.int (i3 (bz (ps3.any (fun p => atB p x13)))), .int (i3 x10)] n h
    refine zk_if_eq (pc := 446) (tgt := 456) hc dL_told_446 (by decide) R3_bz (fun c => ?_) (fun c => ?_)
    · have P := P.1 (bz_0.mp c)
      refine ok_iconst (pc := 456) hc (v := i3 0) dL_told_456 (by decide) ?_
      refine zk_ior (pc := 457) hc dL_told_457 ?_
      refine ok_istore (pc := 458) hc (lv' := [(10, .int (i3 (bor x10 0))), (0, .ref a0), (1, .int (i3 x1)), (2, .ref a2), (3, .ref a3), (4, .ref a4), (5, .ref a5), (6, .int (i3 x6)), (7, .int (i3 x7)), (8, .int (i3 x8)), (9, .int (i3 x9)), (11, .int (i3 x11)), (12, .int (i3 x12)), (13, .int (i3 x13)), (14, .int (i3 x14))]) dL_told_458 (by decide) rfl ?_
      refine ok_lv [1, 2, 3, 4, 5, 6, 7, 8, 9, 10, 0, 11, 12, 13, 14] rfl ?_
      exact P
    · have P := P.2 (bz_1.mp c)
      refine ok_iconst (pc := 449) hc (v := i3 1) dL_told_449 (by decide) ?_
      refine ok_iload (pc := 450) hc dL_told_450 13 rfl ?_
      refine zk_ishl (pc := 452) hc dL_told_452 ?_
      refine ok_goto (pc := 453) (tgt := 457) hc dL_told_453 (by decide) ?_
      refine zk_ior (pc := 457) hc dL_told_457 ?_
      refine ok_istore (pc := 458) hc (lv' := [(10, .int (i3 (bor x10 (bshl 1 x13)))), (0, .ref a0), (1, .int (i3 x1)), (2, .ref a2), (3, .ref a3), (4, .ref a4), (5, .ref a5), (6, .int (i3 x6)), (7, .int (i3 x7)), (8, .int (i3 x8)), (9, .int (i3 x9)), (11, .int (i3 x11)), (12, .int (i3 x12)), (13, .int (i3 x13)), (14, .int (i3 x14))]) dL_told_458 (by decide) rfl ?_
      refine ok_lv [1, 2, 3, 4, 5, 6, 7, 8, 9, 10, 0, 11, 12, 13, 14] rfl ?_
      exact P

set_option maxHeartbeats 4000000 in
set_option maxRecDepth 100000 in
theorem sL_told_460 {X : Xt} {n : Nat} {h : HP} {a0 : Nat} {x1 : Int} {a2 : Nat} {a3 : Nat} {a4 : Nat} {a5 : Nat} {x6 : Int} {x7 : Int} {x8 : Int} {x9 : Int} {x10 : Int} {x11 : Int} {x12 : Int} {x13 : Int} {x14 : Int} {bb : Nat} {sb9 : Nat} (hc : Cx X cL_told RL 18 10 182) {K : KT} (hr : CxR X (some .boolean) K) 
    (P : Ok X bb sb9 463 [(0, .ref a0), (1, .int (i3 x1)), (2, .ref a2), (3, .ref a3), (4, .ref a4), (5, .ref a5), (6, .int (i3 x6)), (7, .int (i3 x7)), (8, .int (i3 x8)), (9, .int (i3 x9)), (10, .int (i3 x10)), (11, .int (i3 x11)), (12, .int (i3 x12)), (13, .int (i3 x13)), (14, .int (i3 x14)), (15, .int (i3 0))] [] n h) :
    Ok X bb sb9 460 [(0, .ref a0), (1, .int (i3 x1)), (2, .ref a2), (3, .ref a3), (4, .ref a4), (5, .ref a5), (6, .int (i3 x6)), (7, .int (i3 x7)), (8, .int (i3 x8)), (9, .int (i3 x9)), (10, .int (i3 x10)), (11, .int (i3 x11)), (12, .int (i3 x12)), (13, .int (i3 x13)), (14, .int (i3 x14))] [] n h := by
  refine ok_iconst (pc := 460) hc (v := i3 0) dL_told_460 (by decide) ?_
  refine ok_istore (pc := 461) hc (lv' := [(15, .int (i3 0)), (0, .ref a0), (1, .int (i3 x1)), (2, .ref a2), (3, .ref a3), (4, .ref a4), (5, .ref a5), (6, .int (i3 x6)), (7, .int (i3 x7)), (8, .int (i3 x8)), (9, .int (i3 x9)), (10, .int (i3 x10)), (11, .int (i3 x11)), (12, .int (i3 x12)), (13, .int (i3 x13)), (14, .int (i3 x14))]) dL_told_461 (by decide) rfl ?_
  refine ok_lv [1, 2, 3, 4, 5, 6, 7, 8, 9, 10, 11, 12, 13, 14, 15, 0] rfl ?_
  exact P

set_option maxHeartbeats 4000000 in
set_option maxRecDepth 100000 in
theorem sL_told_463 {X : Xt} {n : Nat} {h : HP} {a0 : Nat} {x1 : Int} {a2 : Nat} {a3 : Nat} {a4 : Nat} {a5 : Nat} {x6 : Int} {x7 : Int} {x8 : Int} {x9 : Int} {x10 : Int} {x11 : Int} {x12 : Int} {x13 : Int} {x14 : Int} {x15 : Int} {bb : Nat} {sb9 : Nat} (hc : Cx X cL_told RL 18 10 182) {K : KT} (hr : CxR X (some .boolean) K) 
    (P : (R3 x15) ∧ (2 ≤ x15 → Ok X bb sb9 507 [(0, .ref a0), (1, .int (i3 x1)), (2, .ref a2), (3, .ref a3), (4, .ref a4), (5, .ref a5), (6, .int (i3 x6)), (7, .int (i3 x7)), (8, .int (i3 x8)), (9, .int (i3 x9)), (10, .int (i3 x10)), (11, .int (i3 x11)), (12, .int (i3 x12)), (13, .int (i3 x13)), (14, .int (i3 x14)), (15, .int (i3 x15))] [] n h) ∧ (¬ 2 ≤ x15 → Ok X bb sb9 469 [(0, .ref a0), (1, .int (i3 x1)), (2, .ref a2), (3, .ref a3), (4, .ref a4), (5, .ref a5), (6, .int (i3 x6)), (7, .int (i3 x7)), (8, .int (i3 x8)), (9, .int (i3 x9)), (10, .int (i3 x10)), (11, .int (i3 x11)), (12, .int (i3 x12)), (13, .int (i3 x13)), (14, .int (i3 x14)), (15, .int (i3 x15))] [] n h)) :
    Ok X bb sb9 463 [(0, .ref a0), (1, .int (i3 x1)), (2, .ref a2), (3, .ref a3), (4, .ref a4), (5, .ref a5), (6, .int (i3 x6)), (7, .int (i3 x7)), (8, .int (i3 x8)), (9, .int (i3 x9)), (10, .int (i3 x10)), (11, .int (i3 x11)), (12, .int (i3 x12)), (13, .int (i3 x13)), (14, .int (i3 x14)), (15, .int (i3 x15))] [] n h := by
  refine ok_iload (pc := 463) hc dL_told_463 15 rfl ?_
  refine ok_iconst (pc := 465) hc (v := i3 2) dL_told_465 (by decide) ?_
  obtain ⟨r1, P⟩ := P
  refine zk_icmp_ge (pc := 466) (tgt := 507) hc dL_told_466 (by decide) r1 ⟨by decide, by decide⟩ (fun c => ?_) (fun c => ?_)
  · have P := P.1 c
    exact P
  · have P := P.2 c
    exact P

set_option maxHeartbeats 4000000 in
set_option maxRecDepth 100000 in
theorem sL_told_469 {X : Xt} {n : Nat} {h : HP} {a0 : Nat} {x1 : Int} {a2 : Nat} {a3 : Nat} {a4 : Nat} {a5 : Nat} {x6 : Int} {x7 : Int} {x8 : Int} {x9 : Int} {x10 : Int} {x11 : Int} {x12 : Int} {x13 : Int} {x14 : Int} {x15 : Int} {bb : Nat} {sb9 : Nat} {fs1 : List Value} (hc : Cx X cL_told RL 18 10 182) {K : KT} (hr : CxR X (some .boolean) K) (e1 : At h n a0 (.inl (6, fs1))) (z1 : fs1.length = 6)
    (P : spec_X6_voltage [.ref a0, .int (i3 x13), .int (i3 x15)] n h (kc X bb sb9 474 [(0, .ref a0), (1, .int (i3 x1)), (2, .ref a2), (3, .ref a3), (4, .ref a4), (5, .ref a5), (6, .int (i3 x6)), (7, .int (i3 x7)), (8, .int (i3 x8)), (9, .int (i3 x9)), (10, .int (i3 x10)), (11, .int (i3 x11)), (12, .int (i3 x12)), (13, .int (i3 x13)), (14, .int (i3 x14)), (15, .int (i3 x15))] [] n)) :
    Ok X (bb + 2) (sb9 + 12) 469 [(0, .ref a0), (1, .int (i3 x1)), (2, .ref a2), (3, .ref a3), (4, .ref a4), (5, .ref a5), (6, .int (i3 x6)), (7, .int (i3 x7)), (8, .int (i3 x8)), (9, .int (i3 x9)), (10, .int (i3 x10)), (11, .int (i3 x11)), (12, .int (i3 x12)), (13, .int (i3 x13)), (14, .int (i3 x14)), (15, .int (i3 x15))] [] n h := by
  refine ok_aload_n (pc := 469) hc dL_told_469 rfl 0 rfl ?_
  refine ok_iload (pc := 470) hc dL_told_470 13 rfl ?_
  refine ok_iload (pc := 472) hc dL_told_472 15 rfl ?_
  exact ok_callV (pc := 474) (a := a0) (cb := bb) (sb := sb9) (st := []) hc [.int (i3 x13), .int (i3 x15)] cv_L_80 sp_X6_voltage (by decide) dL_told_474 rfl e1.1 e1.2 rfl rfl rfl (Nat.le_of_ble_eq_true rfl) P

set_option maxHeartbeats 4000000 in
set_option maxRecDepth 100000 in
theorem sL_told_477 {X : Xt} {n : Nat} {h : HP} {a0 : Nat} {x1 : Int} {a2 : Nat} {a3 : Nat} {a4 : Nat} {a5 : Nat} {x6 : Int} {x7 : Int} {x8 : Int} {x9 : Int} {x10 : Int} {x11 : Int} {x12 : Int} {x13 : Int} {x14 : Int} {x15 : Int} {tl0 : Int} {bb : Nat} {sb9 : Nat} (hc : Cx X cL_told RL 18 10 182) {K : KT} (hr : CxR X (some .boolean) K) 
    (P : (R3 x14) ∧ (x14 = 0 → Ok X bb sb9 494 [(0, .ref a0), (1, .int (i3 x1)), (2, .ref a2), (3, .ref a3), (4, .ref a4), (5, .ref a5), (6, .int (i3 x6)), (7, .int (i3 x7)), (8, .int (i3 x8)), (9, .int (i3 x9)), (10, .int (i3 x10)), (11, .int (i3 x11)), (12, .int (i3 x12)), (13, .int (i3 x13)), (14, .int (i3 x14)), (15, .int (i3 x15))] [.long (i6 tl0)] n h) ∧ (¬ x14 = 0 → Ok X bb sb9 482 [(0, .ref a0), (1, .int (i3 x1)), (2, .ref a2), (3, .ref a3), (4, .ref a4), (5, .ref a5), (6, .int (i3 x6)), (7, .int (i3 x7)), (8, .int (i3 x8)), (9, .int (i3 x9)), (10, .int (i3 x10)), (11, .int (i3 x11)), (12, .int (i3 x12)), (13, .int (i3 x13)), (14, .int (i3 x14)), (15, .int (i3 x15))] [.long (i6 tl0)] n h)) :
    Ok X bb sb9 477 [(0, .ref a0), (1, .int (i3 x1)), (2, .ref a2), (3, .ref a3), (4, .ref a4), (5, .ref a5), (6, .int (i3 x6)), (7, .int (i3 x7)), (8, .int (i3 x8)), (9, .int (i3 x9)), (10, .int (i3 x10)), (11, .int (i3 x11)), (12, .int (i3 x12)), (13, .int (i3 x13)), (14, .int (i3 x14)), (15, .int (i3 x15))] [.long (i6 tl0)] n h := by
  refine ok_iload (pc := 477) hc dL_told_477 14 rfl ?_
  obtain ⟨r1, P⟩ := P
  refine zk_if_eq (pc := 479) (tgt := 494) hc dL_told_479 (by decide) r1 (fun c => ?_) (fun c => ?_)
  · have P := P.1 c
    exact P
  · have P := P.2 c
    exact P

set_option maxHeartbeats 4000000 in
set_option maxRecDepth 100000 in
theorem sL_told_482 {X : Xt} {n : Nat} {h : HP} {a0 : Nat} {x1 : Int} {a2 : Nat} {a3 : Nat} {a4 : Nat} {a5 : Nat} {x6 : Int} {x7 : Int} {x8 : Int} {x9 : Int} {x10 : Int} {x11 : Int} {x12 : Int} {x13 : Int} {x14 : Int} {x15 : Int} {tl0 : Int} {bb : Nat} {sb9 : Nat} {f1 : Nat → Int} {qs2 : List Part} {m2 : Nat} {γ2 : Nat → Int} (hc : Cx X cL_told RL 18 10 182) {K : KT} (hr : CxR X (some .boolean) K) (e1 : At h n a4 (al 56 f1)) (hS2 : Svd qs2 m2 γ2 f1)
    (P : (((0 : Int) ≤ x13 ∧ (x13 : Int) < 7) ∧ (((x15) : Int) = 0 ∨ ((x15) : Int) = 1)) ∧ (R6 tl0 ∧ R6 (lowT (numer qs2 m2 γ2 (x13 : Int).toNat) (solD qs2 m2) x15)) ∧ (tl0 = (lowT (numer qs2 m2 γ2 (x13 : Int).toNat) (solD qs2 m2) x15) → Ok X bb sb9 463 [(0, .ref a0), (1, .int (i3 x1)), (2, .ref a2), (3, .ref a3), (4, .ref a4), (5, .ref a5), (6, .int (i3 x6)), (7, .int (i3 x7)), (8, .int (i3 x8)), (9, .int (i3 x9)), (10, .int (i3 x10)), (11, .int (i3 x11)), (12, .int (i3 x12)), (13, .int (i3 x13)), (14, .int (i3 x14)), (15, .int (i3 (x15 + 1)))] [] n h) ∧ (¬ tl0 = (lowT (numer qs2 m2 γ2 (x13 : Int).toNat) (solD qs2 m2) x15) → K (.inl (some (.int (i3 0)))) n h)) :
    Ok X bb sb9 482 [(0, .ref a0), (1, .int (i3 x1)), (2, .ref a2), (3, .ref a3), (4, .ref a4), (5, .ref a5), (6, .int (i3 x6)), (7, .int (i3 x7)), (8, .int (i3 x8)), (9, .int (i3 x9)), (10, .int (i3 x10)), (11, .int (i3 x11)), (12, .int (i3 x12)), (13, .int (i3 x13)), (14, .int (i3 x14)), (15, .int (i3 x15))] [.long (i6 tl0)] n h := by
  refine ok_iload (pc := 482) hc dL_told_482 13 rfl ?_
  refine ok_iload (pc := 484) hc dL_told_484 15 rfl ?_
  refine ok_aload (pc := 486) hc dL_told_486 4 rfl ?_
  obtain ⟨r0, P⟩ := P
  refine ok_callS (pc := 488) (cb := bb) (sb := sb9) (st := [.long (i6 tl0)]) hc [.int (i3 x13), .int (i3 x15), .ref a4] cs_L_41 sp_L_part (by decide) dL_told_488 rfl rfl rfl rfl (Nat.le_of_ble_eq_true rfl) (⟨_, _, _, _, _, _, _, rfl, ⟨e1.1, e1.2⟩, hS2, r0.1, r0.2, rfl, ?_⟩)
  show Ok X bb sb9 (488 + 3) [(0, .ref a0), (1, .int (i3 x1)), (2, .ref a2), (3, .ref a3), (4, .ref a4), (5, .ref a5), (6, .int (i3 x6)), (7, .int (i3 x7)), (8, .int (i3 x8)), (9, .int (i3 x9)), (10, .int (i3 x10)), (11, .int (i3 x11)), (12, .int (i3 x12)), (13, .int (i3 x13)), (14, .int (i3 x14)), (15, .int (i3 x15))] [.long (i6 (lowT (numer qs2 m2 γ2 (x13 : Int).toNat) (solD qs2 m2) x15)), .long (i6 tl0)] n h
  refine ok_goto (pc := 491) (tgt := 495) hc dL_told_491 (by decide) ?_
  obtain ⟨r, P⟩ := P
  refine zk_lcmp (pc := 495) hc dL_told_495 r ?_
  refine zk_if_eq (pc := 496) (tgt := 501) hc dL_told_496 (by decide) R3_cmp (fun c => ?_) (fun c => ?_)
  · have P := P.1 (cmp_eq.mp c)
    refine zk_iinc (pc := 501) hc (q := 15) (x := x15) (lv' := [(15, .int (i3 (x15 + 1))), (0, .ref a0), (1, .int (i3 x1)), (2, .ref a2), (3, .ref a3), (4, .ref a4), (5, .ref a5), (6, .int (i3 x6)), (7, .int (i3 x7)), (8, .int (i3 x8)), (9, .int (i3 x9)), (10, .int (i3 x10)), (11, .int (i3 x11)), (12, .int (i3 x12)), (13, .int (i3 x13)), (14, .int (i3 x14))]) dL_told_501 rfl (by decide) rfl ?_
    refine ok_goto (pc := 504) (tgt := 463) hc dL_told_504 (by decide) ?_
    refine ok_lv [1, 2, 3, 4, 5, 6, 7, 8, 9, 10, 11, 12, 13, 14, 15, 0] rfl ?_
    exact P
  · have P := P.2 (fun z => c (cmp_eq.mpr z))
    refine ok_iconst (pc := 499) hc (v := i3 0) dL_told_499 (by decide) ?_
    exact ok_zret (st := []) (pc := 500) hc (nar_z (by decide)) hr dL_told_500 P

set_option maxHeartbeats 4000000 in
set_option maxRecDepth 100000 in
theorem sL_told_494 {X : Xt} {n : Nat} {h : HP} {a0 : Nat} {x1 : Int} {a2 : Nat} {a3 : Nat} {a4 : Nat} {a5 : Nat} {x6 : Int} {x7 : Int} {x8 : Int} {x9 : Int} {x10 : Int} {x11 : Int} {x12 : Int} {x13 : Int} {x14 : Int} {x15 : Int} {tl0 : Int} {bb : Nat} {sb9 : Nat} (hc : Cx X cL_told RL 18 10 182) {K : KT} (hr : CxR X (some .boolean) K) 
    (P : (R6 tl0 ∧ R6 0) ∧ (tl0 = 0 → Ok X bb sb9 463 [(0, .ref a0), (1, .int (i3 x1)), (2, .ref a2), (3, .ref a3), (4, .ref a4), (5, .ref a5), (6, .int (i3 x6)), (7, .int (i3 x7)), (8, .int (i3 x8)), (9, .int (i3 x9)), (10, .int (i3 x10)), (11, .int (i3 x11)), (12, .int (i3 x12)), (13, .int (i3 x13)), (14, .int (i3 x14)), (15, .int (i3 (x15 + 1)))] [] n h) ∧ (¬ tl0 = 0 → K (.inl (some (.int (i3 0)))) n h)) :
    Ok X bb sb9 494 [(0, .ref a0), (1, .int (i3 x1)), (2, .ref a2), (3, .ref a3), (4, .ref a4), (5, .ref a5), (6, .int (i3 x6)), (7, .int (i3 x7)), (8, .int (i3 x8)), (9, .int (i3 x9)), (10, .int (i3 x10)), (11, .int (i3 x11)), (12, .int (i3 x12)), (13, .int (i3 x13)), (14, .int (i3 x14)), (15, .int (i3 x15))] [.long (i6 tl0)] n h := by
  refine ok_lconst (pc := 494) hc (v := i6 0) dL_told_494 (by decide) ?_
  obtain ⟨r, P⟩ := P
  refine zk_lcmp (pc := 495) hc dL_told_495 r ?_
  refine zk_if_eq (pc := 496) (tgt := 501) hc dL_told_496 (by decide) R3_cmp (fun c => ?_) (fun c => ?_)
  · have P := P.1 (cmp_eq.mp c)
    refine zk_iinc (pc := 501) hc (q := 15) (x := x15) (lv' := [(15, .int (i3 (x15 + 1))), (0, .ref a0), (1, .int (i3 x1)), (2, .ref a2), (3, .ref a3), (4, .ref a4), (5, .ref a5), (6, .int (i3 x6)), (7, .int (i3 x7)), (8, .int (i3 x8)), (9, .int (i3 x9)), (10, .int (i3 x10)), (11, .int (i3 x11)), (12, .int (i3 x12)), (13, .int (i3 x13)), (14, .int (i3 x14))]) dL_told_501 rfl (by decide) rfl ?_
    refine ok_goto (pc := 504) (tgt := 463) hc dL_told_504 (by decide) ?_
    refine ok_lv [1, 2, 3, 4, 5, 6, 7, 8, 9, 10, 11, 12, 13, 14, 15, 0] rfl ?_
    exact P
  · have P := P.2 (fun z => c (cmp_eq.mpr z))
    refine ok_iconst (pc := 499) hc (v := i3 0) dL_told_499 (by decide) ?_
    exact ok_zret (st := []) (pc := 500) hc (nar_z (by decide)) hr dL_told_500 P

set_option maxHeartbeats 4000000 in
set_option maxRecDepth 100000 in
theorem sL_told_507 {X : Xt} {n : Nat} {h : HP} {a0 : Nat} {x1 : Int} {a2 : Nat} {a3 : Nat} {a4 : Nat} {a5 : Nat} {x6 : Int} {x7 : Int} {x8 : Int} {x9 : Int} {x10 : Int} {x11 : Int} {x12 : Int} {x13 : Int} {x14 : Int} {x15 : Int} {bb : Nat} {sb9 : Nat} (hc : Cx X cL_told RL 18 10 182) {K : KT} (hr : CxR X (some .boolean) K) 
    (P : Ok X bb sb9 373 [(0, .ref a0), (1, .int (i3 x1)), (2, .ref a2), (3, .ref a3), (4, .ref a4), (5, .ref a5), (6, .int (i3 x6)), (7, .int (i3 x7)), (8, .int (i3 x8)), (9, .int (i3 x9)), (10, .int (i3 x10)), (11, .int (i3 x11)), (12, .int (i3 x12)), (13, .int (i3 (x13 + 1)))] [] n h) :
    Ok X bb sb9 507 [(0, .ref a0), (1, .int (i3 x1)), (2, .ref a2), (3, .ref a3), (4, .ref a4), (5, .ref a5), (6, .int (i3 x6)), (7, .int (i3 x7)), (8, .int (i3 x8)), (9, .int (i3 x9)), (10, .int (i3 x10)), (11, .int (i3 x11)), (12, .int (i3 x12)), (13, .int (i3 x13)), (14, .int (i3 x14)), (15, .int (i3 x15))] [] n h := by
  refine zk_iinc (pc := 507) hc (q := 13) (x := x13) (lv' := [(13, .int (i3 (x13 + 1))), (0, .ref a0), (1, .int (i3 x1)), (2, .ref a2), (3, .ref a3), (4, .ref a4), (5, .ref a5), (6, .int (i3 x6)), (7, .int (i3 x7)), (8, .int (i3 x8)), (9, .int (i3 x9)), (10, .int (i3 x10)), (11, .int (i3 x11)), (12, .int (i3 x12)), (14, .int (i3 x14)), (15, .int (i3 x15))]) dL_told_507 rfl (by decide) rfl ?_
  refine ok_goto (pc := 510) (tgt := 373) hc dL_told_510 (by decide) ?_
  refine ok_lv [1, 2, 3, 4, 5, 6, 7, 8, 9, 10, 11, 12, 13, 0] rfl ?_
  exact P

set_option maxHeartbeats 4000000 in
theorem told_2k {X : Xt} {n : Nat} {h : HP} {d a e f i : Nat} {Fd F : Nat → Int} {q : Dsk} {p : Part} {x1 x6 x7 x8 x9 x10 x11 : Int} {bb sb9 : Nat} (hc : Cx X cL_told RL 18 10 182) {K : KT} (hr : CxR X (some .boolean) K) (hT : TC h n d a e f Fd F q) (hp : q.1.1[i]? = some p) (k : ∀ hh, TW h n e f q hh → Ok X bb sb9 252 [(0, .ref 0), (1, .int (i3 x1)), (2, .ref d), (3, .ref a), (4, .ref e), (5, .ref f), (6, .int (i3 x6)), (7, .int (i3 x7)), (8, .int (i3 x8)), (9, .int (i3 x9)), (10, .int (i3 x10)), (11, .int (i3 x11)), (12, .int (i3 ((i : Int) + 1)))] [] n hh) : ∀ (j w : Nat), w + j = 4 → ∀ hh, TW h n e f q hh → Ok X (bb + 2 * j) (sb9 + 12 * j) 263 [(0, .ref 0), (1, .int (i3 x1)), (2, .ref d), (3, .ref a), (4, .ref e), (5, .ref f), (6, .int (i3 x6)), (7, .int (i3 x7)), (8, .int (i3 x8)), (9, .int (i3 x9)), (10, .int (i3 x10)), (11, .int (i3 x11)), (12, .int (i3 (i : Int))), (13, .int (i3 (w : Int)))] [] n hh := by
  obtain ⟨⟨⟨l1, l2, l3, l4⟩, n1, n2, n3, n4, n5⟩, ed, ea, hD, hP, hO⟩ := hT
  obtain ⟨g0, g1, g2, g3, hi', hl', hw⟩ := hP.g hp
  have rr := hP.2.2.2
  intro j
  induction j with
  | zero =>
    intro w hw hh hq
    exact sL_told_263 hc hr ⟨R3_s (by omega), fun _ => sL_told_317 hc hr (k hh hq), fun z => absurd (by omega) z⟩
  | succ j ih =>
    intro w hw2 hh hq
    have x0 : Ix (4 * (i : Int)) 48 := ⟨by omega, by omega, by omega⟩
    have xw : Ix (4 * (i : Int) + (w : Int)) 48 := ⟨by omega, by omega, by omega⟩
    refine sL_told_263 hc hr ⟨R3_s (by omega), fun z => absurd z (by omega), fun _ => ?_⟩
    refine sL_told_269 (bb := bb + 2 * j) (sb9 := sb9 + 12 * j) hc hr hq.1.1 rfl ⟨q, i, w, rfl, R3_s (by omega), R3_s (by omega), hq.1, ?_⟩
    have nx := ih (w + 1) (by omega) hh hq
    have ec : ((w + 1 : Nat) : Int) = (w : Int) + 1 := by omega
    rw [ec] at nx
    have eop : opPart q i w = .inl (if (w : Int) = 0 then p.1 else if (w : Int) = 1 then p.2.1 else if (w : Int) = 2 then p.2.2.1 else p.2.2.2) := by
      unfold opPart
      rw [prt_of hp]
      simp only
      rcases (show w = 0 ∨ w = 1 ∨ w = 2 ∨ w = 3 by omega) with y | y | y | y <;> subst y <;> rfl
    rw [eop]
    have e0 : F (4 * (i : Int) + ((0 : Nat) : Int) : Int).toNat = p.1 := by
      rw [show (4 * (i : Int) + ((0 : Nat) : Int) : Int) = 4 * (i : Int) by omega]
      exact g0
    have r0 : R3 p.1 := by rw [← g0]; exact rr _
    have r1 : R3 p.2.1 := by rw [← g1]; exact rr _
    have r3 : R3 p.2.2.2 := by rw [← g3]; exact rr _
    rcases (show w = 0 ∨ w = 1 ∨ w = 2 ∨ w = 3 by omega) with y | y | y | y <;> subst y
    · refine ⟨rfl, sL_told_277 (t0 := p.1) hc hr (hq.at ea l2 n3 n4) ⟨R3_s (by omega), fun _ => ?_, fun z => absurd z (by decide)⟩⟩
      rw [e0]
      exact ⟨xw, r0, r0, fun _ => nx, fun z => absurd rfl z⟩
    · refine ⟨rfl, sL_told_277 (t0 := p.2.1) hc hr (hq.at ea l2 n3 n4) ⟨R3_s (by omega), fun _ => ?_, fun z => absurd z (by decide)⟩⟩
      have e1 : F (4 * (i : Int) + ((1 : Nat) : Int) : Int).toNat = p.2.1 := g1
      rw [e1]
      exact ⟨xw, r1, r1, fun _ => nx, fun z => absurd rfl z⟩
    · refine ⟨rfl, sL_told_277 (t0 := p.2.2.1) hc hr (hq.at ea l2 n3 n4) ⟨R3_s (by omega), fun z => absurd rfl z, fun _ => ?_⟩⟩
      rw [g0]
      have r2 : R3 p.2.2.1 := by
        unfold PW at hw
        exact R3_s (by omega)
      refine ⟨x0, r0, fun z => ?_, fun z => ⟨r2, fun _ => nx, fun y => absurd ?_ y⟩⟩
      · have e2 : F (4 * (i : Int) + ((2 : Nat) : Int) : Int).toNat = p.2.2.1 := g2 z
        rw [e2]
        exact ⟨xw, r2, r2, fun _ => nx, fun z => absurd rfl z⟩
      · unfold PW at hw
        omega
    · refine ⟨rfl, sL_told_277 (t0 := p.2.2.2) hc hr (hq.at ea l2 n3 n4) ⟨R3_s (by omega), fun _ => ?_, fun z => absurd z (by decide)⟩⟩
      have e3 : F (4 * (i : Int) + ((3 : Nat) : Int) : Int).toNat = p.2.2.2 := g3
      rw [e3]
      exact ⟨xw, r3, r3, fun _ => nx, fun z => absurd rfl z⟩
set_option maxHeartbeats 4000000 in
theorem told_2 {X : Xt} {n : Nat} {h : HP} {d a e f : Nat} {Fd F : Nat → Int} {q : Dsk} {x1 x6 x7 x8 x9 x10 x11 : Int} {bb sb9 : Nat} (hc : Cx X cL_told RL 18 10 182) {K : KT} (hr : CxR X (some .boolean) K) (hT : TC h n d a e f Fd F q) (k : ∀ hh x12, TW h n e f q hh → Ok X bb sb9 323 [(0, .ref 0), (1, .int (i3 x1)), (2, .ref d), (3, .ref a), (4, .ref e), (5, .ref f), (6, .int (i3 x6)), (7, .int (i3 x7)), (8, .int (i3 x8)), (9, .int (i3 x9)), (10, .int (i3 x10)), (11, .int (i3 x11)), (12, .int (i3 x12))] [] n hh) : ∀ (j i : Nat), i + j = q.1.1.length → ∀ hh, TW h n e f q hh → Ok X (bb + 8 * j) (sb9 + 48 * j) 252 [(0, .ref 0), (1, .int (i3 x1)), (2, .ref d), (3, .ref a), (4, .ref e), (5, .ref f), (6, .int (i3 x6)), (7, .int (i3 x7)), (8, .int (i3 x8)), (9, .int (i3 x9)), (10, .int (i3 x10)), (11, .int (i3 x11)), (12, .int (i3 (i : Int)))] [] n hh := by
  obtain ⟨⟨⟨l1, l2, l3, l4⟩, n1, n2, n3, n4, n5⟩, ed, ea, hD, hP, hO⟩ := id hT
  have hd0 : Fd (0 : Int).toNat = q.1.1.length := hD.1
  have hl := hP.1
  intro j
  induction j with
  | zero =>
    intro i hi hh hq
    refine sL_told_252 hc hr (hq.at ed l1 n1 n2) ?_
    rw [hd0]
    exact ⟨⟨by decide, by decide, by decide⟩, R3_s (by omega), R3_s (by omega), fun _ => k hh _ hq, fun z => absurd (by omega) z⟩
  | succ j ih =>
    intro i hi hh hq
    have hp : q.1.1[i]? = some q.1.1[i] := List.getElem?_eq_getElem (by omega)
    refine sL_told_252 hc hr (hq.at ed l1 n1 n2) ?_
    rw [hd0]
    refine ⟨⟨by decide, by decide, by decide⟩, R3_s (by omega), R3_s (by omega), fun z => absurd z (by omega), fun _ => sL_told_260 hc hr ?_⟩
    exact told_2k (bb := bb + 8 * j) (sb9 := sb9 + 48 * j) hc hr hT hp (fun h1 hq1 => ih (i + 1) (by omega) h1 hq1) 4 0 rfl hh hq
set_option maxHeartbeats 4000000 in
theorem told_is {X : Xt} {n : Nat} {h : HP} {d a e f : Nat} {Fd F : Nat → Int} {q : Dsk} {x1 x6 x7 x8 x9 x10 x11 x12 : Int} {bb sb9 : Nat} (hc : Cx X cL_told RL 18 10 182) {K : KT} (hr : CxR X (some .boolean) K) (hT : TC h n d a e f Fd F q) (k : ∀ hh E, TW h n e f q hh → At hh n e (al 56 E) → (q.1.2.2.2 = 1 → Svd q.1.1 (satN q.1.2.2.1 (nA q.1.1)) (givC q.1 q.1.2.2.1) E) → Ok X bb sb9 370 [(0, .ref 0), (1, .int (i3 x1)), (2, .ref d), (3, .ref a), (4, .ref e), (5, .ref f), (6, .int (i3 x6)), (7, .int (i3 x7)), (8, .int (i3 x8)), (9, .int (i3 x9)), (10, .int (i3 x10)), (11, .int (i3 x11)), (12, .int (i3 q.1.2.2.2))] [] n hh) (hh : HP) (hq : TW h n e f q hh) : Ok X bb sb9 323 [(0, .ref 0), (1, .int (i3 x1)), (2, .ref d), (3, .ref a), (4, .ref e), (5, .ref f), (6, .int (i3 x6)), (7, .int (i3 x7)), (8, .int (i3 x8)), (9, .int (i3 x9)), (10, .int (i3 x10)), (11, .int (i3 x11)), (12, .int (i3 x12))] [] n hh := by
  obtain ⟨⟨⟨l1, l2, l3, l4⟩, n1, n2, n3, n4, n5⟩, ed, ea, hD, hP, hO⟩ := hT
  have hG := hq.1.gd.1
  have hG1 := hG.1
  have h3 := hG1.2.1
  have h27 := c27 h3
  have hrl : 0 ≤ q.1.2.1 ∧ q.1.2.1 ≤ 200 := by have := hG.2.1; omega
  have hci : 0 ≤ q.1.2.2.1 ∧ q.1.2.2.1 ≤ 26 := by have := hG.2.2.1; omega
  have hst := hG.2.2.2
  have hd2 : Fd (2 : Int).toNat = q.1.2.2.1 := hD.2.2.1
  have hd3 : Fd (3 : Int).toNat = q.1.2.2.2 := hD.2.2.2
  have rst : R3 q.1.2.2.2 := R3_s (by omega)
  obtain ⟨E0, ee0⟩ := hq.2.2.1
  refine sL_told_323 hc hr (hq.at ed l1 n1 n2) ?_
  rw [hd2]
  refine ⟨⟨by decide, by decide, by decide⟩, d, a, e, Fd, F, E0, q.1.1, q.1.2.2.1, -1, satN q.1.2.2.1 (nA q.1.1), q.1.2.1, givC q.1 q.1.2.2.1, rfl, hq.at ed l1 n1 n2, hq.at ea l2 n3 n4, ee0, ⟨hD.1, hD.2.1, hrl⟩, hP, hG1, ⟨hci, by decide, by decide⟩, mat_case hG1 q.1.2.2.1, fun G hGe => ⟨rfl, ?_⟩⟩
  have hq1 := hq.e (E := G) l3 n5
  have ee1 : At (va_up hh e (al 56 G)) n e (al 56 G) := ee0.it
  generalize va_up hh e (al 56 G) = h1 at hq1 ee1
  refine sL_told_334 hc hr (hq1.at ed l1 n1 n2) ?_
  rw [hd3]
  refine ⟨⟨by decide, by decide, by decide⟩, rst, fun y => ?_, fun y => ?_⟩
  · have e0 : q.1.2.2.2 = 0 := by omega
    have k9 := k h1 G hq1 ee1 (fun z => absurd z y)
    refine sL_told_353 hc hr (sL_told_356 hc hr (hq1.at ed l1 n1 n2) ?_)
    rw [hd3]
    refine ⟨⟨by decide, by decide, by decide⟩, rst, fun _ => ?_, fun z => absurd z y⟩
    rw [e0] at k9
    exact k9
  · have hsol := jud_sol (hO y)
    refine sL_told_341 hc hr ⟨e, G, q.1.1, satN q.1.2.2.1 (nA q.1.1), givC q.1 q.1.2.2.1, rfl, ee1, hG1, gv_case hG1 hrl q.1.2.2.1, hGe, fun E4 hE4 => ⟨rfl, ?_⟩⟩
    have hq2 := hq1.e (E := E4) l3 n5
    have ee2 : At (va_up h1 e (al 56 E4)) n e (al 56 E4) := ee1.it
    generalize va_up h1 e (al 56 E4) = h2 at hq2 ee2
    have k9 := k h2 E4 hq2 ee2 (fun _ => hE4 hsol)
    refine sL_told_346 (t0 := bz (decide (solD q.1.1 (satN q.1.2.2.1 (nA q.1.1)) ≠ 0))) hc hr ?_
    rw [decide_eq_true hsol]
    refine ⟨R3_bz, fun z => absurd z (by decide), fun _ => sL_told_356 hc hr (hq2.at ed l1 n1 n2) ?_⟩
    rw [hd3]
    refine ⟨⟨by decide, by decide, by decide⟩, rst, fun z => absurd y z, fun _ => ⟨R3_s (by decide), fun _ => ?_, fun z => absurd z (by decide)⟩⟩
    rw [y] at k9
    exact k9
/-- the law's mask of the nodes below k -/
def mkN (ps : List Part) : Nat → Int
  | 0 => 0
  | k + 1 => if k ≠ 0 ∧ ps.any (fun p => atB p k) = true then bor (mkN ps k) (bshl 1 k) else bor (mkN ps k) 0
theorem bor_0 {x : Int} (h : R3 x) : bor x 0 = x := by
  unfold bor
  rw [show i3 0 = 0 from rfl, Int32.or_zero]
  exact i3_toInt h
theorem mkN_v (ps : List Part) : ∀ k : Nat, k ≤ 7 → Mk (mkN ps k) ∧ ∀ j : Nat, j < 7 → bcon (mkN ps k) j = if j < k ∧ j ≠ 0 ∧ ps.any (fun p => atB p j) = true then 1 else 0
  | 0, _ => ⟨Mk0, fun j hj => by
    rw [if_neg (fun z => Nat.not_lt_zero _ z.1)]
    exact Mk.zero (by omega)⟩
  | k + 1, hk => by
    obtain ⟨m, c⟩ := mkN_v ps k (by omega)
    unfold mkN
    by_cases z : k ≠ 0 ∧ ps.any (fun p => atB p k) = true
    · rw [if_pos z]
      refine ⟨m.or (by omega), fun j hj => ?_⟩
      rw [m.con (by omega) (by omega), c j hj]
      by_cases y : j = k
      · subst y
        rw [if_pos rfl, if_pos ⟨by omega, z⟩]
      · rw [if_neg (by omega)]
        by_cases x : j < k ∧ j ≠ 0 ∧ ps.any (fun p => atB p j) = true
        · rw [if_pos x, if_pos ⟨by omega, x.2⟩]
        · rw [if_neg x, if_neg (fun w => x ⟨by omega, w.2⟩)]
    · rw [if_neg z, bor_0 (R3_s (by have := m.1; have := m.2; omega))]
      refine ⟨m, fun j hj => ?_⟩
      rw [c j hj]
      by_cases x : j < k ∧ j ≠ 0 ∧ ps.any (fun p => atB p j) = true
      · rw [if_pos x, if_pos ⟨by omega, x.2⟩]
      · rw [if_neg x, if_neg (fun w => ?_)]
        by_cases y : j = k
        · subst y
          exact z w.2
        · exact x ⟨by omega, w.2⟩
theorem Mk.ext {a b : Int} (ha : Mk a) (hb : Mk b) (h : ∀ j : Nat, j < 7 → bcon a j = bcon b j) : a = b := by
  obtain ⟨a1, a2⟩ := ha
  obtain ⟨b1, b2⟩ := hb
  have : a.toNat = b.toNat := Nat.eq_of_testBit_eq fun j => by
    by_cases hj : j < 7
    · have e1 := mskt a.toNat (by omega) j hj
      have e2 := mskt b.toNat (by omega) j hj
      rw [Int.toNat_of_nonneg a1] at e1
      rw [Int.toNat_of_nonneg b1] at e2
      have e3 := h j hj
      rw [e1, e2] at e3
      cases x : a.toNat.testBit j <;> cases y : b.toNat.testBit j <;> rw [x, y] at e3 <;> first | rfl | (exact absurd e3 (by decide))
    · have hp : 2 ^ 7 ≤ 2 ^ j := Nat.pow_le_pow_right (by decide) (by omega)
      rw [Nat.testBit_lt_two_pow (by omega), Nat.testBit_lt_two_pow (by omega)]
  omega
theorem mkN_used {ps : List Part} (hp : ∀ p ∈ ps, PW p) : mkN ps 7 = usedM ps := by
  obtain ⟨m, c⟩ := mkN_v ps 7 (Nat.le_refl _)
  refine m.ext (Mk.gnd (Mk.uf hp 0 Mk0)) fun j hj => ?_
  rw [c j hj]
  have := used_con hp (j := (j : Int)) (by omega)
  rw [this]
  by_cases x : j ≠ 0 ∧ ps.any (fun p => atB p j) = true
  · rw [if_pos ⟨hj, x⟩, if_pos ⟨by omega, x.2⟩]
  · rw [if_neg (fun z => x z.2), if_neg (fun z => x ⟨by omega, z.2⟩)]
set_option maxHeartbeats 4000000 in
theorem told_3k {X : Xt} {n : Nat} {h : HP} {d a e f : Nat} {Fd F : Nat → Int} {q : Dsk} {x1 x6 x7 x8 x9 x10 x11 x12 told : Int} {node bb sb9 : Nat} {E : Nat → Int} (hc : Cx X cL_told RL 18 10 182) {K : KT} (hr : CxR X (some .boolean) K) (hT : TC h n d a e f Fd F q) (hnd : node < 7) (hv : TvOk (fun w => if q.1.2.2.2 = 0 then 0 else nodeV q.1 q.1.2.2.1 node w) q.1.1 (satN q.1.2.2.1 (nA q.1.1)) (givC q.1 q.1.2.2.1) node told E) (k : ∀ hh, TW h n e f q hh → At hh n e (al 56 E) → Ok X bb sb9 373 [(0, .ref 0), (1, .int (i3 x1)), (2, .ref d), (3, .ref a), (4, .ref e), (5, .ref f), (6, .int (i3 x6)), (7, .int (i3 x7)), (8, .int (i3 x8)), (9, .int (i3 x9)), (10, .int (i3 x10)), (11, .int (i3 x11)), (12, .int (i3 x12)), (13, .int (i3 ((node : Int) + 1)))] [] n hh) : ∀ (j w : Nat), w + j = 2 → ∀ hh, TW h n e f q hh → At hh n e (al 56 E) → Ok X (bb + 2 * j) (sb9 + 12 * j) 463 [(0, .ref 0), (1, .int (i3 x1)), (2, .ref d), (3, .ref a), (4, .ref e), (5, .ref f), (6, .int (i3 x6)), (7, .int (i3 x7)), (8, .int (i3 x8)), (9, .int (i3 x9)), (10, .int (i3 x10)), (11, .int (i3 x11)), (12, .int (i3 x12)), (13, .int (i3 (node : Int))), (14, .int (i3 told)), (15, .int (i3 (w : Int)))] [] n hh := by
  obtain ⟨⟨⟨l1, l2, l3, l4⟩, n1, n2, n3, n4, n5⟩, ed, ea, hD, hP, hO⟩ := hT
  intro j
  induction j with
  | zero =>
    intro w hw hh hq he
    exact sL_told_463 hc hr ⟨R3_s (by omega), fun _ => sL_told_507 hc hr (k hh hq he), fun z => absurd (by omega) z⟩
  | succ j ih =>
    intro w hw hh hq he
    have ew : (w : Int) = 0 ∨ (w : Int) = 1 := by omega
    refine sL_told_463 hc hr ⟨R3_s (by omega), fun z => absurd z (by omega), fun _ => ?_⟩
    refine sL_told_469 (bb := bb + 2 * j) (sb9 := sb9 + 12 * j) hc hr hq.1.1 rfl ⟨q, node, w, rfl, R3_s (by omega), R3_s (by omega), hq.1, fun h1 hq1 f1 => ?_⟩
    have hoc : opVolt q node w = .inl ((fun w => if q.1.2.2.2 = 0 then 0 else nodeV q.1 q.1.2.2.1 node w) (w : Int)) := by
      unfold opVolt
      rw [if_neg (fun z => z ⟨by omega, by omega⟩), if_neg (fun z => z ew)]
      by_cases z : q.1.2.2.2 = 0
      · rw [if_pos z]
        show _ = Sum.inl (if _ then _ else _)
        rw [if_pos z]
      · rw [if_neg z]
        show _ = Sum.inl (if _ then _ else _)
        rw [if_neg z]
    rw [hoc]
    have hq' := hq.fr l3 l4 hq1 f1
    have he' : At h1 n e (al 56 E) := he.fr f1 (by omega)
    have nx := ih (w + 1) (by omega) h1 hq' he'
    have ec : ((w + 1 : Nat) : Int) = (w : Int) + 1 := by omega
    rw [ec] at nx
    rcases hv with ⟨e0, hz⟩ | ⟨e1, hS, hz⟩
    · rw [hz w]
      refine ⟨rfl, sL_told_477 (tl0 := 0) hc hr ⟨R3_s (by omega), fun _ => sL_told_494 hc hr ⟨⟨R6_0, R6_0⟩, fun _ => nx, fun z => absurd rfl z⟩, fun z => absurd e0 z⟩⟩
    · rw [hz w]
      have r6 := low_r6 hS (k := node) hnd ew
      refine ⟨rfl, sL_told_477 hc hr ⟨R3_s (by omega), fun z => absurd z (by omega), fun _ => sL_told_482 hc hr he' hS ⟨⟨⟨by omega, by omega⟩, ew⟩, ⟨r6, r6⟩, fun _ => nx, fun z => absurd rfl z⟩⟩⟩
set_option maxHeartbeats 8000000 in
theorem told_3 {X : Xt} {n : Nat} {h : HP} {d a e f : Nat} {Fd F : Nat → Int} {q : Dsk} {x1 x6 x7 x8 x9 : Int} {bb sb9 : Nat} {E : Nat → Int} (hc : Cx X cL_told RL 18 10 182) {K : KT} (hr : CxR X (some .boolean) K) (hT : TC h n d a e f Fd F q) (hS : q.1.2.2.2 = 1 → Svd q.1.1 (satN q.1.2.2.1 (nA q.1.1)) (givC q.1 q.1.2.2.1) E) (k : ∀ hh, TW h n e f q hh → At hh n e (al 56 E) → Ok X bb sb9 513 [(0, .ref 0), (1, .int (i3 x1)), (2, .ref d), (3, .ref a), (4, .ref e), (5, .ref f), (6, .int (i3 x6)), (7, .int (i3 x7)), (8, .int (i3 x8)), (9, .int (i3 x9)), (10, .int (i3 (usedM q.1.1))), (11, .int (i3 (nodesN (usedM q.1.1)))), (12, .int (i3 q.1.2.2.2)), (13, .int (i3 7))] [] n hh) : ∀ (j i : Nat), i + j = 7 → ∀ hh, TW h n e f q hh → At hh n e (al 56 E) → Ok X (bb + 4 * j) (sb9 + 24 * j) 373 [(0, .ref 0), (1, .int (i3 x1)), (2, .ref d), (3, .ref a), (4, .ref e), (5, .ref f), (6, .int (i3 x6)), (7, .int (i3 x7)), (8, .int (i3 x8)), (9, .int (i3 x9)), (10, .int (i3 (mkN q.1.1 i))), (11, .int (i3 (sumN (fun j => bcon (usedM q.1.1) j) i))), (12, .int (i3 q.1.2.2.2)), (13, .int (i3 (i : Int)))] [] n hh := by
  obtain ⟨⟨⟨l1, l2, l3, l4⟩, n1, n2, n3, n4, n5⟩, ed, ea, hD, hP, hO⟩ := id hT
  intro j
  induction j with
  | zero =>
    intro i hi hh hq he
    obtain rfl : i = 7 := by omega
    have hpw : ∀ p ∈ q.1.1, PW p := fun p hp => (hq.1.gd.1.1.2.2.1 p hp).1
    rw [mkN_used hpw]
    exact sL_told_373 hc hr ⟨R3_s (by omega), fun _ => k hh hq he, fun z => absurd (by omega) z⟩
  | succ j ih =>
    intro i hi hh hq he
    have hG := hq.1.gd.1
    have hst := hG.2.2.2
    have hpw : ∀ p ∈ q.1.1, PW p := fun p hp => (hG.1.2.2.1 p hp).1
    have rst : R3 q.1.2.2.2 := R3_s (by omega)
    have uc := used_con hpw (j := (i : Int)) (by omega)
    have es : sumN (fun j => bcon (usedM q.1.1) j) (i + 1) = sumN (fun j => bcon (usedM q.1.1) j) i + bcon (usedM q.1.1) i := rfl
    rw [uc] at es
    have em : mkN q.1.1 (i + 1) = if i ≠ 0 ∧ q.1.1.any (fun p => atB p i) = true then bor (mkN q.1.1 i) (bshl 1 i) else bor (mkN q.1.1 i) 0 := rfl
    have nx : ∀ told, TvOk (fun w => if q.1.2.2.2 = 0 then 0 else nodeV q.1 q.1.2.2.1 i w) q.1.1 (satN q.1.2.2.1 (nA q.1.1)) (givC q.1 q.1.2.2.1) i told E → Ok X (bb + 4 * (j + 1)) (sb9 + 24 * (j + 1)) 460 [(0, .ref 0), (1, .int (i3 x1)), (2, .ref d), (3, .ref a), (4, .ref e), (5, .ref f), (6, .int (i3 x6)), (7, .int (i3 x7)), (8, .int (i3 x8)), (9, .int (i3 x9)), (10, .int (i3 (mkN q.1.1 (i + 1)))), (11, .int (i3 (sumN (fun j => bcon (usedM q.1.1) j) (i + 1)))), (12, .int (i3 q.1.2.2.2)), (13, .int (i3 (i : Int))), (14, .int (i3 told))] [] n hh := fun told ht => by
      refine sL_told_460 hc hr ?_
      exact told_3k (bb := bb + 4 * j) (sb9 := sb9 + 24 * j) hc hr hT (by omega) ht (fun h1 hq1 he1 => ih (i + 1) (by omega) h1 hq1 he1) 2 0 rfl hh hq he
    have ri : R3 (i : Int) := R3_s (by omega)
    have nx2 : ∀ told, TvOk (fun w => if q.1.2.2.2 = 0 then 0 else nodeV q.1 q.1.2.2.1 i w) q.1.1 (satN q.1.2.2.1 (nA q.1.1)) (givC q.1 q.1.2.2.1) i told E → Ok X (bb + 4 * (j + 1)) (sb9 + 24 * (j + 1)) 407 [(0, .ref 0), (1, .int (i3 x1)), (2, .ref d), (3, .ref a), (4, .ref e), (5, .ref f), (6, .int (i3 x6)), (7, .int (i3 x7)), (8, .int (i3 x8)), (9, .int (i3 x9)), (10, .int (i3 (mkN q.1.1 i))), (11, .int (i3 (sumN (fun j => bcon (usedM q.1.1) j) i))), (12, .int (i3 q.1.2.2.2)), (13, .int (i3 (i : Int))), (14, .int (i3 told))] [] n hh := fun told ht => by
      have nx := nx told ht
      by_cases z0 : i = 0
      · rw [if_neg (fun z => z.1 (by omega))] at es
        rw [if_neg (fun z => z.1 z0)] at em
        rw [es, em] at nx
        exact sL_told_407 hc hr (hq.at ea l2 n3 n4) hP (hq.at ed l1 n1 n2) hD.1 ⟨ri, fun _ => sL_told_432 hc hr (hq.at ea l2 n3 n4) hP (hq.at ed l1 n1 n2) hD.1 ⟨ri, fun _ => nx, fun y => absurd (by omega) y⟩, fun y => absurd (by omega) y⟩
      · by_cases u : q.1.1.any (fun p => atB p i) = true
        · rw [if_pos ⟨by omega, u⟩] at es
          rw [if_pos ⟨z0, u⟩] at em
          rw [es, em] at nx
          exact sL_told_407 hc hr (hq.at ea l2 n3 n4) hP (hq.at ed l1 n1 n2) hD.1 ⟨ri, fun y => absurd y (by omega), fun _ => ⟨ri, fun y => (by rw [u] at y; cases y), fun _ => sL_told_432 hc hr (hq.at ea l2 n3 n4) hP (hq.at ed l1 n1 n2) hD.1 ⟨ri, fun y => absurd y (by omega), fun _ => ⟨ri, fun y => (by rw [u] at y; cases y), fun _ => nx⟩⟩⟩⟩
        · rw [if_neg (fun z => u z.2)] at es
          rw [if_neg (fun z => u z.2)] at em
          rw [es, em] at nx
          exact sL_told_407 hc hr (hq.at ea l2 n3 n4) hP (hq.at ed l1 n1 n2) hD.1 ⟨ri, fun y => absurd y (by omega), fun _ => ⟨ri, fun _ => sL_told_432 hc hr (hq.at ea l2 n3 n4) hP (hq.at ed l1 n1 n2) hD.1 ⟨ri, fun y => absurd y (by omega), fun _ => ⟨ri, fun _ => nx, fun y => absurd y u⟩⟩, fun y => absurd y u⟩⟩
    refine sL_told_373 hc hr ⟨ri, fun y => absurd y (by omega), fun _ => sL_told_380 hc hr (hq.at ea l2 n3 n4) hP (hq.at ed l1 n1 n2) hD.1 ?_⟩
    by_cases s0 : q.1.2.2.2 = 0
    · exact ⟨rst, fun _ => nx2 0 (Or.inl ⟨rfl, fun w => if_pos s0⟩), fun y => absurd s0 y⟩
    · have s1 : q.1.2.2.2 = 1 := by omega
      have hsol := jud_sol (hO s1)
      have eV : (fun w => if q.1.2.2.2 = 0 then 0 else nodeV q.1 q.1.2.2.1 i w) = nodeV q.1 q.1.2.2.1 i := funext fun w => if_neg s0
      rw [eV] at nx2
      have tv := tv_node (S := q.1) (c := q.1.2.2.1) hG.1 (k := i) (by omega) true E (decide_eq_true hsol).symm (fun _ => hS s1)
      exact ⟨rst, fun y => absurd y s0, fun _ => ⟨ri, fun z0 => nx2 1 (tv.2.1 rfl (by omega)), fun z0 => ⟨ri, fun u => nx2 0 (tv.2.2.1 rfl (by omega) u), fun u => nx2 1 (tv.2.2.2 rfl (by omega) u)⟩⟩⟩
