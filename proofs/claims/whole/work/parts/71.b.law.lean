section LAWK
variable {p : Program} {l : Launch} {e : Env} {s : State} {m : MethodId} {below : List Frame} {meth : Method} {c : Code} {b L : Nat} {xs : Nat → Int32} {G : lm_G} {Qs : Nat → Nat → Nat} {q : Nat → Nat} {i cn : Nat} {g : Nat → lm_St} {t : lm_St} {H : Heap} {locs : List Loc} {ls : Array Slot} {Q : State → Prop}
set_option maxHeartbeats 4000000 in
set_option maxRecDepth 100000 in
theorem lw_k12 (C : lw_Cx p s m meth c b L xs G) (hL : L ≤ 2048) (hi : i + 4 ≤ L) (hc : cn < 1000) (hR : Rel cn g t) (hN : lm_N G (lw_A s) s (wA8 G Qs g ++ wX9 G q t) H locs) (hl : lv_has ls 4 (lw_ls b (Qs 0 0) (q 0) i)) (kk : lw_Kk p l e s m below meth c b G Qs q cn ls Q) : W p l e room_1 s m #[Value.ref b] below meth c H locs 600000 7302250 Q (F0 m 410 ls []) := by
  obtain ⟨B, hX, hbl⟩ := C
  have hx := B.1.1
  have hb := B.1.2.1
  have hbA : ¬ lw_A s b := Nat.not_le.mpr hbl
  obtain ⟨r, g1, t1, hf, hm, hR1⟩ := sim_next hR (xs (nI i + 1).toNatClampNeg)
  refine lv_aload_n hx hb dL_law_410 rfl (lv_at hl 1 rfl) ?_
  refine lv_aload_n hx hb dL_law_411 rfl (lv_at hl 0 rfl) ?_
  refine lv_iload_n hx hb dL_law_412 rfl (lv_at hl 3 rfl) ?_
  refine lv_iconst (v := 1) hx hb dL_law_413 (by decide) ?_
  refine lv_iadd hx hb dL_law_414 ?_
  refine va_sld hx hb hX hbl hbA hN.2.2 (lw_ix1 hL hi) dL_law_415 ?_
  refine lw_c8 (n := 1) (g1 := g1) (v := .int r) (As := [.int (xs (nI i + 1).toNatClampNeg)]) B hN hl.1 (hX8_next l G Qs hf) gL_law_X8_next rfl (by decide +kernel) rfl ⟨by decide, by decide⟩ rfl (Nat.le_of_ble_eq_true rfl) ⟨by decide, by decide⟩ dL_law_416 (fun H locs hN => ?_)
  refine lv_aload_n hx hb dL_law_419 rfl (lv_at hl 2 rfl) ?_
  refine lv_aload_n hx hb dL_law_420 rfl (lv_at hl 0 rfl) ?_
  refine lv_iload_n hx hb dL_law_421 rfl (lv_at hl 3 rfl) ?_
  refine lv_iconst (v := 1) hx hb dL_law_422 (by decide) ?_
  refine lv_iadd hx hb dL_law_423 ?_
  refine va_sld hx hb hX hbl hbA hN.2.2 (lw_ix1 hL hi) dL_law_424 ?_
  refine lw_c9 (n := 1) (t1 := t1) (v := .int r) (As := [.int (xs (nI i + 1).toNatClampNeg)]) B hN hl.1 (hX9_next l G q hm) gL_law_X9_next rfl (by decide +kernel) rfl ⟨by decide, by decide⟩ rfl (Nat.le_of_ble_eq_true rfl) ⟨by decide, by decide⟩ dL_law_425 (fun H locs hN => ?_)
  exact lv_icmp_eq (tgt := 707) hx hb dL_law_428 (by decide) (fun _ => kk g1 t1 H locs hR1 hN) (fun h => absurd rfl h)
set_option maxHeartbeats 4000000 in
set_option maxRecDepth 100000 in
theorem lw_k13 (C : lw_Cx p s m meth c b L xs G) (hL : L ≤ 2048) (hi : i + 4 ≤ L) (hc : cn < 1000) (hR : Rel cn g t) (hN : lm_N G (lw_A s) s (wA8 G Qs g ++ wX9 G q t) H locs) (hl : lv_has ls 4 (lw_ls b (Qs 0 0) (q 0) i)) (kk : lw_Kk p l e s m below meth c b G Qs q cn ls Q) : W p l e room_1 s m #[Value.ref b] below meth c H locs 600000 7302250 Q (F0 m 433 ls []) := by
  obtain ⟨B, hX, hbl⟩ := C
  have hx := B.1.1
  have hb := B.1.2.1
  have hbA : ¬ lw_A s b := Nat.not_le.mpr hbl
  obtain ⟨r, g1, t1, hf, hm, hR1⟩ := sim_siege hR (xs (nI i + 1).toNatClampNeg) (xs (nI i + 2).toNatClampNeg)
  refine lv_aload_n hx hb dL_law_433 rfl (lv_at hl 1 rfl) ?_
  refine lv_aload_n hx hb dL_law_434 rfl (lv_at hl 0 rfl) ?_
  refine lv_iload_n hx hb dL_law_435 rfl (lv_at hl 3 rfl) ?_
  refine lv_iconst (v := 1) hx hb dL_law_436 (by decide) ?_
  refine lv_iadd hx hb dL_law_437 ?_
  refine va_sld hx hb hX hbl hbA hN.2.2 (lw_ix1 hL hi) dL_law_438 ?_
  refine lv_aload_n hx hb dL_law_439 rfl (lv_at hl 0 rfl) ?_
  refine lv_iload_n hx hb dL_law_440 rfl (lv_at hl 3 rfl) ?_
  refine lv_iconst (v := 2) hx hb dL_law_441 (by decide) ?_
  refine lv_iadd hx hb dL_law_442 ?_
  refine va_sld hx hb hX hbl hbA hN.2.2 (lw_ix2 hL hi) dL_law_443 ?_
  refine lw_c8 (n := 2) (g1 := g1) (v := .int r) (As := [.int (xs (nI i + 1).toNatClampNeg), .int (xs (nI i + 2).toNatClampNeg)]) B hN hl.1 (hX8_siege l G Qs hf) gL_law_X8_siege rfl (by decide +kernel) rfl ⟨by decide, by decide⟩ rfl (Nat.le_of_ble_eq_true rfl) ⟨by decide, by decide⟩ dL_law_444 (fun H locs hN => ?_)
  refine lv_aload_n hx hb dL_law_447 rfl (lv_at hl 2 rfl) ?_
  refine lv_aload_n hx hb dL_law_448 rfl (lv_at hl 0 rfl) ?_
  refine lv_iload_n hx hb dL_law_449 rfl (lv_at hl 3 rfl) ?_
  refine lv_iconst (v := 1) hx hb dL_law_450 (by decide) ?_
  refine lv_iadd hx hb dL_law_451 ?_
  refine va_sld hx hb hX hbl hbA hN.2.2 (lw_ix1 hL hi) dL_law_452 ?_
  refine lv_aload_n hx hb dL_law_453 rfl (lv_at hl 0 rfl) ?_
  refine lv_iload_n hx hb dL_law_454 rfl (lv_at hl 3 rfl) ?_
  refine lv_iconst (v := 2) hx hb dL_law_455 (by decide) ?_
  refine lv_iadd hx hb dL_law_456 ?_
  refine va_sld hx hb hX hbl hbA hN.2.2 (lw_ix2 hL hi) dL_law_457 ?_
  refine lw_c9 (n := 2) (t1 := t1) (v := .int r) (As := [.int (xs (nI i + 1).toNatClampNeg), .int (xs (nI i + 2).toNatClampNeg)]) B hN hl.1 (hX9_siege l G q hm) gL_law_X9_siege rfl (by decide +kernel) rfl ⟨by decide, by decide⟩ rfl (Nat.le_of_ble_eq_true rfl) ⟨by decide, by decide⟩ dL_law_458 (fun H locs hN => ?_)
  exact lv_icmp_eq (tgt := 707) hx hb dL_law_461 (by decide) (fun _ => kk g1 t1 H locs hR1 hN) (fun h => absurd rfl h)
set_option maxHeartbeats 4000000 in
set_option maxRecDepth 100000 in
theorem lw_k14 (C : lw_Cx p s m meth c b L xs G) (hL : L ≤ 2048) (hi : i + 4 ≤ L) (hc : cn < 1000) (hR : Rel cn g t) (hN : lm_N G (lw_A s) s (wA8 G Qs g ++ wX9 G q t) H locs) (hl : lv_has ls 4 (lw_ls b (Qs 0 0) (q 0) i)) (kk : lw_Kk p l e s m below meth c b G Qs q cn ls Q) : W p l e room_1 s m #[Value.ref b] below meth c H locs 600000 7302250 Q (F0 m 466 ls []) := by
  obtain ⟨B, hX, hbl⟩ := C
  have hx := B.1.1
  have hb := B.1.2.1
  have hbA : ¬ lw_A s b := Nat.not_le.mpr hbl
  obtain ⟨r, g1, t1, hf, hm, hR1⟩ := sim_makeUp hR (xs (nI i + 1).toNatClampNeg)
  refine lv_aload_n hx hb dL_law_466 rfl (lv_at hl 1 rfl) ?_
  refine lv_aload_n hx hb dL_law_467 rfl (lv_at hl 0 rfl) ?_
  refine lv_iload_n hx hb dL_law_468 rfl (lv_at hl 3 rfl) ?_
  refine lv_iconst (v := 1) hx hb dL_law_469 (by decide) ?_
  refine lv_iadd hx hb dL_law_470 ?_
  refine va_sld hx hb hX hbl hbA hN.2.2 (lw_ix1 hL hi) dL_law_471 ?_
  refine lw_c8 (n := 1) (g1 := g1) (v := .int r) (As := [.int (xs (nI i + 1).toNatClampNeg)]) B hN hl.1 (hX8_makeUp l G Qs hf) gL_law_X8_makeUp rfl (by decide +kernel) rfl ⟨by decide, by decide⟩ rfl (Nat.le_of_ble_eq_true rfl) ⟨by decide, by decide⟩ dL_law_472 (fun H locs hN => ?_)
  refine lv_aload_n hx hb dL_law_475 rfl (lv_at hl 2 rfl) ?_
  refine lv_aload_n hx hb dL_law_476 rfl (lv_at hl 0 rfl) ?_
  refine lv_iload_n hx hb dL_law_477 rfl (lv_at hl 3 rfl) ?_
  refine lv_iconst (v := 1) hx hb dL_law_478 (by decide) ?_
  refine lv_iadd hx hb dL_law_479 ?_
  refine va_sld hx hb hX hbl hbA hN.2.2 (lw_ix1 hL hi) dL_law_480 ?_
  refine lw_c9 (n := 1) (t1 := t1) (v := .int r) (As := [.int (xs (nI i + 1).toNatClampNeg)]) B hN hl.1 (hX9_makeUp l G q hm) gL_law_X9_makeUp rfl (by decide +kernel) rfl ⟨by decide, by decide⟩ rfl (Nat.le_of_ble_eq_true rfl) ⟨by decide, by decide⟩ dL_law_481 (fun H locs hN => ?_)
  exact lv_icmp_eq (tgt := 707) hx hb dL_law_484 (by decide) (fun _ => kk g1 t1 H locs hR1 hN) (fun h => absurd rfl h)
set_option maxHeartbeats 4000000 in
set_option maxRecDepth 100000 in
theorem lw_k15 (C : lw_Cx p s m meth c b L xs G) (hL : L ≤ 2048) (hi : i + 4 ≤ L) (hc : cn < 1000) (hR : Rel cn g t) (hN : lm_N G (lw_A s) s (wA8 G Qs g ++ wX9 G q t) H locs) (hl : lv_has ls 4 (lw_ls b (Qs 0 0) (q 0) i)) (kk : lw_Kk p l e s m below meth c b G Qs q cn ls Q) : W p l e room_1 s m #[Value.ref b] below meth c H locs 600000 7302250 Q (F0 m 489 ls []) := by
  obtain ⟨B, hX, hbl⟩ := C
  have hx := B.1.1
  have hb := B.1.2.1
  have hbA : ¬ lw_A s b := Nat.not_le.mpr hbl
  obtain ⟨r, g1, t1, hf, hm, hR1⟩ := sim_odds hR (xs (nI i + 1).toNatClampNeg) (xs (nI i + 2).toNatClampNeg) (xs (nI i + 3).toNatClampNeg)
  refine lv_aload_n hx hb dL_law_489 rfl (lv_at hl 1 rfl) ?_
  refine lv_aload_n hx hb dL_law_490 rfl (lv_at hl 0 rfl) ?_
  refine lv_iload_n hx hb dL_law_491 rfl (lv_at hl 3 rfl) ?_
  refine lv_iconst (v := 1) hx hb dL_law_492 (by decide) ?_
  refine lv_iadd hx hb dL_law_493 ?_
  refine va_sld hx hb hX hbl hbA hN.2.2 (lw_ix1 hL hi) dL_law_494 ?_
  refine lv_aload_n hx hb dL_law_495 rfl (lv_at hl 0 rfl) ?_
  refine lv_iload_n hx hb dL_law_496 rfl (lv_at hl 3 rfl) ?_
  refine lv_iconst (v := 2) hx hb dL_law_497 (by decide) ?_
  refine lv_iadd hx hb dL_law_498 ?_
  refine va_sld hx hb hX hbl hbA hN.2.2 (lw_ix2 hL hi) dL_law_499 ?_
  refine lv_aload_n hx hb dL_law_500 rfl (lv_at hl 0 rfl) ?_
  refine lv_iload_n hx hb dL_law_501 rfl (lv_at hl 3 rfl) ?_
  refine lv_iconst (v := 3) hx hb dL_law_502 (by decide) ?_
  refine lv_iadd hx hb dL_law_503 ?_
  refine va_sld hx hb hX hbl hbA hN.2.2 (lw_ix3 hL hi) dL_law_504 ?_
  refine lw_c8 (n := 3) (g1 := g1) (v := .int r) (As := [.int (xs (nI i + 1).toNatClampNeg), .int (xs (nI i + 2).toNatClampNeg), .int (xs (nI i + 3).toNatClampNeg)]) B hN hl.1 (hX8_odds l G Qs hf) gL_law_X8_odds rfl (by decide +kernel) rfl ⟨by decide, by decide⟩ rfl (Nat.le_of_ble_eq_true rfl) ⟨by decide, by decide⟩ dL_law_505 (fun H locs hN => ?_)
  refine lv_aload_n hx hb dL_law_508 rfl (lv_at hl 2 rfl) ?_
  refine lv_aload_n hx hb dL_law_509 rfl (lv_at hl 0 rfl) ?_
  refine lv_iload_n hx hb dL_law_510 rfl (lv_at hl 3 rfl) ?_
  refine lv_iconst (v := 1) hx hb dL_law_511 (by decide) ?_
  refine lv_iadd hx hb dL_law_512 ?_
  refine va_sld hx hb hX hbl hbA hN.2.2 (lw_ix1 hL hi) dL_law_513 ?_
  refine lv_aload_n hx hb dL_law_514 rfl (lv_at hl 0 rfl) ?_
  refine lv_iload_n hx hb dL_law_515 rfl (lv_at hl 3 rfl) ?_
  refine lv_iconst (v := 2) hx hb dL_law_516 (by decide) ?_
  refine lv_iadd hx hb dL_law_517 ?_
  refine va_sld hx hb hX hbl hbA hN.2.2 (lw_ix2 hL hi) dL_law_518 ?_
  refine lv_aload_n hx hb dL_law_519 rfl (lv_at hl 0 rfl) ?_
  refine lv_iload_n hx hb dL_law_520 rfl (lv_at hl 3 rfl) ?_
  refine lv_iconst (v := 3) hx hb dL_law_521 (by decide) ?_
  refine lv_iadd hx hb dL_law_522 ?_
  refine va_sld hx hb hX hbl hbA hN.2.2 (lw_ix3 hL hi) dL_law_523 ?_
  refine lw_c9 (n := 3) (t1 := t1) (v := .int r) (As := [.int (xs (nI i + 1).toNatClampNeg), .int (xs (nI i + 2).toNatClampNeg), .int (xs (nI i + 3).toNatClampNeg)]) B hN hl.1 (hX9_odds l G q hm) gL_law_X9_odds rfl (by decide +kernel) rfl ⟨by decide, by decide⟩ rfl (Nat.le_of_ble_eq_true rfl) ⟨by decide, by decide⟩ dL_law_524 (fun H locs hN => ?_)
  exact lv_icmp_eq (tgt := 707) hx hb dL_law_527 (by decide) (fun _ => kk g1 t1 H locs hR1 hN) (fun h => absurd rfl h)
set_option maxHeartbeats 4000000 in
set_option maxRecDepth 100000 in
theorem lw_k16 (C : lw_Cx p s m meth c b L xs G) (hL : L ≤ 2048) (hi : i + 4 ≤ L) (hc : cn < 1000) (hR : Rel cn g t) (hN : lm_N G (lw_A s) s (wA8 G Qs g ++ wX9 G q t) H locs) (hl : lv_has ls 4 (lw_ls b (Qs 0 0) (q 0) i)) (kk : lw_Kk p l e s m below meth c b G Qs q cn ls Q) : W p l e room_1 s m #[Value.ref b] below meth c H locs 600000 7302250 Q (F0 m 532 ls []) := by
  obtain ⟨B, hX, hbl⟩ := C
  have hx := B.1.1
  have hb := B.1.2.1
  have hbA : ¬ lw_A s b := Nat.not_le.mpr hbl
  obtain ⟨r, g1, t1, hf, hm, hR1⟩ := sim_sale hR
  refine lv_aload_n hx hb dL_law_532 rfl (lv_at hl 1 rfl) ?_
  refine lw_c8 (n := 0) (g1 := g1) (v := .int r) (As := []) B hN hl.1 (hX8_sale l G Qs hf) gL_law_X8_sale rfl (by decide +kernel) rfl ⟨by decide, by decide⟩ rfl (Nat.le_of_ble_eq_true rfl) ⟨by decide, by decide⟩ dL_law_533 (fun H locs hN => ?_)
  refine lv_aload_n hx hb dL_law_536 rfl (lv_at hl 2 rfl) ?_
  refine lw_c9 (n := 0) (t1 := t1) (v := .int r) (As := []) B hN hl.1 (hX9_sale l G q hm) gL_law_X9_sale rfl (by decide +kernel) rfl ⟨by decide, by decide⟩ rfl (Nat.le_of_ble_eq_true rfl) ⟨by decide, by decide⟩ dL_law_537 (fun H locs hN => ?_)
  exact lv_icmp_eq (tgt := 707) hx hb dL_law_540 (by decide) (fun _ => kk g1 t1 H locs hR1 hN) (fun h => absurd rfl h)
set_option maxHeartbeats 4000000 in
set_option maxRecDepth 100000 in
theorem lw_k17 (C : lw_Cx p s m meth c b L xs G) (hL : L ≤ 2048) (hi : i + 4 ≤ L) (hc : cn < 1000) (hR : Rel cn g t) (hN : lm_N G (lw_A s) s (wA8 G Qs g ++ wX9 G q t) H locs) (hl : lv_has ls 4 (lw_ls b (Qs 0 0) (q 0) i)) (kk : lw_Kk p l e s m below meth c b G Qs q cn ls Q) : W p l e room_1 s m #[Value.ref b] below meth c H locs 600000 7302250 Q (F0 m 545 ls []) := by
  obtain ⟨B, hX, hbl⟩ := C
  have hx := B.1.1
  have hb := B.1.2.1
  have hbA : ¬ lw_A s b := Nat.not_le.mpr hbl
  obtain ⟨r, g1, t1, hf, hm, hR1⟩ := sim_see hR (xs (nI i + 1).toNatClampNeg) (xs (nI i + 2).toNatClampNeg) (xs (nI i + 3).toNatClampNeg)
  refine lv_aload_n hx hb dL_law_545 rfl (lv_at hl 1 rfl) ?_
  refine lv_aload_n hx hb dL_law_546 rfl (lv_at hl 0 rfl) ?_
  refine lv_iload_n hx hb dL_law_547 rfl (lv_at hl 3 rfl) ?_
  refine lv_iconst (v := 1) hx hb dL_law_548 (by decide) ?_
  refine lv_iadd hx hb dL_law_549 ?_
  refine va_sld hx hb hX hbl hbA hN.2.2 (lw_ix1 hL hi) dL_law_550 ?_
  refine lv_aload_n hx hb dL_law_551 rfl (lv_at hl 0 rfl) ?_
  refine lv_iload_n hx hb dL_law_552 rfl (lv_at hl 3 rfl) ?_
  refine lv_iconst (v := 2) hx hb dL_law_553 (by decide) ?_
  refine lv_iadd hx hb dL_law_554 ?_
  refine va_sld hx hb hX hbl hbA hN.2.2 (lw_ix2 hL hi) dL_law_555 ?_
  refine lv_aload_n hx hb dL_law_556 rfl (lv_at hl 0 rfl) ?_
  refine lv_iload_n hx hb dL_law_557 rfl (lv_at hl 3 rfl) ?_
  refine lv_iconst (v := 3) hx hb dL_law_558 (by decide) ?_
  refine lv_iadd hx hb dL_law_559 ?_
  refine va_sld hx hb hX hbl hbA hN.2.2 (lw_ix3 hL hi) dL_law_560 ?_
  refine lw_c8 (n := 3) (g1 := g1) (v := .int r) (As := [.int (xs (nI i + 1).toNatClampNeg), .int (xs (nI i + 2).toNatClampNeg), .int (xs (nI i + 3).toNatClampNeg)]) B hN hl.1 (hX8_see l G Qs hf) gL_law_X8_see rfl (by decide +kernel) rfl ⟨by decide, by decide⟩ rfl (Nat.le_of_ble_eq_true rfl) ⟨by decide, by decide⟩ dL_law_561 (fun H locs hN => ?_)
  refine lv_aload_n hx hb dL_law_564 rfl (lv_at hl 2 rfl) ?_
  refine lv_aload_n hx hb dL_law_565 rfl (lv_at hl 0 rfl) ?_
  refine lv_iload_n hx hb dL_law_566 rfl (lv_at hl 3 rfl) ?_
  refine lv_iconst (v := 1) hx hb dL_law_567 (by decide) ?_
  refine lv_iadd hx hb dL_law_568 ?_
  refine va_sld hx hb hX hbl hbA hN.2.2 (lw_ix1 hL hi) dL_law_569 ?_
  refine lv_aload_n hx hb dL_law_570 rfl (lv_at hl 0 rfl) ?_
  refine lv_iload_n hx hb dL_law_571 rfl (lv_at hl 3 rfl) ?_
  refine lv_iconst (v := 2) hx hb dL_law_572 (by decide) ?_
  refine lv_iadd hx hb dL_law_573 ?_
  refine va_sld hx hb hX hbl hbA hN.2.2 (lw_ix2 hL hi) dL_law_574 ?_
  refine lv_aload_n hx hb dL_law_575 rfl (lv_at hl 0 rfl) ?_
  refine lv_iload_n hx hb dL_law_576 rfl (lv_at hl 3 rfl) ?_
  refine lv_iconst (v := 3) hx hb dL_law_577 (by decide) ?_
  refine lv_iadd hx hb dL_law_578 ?_
  refine va_sld hx hb hX hbl hbA hN.2.2 (lw_ix3 hL hi) dL_law_579 ?_
  refine lw_c9 (n := 3) (t1 := t1) (v := .int r) (As := [.int (xs (nI i + 1).toNatClampNeg), .int (xs (nI i + 2).toNatClampNeg), .int (xs (nI i + 3).toNatClampNeg)]) B hN hl.1 (hX9_see l G q hm) gL_law_X9_see rfl (by decide +kernel) rfl ⟨by decide, by decide⟩ rfl (Nat.le_of_ble_eq_true rfl) ⟨by decide, by decide⟩ dL_law_580 (fun H locs hN => ?_)
  exact lv_icmp_eq (tgt := 707) hx hb dL_law_583 (by decide) (fun _ => kk g1 t1 H locs hR1 hN) (fun h => absurd rfl h)
set_option maxHeartbeats 4000000 in
set_option maxRecDepth 100000 in
theorem lw_k18 (C : lw_Cx p s m meth c b L xs G) (hL : L ≤ 2048) (hi : i + 4 ≤ L) (hc : cn < 1000) (hR : Rel cn g t) (hN : lm_N G (lw_A s) s (wA8 G Qs g ++ wX9 G q t) H locs) (hl : lv_has ls 4 (lw_ls b (Qs 0 0) (q 0) i)) (kk : lw_Kk p l e s m below meth c b G Qs q cn ls Q) : W p l e room_1 s m #[Value.ref b] below meth c H locs 600000 7302250 Q (F0 m 588 ls []) := by
  obtain ⟨B, hX, hbl⟩ := C
  have hx := B.1.1
  have hb := B.1.2.1
  have hbA : ¬ lw_A s b := Nat.not_le.mpr hbl
  obtain ⟨r, g1, t1, hf, hm, hR1⟩ := sim_forget hR
  refine lv_aload_n hx hb dL_law_588 rfl (lv_at hl 1 rfl) ?_
  refine lw_c8 (n := 0) (g1 := g1) (v := .int r) (As := []) B hN hl.1 (hX8_forget l G Qs hf) gL_law_X8_forget rfl (by decide +kernel) rfl ⟨by decide, by decide⟩ rfl (Nat.le_of_ble_eq_true rfl) ⟨by decide, by decide⟩ dL_law_589 (fun H locs hN => ?_)
  refine lv_aload_n hx hb dL_law_592 rfl (lv_at hl 2 rfl) ?_
  refine lw_c9 (n := 0) (t1 := t1) (v := .int r) (As := []) B hN hl.1 (hX9_forget l G q hm) gL_law_X9_forget rfl (by decide +kernel) rfl ⟨by decide, by decide⟩ rfl (Nat.le_of_ble_eq_true rfl) ⟨by decide, by decide⟩ dL_law_593 (fun H locs hN => ?_)
  exact lv_icmp_eq (tgt := 707) hx hb dL_law_596 (by decide) (fun _ => kk g1 t1 H locs hR1 hN) (fun h => absurd rfl h)
set_option maxHeartbeats 4000000 in
set_option maxRecDepth 100000 in
theorem lw_k19 (C : lw_Cx p s m meth c b L xs G) (hL : L ≤ 2048) (hi : i + 4 ≤ L) (hc : cn < 1000) (hR : Rel cn g t) (hN : lm_N G (lw_A s) s (wA8 G Qs g ++ wX9 G q t) H locs) (hl : lv_has ls 4 (lw_ls b (Qs 0 0) (q 0) i)) (kk : lw_Kk p l e s m below meth c b G Qs q cn ls Q) : W p l e room_1 s m #[Value.ref b] below meth c H locs 600000 7302250 Q (F0 m 601 ls []) := by
  obtain ⟨B, hX, hbl⟩ := C
  have hx := B.1.1
  have hb := B.1.2.1
  have hbA : ¬ lw_A s b := Nat.not_le.mpr hbl
  obtain ⟨r, g1, t1, hf, hm, hR1⟩ := sim_months hR (xs (nI i + 1).toNatClampNeg) (xs (nI i + 2).toNatClampNeg) (xs (nI i + 3).toNatClampNeg)
  refine lv_aload_n hx hb dL_law_601 rfl (lv_at hl 1 rfl) ?_
  refine lv_aload_n hx hb dL_law_602 rfl (lv_at hl 0 rfl) ?_
  refine lv_iload_n hx hb dL_law_603 rfl (lv_at hl 3 rfl) ?_
  refine lv_iconst (v := 1) hx hb dL_law_604 (by decide) ?_
  refine lv_iadd hx hb dL_law_605 ?_
  refine va_sld hx hb hX hbl hbA hN.2.2 (lw_ix1 hL hi) dL_law_606 ?_
  refine lv_aload_n hx hb dL_law_607 rfl (lv_at hl 0 rfl) ?_
  refine lv_iload_n hx hb dL_law_608 rfl (lv_at hl 3 rfl) ?_
  refine lv_iconst (v := 2) hx hb dL_law_609 (by decide) ?_
  refine lv_iadd hx hb dL_law_610 ?_
  refine va_sld hx hb hX hbl hbA hN.2.2 (lw_ix2 hL hi) dL_law_611 ?_
  refine lv_aload_n hx hb dL_law_612 rfl (lv_at hl 0 rfl) ?_
  refine lv_iload_n hx hb dL_law_613 rfl (lv_at hl 3 rfl) ?_
  refine lv_iconst (v := 3) hx hb dL_law_614 (by decide) ?_
  refine lv_iadd hx hb dL_law_615 ?_
  refine va_sld hx hb hX hbl hbA hN.2.2 (lw_ix3 hL hi) dL_law_616 ?_
  refine lw_c8 (n := 3) (g1 := g1) (v := .int r) (As := [.int (xs (nI i + 1).toNatClampNeg), .int (xs (nI i + 2).toNatClampNeg), .int (xs (nI i + 3).toNatClampNeg)]) B hN hl.1 (hX8_months l G Qs hf) gL_law_X8_months rfl (by decide +kernel) rfl ⟨by decide, by decide⟩ rfl (Nat.le_of_ble_eq_true rfl) ⟨by decide, by decide⟩ dL_law_617 (fun H locs hN => ?_)
  refine lv_aload_n hx hb dL_law_620 rfl (lv_at hl 2 rfl) ?_
  refine lv_aload_n hx hb dL_law_621 rfl (lv_at hl 0 rfl) ?_
  refine lv_iload_n hx hb dL_law_622 rfl (lv_at hl 3 rfl) ?_
  refine lv_iconst (v := 1) hx hb dL_law_623 (by decide) ?_
  refine lv_iadd hx hb dL_law_624 ?_
  refine va_sld hx hb hX hbl hbA hN.2.2 (lw_ix1 hL hi) dL_law_625 ?_
  refine lv_aload_n hx hb dL_law_626 rfl (lv_at hl 0 rfl) ?_
  refine lv_iload_n hx hb dL_law_627 rfl (lv_at hl 3 rfl) ?_
  refine lv_iconst (v := 2) hx hb dL_law_628 (by decide) ?_
  refine lv_iadd hx hb dL_law_629 ?_
  refine va_sld hx hb hX hbl hbA hN.2.2 (lw_ix2 hL hi) dL_law_630 ?_
  refine lv_aload_n hx hb dL_law_631 rfl (lv_at hl 0 rfl) ?_
  refine lv_iload_n hx hb dL_law_632 rfl (lv_at hl 3 rfl) ?_
  refine lv_iconst (v := 3) hx hb dL_law_633 (by decide) ?_
  refine lv_iadd hx hb dL_law_634 ?_
  refine va_sld hx hb hX hbl hbA hN.2.2 (lw_ix3 hL hi) dL_law_635 ?_
  refine lw_c9 (n := 3) (t1 := t1) (v := .int r) (As := [.int (xs (nI i + 1).toNatClampNeg), .int (xs (nI i + 2).toNatClampNeg), .int (xs (nI i + 3).toNatClampNeg)]) B hN hl.1 (hX9_months l G q hm) gL_law_X9_months rfl (by decide +kernel) rfl ⟨by decide, by decide⟩ rfl (Nat.le_of_ble_eq_true rfl) ⟨by decide, by decide⟩ dL_law_636 (fun H locs hN => ?_)
  exact lv_icmp_eq (tgt := 707) hx hb dL_law_639 (by decide) (fun _ => kk g1 t1 H locs hR1 hN) (fun h => absurd rfl h)
set_option maxHeartbeats 4000000 in
set_option maxRecDepth 100000 in
theorem lw_k20 (C : lw_Cx p s m meth c b L xs G) (hL : L ≤ 2048) (hi : i + 4 ≤ L) (hc : cn < 1000) (hR : Rel cn g t) (hN : lm_N G (lw_A s) s (wA8 G Qs g ++ wX9 G q t) H locs) (hl : lv_has ls 4 (lw_ls b (Qs 0 0) (q 0) i)) (kk : lw_Kk p l e s m below meth c b G Qs q cn ls Q) : W p l e room_1 s m #[Value.ref b] below meth c H locs 600000 7302250 Q (F0 m 644 ls []) := by
  obtain ⟨B, hX, hbl⟩ := C
  have hx := B.1.1
  have hb := B.1.2.1
  have hbA : ¬ lw_A s b := Nat.not_le.mpr hbl
  obtain ⟨r, g1, t1, hf, hm, hR1⟩ := sim_image hR
  refine lv_aload_n hx hb dL_law_644 rfl (lv_at hl 1 rfl) ?_
  refine lw_c8 (n := 0) (g1 := g1) (v := .int r) (As := []) B hN hl.1 (hX8_image l G Qs hf) gL_law_X8_image rfl (by decide +kernel) rfl ⟨by decide, by decide⟩ rfl (Nat.le_of_ble_eq_true rfl) ⟨by decide, by decide⟩ dL_law_645 (fun H locs hN => ?_)
  refine lv_aload_n hx hb dL_law_648 rfl (lv_at hl 2 rfl) ?_
  refine lw_c9 (n := 0) (t1 := t1) (v := .int r) (As := []) B hN hl.1 (hX9_image l G q hm) gL_law_X9_image rfl (by decide +kernel) rfl ⟨by decide, by decide⟩ rfl (Nat.le_of_ble_eq_true rfl) ⟨by decide, by decide⟩ dL_law_649 (fun H locs hN => ?_)
  exact lv_icmp_eq (tgt := 707) hx hb dL_law_652 (by decide) (fun _ => kk g1 t1 H locs hR1 hN) (fun h => absurd rfl h)
set_option maxHeartbeats 4000000 in
set_option maxRecDepth 100000 in
theorem lw_k21 (C : lw_Cx p s m meth c b L xs G) (hL : L ≤ 2048) (hi : i + 4 ≤ L) (hc : cn < 1000) (hR : Rel cn g t) (hN : lm_N G (lw_A s) s (wA8 G Qs g ++ wX9 G q t) H locs) (hl : lv_has ls 4 (lw_ls b (Qs 0 0) (q 0) i)) (kk : lw_Kk p l e s m below meth c b G Qs q cn ls Q) : W p l e room_1 s m #[Value.ref b] below meth c H locs 600000 7302250 Q (F0 m 657 ls []) := by
  obtain ⟨B, hX, hbl⟩ := C
  have hx := B.1.1
  have hb := B.1.2.1
  have hbA : ¬ lw_A s b := Nat.not_le.mpr hbl
  obtain ⟨r, g1, t1, hf, hm, hR1⟩ := sim_restore hc hR
  refine lv_aload_n hx hb dL_law_657 rfl (lv_at hl 1 rfl) ?_
  refine lw_c8 (n := 0) (g1 := g1) (v := .int r) (As := []) B hN hl.1 (hX8_restore l G Qs hf) gL_law_X8_restore rfl (by decide +kernel) rfl ⟨by decide, by decide⟩ rfl (Nat.le_of_ble_eq_true rfl) ⟨by decide, by decide⟩ dL_law_658 (fun H locs hN => ?_)
  refine lv_aload_n hx hb dL_law_661 rfl (lv_at hl 2 rfl) ?_
  refine lw_c9 (n := 0) (t1 := t1) (v := .int r) (As := []) B hN hl.1 (hX9_restore l G q hm) gL_law_X9_restore rfl (by decide +kernel) rfl ⟨by decide, by decide⟩ rfl (Nat.le_of_ble_eq_true rfl) ⟨by decide, by decide⟩ dL_law_662 (fun H locs hN => ?_)
  exact lv_icmp_eq (tgt := 707) hx hb dL_law_665 (by decide) (fun _ => kk g1 t1 H locs hR1 hN) (fun h => absurd rfl h)
set_option maxHeartbeats 4000000 in
set_option maxRecDepth 100000 in
theorem lw_k22 (C : lw_Cx p s m meth c b L xs G) (hL : L ≤ 2048) (hi : i + 4 ≤ L) (hc : cn < 1000) (hR : Rel cn g t) (hN : lm_N G (lw_A s) s (wA8 G Qs g ++ wX9 G q t) H locs) (hl : lv_has ls 4 (lw_ls b (Qs 0 0) (q 0) i)) (kk : lw_Kk p l e s m below meth c b G Qs q cn ls Q) : W p l e room_1 s m #[Value.ref b] below meth c H locs 600000 7302250 Q (F0 m 670 ls []) := by
  obtain ⟨B, hX, hbl⟩ := C
  have hx := B.1.1
  have hb := B.1.2.1
  have hbA : ¬ lw_A s b := Nat.not_le.mpr hbl
  obtain ⟨r, g1, t1, hf, hm, hR1⟩ := sim_count hR (xs (nI i + 1).toNatClampNeg)
  refine lv_aload_n hx hb dL_law_670 rfl (lv_at hl 1 rfl) ?_
  refine lv_aload_n hx hb dL_law_671 rfl (lv_at hl 0 rfl) ?_
  refine lv_iload_n hx hb dL_law_672 rfl (lv_at hl 3 rfl) ?_
  refine lv_iconst (v := 1) hx hb dL_law_673 (by decide) ?_
  refine lv_iadd hx hb dL_law_674 ?_
  refine va_sld hx hb hX hbl hbA hN.2.2 (lw_ix1 hL hi) dL_law_675 ?_
  refine lw_c8 (n := 1) (g1 := g1) (v := .int r) (As := [.int (xs (nI i + 1).toNatClampNeg)]) B hN hl.1 (hX8_count l G Qs hf) gL_law_X8_count rfl (by decide +kernel) rfl ⟨by decide, by decide⟩ rfl (Nat.le_of_ble_eq_true rfl) ⟨by decide, by decide⟩ dL_law_676 (fun H locs hN => ?_)
  refine lv_aload_n hx hb dL_law_679 rfl (lv_at hl 2 rfl) ?_
  refine lv_aload_n hx hb dL_law_680 rfl (lv_at hl 0 rfl) ?_
  refine lv_iload_n hx hb dL_law_681 rfl (lv_at hl 3 rfl) ?_
  refine lv_iconst (v := 1) hx hb dL_law_682 (by decide) ?_
  refine lv_iadd hx hb dL_law_683 ?_
  refine va_sld hx hb hX hbl hbA hN.2.2 (lw_ix1 hL hi) dL_law_684 ?_
  refine lw_c9 (n := 1) (t1 := t1) (v := .int r) (As := [.int (xs (nI i + 1).toNatClampNeg)]) B hN hl.1 (hX9_count l G q hm) gL_law_X9_count rfl (by decide +kernel) rfl ⟨by decide, by decide⟩ rfl (Nat.le_of_ble_eq_true rfl) ⟨by decide, by decide⟩ dL_law_685 (fun H locs hN => ?_)
  exact lv_icmp_eq (tgt := 707) hx hb dL_law_688 (by decide) (fun _ => kk g1 t1 H locs hR1 hN) (fun h => absurd rfl h)
set_option maxHeartbeats 4000000 in
set_option maxRecDepth 100000 in
theorem lw_k23 (C : lw_Cx p s m meth c b L xs G) (hL : L ≤ 2048) (hi : i + 4 ≤ L) (hc : cn < 1000) (hR : Rel cn g t) (hN : lm_N G (lw_A s) s (wA8 G Qs g ++ wX9 G q t) H locs) (hl : lv_has ls 4 (lw_ls b (Qs 0 0) (q 0) i)) (kk : lw_Kk p l e s m below meth c b G Qs q cn ls Q) : W p l e room_1 s m #[Value.ref b] below meth c H locs 600000 7302250 Q (F0 m 693 ls []) := by
  obtain ⟨B, hX, hbl⟩ := C
  have hx := B.1.1
  have hb := B.1.2.1
  have hbA : ¬ lw_A s b := Nat.not_le.mpr hbl
  obtain ⟨r, g1, t1, hf, hm, hR1⟩ := sim_digest hR
  refine lv_aload_n hx hb dL_law_693 rfl (lv_at hl 1 rfl) ?_
  refine lw_c8 (n := 0) (g1 := g1) (v := .long r) (As := []) B hN hl.1 (hX8_digest l G Qs hf) gL_law_X8_digest rfl (by decide +kernel) rfl ⟨by decide, by decide⟩ rfl (Nat.le_of_ble_eq_true rfl) ⟨by decide, by decide⟩ dL_law_694 (fun H locs hN => ?_)
  refine lv_aload_n hx hb dL_law_697 rfl (lv_at hl 2 rfl) ?_
  refine lw_c9 (n := 0) (t1 := t1) (v := .long r) (As := []) B hN hl.1 (hX9_digest l G q hm) gL_law_X9_digest rfl (by decide +kernel) rfl ⟨by decide, by decide⟩ rfl (Nat.le_of_ble_eq_true rfl) ⟨by decide, by decide⟩ dL_law_698 (fun H locs hN => ?_)
  refine W.lcmp hx hb dL_law_701 ?_
  exact lv_if_eq (tgt := 707) hx hb dL_law_702 (by decide) (fun _ => kk g1 t1 H locs hR1 hN) (fun h => absurd (lw_cmp r) h)
end LAWK
