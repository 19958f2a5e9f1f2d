def fX1_draw (s0 : lm_St) (x1 : Int32) : Option (Int32 × lm_St) := if x1 ≤ 0 then (some ((-1 : Int32), (lm_sF s0 2 (((((1103515245 : Int64) * (s0.1 2).toInt64) + (12345 : Int64)) - (((1103515245 : Int64) * (s0.1 2).toInt64) + (12345 : Int64)) / (2147483648 : Int64) * (2147483648 : Int64)).toInt32)))) else (lm_gZ x1 (some (((((((1103515245 : Int64) * (s0.1 2).toInt64) + (12345 : Int64)) - (((1103515245 : Int64) * (s0.1 2).toInt64) + (12345 : Int64)) / (2147483648 : Int64) * (2147483648 : Int64)).toInt32 / (65536 : Int32)) - (((((1103515245 : Int64) * (s0.1 2).toInt64) + (12345 : Int64)) - (((1103515245 : Int64) * (s0.1 2).toInt64) + (12345 : Int64)) / (2147483648 : Int64) * (2147483648 : Int64)).toInt32 / (65536 : Int32)) / x1 * x1), (lm_sF s0 2 (((((1103515245 : Int64) * (s0.1 2).toInt64) + (12345 : Int64)) - (((1103515245 : Int64) * (s0.1 2).toInt64) + (12345 : Int64)) / (2147483648 : Int64) * (2147483648 : Int64)).toInt32)))))
set_option maxHeartbeats 4000000 in
set_option maxRecDepth 100000 in
theorem hX1_draw (l : Launch) (G : lm_G) (q0 : Nat → Nat) (r0 : Nat → Nat) {s0 : lm_St} {x1 : Int32} {R : Int32 × lm_St} (hF : fX1_draw s0 x1 = some R) : lm_C l G yX1_draw wsX1_draw 1 [.ref (q0 0), .int x1] (wX1 G q0 r0 s0) (some (.int R.1)) (wX1 G q0 r0 R.2) := by
  refine lm_C.of (cc := cX1_draw) (maxL := 2) (ret := (some .int)) (by decide) rfl (Nat.le_of_ble_eq_true rfl) ?_
  intro p e s m below meth c A ls B hN hl
  have hx := B.1.1
  have hb := B.1.2.1
  have hown := B.1.2.2.2.1
  have hts := B.1.2.2.2.2
  have hiX1 : ∀ w ∈ wsX10, w ∈ wsX1_draw := by decide +kernel
  have hl : lv_has ls 2 [(0, .ref (q0 0)), (1, .int x1)] := hl
  refine lv_aload_n hx hb dX1_draw_0 rfl (lv_at hl 0 rfl) ?_
  refine lv_ldc2 (v := 1103515245) hx hb hown (hts (.constantLong RX1 71 (1103515245)) (by decide +kernel)) dX1_draw_1 ?_
  refine lv_aload_n hx hb dX1_draw_4 rfl (lv_at hl 0 rfl) ?_
  refine lm_get B hN (ci := 1) hiX1 0 rfl rfl 3 (by decide) (by decide +kernel) (v := .int (s0.1 2)) rfl dX1_draw_5 ?_
  refine lv_i2l hx hb dX1_draw_8 rfl ?_
  refine lv_lmul hx hb dX1_draw_9 ?_
  refine lv_ldc2 (v := 12345) hx hb hown (hts (.constantLong RX1 73 (12345)) (by decide +kernel)) dX1_draw_10 ?_
  refine lv_ladd hx hb dX1_draw_13 ?_
  refine lv_ldc2 (v := 2147483648) hx hb hown (hts (.constantLong RX1 75 (2147483648)) (by decide +kernel)) dX1_draw_14 ?_
  refine lv_lrem hx hb dX1_draw_17 (by decide) ?_
  refine lv_l2i hx hb dX1_draw_18 rfl ?_
  refine lm_put B hN (ci := 1) hiX1 tyX1 tyX1_ok nmX1 0 rfl rfl 3 (by decide) (by decide +kernel) (by decide) (v := .int (((((1103515245 : Int64) * (s0.1 2).toInt64) + (12345 : Int64)) - (((1103515245 : Int64) * (s0.1 2).toInt64) + (12345 : Int64)) / (2147483648 : Int64) * (2147483648 : Int64)).toInt32)) rfl rfl (Nat.le_of_ble_eq_true rfl) (wX1 G q0 r0 (lm_sF s0 2 (((((1103515245 : Int64) * (s0.1 2).toInt64) + (12345 : Int64)) - (((1103515245 : Int64) * (s0.1 2).toInt64) + (12345 : Int64)) / (2147483648 : Int64) * (2147483648 : Int64)).toInt32))) (wX1_r0f2 _ _ _ _ _) dX1_draw_19 (fun H locs hN => ?_)
  refine lv_iload_n hx hb dX1_draw_22 rfl (lv_at hl 1 rfl) ?_
  refine lv_if_le (tgt := 38) hx hb dX1_draw_23 (by decide) (fun c1 => ?_) (fun c1 => ?_)
  · have hF := lm_itp c1 hF
    refine lv_iconst (v := -1) hx hb dX1_draw_38 (by decide) ?_
    cases hF
    exact lm_iret B hN dX1_draw_39
  · have hF := lm_itn c1 hF
    refine lv_aload_n hx hb dX1_draw_26 rfl (lv_at hl 0 rfl) ?_
    refine lm_get B hN (ci := 1) hiX1 0 rfl rfl 3 (by decide) (by decide +kernel) (v := .int (((((1103515245 : Int64) * (s0.1 2).toInt64) + (12345 : Int64)) - (((1103515245 : Int64) * (s0.1 2).toInt64) + (12345 : Int64)) / (2147483648 : Int64) * (2147483648 : Int64)).toInt32)) rfl dX1_draw_27 ?_
    refine lv_ldc (v := 65536) hx hb hown (hts (.constant RX1 77 (65536)) (by decide +kernel)) dX1_draw_30 ?_
    refine lv_idiv hx hb dX1_draw_32 (by decide) ?_
    refine lv_iload_n hx hb dX1_draw_33 rfl (lv_at hl 1 rfl) ?_
    obtain ⟨z2, hF⟩ := lm_gZe hF
    refine lv_irem hx hb dX1_draw_34 z2 ?_
    refine lv_goto (tgt := 39) hx hb dX1_draw_35 (by decide) ?_
    cases hF
    exact lm_iret B hN dX1_draw_39
def fX1_haveNext (s0 : lm_St) (s1 : lm_St) (x1 : Int32) : Option (lm_St × lm_St) := (fX3_wouldTake s1 x1).bind (fun v1 => lm_un2 v1 (fun r1 t1_0 => if r1 = (-1 : Int32) then (some (s0, t1_0)) else (lm_gI r1 7 ((fX3_haveAway t1_0 r1).bind (fun t4_0 => some ((lm_sF s0 0 ((s0.1 0) + ((t1_0.2.1 1) r1.toNatClampNeg))), t4_0))))))
set_option maxHeartbeats 4000000 in
set_option maxRecDepth 100000 in
theorem hX1_haveNext (l : Launch) (G : lm_G) (q0 : Nat → Nat) (q1 : Nat → Nat) {s0 : lm_St} {s1 : lm_St} {x1 : Int32} {R : lm_St × lm_St} (hF : fX1_haveNext s0 s1 x1 = some R) : lm_C l G yX1_haveNext wsX1_haveNext 5 [.ref (q0 0), .int x1] (wX1_X3 G q0 q1 s0 s1) none (wX1_X3 G q0 q1 R.1 R.2) := by
  refine lm_C.of (cc := cX1_haveNext) (maxL := 3) (ret := none) (by decide) rfl (Nat.le_of_ble_eq_true rfl) ?_
  intro p e s m below meth c A ls B hN hl
  have hx := B.1.1
  have hb := B.1.2.1
  have hown := B.1.2.2.2.1
  have hts := B.1.2.2.2.2
  have hiX1 : ∀ w ∈ wsX10, w ∈ wsX1_haveNext := by decide +kernel
  have hiX3 : ∀ w ∈ wsX30, w ∈ wsX1_haveNext := by decide +kernel
  have hl : lv_has ls 3 [(0, .ref (q0 0)), (1, .int x1)] := hl
  refine lv_aload_n hx hb dX1_haveNext_0 rfl (lv_at hl 0 rfl) ?_
  refine lm_get B hN (ci := 1) hiX1 0 rfl rfl 0 (by decide) (by decide +kernel) (v := .ref (q1 0)) rfl dX1_haveNext_1 ?_
  refine lv_iload_n hx hb dX1_haveNext_4 rfl (lv_at hl 1 rfl) ?_
  obtain ⟨⟨r1, t1_0⟩, hc1, hF⟩ := lm_bd hF
  have hF := lm_un2E hF
  refine lm_run B hN (kp_wX1_X3_1 _ _ _ _ _) (lm_hrV B hN hl.1 (lm_cutP B hN (kp_wX1_X3_1 _ _ _ _ _)) (n := 1) (As := [.int x1]) (rest := []) (hX3_wouldTake l G q1 hc1) gX1_haveNext_X3_wouldTake rfl (by decide +kernel) rfl (by decide) (by decide) (ci := 3) (q0 := 0) rfl rfl rfl (Nat.le_of_ble_eq_true rfl) dX1_haveNext_5) (wX1_X3 G q0 q1 s0 t1_0) (kq_wX1_X3_1 _ _ _ _ _) (fun H locs hN => ?_)
  refine lv_istore_n (lv' := [(2, .int r1), (0, .ref (q0 0)), (1, .int x1)]) hx hb dX1_haveNext_8 rfl hl (by decide) rfl (fun ls hl => ?_)
  refine lv_iload_n hx hb dX1_haveNext_9 rfl (lv_at hl 0 rfl) ?_
  refine lv_iconst (v := -1) hx hb dX1_haveNext_10 (by decide) ?_
  refine lv_icmp_eq (tgt := 40) hx hb dX1_haveNext_11 (by decide) (fun c2 => ?_) (fun c2 => ?_)
  · have hF := lm_itp c2 hF
    cases hF
    exact lm_vret B hN dX1_haveNext_40
  · have hF := lm_itn c2 hF
    refine lv_aload_n hx hb dX1_haveNext_14 rfl (lv_at hl 1 rfl) ?_
    refine lv_dup hx hb dX1_haveNext_15 rfl ?_
    refine lm_get B hN (ci := 1) hiX1 0 rfl rfl 1 (by decide) (by decide +kernel) (v := .int (s0.1 0)) rfl dX1_haveNext_16 ?_
    refine lv_aload_n hx hb dX1_haveNext_19 rfl (lv_at hl 1 rfl) ?_
    refine lm_get B hN (ci := 1) hiX1 0 rfl rfl 0 (by decide) (by decide +kernel) (v := .ref (q1 0)) rfl dX1_haveNext_20 ?_
    refine lm_get B hN (ci := 3) hiX3 1 rfl rfl 1 (by decide) (by decide +kernel) (v := .ref (q1 2)) rfl dX1_haveNext_23 ?_
    refine lv_iload_n hx hb dX1_haveNext_26 rfl (lv_at hl 0 rfl) ?_
    obtain ⟨z3, hF⟩ := lm_gIe hF
    refine lm_ald B hN 3 (f := (t1_0.2.1 1)) rfl z3 dX1_haveNext_27 ?_
    refine lv_iadd hx hb dX1_haveNext_28 ?_
    refine lm_put B hN (ci := 1) hiX1 tyX1 tyX1_ok nmX1 0 rfl rfl 1 (by decide) (by decide +kernel) (by decide) (v := .int ((s0.1 0) + ((t1_0.2.1 1) r1.toNatClampNeg))) rfl rfl (Nat.le_of_ble_eq_true rfl) (wX1_X3 G q0 q1 (lm_sF s0 0 ((s0.1 0) + ((t1_0.2.1 1) r1.toNatClampNeg))) t1_0) (wX1_X3_r0f0 _ _ _ _ _ _) dX1_haveNext_29 (fun H locs hN => ?_)
    refine lv_aload_n hx hb dX1_haveNext_32 rfl (lv_at hl 1 rfl) ?_
    refine lm_get B hN (ci := 1) hiX1 0 rfl rfl 0 (by decide) (by decide +kernel) (v := .ref (q1 0)) rfl dX1_haveNext_33 ?_
    refine lv_iload_n hx hb dX1_haveNext_36 rfl (lv_at hl 0 rfl) ?_
    obtain ⟨t4_0, hc4, hF⟩ := lm_bd hF
    refine lm_run B hN (kp_wX1_X3_1 _ _ _ _ _) (lm_hrV B hN hl.1 (lm_cutP B hN (kp_wX1_X3_1 _ _ _ _ _)) (n := 1) (As := [.int r1]) (rest := []) (hX3_haveAway l G q1 hc4) gX1_haveNext_X3_haveAway rfl (by decide +kernel) rfl (by decide) (by decide) (ci := 3) (q0 := 0) rfl rfl rfl (Nat.le_of_ble_eq_true rfl) dX1_haveNext_37) (wX1_X3 G q0 q1 (lm_sF s0 0 ((s0.1 0) + ((t1_0.2.1 1) r1.toNatClampNeg))) t4_0) (kq_wX1_X3_1 _ _ _ _ _) (fun H locs hN => ?_)
    cases hF
    exact lm_vret B hN dX1_haveNext_40
def jX1_goThrough_102 (k21 : Int32 × Int32 × lm_St × lm_St × lm_St → Option (lm_St × lm_St × lm_St)) (x2_102 : Int32) (x4_102 : Int32) (s0_102 : lm_St) (s1_102 : lm_St) (s2_102 : lm_St) : Option (lm_St × lm_St × lm_St) := k21 (x2_102, (x4_102 + 1), s0_102, s1_102, s2_102)
def jX1_goThrough_80 (k21 : Int32 × Int32 × lm_St × lm_St × lm_St → Option (lm_St × lm_St × lm_St)) (x2_80 : Int32) (x4_80 : Int32) (s0_80 : lm_St) (s1_80 : lm_St) (s2_80 : lm_St) : Option (lm_St × lm_St × lm_St) := if ((((s2_80.1 3) + x4_80) + (1 : Int32)) - (((s2_80.1 3) + x4_80) + (1 : Int32)) / (5 : Int32) * (5 : Int32)) = 0 then ((fX1_haveNext s0_80 s1_80 (x4_80 + (1 : Int32))).bind (fun v2 => lm_un2 v2 (fun t2_0 t2_1 => jX1_goThrough_102 k21 x2_80 x4_80 t2_0 t2_1 s2_80))) else (jX1_goThrough_102 k21 x2_80 x4_80 s0_80 s1_80 s2_80)
def bX1_goThrough_21 (k21 : Int32 × Int32 × lm_St × lm_St × lm_St → Option (lm_St × lm_St × lm_St)) (x2_21 : Int32) (x4_21 : Int32) (s0_21 : lm_St) (s1_21 : lm_St) (s2_21 : lm_St) : Option (lm_St × lm_St × lm_St) := if x2_21 ≤ x4_21 then (some ((lm_sF s0_21 1 (s1_21.1 2)), s1_21, s2_21)) else ((fX1_draw s0_21 ((s1_21.1 0) + (1 : Int32))).bind (fun v4 => lm_un2 v4 (fun r4 t4_0 => (fX3_has s1_21 r4).bind (fun v5 => lm_un2 v5 (fun r5 t5_0 => if r5 = 0 then (jX1_goThrough_80 k21 x2_21 x4_21 t4_0 t5_0 s2_21) else ((fX8_isIn (t5_0.1 1) r4).bind (fun r7 => if r7 = 0 then ((fX3_lookAt t5_0 r4 x4_21).bind (fun t9_0 => jX1_goThrough_80 k21 x2_21 x4_21 t4_0 t9_0 s2_21)) else (jX1_goThrough_80 k21 x2_21 x4_21 t4_0 t5_0 s2_21))))))))
def fX1_goThrough (s0 : lm_St) (s1 : lm_St) (s2 : lm_St) (x2 : Int32) (x3 : Int32) : Option (lm_St × lm_St × lm_St) := (fX3_copyFrom s1 s2).bind (fun v10 => lm_un2 v10 (fun t10_0 t10_1 => lm_lp (fun k a => bX1_goThrough_21 k a.1 a.2.1 a.2.2.1 a.2.2.2.1 a.2.2.2.2) 5000 (x2, (0 : Int32), (lm_sF (lm_sF s0 0 (0 : Int32)) 2 x3), t10_0, t10_1)))
set_option maxHeartbeats 4000000 in
set_option maxRecDepth 100000 in
theorem hX1_goThrough (l : Launch) (G : lm_G) (q0 : Nat → Nat) (q1 : Nat → Nat) (q2 : Nat → Nat) {s0 : lm_St} {s1 : lm_St} {s2 : lm_St} {x2 : Int32} {x3 : Int32} {R : lm_St × lm_St × lm_St} (hF : fX1_goThrough s0 s1 s2 x2 x3 = some R) : lm_C l G yX1_goThrough wsX1_goThrough 6 [.ref (q0 0), .ref (q2 0), .int x2, .int x3] (wX1_X3_X3 G q0 q1 q2 s0 s1 s2) none (wX1_X3_X3 G q0 q1 q2 R.1 R.2.1 R.2.2) := by
  refine lm_C.of (cc := cX1_goThrough) (maxL := 6) (ret := none) (by decide) rfl (Nat.le_of_ble_eq_true rfl) ?_
  intro p e s m below meth c A ls B hN hl
  have hx := B.1.1
  have hb := B.1.2.1
  have hown := B.1.2.2.2.1
  have hts := B.1.2.2.2.2
  have hiX1 : ∀ w ∈ wsX10, w ∈ wsX1_goThrough := by decide +kernel
  have hiX3 : ∀ w ∈ wsX30, w ∈ wsX1_goThrough := by decide +kernel
  have hl : lv_has ls 6 [(0, .ref (q0 0)), (1, .ref (q2 0)), (2, .int x2), (3, .int x3)] := hl
  have L21 : ∀ (n : Nat) (x2_21 : Int32) (x4_21 : Int32) (s0_21 : lm_St) (s1_21 : lm_St) (s2_21 : lm_St) (H : Heap) (locs : List Loc) (ls : Array Slot), lm_lp (fun k a => bX1_goThrough_21 k a.1 a.2.1 a.2.2.1 a.2.2.2.1 a.2.2.2.2) n (x2_21, x4_21, s0_21, s1_21, s2_21) = some R → lm_N G A s (wX1_X3_X3 G q0 q1 q2 s0_21 s1_21 s2_21) H locs → lv_has ls 6 [(0, .ref (q0 0)), (1, .ref (q2 0)), (2, .int x2_21), (4, .int x4_21)] → W p l e (lm_rk 6) s m ([.ref (q0 0), .ref (q2 0), .int x2, .int x3] : List Value).toArray below meth c H locs 0 0 (MQ below (lm_post G (wX1_X3_X3 G q0 q1 q2 R.1 R.2.1 R.2.2) none A) ([.ref (q0 0), .ref (q2 0), .int x2, .int x3] : List Value).toArray s 0 0 A) (F0 m 21 ls []) := by
    intro n
    induction n with
    | zero => intro x2_21 x4_21 s0_21 s1_21 s2_21 H locs ls hF; exact (lm_lpz hF).elim
    | succ n ih21 =>
      intro x2_21 x4_21 s0_21 s1_21 s2_21 H locs ls hF hN hl
      have hF : bX1_goThrough_21 (lm_lp (fun k a => bX1_goThrough_21 k a.1 a.2.1 a.2.2.1 a.2.2.2.1 a.2.2.2.2) n) x2_21 x4_21 s0_21 s1_21 s2_21 = some R := lm_lps hF
      generalize lm_lp (fun k a => bX1_goThrough_21 k a.1 a.2.1 a.2.2.1 a.2.2.2.1 a.2.2.2.2) n = k21 at hF ih21
      have J80 : ∀ (x2_80 : Int32) (x4_80 : Int32) (s0_80 : lm_St) (s1_80 : lm_St) (s2_80 : lm_St) (H : Heap) (locs : List Loc) (ls : Array Slot), jX1_goThrough_80 k21 x2_80 x4_80 s0_80 s1_80 s2_80 = some R → lm_N G A s (wX1_X3_X3 G q0 q1 q2 s0_80 s1_80 s2_80) H locs → lv_has ls 6 [(0, .ref (q0 0)), (1, .ref (q2 0)), (2, .int x2_80), (4, .int x4_80)] → W p l e (lm_rk 6) s m ([.ref (q0 0), .ref (q2 0), .int x2, .int x3] : List Value).toArray below meth c H locs 0 0 (MQ below (lm_post G (wX1_X3_X3 G q0 q1 q2 R.1 R.2.1 R.2.2) none A) ([.ref (q0 0), .ref (q2 0), .int x2, .int x3] : List Value).toArray s 0 0 A) (F0 m 80 ls []) := by
        intro x2_80 x4_80 s0_80 s1_80 s2_80 H locs ls hF hN hl
        have J102 : ∀ (x2_102 : Int32) (x4_102 : Int32) (s0_102 : lm_St) (s1_102 : lm_St) (s2_102 : lm_St) (H : Heap) (locs : List Loc) (ls : Array Slot), jX1_goThrough_102 k21 x2_102 x4_102 s0_102 s1_102 s2_102 = some R → lm_N G A s (wX1_X3_X3 G q0 q1 q2 s0_102 s1_102 s2_102) H locs → lv_has ls 6 [(0, .ref (q0 0)), (1, .ref (q2 0)), (2, .int x2_102), (4, .int x4_102)] → W p l e (lm_rk 6) s m ([.ref (q0 0), .ref (q2 0), .int x2, .int x3] : List Value).toArray below meth c H locs 0 0 (MQ below (lm_post G (wX1_X3_X3 G q0 q1 q2 R.1 R.2.1 R.2.2) none A) ([.ref (q0 0), .ref (q2 0), .int x2, .int x3] : List Value).toArray s 0 0 A) (F0 m 102 ls []) := by
          intro x2_102 x4_102 s0_102 s1_102 s2_102 H locs ls hF hN hl
          refine lv_iinc (v := (x4_102 + 1)) (lv' := [(4, .int (x4_102 + 1)), (0, .ref (q0 0)), (1, .ref (q2 0)), (2, .int x2_102)]) hx hb dX1_goThrough_102 hl (k := 3) rfl rfl (by decide) rfl (fun ls hl => ?_)
          refine lv_goto (tgt := 21) hx hb dX1_goThrough_105 (by decide) ?_
          exact ih21 _ _ _ _ _ _ _ _ hF hN (lv_sub hl [1, 2, 3, 0] rfl)
        refine lv_aload_n hx hb dX1_goThrough_80 rfl (lv_at hl 1 rfl) ?_
        refine lm_get B hN (ci := 3) hiX3 6 rfl rfl 7 (by decide) (by decide +kernel) (v := .int (s2_80.1 3)) rfl dX1_goThrough_81 ?_
        refine lv_iload hx hb dX1_goThrough_84 (lv_at hl 3 rfl) ?_
        refine lv_iadd hx hb dX1_goThrough_86 ?_
        refine lv_iconst (v := 1) hx hb dX1_goThrough_87 (by decide) ?_
        refine lv_iadd hx hb dX1_goThrough_88 ?_
        refine lv_iconst (v := 5) hx hb dX1_goThrough_89 (by decide) ?_
        refine lv_irem hx hb dX1_goThrough_90 (by decide) ?_
        refine lv_if_ne (tgt := 102) hx hb dX1_goThrough_91 (by decide) (fun c1 => ?_) (fun c1 => ?_)
        · have hF := lm_itn c1 hF
          exact J102 _ _ _ _ _ _ _ _ hF hN (lv_sub hl [0, 1, 2, 3] rfl)
        · have hF := lm_itp c1 hF
          refine lv_aload_n hx hb dX1_goThrough_94 rfl (lv_at hl 0 rfl) ?_
          refine lv_iload hx hb dX1_goThrough_95 (lv_at hl 3 rfl) ?_
          refine lv_iconst (v := 1) hx hb dX1_goThrough_97 (by decide) ?_
          refine lv_iadd hx hb dX1_goThrough_98 ?_
          obtain ⟨⟨t2_0, t2_1⟩, hc2, hF⟩ := lm_bd hF
          have hF := lm_un2E hF
          refine lm_run B hN (kp_wX1_X3_X3_0_1t _ _ _ _ _ _ _) (lm_hrV B hN hl.1 (lm_cutP B hN (kp_wX1_X3_X3_0_1t _ _ _ _ _ _ _)) (n := 1) (As := [.int (x4_80 + (1 : Int32))]) (rest := []) (hX1_haveNext l G q0 q1 hc2) gX1_goThrough_X1_haveNext rfl (by decide +kernel) rfl (by decide) (by decide) (ci := 1) (q0 := 0) rfl rfl rfl (Nat.le_of_ble_eq_true rfl) dX1_goThrough_99) (wX1_X3_X3 G q0 q1 q2 t2_0 t2_1 s2_80) (kq_wX1_X3_X3_0_1t _ _ _ _ _ _ _) (fun H locs hN => ?_)
          exact J102 _ _ _ _ _ _ _ _ hF hN (lv_sub hl [0, 1, 2, 3] rfl)
      refine lv_iload hx hb dX1_goThrough_21 (lv_at hl 3 rfl) ?_
      refine lv_iload_n hx hb dX1_goThrough_23 rfl (lv_at hl 2 rfl) ?_
      refine lv_icmp_ge (tgt := 108) hx hb dX1_goThrough_24 (by decide) (fun c3 => ?_) (fun c3 => ?_)
      · have hF := lm_itp c3 hF
        refine lv_aload_n hx hb dX1_goThrough_108 rfl (lv_at hl 0 rfl) ?_
        refine lv_aload_n hx hb dX1_goThrough_109 rfl (lv_at hl 0 rfl) ?_
        refine lm_get B hN (ci := 1) hiX1 0 rfl rfl 0 (by decide) (by decide +kernel) (v := .ref (q1 0)) rfl dX1_goThrough_110 ?_
        refine lm_get B hN (ci := 3) hiX3 1 rfl rfl 6 (by decide) (by decide +kernel) (v := .int (s1_21.1 2)) rfl dX1_goThrough_113 ?_
        refine lm_put B hN (ci := 1) hiX1 tyX1 tyX1_ok nmX1 0 rfl rfl 2 (by decide) (by decide +kernel) (by decide) (v := .int (s1_21.1 2)) rfl rfl (Nat.le_of_ble_eq_true rfl) (wX1_X3_X3 G q0 q1 q2 (lm_sF s0_21 1 (s1_21.1 2)) s1_21 s2_21) (wX1_X3_X3_r0f1 _ _ _ _ _ _ _ _) dX1_goThrough_116 (fun H locs hN => ?_)
        cases hF
        exact lm_vret B hN dX1_goThrough_119
      · have hF := lm_itn c3 hF
        refine lv_aload_n hx hb dX1_goThrough_27 rfl (lv_at hl 0 rfl) ?_
        refine lv_aload_n hx hb dX1_goThrough_28 rfl (lv_at hl 0 rfl) ?_
        refine lm_get B hN (ci := 1) hiX1 0 rfl rfl 0 (by decide) (by decide +kernel) (v := .ref (q1 0)) rfl dX1_goThrough_29 ?_
        refine lm_get B hN (ci := 3) hiX3 1 rfl rfl 4 (by decide) (by decide +kernel) (v := .int (s1_21.1 0)) rfl dX1_goThrough_32 ?_
        refine lv_iconst (v := 1) hx hb dX1_goThrough_35 (by decide) ?_
        refine lv_iadd hx hb dX1_goThrough_36 ?_
        obtain ⟨⟨r4, t4_0⟩, hc4, hF⟩ := lm_bd hF
        have hF := lm_un2E hF
        refine lm_run B hN (kp_wX1_X3_X3_0 _ _ _ _ _ _ _) (lm_hrV B hN hl.1 (lm_cutP B hN (kp_wX1_X3_X3_0 _ _ _ _ _ _ _)) (n := 1) (As := [.int ((s1_21.1 0) + (1 : Int32))]) (rest := []) (hX1_draw l G q0 (fun _ => (q1 0)) hc4) gX1_goThrough_X1_draw rfl (by decide +kernel) rfl (by decide) (by decide) (ci := 1) (q0 := 0) rfl rfl rfl (Nat.le_of_ble_eq_true rfl) dX1_goThrough_37) (wX1_X3_X3 G q0 q1 q2 t4_0 s1_21 s2_21) (kq_wX1_X3_X3_0 _ _ _ _ _ _ _) (fun H locs hN => ?_)
        refine lv_istore (lv' := [(5, .int r4), (0, .ref (q0 0)), (1, .ref (q2 0)), (2, .int x2_21), (4, .int x4_21)]) hx hb dX1_goThrough_40 hl (by decide) rfl (fun ls hl => ?_)
        refine lv_aload_n hx hb dX1_goThrough_42 rfl (lv_at hl 1 rfl) ?_
        refine lm_get B hN (ci := 1) hiX1 0 rfl rfl 0 (by decide) (by decide +kernel) (v := .ref (q1 0)) rfl dX1_goThrough_43 ?_
        refine lv_iload hx hb dX1_goThrough_46 (lv_at hl 0 rfl) ?_
        obtain ⟨⟨r5, t5_0⟩, hc5, hF⟩ := lm_bd hF
        have hF := lm_un2E hF
        refine lm_run B hN (kp_wX1_X3_X3_1 _ _ _ _ _ _ _) (lm_hrV B hN hl.1 (lm_cutP B hN (kp_wX1_X3_X3_1 _ _ _ _ _ _ _)) (n := 1) (As := [.int r4]) (rest := []) (hX3_has l G q1 hc5) gX1_goThrough_X3_has rfl (by decide +kernel) rfl (by decide) (by decide) (ci := 3) (q0 := 0) rfl rfl rfl (Nat.le_of_ble_eq_true rfl) dX1_goThrough_48) (wX1_X3_X3 G q0 q1 q2 t4_0 t5_0 s2_21) (kq_wX1_X3_X3_1 _ _ _ _ _ _ _) (fun H locs hN => ?_)
        refine lv_if_eq (tgt := 80) hx hb dX1_goThrough_51 (by decide) (fun c6 => ?_) (fun c6 => ?_)
        · have hF := lm_itp c6 hF
          exact J80 _ _ _ _ _ _ _ _ hF hN (lv_sub hl [1, 2, 3, 4] rfl)
        · have hF := lm_itn c6 hF
          refine lv_aload_n hx hb dX1_goThrough_54 rfl (lv_at hl 1 rfl) ?_
          refine lm_get B hN (ci := 1) hiX1 0 rfl rfl 0 (by decide) (by decide +kernel) (v := .ref (q1 0)) rfl dX1_goThrough_55 ?_
          refine lm_get B hN (ci := 3) hiX3 1 rfl rfl 5 (by decide) (by decide +kernel) (v := .int (t5_0.1 1)) rfl dX1_goThrough_58 ?_
          refine lv_iload hx hb dX1_goThrough_61 (lv_at hl 0 rfl) ?_
          obtain ⟨r7, hc7, hF⟩ := lm_bd hF
          refine lm_run0 B hN (lm_hrN B hN hl.1 (lm_cut0 B hN) (n := 2) (host := RX8) (As := [.int (t5_0.1 1), .int r4]) (rest := []) (hX8_isIn l G hc7) gX1_goThrough_X8_isIn_n43 rfl (by decide +kernel) (by decide +kernel) (by decide +kernel) (by decide +kernel) rfl (by decide) (by decide) rfl (Nat.le_of_ble_eq_true rfl) dX1_goThrough_63) (fun H locs hN => ?_)
          refine lv_if_ne (tgt := 80) hx hb dX1_goThrough_66 (by decide) (fun c8 => ?_) (fun c8 => ?_)
          · have hF := lm_itn c8 hF
            exact J80 _ _ _ _ _ _ _ _ hF hN (lv_sub hl [1, 2, 3, 4] rfl)
          · have hF := lm_itp c8 hF
            refine lv_aload_n hx hb dX1_goThrough_69 rfl (lv_at hl 1 rfl) ?_
            refine lm_get B hN (ci := 1) hiX1 0 rfl rfl 0 (by decide) (by decide +kernel) (v := .ref (q1 0)) rfl dX1_goThrough_70 ?_
            refine lv_iload hx hb dX1_goThrough_73 (lv_at hl 0 rfl) ?_
            refine lv_iload hx hb dX1_goThrough_75 (lv_at hl 4 rfl) ?_
            obtain ⟨t9_0, hc9, hF⟩ := lm_bd hF
            refine lm_run B hN (kp_wX1_X3_X3_1 _ _ _ _ _ _ _) (lm_hrV B hN hl.1 (lm_cutP B hN (kp_wX1_X3_X3_1 _ _ _ _ _ _ _)) (n := 2) (As := [.int r4, .int x4_21]) (rest := []) (hX3_lookAt l G q1 hc9) gX1_goThrough_X3_lookAt rfl (by decide +kernel) rfl (by decide) (by decide) (ci := 3) (q0 := 0) rfl rfl rfl (Nat.le_of_ble_eq_true rfl) dX1_goThrough_77) (wX1_X3_X3 G q0 q1 q2 t4_0 t9_0 s2_21) (kq_wX1_X3_X3_1 _ _ _ _ _ _ _) (fun H locs hN => ?_)
            exact J80 _ _ _ _ _ _ _ _ hF hN (lv_sub hl [1, 2, 3, 4] rfl)
  refine lv_aload_n hx hb dX1_goThrough_0 rfl (lv_at hl 0 rfl) ?_
  refine lm_get B hN (ci := 1) hiX1 0 rfl rfl 0 (by decide) (by decide +kernel) (v := .ref (q1 0)) rfl dX1_goThrough_1 ?_
  refine lv_aload_n hx hb dX1_goThrough_4 rfl (lv_at hl 1 rfl) ?_
  obtain ⟨⟨t10_0, t10_1⟩, hc10, hF⟩ := lm_bd hF
  have hF := lm_un2E hF
  refine lm_run B hN (kp_wX1_X3_X3_1_2 _ _ _ _ _ _ _) (lm_hrV B hN hl.1 (lm_cutP B hN (kp_wX1_X3_X3_1_2 _ _ _ _ _ _ _)) (n := 1) (As := [.ref (q2 0)]) (rest := []) (hX3_copyFrom l G q1 q2 hc10) gX1_goThrough_X3_copyFrom rfl (by decide +kernel) rfl (by decide) (by decide) (ci := 3) (q0 := 0) rfl rfl rfl (Nat.le_of_ble_eq_true rfl) dX1_goThrough_5) (wX1_X3_X3 G q0 q1 q2 s0 t10_0 t10_1) (kq_wX1_X3_X3_1_2 _ _ _ _ _ _ _) (fun H locs hN => ?_)
  refine lv_aload_n hx hb dX1_goThrough_8 rfl (lv_at hl 0 rfl) ?_
  refine lv_iconst (v := 0) hx hb dX1_goThrough_9 (by decide) ?_
  refine lm_put B hN (ci := 1) hiX1 tyX1 tyX1_ok nmX1 0 rfl rfl 1 (by decide) (by decide +kernel) (by decide) (v := .int (0 : Int32)) rfl rfl (Nat.le_of_ble_eq_true rfl) (wX1_X3_X3 G q0 q1 q2 (lm_sF s0 0 (0 : Int32)) t10_0 t10_1) (wX1_X3_X3_r0f0 _ _ _ _ _ _ _ _) dX1_goThrough_10 (fun H locs hN => ?_)
  refine lv_aload_n hx hb dX1_goThrough_13 rfl (lv_at hl 0 rfl) ?_
  refine lv_iload_n hx hb dX1_goThrough_14 rfl (lv_at hl 3 rfl) ?_
  refine lm_put B hN (ci := 1) hiX1 tyX1 tyX1_ok nmX1 0 rfl rfl 3 (by decide) (by decide +kernel) (by decide) (v := .int x3) rfl rfl (Nat.le_of_ble_eq_true rfl) (wX1_X3_X3 G q0 q1 q2 (lm_sF (lm_sF s0 0 (0 : Int32)) 2 x3) t10_0 t10_1) (wX1_X3_X3_r0f2 _ _ _ _ _ _ _ _) dX1_goThrough_15 (fun H locs hN => ?_)
  refine lv_iconst (v := 0) hx hb dX1_goThrough_18 (by decide) ?_
  refine lv_istore (lv' := [(4, .int (0 : Int32)), (0, .ref (q0 0)), (1, .ref (q2 0)), (2, .int x2), (3, .int x3)]) hx hb dX1_goThrough_19 hl (by decide) rfl (fun ls hl => ?_)
  exact L21 5000 _ _ _ _ _ _ _ _ hF hN (lv_sub hl [1, 2, 3, 0] rfl)
