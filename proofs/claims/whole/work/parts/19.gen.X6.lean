def fX6_touchedOn (s0 : lm_St) (x1 : Int32) : Option (Int32 × lm_St) := if x1 < 0 then (some ((-1 : Int32), s0)) else (if (s0.1 0) ≤ x1 then (some ((-1 : Int32), s0)) else (lm_gI x1 4 (some (((s0.2.1 1) x1.toNatClampNeg), s0))))
set_option maxHeartbeats 4000000 in
set_option maxRecDepth 100000 in
theorem hX6_touchedOn (l : Launch) (G : lm_G) (q0 : Nat → Nat) (r0 : Nat → Nat) {s0 : lm_St} {x1 : Int32} {R : Int32 × lm_St} (hF : fX6_touchedOn s0 x1 = some R) : lm_C l G yX6_touchedOn wsX6_touchedOn 1 [.ref (q0 0), .int x1] (wX6 G q0 r0 s0) (some (.int R.1)) (wX6 G q0 r0 R.2) := by
  refine lm_C.of (cc := cX6_touchedOn) (maxL := 2) (ret := (some .int)) (by decide) rfl (Nat.le_of_ble_eq_true rfl) ?_
  intro p e s m below meth c A ls B hN hl
  have hx := B.1.1
  have hb := B.1.2.1
  have hown := B.1.2.2.2.1
  have hts := B.1.2.2.2.2
  have hiX6 : ∀ w ∈ wsX60, w ∈ wsX6_touchedOn := by decide +kernel
  have hl : lv_has ls 2 [(0, .ref (q0 0)), (1, .int x1)] := hl
  refine lv_iload_n hx hb dX6_touchedOn_0 rfl (lv_at hl 1 rfl) ?_
  refine lv_if_lt (tgt := 21) hx hb dX6_touchedOn_1 (by decide) (fun c1 => ?_) (fun c1 => ?_)
  · have hF := lm_itp c1 hF
    refine lv_iconst (v := -1) hx hb dX6_touchedOn_21 (by decide) ?_
    cases hF
    exact lm_iret B hN dX6_touchedOn_22
  · have hF := lm_itn c1 hF
    refine lv_iload_n hx hb dX6_touchedOn_4 rfl (lv_at hl 1 rfl) ?_
    refine lv_aload_n hx hb dX6_touchedOn_5 rfl (lv_at hl 0 rfl) ?_
    refine lm_get B hN (ci := 6) hiX6 0 rfl rfl 3 (by decide) (by decide +kernel) (v := .int (s0.1 0)) rfl dX6_touchedOn_6 ?_
    refine lv_icmp_ge (tgt := 21) hx hb dX6_touchedOn_9 (by decide) (fun c2 => ?_) (fun c2 => ?_)
    · have hF := lm_itp c2 hF
      refine lv_iconst (v := -1) hx hb dX6_touchedOn_21 (by decide) ?_
      cases hF
      exact lm_iret B hN dX6_touchedOn_22
    · have hF := lm_itn c2 hF
      refine lv_aload_n hx hb dX6_touchedOn_12 rfl (lv_at hl 0 rfl) ?_
      refine lm_get B hN (ci := 6) hiX6 0 rfl rfl 2 (by decide) (by decide +kernel) (v := .ref (q0 2)) rfl dX6_touchedOn_13 ?_
      refine lv_iload_n hx hb dX6_touchedOn_16 rfl (lv_at hl 1 rfl) ?_
      obtain ⟨z3, hF⟩ := lm_gIe hF
      refine lm_ald B hN 2 (f := (s0.2.1 1)) rfl z3 dX6_touchedOn_17 ?_
      refine lv_goto (tgt := 22) hx hb dX6_touchedOn_18 (by decide) ?_
      cases hF
      exact lm_iret B hN dX6_touchedOn_22
def jX6_keepIfBetter_45 (x1_45 : Int32) (x2_45 : Int32) (s0_45 : lm_St) (s1_45 : lm_St) : Option (lm_St × lm_St) := lm_gC (s0_45.1 0) 4 4 (some ((lm_sA (lm_sF (lm_sF s0_45 1 x1_45) 2 x2_45) 1 (va_cpy (s0_45.2.1 0) (s0_45.2.1 1) 0 0 (s0_45.1 0).toNatClampNeg)), s1_45))
def fX6_keepIfBetter (s0 : lm_St) (s1 : lm_St) (x1 : Int32) : Option (lm_St × lm_St) := (fX3_missedOf s1 ((s1.1 1) ^^^ (-1 : Int32)) (s0.1 0)).bind (fun v2 => lm_un2 v2 (fun r2 t2_0 => if x1 < (s0.1 1) then (jX6_keepIfBetter_45 x1 r2 s0 t2_0) else (if x1 = (s0.1 1) then (if r2 ≤ (s0.1 2) then (some (s0, t2_0)) else (jX6_keepIfBetter_45 x1 r2 s0 t2_0)) else (some (s0, t2_0)))))
set_option maxHeartbeats 4000000 in
set_option maxRecDepth 100000 in
theorem hX6_keepIfBetter (l : Launch) (G : lm_G) (q0 : Nat → Nat) (q1 : Nat → Nat) {s0 : lm_St} {s1 : lm_St} {x1 : Int32} {R : lm_St × lm_St} (hF : fX6_keepIfBetter s0 s1 x1 = some R) : lm_C l G yX6_keepIfBetter wsX6_keepIfBetter 5 [.ref (q0 0), .int x1] (wX6_X3 G q0 q1 s0 s1) none (wX6_X3 G q0 q1 R.1 R.2) := by
  refine lm_C.of (cc := cX6_keepIfBetter) (maxL := 3) (ret := none) (by decide) rfl (Nat.le_of_ble_eq_true rfl) ?_
  intro p e s m below meth c A ls B hN hl
  have hx := B.1.1
  have hb := B.1.2.1
  have hown := B.1.2.2.2.1
  have hts := B.1.2.2.2.2
  have hiX3 : ∀ w ∈ wsX30, w ∈ wsX6_keepIfBetter := by decide +kernel
  have hiX6 : ∀ w ∈ wsX60, w ∈ wsX6_keepIfBetter := by decide +kernel
  have hl : lv_has ls 3 [(0, .ref (q0 0)), (1, .int x1)] := hl
  have J45 : ∀ (x1_45 : Int32) (x2_45 : Int32) (s0_45 : lm_St) (s1_45 : lm_St) (H : Heap) (locs : List Loc) (ls : Array Slot), jX6_keepIfBetter_45 x1_45 x2_45 s0_45 s1_45 = some R → lm_N G A s (wX6_X3 G q0 q1 s0_45 s1_45) H locs → lv_has ls 3 [(0, .ref (q0 0)), (1, .int x1_45), (2, .int x2_45)] → W p l e (lm_rk 5) s m ([.ref (q0 0), .int x1] : List Value).toArray below meth c H locs 0 0 (MQ below (lm_post G (wX6_X3 G q0 q1 R.1 R.2) none A) ([.ref (q0 0), .int x1] : List Value).toArray s 0 0 A) (F0 m 45 ls []) := by
    intro x1_45 x2_45 s0_45 s1_45 H locs ls hF hN hl
    refine lv_aload_n hx hb dX6_keepIfBetter_45 rfl (lv_at hl 0 rfl) ?_
    refine lv_iload_n hx hb dX6_keepIfBetter_46 rfl (lv_at hl 1 rfl) ?_
    refine lm_put B hN (ci := 6) hiX6 tyX6 tyX6_ok nmX6 0 rfl rfl 4 (by decide) (by decide +kernel) (by decide) (v := .int x1_45) rfl rfl (Nat.le_of_ble_eq_true rfl) (wX6_X3 G q0 q1 (lm_sF s0_45 1 x1_45) s1_45) (wX6_X3_r0f1 _ _ _ _ _ _) dX6_keepIfBetter_47 (fun H locs hN => ?_)
    refine lv_aload_n hx hb dX6_keepIfBetter_50 rfl (lv_at hl 0 rfl) ?_
    refine lv_iload_n hx hb dX6_keepIfBetter_51 rfl (lv_at hl 2 rfl) ?_
    refine lm_put B hN (ci := 6) hiX6 tyX6 tyX6_ok nmX6 0 rfl rfl 5 (by decide) (by decide +kernel) (by decide) (v := .int x2_45) rfl rfl (Nat.le_of_ble_eq_true rfl) (wX6_X3 G q0 q1 (lm_sF (lm_sF s0_45 1 x1_45) 2 x2_45) s1_45) (wX6_X3_r0f2 _ _ _ _ _ _) dX6_keepIfBetter_52 (fun H locs hN => ?_)
    refine lv_aload_n hx hb dX6_keepIfBetter_55 rfl (lv_at hl 0 rfl) ?_
    refine lm_get B hN (ci := 6) hiX6 0 rfl rfl 1 (by decide) (by decide +kernel) (v := .ref (q0 1)) rfl dX6_keepIfBetter_56 ?_
    refine lv_iconst (v := 0) hx hb dX6_keepIfBetter_59 (by decide) ?_
    refine lv_aload_n hx hb dX6_keepIfBetter_60 rfl (lv_at hl 0 rfl) ?_
    refine lm_get B hN (ci := 6) hiX6 0 rfl rfl 2 (by decide) (by decide +kernel) (v := .ref (q0 2)) rfl dX6_keepIfBetter_61 ?_
    refine lv_iconst (v := 0) hx hb dX6_keepIfBetter_64 (by decide) ?_
    refine lv_aload_n hx hb dX6_keepIfBetter_65 rfl (lv_at hl 0 rfl) ?_
    refine lm_get B hN (ci := 6) hiX6 0 rfl rfl 3 (by decide) (by decide +kernel) (v := .int (s0_45.1 0)) rfl dX6_keepIfBetter_66 ?_
    obtain ⟨z1, hF⟩ := lm_gCe hF
    refine lm_cpy B hN hl.1 (by decide +kernel) (by decide +kernel) (by decide +kernel) (by decide +kernel) 1 2 (f := (s0_45.2.1 0)) (g := (s0_45.2.1 1)) rfl rfl z1 (by decide) (by decide) (wX6_X3 G q0 q1 (lm_sA (lm_sF (lm_sF s0_45 1 x1_45) 2 x2_45) 1 (va_cpy (s0_45.2.1 0) (s0_45.2.1 1) 0 0 (s0_45.1 0).toNatClampNeg)) s1_45) (wX6_X3_r0a1 _ _ _ _ _ _) dX6_keepIfBetter_69 (fun H locs hN => ?_)
    cases hF
    exact lm_vret B hN dX6_keepIfBetter_72
  refine lv_aload_n hx hb dX6_keepIfBetter_0 rfl (lv_at hl 0 rfl) ?_
  refine lm_get B hN (ci := 6) hiX6 0 rfl rfl 0 (by decide) (by decide +kernel) (v := .ref (q1 0)) rfl dX6_keepIfBetter_1 ?_
  refine lv_aload_n hx hb dX6_keepIfBetter_4 rfl (lv_at hl 0 rfl) ?_
  refine lm_get B hN (ci := 6) hiX6 0 rfl rfl 0 (by decide) (by decide +kernel) (v := .ref (q1 0)) rfl dX6_keepIfBetter_5 ?_
  refine lm_get B hN (ci := 3) hiX3 3 rfl rfl 5 (by decide) (by decide +kernel) (v := .int (s1.1 1)) rfl dX6_keepIfBetter_8 ?_
  refine lv_iconst (v := -1) hx hb dX6_keepIfBetter_11 (by decide) ?_
  refine lv_ixor hx hb dX6_keepIfBetter_12 ?_
  refine lv_aload_n hx hb dX6_keepIfBetter_13 rfl (lv_at hl 0 rfl) ?_
  refine lm_get B hN (ci := 6) hiX6 0 rfl rfl 3 (by decide) (by decide +kernel) (v := .int (s0.1 0)) rfl dX6_keepIfBetter_14 ?_
  obtain ⟨⟨r2, t2_0⟩, hc2, hF⟩ := lm_bd hF
  have hF := lm_un2E hF
  refine lm_run B hN (kp_wX6_X3_1 _ _ _ _ _) (lm_hrV B hN hl.1 (lm_cutP B hN (kp_wX6_X3_1 _ _ _ _ _)) (n := 2) (As := [.int ((s1.1 1) ^^^ (-1 : Int32)), .int (s0.1 0)]) (rest := []) (hX3_missedOf l G q1 hc2) gX6_keepIfBetter_X3_missedOf rfl (by decide +kernel) rfl (by decide) (by decide) (ci := 3) (q0 := 0) rfl rfl rfl (Nat.le_of_ble_eq_true rfl) dX6_keepIfBetter_17) (wX6_X3 G q0 q1 s0 t2_0) (kq_wX6_X3_1 _ _ _ _ _) (fun H locs hN => ?_)
  refine lv_istore_n (lv' := [(2, .int r2), (0, .ref (q0 0)), (1, .int x1)]) hx hb dX6_keepIfBetter_20 rfl hl (by decide) rfl (fun ls hl => ?_)
  refine lv_iload_n hx hb dX6_keepIfBetter_21 rfl (lv_at hl 2 rfl) ?_
  refine lv_aload_n hx hb dX6_keepIfBetter_22 rfl (lv_at hl 1 rfl) ?_
  refine lm_get B hN (ci := 6) hiX6 0 rfl rfl 4 (by decide) (by decide +kernel) (v := .int (s0.1 1)) rfl dX6_keepIfBetter_23 ?_
  refine lv_icmp_lt (tgt := 45) hx hb dX6_keepIfBetter_26 (by decide) (fun c3 => ?_) (fun c3 => ?_)
  · have hF := lm_itp c3 hF
    exact J45 _ _ _ _ _ _ _ hF hN (lv_sub hl [1, 2, 0] rfl)
  · have hF := lm_itn c3 hF
    refine lv_iload_n hx hb dX6_keepIfBetter_29 rfl (lv_at hl 2 rfl) ?_
    refine lv_aload_n hx hb dX6_keepIfBetter_30 rfl (lv_at hl 1 rfl) ?_
    refine lm_get B hN (ci := 6) hiX6 0 rfl rfl 4 (by decide) (by decide +kernel) (v := .int (s0.1 1)) rfl dX6_keepIfBetter_31 ?_
    refine lv_icmp_ne (tgt := 72) hx hb dX6_keepIfBetter_34 (by decide) (fun c4 => ?_) (fun c4 => ?_)
    · have hF := lm_itn c4 hF
      cases hF
      exact lm_vret B hN dX6_keepIfBetter_72
    · have hF := lm_itp c4 hF
      refine lv_iload_n hx hb dX6_keepIfBetter_37 rfl (lv_at hl 0 rfl) ?_
      refine lv_aload_n hx hb dX6_keepIfBetter_38 rfl (lv_at hl 1 rfl) ?_
      refine lm_get B hN (ci := 6) hiX6 0 rfl rfl 5 (by decide) (by decide +kernel) (v := .int (s0.1 2)) rfl dX6_keepIfBetter_39 ?_
      refine lv_icmp_le (tgt := 72) hx hb dX6_keepIfBetter_42 (by decide) (fun c5 => ?_) (fun c5 => ?_)
      · have hF := lm_itp c5 hF
        cases hF
        exact lm_vret B hN dX6_keepIfBetter_72
      · have hF := lm_itn c5 hF
        exact J45 _ _ _ _ _ _ _ hF hN (lv_sub hl [1, 2, 0] rfl)
def fX6_endDay (rec : lm_St → lm_St → Int32 → Int32 → Option (lm_St × lm_St)) (s0 : lm_St) (s1 : lm_St) (x1 : Int32) (x2 : Int32) : Option (lm_St × lm_St) := (fX3_wouldTake s1 x1).bind (fun v1 => lm_un2 v1 (fun r1 t1_0 => if r1 = (-1 : Int32) then ((rec s0 t1_0 x1 x2).bind (fun v7 => lm_un2 v7 (fun t7_0 t7_1 => some (t7_0, t7_1)))) else (lm_gI r1 7 (if (x2 + ((t1_0.2.1 1) r1.toNatClampNeg)) ≤ (s0.1 1) then ((fX3_haveAway t1_0 r1).bind (fun t5_0 => (rec s0 t5_0 x1 (x2 + ((t1_0.2.1 1) r1.toNatClampNeg))).bind (fun v6 => lm_un2 v6 (fun t6_0 t6_1 => some (t6_0, (lm_sF (lm_sF t6_1 1 (t1_0.1 1)) 2 (t1_0.1 2))))))) else (some (s0, t1_0))))))
set_option maxHeartbeats 4000000 in
set_option maxRecDepth 100000 in
theorem hX6_endDay (l : Launch) (G : lm_G) (q0 : Nat → Nat) (q1 : Nat → Nat) {rec : lm_St → lm_St → Int32 → Int32 → Option (lm_St × lm_St)} {K0 : Nat} (hrec : ∀ (s0 s1 : lm_St) (x1 x2 : Int32) (R : lm_St × lm_St), rec s0 s1 x1 x2 = some R → lm_C l G yX6_tryDay wsX6_tryDay K0 [.ref (q0 0), .int x1, .int x2] (wX6_X3 G q0 q1 s0 s1) none (wX6_X3 G q0 q1 R.1 R.2)) (hK0 : 20 ≤ K0) {s0 : lm_St} {s1 : lm_St} {x1 : Int32} {x2 : Int32} {R : lm_St × lm_St} (hF : fX6_endDay rec s0 s1 x1 x2 = some R) : lm_C l G yX6_endDay wsX6_endDay (K0 + 1) [.ref (q0 0), .int x1, .int x2] (wX6_X3 G q0 q1 s0 s1) none (wX6_X3 G q0 q1 R.1 R.2) := by
  refine lm_C.of (cc := cX6_endDay) (maxL := 7) (ret := none) (by decide) rfl (Nat.le_of_ble_eq_true rfl) ?_
  intro p e s m below meth c A ls B hN hl
  have hx := B.1.1
  have hb := B.1.2.1
  have hown := B.1.2.2.2.1
  have hts := B.1.2.2.2.2
  have hiX3 : ∀ w ∈ wsX30, w ∈ wsX6_endDay := by decide +kernel
  have hiX6 : ∀ w ∈ wsX60, w ∈ wsX6_endDay := by decide +kernel
  have hl : lv_has ls 7 [(0, .ref (q0 0)), (1, .int x1), (2, .int x2)] := hl
  refine lv_aload_n hx hb dX6_endDay_0 rfl (lv_at hl 0 rfl) ?_
  refine lm_get B hN (ci := 6) hiX6 0 rfl rfl 0 (by decide) (by decide +kernel) (v := .ref (q1 0)) rfl dX6_endDay_1 ?_
  refine lv_iload_n hx hb dX6_endDay_4 rfl (lv_at hl 1 rfl) ?_
  obtain ⟨⟨r1, t1_0⟩, hc1, hF⟩ := lm_bd hF
  have hF := lm_un2E hF
  refine lm_run B hN (kp_wX6_X3_1 _ _ _ _ _) (lm_hrV B hN hl.1 (lm_cutP B hN (kp_wX6_X3_1 _ _ _ _ _)) (n := 1) (As := [.int x1]) (rest := []) (hX3_wouldTake l G q1 hc1) gX6_endDay_X3_wouldTake rfl (by decide +kernel) rfl (by omega) (by decide) (ci := 3) (q0 := 0) rfl rfl rfl (Nat.le_of_ble_eq_true rfl) dX6_endDay_5) (wX6_X3 G q0 q1 s0 t1_0) (kq_wX6_X3_1 _ _ _ _ _) (fun H locs hN => ?_)
  refine lv_istore_n (lv' := [(3, .int r1), (0, .ref (q0 0)), (1, .int x1), (2, .int x2)]) hx hb dX6_endDay_8 rfl hl (by decide) rfl (fun ls hl => ?_)
  refine lv_iload_n hx hb dX6_endDay_9 rfl (lv_at hl 0 rfl) ?_
  refine lv_iconst (v := -1) hx hb dX6_endDay_10 (by decide) ?_
  refine lv_icmp_ne (tgt := 21) hx hb dX6_endDay_11 (by decide) (fun c2 => ?_) (fun c2 => ?_)
  · have hF := lm_itn c2 hF
    refine lv_iload_n hx hb dX6_endDay_21 rfl (lv_at hl 3 rfl) ?_
    refine lv_aload_n hx hb dX6_endDay_22 rfl (lv_at hl 1 rfl) ?_
    refine lm_get B hN (ci := 6) hiX6 0 rfl rfl 0 (by decide) (by decide +kernel) (v := .ref (q1 0)) rfl dX6_endDay_23 ?_
    refine lm_get B hN (ci := 3) hiX3 3 rfl rfl 1 (by decide) (by decide +kernel) (v := .ref (q1 2)) rfl dX6_endDay_26 ?_
    refine lv_iload_n hx hb dX6_endDay_29 rfl (lv_at hl 0 rfl) ?_
    obtain ⟨z3, hF⟩ := lm_gIe hF
    refine lm_ald B hN 5 (f := (t1_0.2.1 1)) rfl z3 dX6_endDay_30 ?_
    refine lv_iadd hx hb dX6_endDay_31 ?_
    refine lv_istore (lv' := [(4, .int (x2 + ((t1_0.2.1 1) r1.toNatClampNeg))), (3, .int r1), (0, .ref (q0 0)), (1, .int x1), (2, .int x2)]) hx hb dX6_endDay_32 hl (by decide) rfl (fun ls hl => ?_)
    refine lv_iload hx hb dX6_endDay_34 (lv_at hl 0 rfl) ?_
    refine lv_aload_n hx hb dX6_endDay_36 rfl (lv_at hl 2 rfl) ?_
    refine lm_get B hN (ci := 6) hiX6 0 rfl rfl 4 (by decide) (by decide +kernel) (v := .int (s0.1 1)) rfl dX6_endDay_37 ?_
    refine lv_icmp_le (tgt := 44) hx hb dX6_endDay_40 (by decide) (fun c4 => ?_) (fun c4 => ?_)
    · have hF := lm_itp c4 hF
      refine lv_aload_n hx hb dX6_endDay_44 rfl (lv_at hl 2 rfl) ?_
      refine lm_get B hN (ci := 6) hiX6 0 rfl rfl 0 (by decide) (by decide +kernel) (v := .ref (q1 0)) rfl dX6_endDay_45 ?_
      refine lm_get B hN (ci := 3) hiX3 3 rfl rfl 5 (by decide) (by decide +kernel) (v := .int (t1_0.1 1)) rfl dX6_endDay_48 ?_
      refine lv_istore (lv' := [(5, .int (t1_0.1 1)), (4, .int (x2 + ((t1_0.2.1 1) r1.toNatClampNeg))), (3, .int r1), (0, .ref (q0 0)), (1, .int x1), (2, .int x2)]) hx hb dX6_endDay_51 hl (by decide) rfl (fun ls hl => ?_)
      refine lv_aload_n hx hb dX6_endDay_53 rfl (lv_at hl 3 rfl) ?_
      refine lm_get B hN (ci := 6) hiX6 0 rfl rfl 0 (by decide) (by decide +kernel) (v := .ref (q1 0)) rfl dX6_endDay_54 ?_
      refine lm_get B hN (ci := 3) hiX3 3 rfl rfl 6 (by decide) (by decide +kernel) (v := .int (t1_0.1 2)) rfl dX6_endDay_57 ?_
      refine lv_istore (lv' := [(6, .int (t1_0.1 2)), (5, .int (t1_0.1 1)), (4, .int (x2 + ((t1_0.2.1 1) r1.toNatClampNeg))), (3, .int r1), (0, .ref (q0 0)), (1, .int x1), (2, .int x2)]) hx hb dX6_endDay_60 hl (by decide) rfl (fun ls hl => ?_)
      refine lv_aload_n hx hb dX6_endDay_62 rfl (lv_at hl 4 rfl) ?_
      refine lm_get B hN (ci := 6) hiX6 0 rfl rfl 0 (by decide) (by decide +kernel) (v := .ref (q1 0)) rfl dX6_endDay_63 ?_
      refine lv_iload_n hx hb dX6_endDay_66 rfl (lv_at hl 3 rfl) ?_
      obtain ⟨t5_0, hc5, hF⟩ := lm_bd hF
      refine lm_run B hN (kp_wX6_X3_1 _ _ _ _ _) (lm_hrV B hN hl.1 (lm_cutP B hN (kp_wX6_X3_1 _ _ _ _ _)) (n := 1) (As := [.int r1]) (rest := []) (hX3_haveAway l G q1 hc5) gX6_endDay_X3_haveAway rfl (by decide +kernel) rfl (by omega) (by decide) (ci := 3) (q0 := 0) rfl rfl rfl (Nat.le_of_ble_eq_true rfl) dX6_endDay_67) (wX6_X3 G q0 q1 s0 t5_0) (kq_wX6_X3_1 _ _ _ _ _) (fun H locs hN => ?_)
      refine lv_aload_n hx hb dX6_endDay_70 rfl (lv_at hl 4 rfl) ?_
      refine lv_iload_n hx hb dX6_endDay_71 rfl (lv_at hl 5 rfl) ?_
      refine lv_iload hx hb dX6_endDay_72 (lv_at hl 2 rfl) ?_
      obtain ⟨⟨t6_0, t6_1⟩, hc6, hF⟩ := lm_bd hF
      have hF := lm_un2E hF
      refine lm_runA B hN (lm_hrV B hN hl.1 (lm_cutA B hN) (n := 2) (As := [.int x1, .int (x2 + ((t1_0.2.1 1) r1.toNatClampNeg))]) (rest := []) (hrec _ _ _ _ _ hc6) gX6_endDay_X6_tryDay rfl (by decide +kernel) rfl (by omega) (by decide) (ci := 6) (q0 := 0) rfl rfl rfl (Nat.le_of_ble_eq_true rfl) dX6_endDay_74) (fun H locs hN => ?_)
      refine lv_aload_n hx hb dX6_endDay_77 rfl (lv_at hl 4 rfl) ?_
      refine lm_get B hN (ci := 6) hiX6 0 rfl rfl 0 (by decide) (by decide +kernel) (v := .ref (q1 0)) rfl dX6_endDay_78 ?_
      refine lv_iload hx hb dX6_endDay_81 (lv_at hl 1 rfl) ?_
      refine lm_put B hN (ci := 3) hiX3 tyX3 tyX3_ok nmX3 3 rfl rfl 5 (by decide) (by decide +kernel) (by decide) (v := .int (t1_0.1 1)) rfl rfl (Nat.le_of_ble_eq_true rfl) (wX6_X3 G q0 q1 t6_0 (lm_sF t6_1 1 (t1_0.1 1))) (wX6_X3_r1f1 _ _ _ _ _ _) dX6_endDay_83 (fun H locs hN => ?_)
      refine lv_aload_n hx hb dX6_endDay_86 rfl (lv_at hl 4 rfl) ?_
      refine lm_get B hN (ci := 6) hiX6 0 rfl rfl 0 (by decide) (by decide +kernel) (v := .ref (q1 0)) rfl dX6_endDay_87 ?_
      refine lv_iload hx hb dX6_endDay_90 (lv_at hl 0 rfl) ?_
      refine lm_put B hN (ci := 3) hiX3 tyX3 tyX3_ok nmX3 3 rfl rfl 6 (by decide) (by decide +kernel) (by decide) (v := .int (t1_0.1 2)) rfl rfl (Nat.le_of_ble_eq_true rfl) (wX6_X3 G q0 q1 t6_0 (lm_sF (lm_sF t6_1 1 (t1_0.1 1)) 2 (t1_0.1 2))) (wX6_X3_r1f2 _ _ _ _ _ _) dX6_endDay_92 (fun H locs hN => ?_)
      cases hF
      exact lm_vret B hN dX6_endDay_95
    · have hF := lm_itn c4 hF
      cases hF
      exact lm_vret B hN dX6_endDay_43
  · have hF := lm_itp c2 hF
    refine lv_aload_n hx hb dX6_endDay_14 rfl (lv_at hl 1 rfl) ?_
    refine lv_iload_n hx hb dX6_endDay_15 rfl (lv_at hl 2 rfl) ?_
    refine lv_iload_n hx hb dX6_endDay_16 rfl (lv_at hl 3 rfl) ?_
    obtain ⟨⟨t7_0, t7_1⟩, hc7, hF⟩ := lm_bd hF
    have hF := lm_un2E hF
    refine lm_runA B hN (lm_hrV B hN hl.1 (lm_cutA B hN) (n := 2) (As := [.int x1, .int x2]) (rest := []) (hrec _ _ _ _ _ hc7) gX6_endDay_X6_tryDay rfl (by decide +kernel) rfl (by omega) (by decide) (ci := 6) (q0 := 0) rfl rfl rfl (Nat.le_of_ble_eq_true rfl) dX6_endDay_17) (fun H locs hN => ?_)
    cases hF
    exact lm_vret B hN dX6_endDay_20
def jX6_tryDay_112 (rec : lm_St → lm_St → Int32 → Int32 → Option (lm_St × lm_St)) (k16 : Int32 × Int32 × Int32 × lm_St × lm_St → Option (lm_St × lm_St)) (x1_112 : Int32) (x2_112 : Int32) (x3_112 : Int32) (s0_112 : lm_St) (s1_112 : lm_St) : Option (lm_St × lm_St) := k16 (x1_112, x2_112, (x3_112 + 1), s0_112, s1_112)
def bX6_tryDay_16 (rec : lm_St → lm_St → Int32 → Int32 → Option (lm_St × lm_St)) (k16 : Int32 × Int32 × Int32 × lm_St × lm_St → Option (lm_St × lm_St)) (x1_16 : Int32) (x2_16 : Int32) (x3_16 : Int32) (s0_16 : lm_St) (s1_16 : lm_St) : Option (lm_St × lm_St) := if (s1_16.1 0) ≤ x3_16 then (lm_gI x1_16 4 ((fX6_endDay rec (lm_sA s0_16 0 (upd (s0_16.2.1 0) x1_16.toNatClampNeg (7 : Int32))) s1_16 (x1_16 + (1 : Int32)) x2_16).bind (fun v3 => lm_un2 v3 (fun t3_0 t3_1 => some (t3_0, t3_1))))) else ((fX8_isIn (s1_16.1 1) x3_16).bind (fun r4 => if r4 = 0 then (lm_gI x3_16 7 (lm_gI x3_16 7 ((fX3_lookAt s1_16 x3_16 x1_16).bind (fun t8_0 => lm_gI x1_16 4 ((fX6_endDay rec (lm_sA s0_16 0 (upd (s0_16.2.1 0) x1_16.toNatClampNeg x3_16)) t8_0 (x1_16 + (1 : Int32)) x2_16).bind (fun v10 => lm_un2 v10 (fun t10_0 t10_1 => lm_gI x3_16 7 (lm_gI x3_16 7 (jX6_tryDay_112 rec k16 x1_16 x2_16 x3_16 t10_0 (lm_sA (lm_sA t10_1 2 (upd (t10_1.2.1 2) x3_16.toNatClampNeg ((s1_16.2.1 2) x3_16.toNatClampNeg))) 3 (upd (t10_1.2.1 3) x3_16.toNatClampNeg ((s1_16.2.1 3) x3_16.toNatClampNeg)))))))))))) else (jX6_tryDay_112 rec k16 x1_16 x2_16 x3_16 s0_16 s1_16)))
def tX6_tryDay (rec : lm_St → lm_St → Int32 → Int32 → Option (lm_St × lm_St)) (s0 : lm_St) (s1 : lm_St) (x1 : Int32) (x2 : Int32) : Option (lm_St × lm_St) := if x1 < (s0.1 0) then (lm_lp (fun k a => bX6_tryDay_16 rec k a.1 a.2.1 a.2.2.1 a.2.2.2.1 a.2.2.2.2) 5000 (x1, x2, (0 : Int32), s0, s1)) else ((fX6_keepIfBetter s0 s1 x2).bind (fun v14 => lm_un2 v14 (fun t14_0 t14_1 => some (t14_0, t14_1))))
set_option maxHeartbeats 4000000 in
set_option maxRecDepth 100000 in
theorem uX6_tryDay (l : Launch) (G : lm_G) (q0 : Nat → Nat) (q1 : Nat → Nat) {rec : lm_St → lm_St → Int32 → Int32 → Option (lm_St × lm_St)} {K0 : Nat} (hrec : ∀ (s0 s1 : lm_St) (x1 x2 : Int32) (R : lm_St × lm_St), rec s0 s1 x1 x2 = some R → lm_C l G yX6_tryDay wsX6_tryDay K0 [.ref (q0 0), .int x1, .int x2] (wX6_X3 G q0 q1 s0 s1) none (wX6_X3 G q0 q1 R.1 R.2)) (hK0 : 20 ≤ K0) {s0 : lm_St} {s1 : lm_St} {x1 : Int32} {x2 : Int32} {R : lm_St × lm_St} (hF : tX6_tryDay rec s0 s1 x1 x2 = some R) : lm_C l G yX6_tryDay wsX6_tryDay (K0 + 3) [.ref (q0 0), .int x1, .int x2] (wX6_X3 G q0 q1 s0 s1) none (wX6_X3 G q0 q1 R.1 R.2) := by
  refine lm_C.of (cc := cX6_tryDay) (maxL := 6) (ret := none) (by decide) rfl (Nat.le_of_ble_eq_true rfl) ?_
  intro p e s m below meth c A ls B hN hl
  have hx := B.1.1
  have hb := B.1.2.1
  have hown := B.1.2.2.2.1
  have hts := B.1.2.2.2.2
  have hiX3 : ∀ w ∈ wsX30, w ∈ wsX6_tryDay := by decide +kernel
  have hiX6 : ∀ w ∈ wsX60, w ∈ wsX6_tryDay := by decide +kernel
  have hl : lv_has ls 6 [(0, .ref (q0 0)), (1, .int x1), (2, .int x2)] := hl
  have L16 : ∀ (n : Nat) (x1_16 : Int32) (x2_16 : Int32) (x3_16 : Int32) (s0_16 : lm_St) (s1_16 : lm_St) (H : Heap) (locs : List Loc) (ls : Array Slot), lm_lp (fun k a => bX6_tryDay_16 rec k a.1 a.2.1 a.2.2.1 a.2.2.2.1 a.2.2.2.2) n (x1_16, x2_16, x3_16, s0_16, s1_16) = some R → lm_N G A s (wX6_X3 G q0 q1 s0_16 s1_16) H locs → lv_has ls 6 [(0, .ref (q0 0)), (1, .int x1_16), (2, .int x2_16), (3, .int x3_16)] → W p l e (lm_rk (K0 + 3)) s m ([.ref (q0 0), .int x1, .int x2] : List Value).toArray below meth c H locs 0 0 (MQ below (lm_post G (wX6_X3 G q0 q1 R.1 R.2) none A) ([.ref (q0 0), .int x1, .int x2] : List Value).toArray s 0 0 A) (F0 m 16 ls []) := by
    intro n
    induction n with
    | zero => intro x1_16 x2_16 x3_16 s0_16 s1_16 H locs ls hF; exact (lm_lpz hF).elim
    | succ n ih16 =>
      intro x1_16 x2_16 x3_16 s0_16 s1_16 H locs ls hF hN hl
      have hF : bX6_tryDay_16 rec (lm_lp (fun k a => bX6_tryDay_16 rec k a.1 a.2.1 a.2.2.1 a.2.2.2.1 a.2.2.2.2) n) x1_16 x2_16 x3_16 s0_16 s1_16 = some R := lm_lps hF
      generalize lm_lp (fun k a => bX6_tryDay_16 rec k a.1 a.2.1 a.2.2.1 a.2.2.2.1 a.2.2.2.2) n = k16 at hF ih16
      have J112 : ∀ (x1_112 : Int32) (x2_112 : Int32) (x3_112 : Int32) (s0_112 : lm_St) (s1_112 : lm_St) (H : Heap) (locs : List Loc) (ls : Array Slot), jX6_tryDay_112 rec k16 x1_112 x2_112 x3_112 s0_112 s1_112 = some R → lm_N G A s (wX6_X3 G q0 q1 s0_112 s1_112) H locs → lv_has ls 6 [(0, .ref (q0 0)), (1, .int x1_112), (2, .int x2_112), (3, .int x3_112)] → W p l e (lm_rk (K0 + 3)) s m ([.ref (q0 0), .int x1, .int x2] : List Value).toArray below meth c H locs 0 0 (MQ below (lm_post G (wX6_X3 G q0 q1 R.1 R.2) none A) ([.ref (q0 0), .int x1, .int x2] : List Value).toArray s 0 0 A) (F0 m 112 ls []) := by
        intro x1_112 x2_112 x3_112 s0_112 s1_112 H locs ls hF hN hl
        refine lv_iinc (v := (x3_112 + 1)) (lv' := [(3, .int (x3_112 + 1)), (0, .ref (q0 0)), (1, .int x1_112), (2, .int x2_112)]) hx hb dX6_tryDay_112 hl (k := 3) rfl rfl (by decide) rfl (fun ls hl => ?_)
        refine lv_goto (tgt := 16) hx hb dX6_tryDay_115 (by decide) ?_
        exact ih16 _ _ _ _ _ _ _ _ hF hN (lv_sub hl [1, 2, 3, 0] rfl)
      refine lv_iload_n hx hb dX6_tryDay_16 rfl (lv_at hl 3 rfl) ?_
      refine lv_aload_n hx hb dX6_tryDay_17 rfl (lv_at hl 0 rfl) ?_
      refine lm_get B hN (ci := 6) hiX6 0 rfl rfl 0 (by decide) (by decide +kernel) (v := .ref (q1 0)) rfl dX6_tryDay_18 ?_
      refine lm_get B hN (ci := 3) hiX3 3 rfl rfl 4 (by decide) (by decide +kernel) (v := .int (s1_16.1 0)) rfl dX6_tryDay_21 ?_
      refine lv_icmp_ge (tgt := 118) hx hb dX6_tryDay_24 (by decide) (fun c1 => ?_) (fun c1 => ?_)
      · have hF := lm_itp c1 hF
        refine lv_aload_n hx hb dX6_tryDay_118 rfl (lv_at hl 0 rfl) ?_
        refine lm_get B hN (ci := 6) hiX6 0 rfl rfl 1 (by decide) (by decide +kernel) (v := .ref (q0 1)) rfl dX6_tryDay_119 ?_
        refine lv_iload_n hx hb dX6_tryDay_122 rfl (lv_at hl 1 rfl) ?_
        refine lv_bipush (v := 7) hx hb dX6_tryDay_123 (by decide) ?_
        obtain ⟨z2, hF⟩ := lm_gIe hF
        refine lm_ast B hN 1 (f := (s0_16.2.1 0)) rfl z2 (wX6_X3 G q0 q1 (lm_sA s0_16 0 (upd (s0_16.2.1 0) x1_16.toNatClampNeg (7 : Int32))) s1_16) (wX6_X3_r0a0 _ _ _ _ _ _) dX6_tryDay_125 (fun H locs hN => ?_)
        refine lv_aload_n hx hb dX6_tryDay_126 rfl (lv_at hl 0 rfl) ?_
        refine lv_iload_n hx hb dX6_tryDay_127 rfl (lv_at hl 1 rfl) ?_
        refine lv_iconst (v := 1) hx hb dX6_tryDay_128 (by decide) ?_
        refine lv_iadd hx hb dX6_tryDay_129 ?_
        refine lv_iload_n hx hb dX6_tryDay_130 rfl (lv_at hl 2 rfl) ?_
        obtain ⟨⟨t3_0, t3_1⟩, hc3, hF⟩ := lm_bd hF
        have hF := lm_un2E hF
        refine lm_runA B hN (lm_hrV B hN hl.1 (lm_cutA B hN) (n := 2) (As := [.int (x1_16 + (1 : Int32)), .int x2_16]) (rest := []) (hX6_endDay l G q0 q1 hrec hK0 hc3) gX6_tryDay_X6_endDay rfl (by decide +kernel) rfl (by omega) (by decide) (ci := 6) (q0 := 0) rfl rfl rfl (Nat.le_of_ble_eq_true rfl) dX6_tryDay_131) (fun H locs hN => ?_)
        cases hF
        exact lm_vret B hN dX6_tryDay_134
      · have hF := lm_itn c1 hF
        refine lv_aload_n hx hb dX6_tryDay_27 rfl (lv_at hl 0 rfl) ?_
        refine lm_get B hN (ci := 6) hiX6 0 rfl rfl 0 (by decide) (by decide +kernel) (v := .ref (q1 0)) rfl dX6_tryDay_28 ?_
        refine lm_get B hN (ci := 3) hiX3 3 rfl rfl 5 (by decide) (by decide +kernel) (v := .int (s1_16.1 1)) rfl dX6_tryDay_31 ?_
        refine lv_iload_n hx hb dX6_tryDay_34 rfl (lv_at hl 3 rfl) ?_
        obtain ⟨r4, hc4, hF⟩ := lm_bd hF
        refine lm_run0 B hN (lm_hrN B hN hl.1 (lm_cut0 B hN) (n := 2) (host := RX8) (As := [.int (s1_16.1 1), .int x3_16]) (rest := []) (hX8_isIn l G hc4) gX6_tryDay_X8_isIn_n59 rfl (by decide +kernel) (by decide +kernel) (by decide +kernel) (by decide +kernel) rfl (by omega) (by decide) rfl (Nat.le_of_ble_eq_true rfl) dX6_tryDay_35) (fun H locs hN => ?_)
        refine lv_if_eq (tgt := 44) hx hb dX6_tryDay_38 (by decide) (fun c5 => ?_) (fun c5 => ?_)
        · have hF := lm_itp c5 hF
          refine lv_aload_n hx hb dX6_tryDay_44 rfl (lv_at hl 0 rfl) ?_
          refine lm_get B hN (ci := 6) hiX6 0 rfl rfl 0 (by decide) (by decide +kernel) (v := .ref (q1 0)) rfl dX6_tryDay_45 ?_
          refine lm_get B hN (ci := 3) hiX3 3 rfl rfl 2 (by decide) (by decide +kernel) (v := .ref (q1 3)) rfl dX6_tryDay_48 ?_
          refine lv_iload_n hx hb dX6_tryDay_51 rfl (lv_at hl 3 rfl) ?_
          obtain ⟨z6, hF⟩ := lm_gIe hF
          refine lm_ald B hN 6 (f := (s1_16.2.1 2)) rfl z6 dX6_tryDay_52 ?_
          refine lv_istore (lv' := [(4, .int ((s1_16.2.1 2) x3_16.toNatClampNeg)), (0, .ref (q0 0)), (1, .int x1_16), (2, .int x2_16), (3, .int x3_16)]) hx hb dX6_tryDay_53 hl (by decide) rfl (fun ls hl => ?_)
          refine lv_aload_n hx hb dX6_tryDay_55 rfl (lv_at hl 1 rfl) ?_
          refine lm_get B hN (ci := 6) hiX6 0 rfl rfl 0 (by decide) (by decide +kernel) (v := .ref (q1 0)) rfl dX6_tryDay_56 ?_
          refine lm_get B hN (ci := 3) hiX3 3 rfl rfl 3 (by decide) (by decide +kernel) (v := .ref (q1 4)) rfl dX6_tryDay_59 ?_
          refine lv_iload_n hx hb dX6_tryDay_62 rfl (lv_at hl 4 rfl) ?_
          obtain ⟨z7, hF⟩ := lm_gIe hF
          refine lm_ald B hN 7 (f := (s1_16.2.1 3)) rfl z7 dX6_tryDay_63 ?_
          refine lv_istore (lv' := [(5, .int ((s1_16.2.1 3) x3_16.toNatClampNeg)), (4, .int ((s1_16.2.1 2) x3_16.toNatClampNeg)), (0, .ref (q0 0)), (1, .int x1_16), (2, .int x2_16), (3, .int x3_16)]) hx hb dX6_tryDay_64 hl (by decide) rfl (fun ls hl => ?_)
          refine lv_aload_n hx hb dX6_tryDay_66 rfl (lv_at hl 2 rfl) ?_
          refine lm_get B hN (ci := 6) hiX6 0 rfl rfl 0 (by decide) (by decide +kernel) (v := .ref (q1 0)) rfl dX6_tryDay_67 ?_
          refine lv_iload_n hx hb dX6_tryDay_70 rfl (lv_at hl 5 rfl) ?_
          refine lv_iload_n hx hb dX6_tryDay_71 rfl (lv_at hl 3 rfl) ?_
          obtain ⟨t8_0, hc8, hF⟩ := lm_bd hF
          refine lm_run B hN (kp_wX6_X3_1 _ _ _ _ _) (lm_hrV B hN hl.1 (lm_cutP B hN (kp_wX6_X3_1 _ _ _ _ _)) (n := 2) (As := [.int x3_16, .int x1_16]) (rest := []) (hX3_lookAt l G q1 hc8) gX6_tryDay_X3_lookAt rfl (by decide +kernel) rfl (by omega) (by decide) (ci := 3) (q0 := 0) rfl rfl rfl (Nat.le_of_ble_eq_true rfl) dX6_tryDay_72) (wX6_X3 G q0 q1 s0_16 t8_0) (kq_wX6_X3_1 _ _ _ _ _) (fun H locs hN => ?_)
          refine lv_aload_n hx hb dX6_tryDay_75 rfl (lv_at hl 2 rfl) ?_
          refine lm_get B hN (ci := 6) hiX6 0 rfl rfl 1 (by decide) (by decide +kernel) (v := .ref (q0 1)) rfl dX6_tryDay_76 ?_
          refine lv_iload_n hx hb dX6_tryDay_79 rfl (lv_at hl 3 rfl) ?_
          refine lv_iload_n hx hb dX6_tryDay_80 rfl (lv_at hl 5 rfl) ?_
          obtain ⟨z9, hF⟩ := lm_gIe hF
          refine lm_ast B hN 1 (f := (s0_16.2.1 0)) rfl z9 (wX6_X3 G q0 q1 (lm_sA s0_16 0 (upd (s0_16.2.1 0) x1_16.toNatClampNeg x3_16)) t8_0) (wX6_X3_r0a0 _ _ _ _ _ _) dX6_tryDay_81 (fun H locs hN => ?_)
          refine lv_aload_n hx hb dX6_tryDay_82 rfl (lv_at hl 2 rfl) ?_
          refine lv_iload_n hx hb dX6_tryDay_83 rfl (lv_at hl 3 rfl) ?_
          refine lv_iconst (v := 1) hx hb dX6_tryDay_84 (by decide) ?_
          refine lv_iadd hx hb dX6_tryDay_85 ?_
          refine lv_iload_n hx hb dX6_tryDay_86 rfl (lv_at hl 4 rfl) ?_
          obtain ⟨⟨t10_0, t10_1⟩, hc10, hF⟩ := lm_bd hF
          have hF := lm_un2E hF
          refine lm_runA B hN (lm_hrV B hN hl.1 (lm_cutA B hN) (n := 2) (As := [.int (x1_16 + (1 : Int32)), .int x2_16]) (rest := []) (hX6_endDay l G q0 q1 hrec hK0 hc10) gX6_tryDay_X6_endDay rfl (by decide +kernel) rfl (by omega) (by decide) (ci := 6) (q0 := 0) rfl rfl rfl (Nat.le_of_ble_eq_true rfl) dX6_tryDay_87) (fun H locs hN => ?_)
          refine lv_aload_n hx hb dX6_tryDay_90 rfl (lv_at hl 2 rfl) ?_
          refine lm_get B hN (ci := 6) hiX6 0 rfl rfl 0 (by decide) (by decide +kernel) (v := .ref (q1 0)) rfl dX6_tryDay_91 ?_
          refine lm_get B hN (ci := 3) hiX3 3 rfl rfl 2 (by decide) (by decide +kernel) (v := .ref (q1 3)) rfl dX6_tryDay_94 ?_
          refine lv_iload_n hx hb dX6_tryDay_97 rfl (lv_at hl 5 rfl) ?_
          refine lv_iload hx hb dX6_tryDay_98 (lv_at hl 1 rfl) ?_
          obtain ⟨z11, hF⟩ := lm_gIe hF
          refine lm_ast B hN 6 (f := (t10_1.2.1 2)) rfl z11 (wX6_X3 G q0 q1 t10_0 (lm_sA t10_1 2 (upd (t10_1.2.1 2) x3_16.toNatClampNeg ((s1_16.2.1 2) x3_16.toNatClampNeg)))) (wX6_X3_r1a2 _ _ _ _ _ _) dX6_tryDay_100 (fun H locs hN => ?_)
          refine lv_aload_n hx hb dX6_tryDay_101 rfl (lv_at hl 2 rfl) ?_
          refine lm_get B hN (ci := 6) hiX6 0 rfl rfl 0 (by decide) (by decide +kernel) (v := .ref (q1 0)) rfl dX6_tryDay_102 ?_
          refine lm_get B hN (ci := 3) hiX3 3 rfl rfl 3 (by decide) (by decide +kernel) (v := .ref (q1 4)) rfl dX6_tryDay_105 ?_
          refine lv_iload_n hx hb dX6_tryDay_108 rfl (lv_at hl 5 rfl) ?_
          refine lv_iload hx hb dX6_tryDay_109 (lv_at hl 0 rfl) ?_
          obtain ⟨z12, hF⟩ := lm_gIe hF
          refine lm_ast B hN 7 (f := (t10_1.2.1 3)) rfl z12 (wX6_X3 G q0 q1 t10_0 (lm_sA (lm_sA t10_1 2 (upd (t10_1.2.1 2) x3_16.toNatClampNeg ((s1_16.2.1 2) x3_16.toNatClampNeg))) 3 (upd (t10_1.2.1 3) x3_16.toNatClampNeg ((s1_16.2.1 3) x3_16.toNatClampNeg)))) (wX6_X3_r1a3 _ _ _ _ _ _) dX6_tryDay_111 (fun H locs hN => ?_)
          exact J112 _ _ _ _ _ _ _ _ hF hN (lv_sub hl [2, 3, 4, 5] rfl)
        · have hF := lm_itn c5 hF
          refine lv_goto (tgt := 112) hx hb dX6_tryDay_41 (by decide) ?_
          exact J112 _ _ _ _ _ _ _ _ hF hN (lv_sub hl [0, 1, 2, 3] rfl)
  refine lv_iload_n hx hb dX6_tryDay_0 rfl (lv_at hl 1 rfl) ?_
  refine lv_aload_n hx hb dX6_tryDay_1 rfl (lv_at hl 0 rfl) ?_
  refine lm_get B hN (ci := 6) hiX6 0 rfl rfl 3 (by decide) (by decide +kernel) (v := .int (s0.1 0)) rfl dX6_tryDay_2 ?_
  refine lv_icmp_lt (tgt := 14) hx hb dX6_tryDay_5 (by decide) (fun c13 => ?_) (fun c13 => ?_)
  · have hF := lm_itp c13 hF
    refine lv_iconst (v := 0) hx hb dX6_tryDay_14 (by decide) ?_
    refine lv_istore_n (lv' := [(3, .int (0 : Int32)), (0, .ref (q0 0)), (1, .int x1), (2, .int x2)]) hx hb dX6_tryDay_15 rfl hl (by decide) rfl (fun ls hl => ?_)
    exact L16 5000 _ _ _ _ _ _ _ _ hF hN (lv_sub hl [1, 2, 3, 0] rfl)
  · have hF := lm_itn c13 hF
    refine lv_aload_n hx hb dX6_tryDay_8 rfl (lv_at hl 0 rfl) ?_
    refine lv_iload_n hx hb dX6_tryDay_9 rfl (lv_at hl 2 rfl) ?_
    obtain ⟨⟨t14_0, t14_1⟩, hc14, hF⟩ := lm_bd hF
    have hF := lm_un2E hF
    refine lm_runA B hN (lm_hrV B hN hl.1 (lm_cutA B hN) (n := 1) (As := [.int x2]) (rest := []) (hX6_keepIfBetter l G q0 q1 hc14) gX6_tryDay_X6_keepIfBetter rfl (by decide +kernel) rfl (by omega) (by decide) (ci := 6) (q0 := 0) rfl rfl rfl (Nat.le_of_ble_eq_true rfl) dX6_tryDay_10) (fun H locs hN => ?_)
    cases hF
    exact lm_vret B hN dX6_tryDay_13
def fX6_tryDay : Nat → lm_St → lm_St → Int32 → Int32 → Option (lm_St × lm_St)
  | 0, _, _, _, _ => none
  | d + 1, s0, s1, x1, x2 => tX6_tryDay (fX6_tryDay d) s0 s1 x1 x2
theorem hX6_tryDay (l : Launch) (G : lm_G) (q0 q1 : Nat → Nat) : ∀ (d : Nat) {s0 s1 : lm_St} {x1 x2 : Int32} {R : lm_St × lm_St}, fX6_tryDay d s0 s1 x1 x2 = some R → lm_C l G yX6_tryDay wsX6_tryDay (20 + 3 * d) [.ref (q0 0), .int x1, .int x2] (wX6_X3 G q0 q1 s0 s1) none (wX6_X3 G q0 q1 R.1 R.2) := by
  intro d
  induction d with
  | zero => intro s0 s1 x1 x2 R h; exact (lm_no (show none = some R from h)).elim
  | succ d ih =>
    intro s0 s1 x1 x2 R h
    have e : 20 + 3 * (d + 1) = 20 + 3 * d + 3 := by omega
    rw [e]
    exact uX6_tryDay l G q0 q1 (rec := fX6_tryDay d) (K0 := 20 + 3 * d) (fun s0 s1 x1 x2 R h => ih h) (by omega) h
def fX6_search (s0 : lm_St) (s1 : lm_St) (s2 : lm_St) (x2 : Int32) : Option (lm_St × lm_St × lm_St) := (fX3_copyFrom s1 s2).bind (fun v1 => lm_un2 v1 (fun t1_0 t1_1 => (fX6_tryDay 6 (lm_sF (lm_sF (lm_sF s0 0 (if (4 : Int32) < x2 then (4 : Int32) else x2)) 1 (64 : Int32)) 2 (-1 : Int32)) t1_0 (0 : Int32) (0 : Int32)).bind (fun v2 => lm_un2 v2 (fun t2_0 t2_1 => some (t2_0, t2_1, t1_1)))))
set_option maxHeartbeats 4000000 in
set_option maxRecDepth 100000 in
theorem hX6_search (l : Launch) (G : lm_G) (q0 : Nat → Nat) (q1 : Nat → Nat) (q2 : Nat → Nat) {s0 : lm_St} {s1 : lm_St} {s2 : lm_St} {x2 : Int32} {R : lm_St × lm_St × lm_St} (hF : fX6_search s0 s1 s2 x2 = some R) : lm_C l G yX6_search wsX6_search 61 [.ref (q0 0), .ref (q2 0), .int x2] (wX6_X3_X3 G q0 q1 q2 s0 s1 s2) none (wX6_X3_X3 G q0 q1 q2 R.1 R.2.1 R.2.2) := by
  refine lm_C.of (cc := cX6_search) (maxL := 3) (ret := none) (by decide) rfl (Nat.le_of_ble_eq_true rfl) ?_
  intro p e s m below meth c A ls B hN hl
  have hx := B.1.1
  have hb := B.1.2.1
  have hown := B.1.2.2.2.1
  have hts := B.1.2.2.2.2
  have hiX6 : ∀ w ∈ wsX60, w ∈ wsX6_search := by decide +kernel
  have hl : lv_has ls 3 [(0, .ref (q0 0)), (1, .ref (q2 0)), (2, .int x2)] := hl
  refine lv_aload_n hx hb dX6_search_0 rfl (lv_at hl 0 rfl) ?_
  refine lm_get B hN (ci := 6) hiX6 0 rfl rfl 0 (by decide) (by decide +kernel) (v := .ref (q1 0)) rfl dX6_search_1 ?_
  refine lv_aload_n hx hb dX6_search_4 rfl (lv_at hl 1 rfl) ?_
  obtain ⟨⟨t1_0, t1_1⟩, hc1, hF⟩ := lm_bd hF
  have hF := lm_un2E hF
  refine lm_run B hN (kp_wX6_X3_X3_1_2 _ _ _ _ _ _ _) (lm_hrV B hN hl.1 (lm_cutP B hN (kp_wX6_X3_X3_1_2 _ _ _ _ _ _ _)) (n := 1) (As := [.ref (q2 0)]) (rest := []) (hX3_copyFrom l G q1 q2 hc1) gX6_search_X3_copyFrom rfl (by decide +kernel) rfl (by decide) (by decide) (ci := 3) (q0 := 0) rfl rfl rfl (Nat.le_of_ble_eq_true rfl) dX6_search_5) (wX6_X3_X3 G q0 q1 q2 s0 t1_0 t1_1) (kq_wX6_X3_X3_1_2 _ _ _ _ _ _ _) (fun H locs hN => ?_)
  refine lv_aload_n hx hb dX6_search_8 rfl (lv_at hl 0 rfl) ?_
  refine lv_iload_n hx hb dX6_search_9 rfl (lv_at hl 2 rfl) ?_
  refine lv_iconst (v := 4) hx hb dX6_search_10 (by decide) ?_
  refine lm_mmin B hl.1 (by decide +kernel) (by decide +kernel) (by decide +kernel) (by decide +kernel) (by decide) (Nat.le_of_ble_eq_true rfl) dX6_search_11 ?_
  refine lm_put B hN (ci := 6) hiX6 tyX6 tyX6_ok nmX6 0 rfl rfl 3 (by decide) (by decide +kernel) (by decide) (v := .int (if (4 : Int32) < x2 then (4 : Int32) else x2)) rfl rfl (Nat.le_of_ble_eq_true rfl) (wX6_X3_X3 G q0 q1 q2 (lm_sF s0 0 (if (4 : Int32) < x2 then (4 : Int32) else x2)) t1_0 t1_1) (wX6_X3_X3_r0f0 _ _ _ _ _ _ _ _) dX6_search_14 (fun H locs hN => ?_)
  refine lv_aload_n hx hb dX6_search_17 rfl (lv_at hl 0 rfl) ?_
  refine lv_bipush (v := 64) hx hb dX6_search_18 (by decide) ?_
  refine lm_put B hN (ci := 6) hiX6 tyX6 tyX6_ok nmX6 0 rfl rfl 4 (by decide) (by decide +kernel) (by decide) (v := .int (64 : Int32)) rfl rfl (Nat.le_of_ble_eq_true rfl) (wX6_X3_X3 G q0 q1 q2 (lm_sF (lm_sF s0 0 (if (4 : Int32) < x2 then (4 : Int32) else x2)) 1 (64 : Int32)) t1_0 t1_1) (wX6_X3_X3_r0f1 _ _ _ _ _ _ _ _) dX6_search_20 (fun H locs hN => ?_)
  refine lv_aload_n hx hb dX6_search_23 rfl (lv_at hl 0 rfl) ?_
  refine lv_iconst (v := -1) hx hb dX6_search_24 (by decide) ?_
  refine lm_put B hN (ci := 6) hiX6 tyX6 tyX6_ok nmX6 0 rfl rfl 5 (by decide) (by decide +kernel) (by decide) (v := .int (-1 : Int32)) rfl rfl (Nat.le_of_ble_eq_true rfl) (wX6_X3_X3 G q0 q1 q2 (lm_sF (lm_sF (lm_sF s0 0 (if (4 : Int32) < x2 then (4 : Int32) else x2)) 1 (64 : Int32)) 2 (-1 : Int32)) t1_0 t1_1) (wX6_X3_X3_r0f2 _ _ _ _ _ _ _ _) dX6_search_25 (fun H locs hN => ?_)
  refine lv_aload_n hx hb dX6_search_28 rfl (lv_at hl 0 rfl) ?_
  refine lv_iconst (v := 0) hx hb dX6_search_29 (by decide) ?_
  refine lv_iconst (v := 0) hx hb dX6_search_30 (by decide) ?_
  obtain ⟨⟨t2_0, t2_1⟩, hc2, hF⟩ := lm_bd hF
  have hF := lm_un2E hF
  refine lm_run B hN (kp_wX6_X3_X3_0_1t _ _ _ _ _ _ _) (lm_hrV B hN hl.1 (lm_cutP B hN (kp_wX6_X3_X3_0_1t _ _ _ _ _ _ _)) (n := 2) (As := [.int (0 : Int32), .int (0 : Int32)]) (rest := []) (hX6_tryDay l G q0 q1 6 hc2) gX6_search_X6_tryDay rfl (by decide +kernel) rfl (by decide) (by decide) (ci := 6) (q0 := 0) rfl rfl rfl (Nat.le_of_ble_eq_true rfl) dX6_search_31) (wX6_X3_X3 G q0 q1 q2 t2_0 t2_1 t1_1) (kq_wX6_X3_X3_0_1t _ _ _ _ _ _ _) (fun H locs hN => ?_)
  cases hF
  exact lm_vret B hN dX6_search_34
