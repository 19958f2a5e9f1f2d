def fX5_add (s0 : lm_St) (x1 : Int32) : Option (Int32 × lm_St) := if (s0.1 0) < (32 : Int32) then (lm_gI (s0.1 0) 32 (lm_gB (1 : Int32) (some ((1 : Int32), (lm_sF (lm_sA s0 0 (upd (s0.2.1 0) (s0.1 0).toNatClampNeg x1)) 0 ((s0.1 0) + (1 : Int32))))))) else (lm_gB (0 : Int32) (some ((0 : Int32), s0)))
set_option maxHeartbeats 4000000 in
set_option maxRecDepth 100000 in
theorem hX5_add (l : Launch) (G : lm_G) (q0 : Nat → Nat) {s0 : lm_St} {x1 : Int32} {R : Int32 × lm_St} (hF : fX5_add s0 x1 = some R) : lm_C l G yX5_add wsX5_add 1 [.ref (q0 0), .int x1] (wX5 G q0 s0) (some (.int R.1)) (wX5 G q0 R.2) := by
  refine lm_C.of (cc := cX5_add) (maxL := 2) (ret := (some .boolean)) (by decide) rfl (Nat.le_of_ble_eq_true rfl) ?_
  intro p e s m below meth c A ls B hN hl
  have hx := B.1.1
  have hb := B.1.2.1
  have hown := B.1.2.2.2.1
  have hts := B.1.2.2.2.2
  have hE := B.2.2.2.2.2
  have hiX5 : ∀ w ∈ wsX50, w ∈ wsX5_add := by decide +kernel
  have hl : lv_has ls 2 [(0, .ref (q0 0)), (1, .int x1)] := hl
  refine lv_aload_n hx hb dX5_add_0 rfl (lv_at hl 0 rfl) ?_
  refine lm_get B hN (ci := 5) hiX5 0 rfl rfl 1 (by decide) (by decide +kernel) (v := .int (s0.1 0)) rfl dX5_add_1 ?_
  refine lv_aload_n hx hb dX5_add_4 rfl (lv_at hl 0 rfl) ?_
  refine lm_get B hN (ci := 5) hiX5 0 rfl rfl 0 (by decide) (by decide +kernel) (v := .ref (q0 1)) rfl dX5_add_5 ?_
  refine lm_alen B hN 1 rfl (v := 32) rfl dX5_add_8 ?_
  refine lv_icmp_lt (tgt := 14) hx hb dX5_add_9 (by decide) (fun c1 => ?_) (fun c1 => ?_)
  · have hF := lm_itp c1 hF
    refine lv_aload_n hx hb dX5_add_14 rfl (lv_at hl 0 rfl) ?_
    refine lm_get B hN (ci := 5) hiX5 0 rfl rfl 0 (by decide) (by decide +kernel) (v := .ref (q0 1)) rfl dX5_add_15 ?_
    refine lv_aload_n hx hb dX5_add_18 rfl (lv_at hl 0 rfl) ?_
    refine lm_get B hN (ci := 5) hiX5 0 rfl rfl 1 (by decide) (by decide +kernel) (v := .int (s0.1 0)) rfl dX5_add_19 ?_
    refine lv_iload_n hx hb dX5_add_22 rfl (lv_at hl 1 rfl) ?_
    obtain ⟨z2, hF⟩ := lm_gIe hF
    refine lm_ast B hN 1 (f := (s0.2.1 0)) rfl z2 (wX5 G q0 (lm_sA s0 0 (upd (s0.2.1 0) (s0.1 0).toNatClampNeg x1))) (wX5_r0a0 _ _ _ _) dX5_add_23 (fun H locs hN => ?_)
    refine lv_aload_n hx hb dX5_add_24 rfl (lv_at hl 0 rfl) ?_
    refine lv_dup hx hb dX5_add_25 rfl ?_
    refine lm_get B hN (ci := 5) hiX5 0 rfl rfl 1 (by decide) (by decide +kernel) (v := .int (s0.1 0)) rfl dX5_add_26 ?_
    refine lv_iconst (v := 1) hx hb dX5_add_29 (by decide) ?_
    refine lv_iadd hx hb dX5_add_30 ?_
    refine lm_put B hN (ci := 5) hiX5 tyX5 tyX5_ok nmX5 0 rfl rfl 1 (by decide) (by decide +kernel) (by decide) (v := .int ((s0.1 0) + (1 : Int32))) rfl rfl (Nat.le_of_ble_eq_true rfl) (wX5 G q0 (lm_sF (lm_sA s0 0 (upd (s0.2.1 0) (s0.1 0).toNatClampNeg x1)) 0 ((s0.1 0) + (1 : Int32)))) (wX5_r0f0 _ _ _ _) dX5_add_31 (fun H locs hN => ?_)
    refine lv_iconst (v := 1) hx hb dX5_add_34 (by decide) ?_
    obtain ⟨z3, hF⟩ := lm_gBe hF
    cases hF
    exact lm_zret B hN z3 dX5_add_35
  · have hF := lm_itn c1 hF
    refine lv_iconst (v := 0) hx hb dX5_add_12 (by decide) ?_
    obtain ⟨z4, hF⟩ := lm_gBe hF
    cases hF
    exact lm_zret B hN z4 dX5_add_13
def jX5_fitsBehindThings_12 (x0_12 : Int32) (x1_12 : Int32) : Option (Int32) := if x1_12 = (59 : Int32) then (if x0_12 < (2 : Int32) then (lm_gB (0 : Int32) (some (0 : Int32))) else (lm_gB (1 : Int32) (some (1 : Int32)))) else (lm_gB (0 : Int32) (some (0 : Int32)))
def fX5_fitsBehindThings (x0 : Int32) (x1 : Int32) : Option (Int32) := if x1 = (44 : Int32) then (if x0 < (7 : Int32) then (lm_gB (1 : Int32) (some (1 : Int32))) else (jX5_fitsBehindThings_12 x0 x1)) else (jX5_fitsBehindThings_12 x0 x1)
set_option maxHeartbeats 4000000 in
set_option maxRecDepth 100000 in
theorem hX5_fitsBehindThings (l : Launch) (G : lm_G) {x0 : Int32} {x1 : Int32} {R : Int32} (hF : fX5_fitsBehindThings x0 x1 = some R) : lm_C l G yX5_fitsBehindThings wsX5_fitsBehindThings 1 [.int x0, .int x1] ([]) (some (.int R)) ([]) := by
  refine lm_C.of (cc := cX5_fitsBehindThings) (maxL := 2) (ret := (some .boolean)) (by decide) rfl (Nat.le_of_ble_eq_true rfl) ?_
  intro p e s m below meth c A ls B hN hl
  have hx := B.1.1
  have hb := B.1.2.1
  have hown := B.1.2.2.2.1
  have hts := B.1.2.2.2.2
  have hE := B.2.2.2.2.2
  have hl : lv_has ls 2 [(0, .int x0), (1, .int x1)] := hl
  have J12 : ∀ (x0_12 : Int32) (x1_12 : Int32) (H : Heap) (locs : List Loc) (ls : Array Slot), jX5_fitsBehindThings_12 x0_12 x1_12 = some R → lm_N G A s ([]) H locs → lv_has ls 2 [(0, .int x0_12), (1, .int x1_12)] → W p l e (lm_rk 1) s m ([.int x0, .int x1] : List Value).toArray below meth c H locs 0 0 (MQ below (lm_post G ([]) (some (.int R)) A) ([.int x0, .int x1] : List Value).toArray s 0 0 A) (F0 m 12 ls []) := by
    intro x0_12 x1_12 H locs ls hF hN hl
    refine lv_iload_n hx hb dX5_fitsBehindThings_12 rfl (lv_at hl 1 rfl) ?_
    refine lv_bipush (v := 59) hx hb dX5_fitsBehindThings_13 (by decide) ?_
    refine lv_icmp_ne (tgt := 27) hx hb dX5_fitsBehindThings_15 (by decide) (fun c1 => ?_) (fun c1 => ?_)
    · have hF := lm_itn c1 hF
      refine lv_iconst (v := 0) hx hb dX5_fitsBehindThings_27 (by decide) ?_
      obtain ⟨z2, hF⟩ := lm_gBe hF
      cases hF
      exact lm_zret B hN z2 dX5_fitsBehindThings_28
    · have hF := lm_itp c1 hF
      refine lv_iload_n hx hb dX5_fitsBehindThings_18 rfl (lv_at hl 0 rfl) ?_
      refine lv_iconst (v := 2) hx hb dX5_fitsBehindThings_19 (by decide) ?_
      refine lv_icmp_lt (tgt := 27) hx hb dX5_fitsBehindThings_20 (by decide) (fun c3 => ?_) (fun c3 => ?_)
      · have hF := lm_itp c3 hF
        refine lv_iconst (v := 0) hx hb dX5_fitsBehindThings_27 (by decide) ?_
        obtain ⟨z4, hF⟩ := lm_gBe hF
        cases hF
        exact lm_zret B hN z4 dX5_fitsBehindThings_28
      · have hF := lm_itn c3 hF
        refine lv_iconst (v := 1) hx hb dX5_fitsBehindThings_23 (by decide) ?_
        refine lv_goto (tgt := 28) hx hb dX5_fitsBehindThings_24 (by decide) ?_
        obtain ⟨z5, hF⟩ := lm_gBe hF
        cases hF
        exact lm_zret B hN z5 dX5_fitsBehindThings_28
  refine lv_iload_n hx hb dX5_fitsBehindThings_0 rfl (lv_at hl 1 rfl) ?_
  refine lv_bipush (v := 44) hx hb dX5_fitsBehindThings_1 (by decide) ?_
  refine lv_icmp_ne (tgt := 12) hx hb dX5_fitsBehindThings_3 (by decide) (fun c6 => ?_) (fun c6 => ?_)
  · have hF := lm_itn c6 hF
    exact J12 _ _ _ _ _ hF hN (lv_sub hl [0, 1] rfl)
  · have hF := lm_itp c6 hF
    refine lv_iload_n hx hb dX5_fitsBehindThings_6 rfl (lv_at hl 0 rfl) ?_
    refine lv_bipush (v := 7) hx hb dX5_fitsBehindThings_7 (by decide) ?_
    refine lv_icmp_lt (tgt := 23) hx hb dX5_fitsBehindThings_9 (by decide) (fun c7 => ?_) (fun c7 => ?_)
    · have hF := lm_itp c7 hF
      refine lv_iconst (v := 1) hx hb dX5_fitsBehindThings_23 (by decide) ?_
      refine lv_goto (tgt := 28) hx hb dX5_fitsBehindThings_24 (by decide) ?_
      obtain ⟨z8, hF⟩ := lm_gBe hF
      cases hF
      exact lm_zret B hN z8 dX5_fitsBehindThings_28
    · have hF := lm_itn c7 hF
      exact J12 _ _ _ _ _ hF hN (lv_sub hl [0, 1] rfl)
def fX5_isDigit (x0 : Int32) : Option (Int32) := if x0 < (48 : Int32) then (lm_gB (0 : Int32) (some (0 : Int32))) else (if (57 : Int32) < x0 then (lm_gB (0 : Int32) (some (0 : Int32))) else (lm_gB (1 : Int32) (some (1 : Int32))))
set_option maxHeartbeats 4000000 in
set_option maxRecDepth 100000 in
theorem hX5_isDigit (l : Launch) (G : lm_G) {x0 : Int32} {R : Int32} (hF : fX5_isDigit x0 = some R) : lm_C l G yX5_isDigit wsX5_isDigit 1 [.int x0] ([]) (some (.int R)) ([]) := by
  refine lm_C.of (cc := cX5_isDigit) (maxL := 1) (ret := (some .boolean)) (by decide) rfl (Nat.le_of_ble_eq_true rfl) ?_
  intro p e s m below meth c A ls B hN hl
  have hx := B.1.1
  have hb := B.1.2.1
  have hown := B.1.2.2.2.1
  have hts := B.1.2.2.2.2
  have hE := B.2.2.2.2.2
  have hl : lv_has ls 1 [(0, .int x0)] := hl
  refine lv_iload_n hx hb dX5_isDigit_0 rfl (lv_at hl 0 rfl) ?_
  refine lv_bipush (v := 48) hx hb dX5_isDigit_1 (by decide) ?_
  refine lv_icmp_lt (tgt := 16) hx hb dX5_isDigit_3 (by decide) (fun c1 => ?_) (fun c1 => ?_)
  · have hF := lm_itp c1 hF
    refine lv_iconst (v := 0) hx hb dX5_isDigit_16 (by decide) ?_
    obtain ⟨z2, hF⟩ := lm_gBe hF
    cases hF
    exact lm_zret B hN z2 dX5_isDigit_17
  · have hF := lm_itn c1 hF
    refine lv_iload_n hx hb dX5_isDigit_6 rfl (lv_at hl 0 rfl) ?_
    refine lv_bipush (v := 57) hx hb dX5_isDigit_7 (by decide) ?_
    refine lv_icmp_gt (tgt := 16) hx hb dX5_isDigit_9 (by decide) (fun c3 => ?_) (fun c3 => ?_)
    · have hF := lm_itp c3 hF
      refine lv_iconst (v := 0) hx hb dX5_isDigit_16 (by decide) ?_
      obtain ⟨z4, hF⟩ := lm_gBe hF
      cases hF
      exact lm_zret B hN z4 dX5_isDigit_17
    · have hF := lm_itn c3 hF
      refine lv_iconst (v := 1) hx hb dX5_isDigit_12 (by decide) ?_
      refine lv_goto (tgt := 17) hx hb dX5_isDigit_13 (by decide) ?_
      obtain ⟨z5, hF⟩ := lm_gBe hF
      cases hF
      exact lm_zret B hN z5 dX5_isDigit_17
def fX5_fitsDebt (s0 : lm_St) (x1 : Int32) (x2 : Int32) : Option (Int32 × lm_St) := if (x2 + (2 : Int32)) < x1 then (lm_gB (0 : Int32) (some ((0 : Int32), s0))) else (lm_gI x1 32 ((fX5_isDigit ((s0.2.1 0) x1.toNatClampNeg)).bind (fun r4 => if r4 = 0 then (lm_gB (0 : Int32) (some ((0 : Int32), s0))) else (lm_gB (1 : Int32) (some ((1 : Int32), s0))))))
set_option maxHeartbeats 4000000 in
set_option maxRecDepth 100000 in
theorem hX5_fitsDebt (l : Launch) (G : lm_G) (q0 : Nat → Nat) {s0 : lm_St} {x1 : Int32} {x2 : Int32} {R : Int32 × lm_St} (hF : fX5_fitsDebt s0 x1 x2 = some R) : lm_C l G yX5_fitsDebt wsX5_fitsDebt 2 [.ref (q0 0), .int x1, .int x2] (wX5 G q0 s0) (some (.int R.1)) (wX5 G q0 R.2) := by
  refine lm_C.of (cc := cX5_fitsDebt) (maxL := 3) (ret := (some .boolean)) (by decide) rfl (Nat.le_of_ble_eq_true rfl) ?_
  intro p e s m below meth c A ls B hN hl
  have hx := B.1.1
  have hb := B.1.2.1
  have hown := B.1.2.2.2.1
  have hts := B.1.2.2.2.2
  have hE := B.2.2.2.2.2
  have hiX5 : ∀ w ∈ wsX50, w ∈ wsX5_fitsDebt := by decide +kernel
  have hl : lv_has ls 3 [(0, .ref (q0 0)), (1, .int x1), (2, .int x2)] := hl
  refine lv_iload_n hx hb dX5_fitsDebt_0 rfl (lv_at hl 1 rfl) ?_
  refine lv_iload_n hx hb dX5_fitsDebt_1 rfl (lv_at hl 2 rfl) ?_
  refine lv_iconst (v := 2) hx hb dX5_fitsDebt_2 (by decide) ?_
  refine lv_iadd hx hb dX5_fitsDebt_3 ?_
  refine lv_icmp_gt (tgt := 23) hx hb dX5_fitsDebt_4 (by decide) (fun c1 => ?_) (fun c1 => ?_)
  · have hF := lm_itp c1 hF
    refine lv_iconst (v := 0) hx hb dX5_fitsDebt_23 (by decide) ?_
    obtain ⟨z2, hF⟩ := lm_gBe hF
    cases hF
    exact lm_zret B hN z2 dX5_fitsDebt_24
  · have hF := lm_itn c1 hF
    refine lv_aload_n hx hb dX5_fitsDebt_7 rfl (lv_at hl 0 rfl) ?_
    refine lm_get B hN (ci := 5) hiX5 0 rfl rfl 0 (by decide) (by decide +kernel) (v := .ref (q0 1)) rfl dX5_fitsDebt_8 ?_
    refine lv_iload_n hx hb dX5_fitsDebt_11 rfl (lv_at hl 1 rfl) ?_
    obtain ⟨z3, hF⟩ := lm_gIe hF
    refine lm_ald B hN 1 (f := (s0.2.1 0)) rfl z3 dX5_fitsDebt_12 ?_
    obtain ⟨r4, hc4, hF⟩ := lm_bd hF
    refine lm_run0 B hN (lm_hrT B hN hl.1 (lm_cut0 B hN) (n := 1) (As := [.int ((s0.2.1 0) x1.toNatClampNeg)]) (rest := []) (hX5_isDigit l G hc4) gX5_fitsDebt_X5_isDigit rfl (by decide +kernel) rfl (by decide) (by decide) rfl (Nat.le_of_ble_eq_true rfl) dX5_fitsDebt_13) (fun H locs hN => ?_)
    refine lv_if_eq (tgt := 23) hx hb dX5_fitsDebt_16 (by decide) (fun c5 => ?_) (fun c5 => ?_)
    · have hF := lm_itp c5 hF
      refine lv_iconst (v := 0) hx hb dX5_fitsDebt_23 (by decide) ?_
      obtain ⟨z6, hF⟩ := lm_gBe hF
      cases hF
      exact lm_zret B hN z6 dX5_fitsDebt_24
    · have hF := lm_itn c5 hF
      refine lv_iconst (v := 1) hx hb dX5_fitsDebt_19 (by decide) ?_
      refine lv_goto (tgt := 24) hx hb dX5_fitsDebt_20 (by decide) ?_
      obtain ⟨z7, hF⟩ := lm_gBe hF
      cases hF
      exact lm_zret B hN z7 dX5_fitsDebt_24
def fX5_fitsThings (s0 : lm_St) (x1 : Int32) : Option (Int32 × lm_St) := lm_gI x1 32 (if (x1 - x1 / (4 : Int32) * (4 : Int32)) = 0 then ((fJ0_indexOf_0f7a4 ((((s0.2.1 0) x1.toNatClampNeg).toUInt32 % 65536).toInt32)).bind (fun r3 => if r3 < 0 then (lm_gB (0 : Int32) (some ((0 : Int32), s0))) else (lm_gB (1 : Int32) (some ((1 : Int32), s0))))) else (if (x1 - x1 / (4 : Int32) * (4 : Int32)) = 1 then (if ((s0.2.1 0) x1.toNatClampNeg) = (48 : Int32) then (lm_gB (0 : Int32) (some ((0 : Int32), s0))) else ((fX5_isDigit ((s0.2.1 0) x1.toNatClampNeg)).bind (fun r9 => if r9 = 0 then (lm_gB (0 : Int32) (some ((0 : Int32), s0))) else (lm_gB (1 : Int32) (some ((1 : Int32), s0)))))) else (if (x1 - x1 / (4 : Int32) * (4 : Int32)) = 2 then ((fX5_isDigit ((s0.2.1 0) x1.toNatClampNeg)).bind (fun r13 => lm_gB r13 (some (r13, s0)))) else ((fX5_fitsBehindThings ((x1 / (4 : Int32)) + (1 : Int32)) ((s0.2.1 0) x1.toNatClampNeg)).bind (fun r15 => lm_gB r15 (some (r15, s0)))))))
set_option maxHeartbeats 4000000 in
set_option maxRecDepth 100000 in
theorem hX5_fitsThings (l : Launch) (G : lm_G) (q0 : Nat → Nat) {s0 : lm_St} {x1 : Int32} {R : Int32 × lm_St} (hF : fX5_fitsThings s0 x1 = some R) : lm_C l G yX5_fitsThings wsX5_fitsThings 8 [.ref (q0 0), .int x1] (wX5 G q0 s0) (some (.int R.1)) (wX5 G q0 R.2) := by
  refine lm_C.of (cc := cX5_fitsThings) (maxL := 3) (ret := (some .boolean)) (by decide) rfl (Nat.le_of_ble_eq_true rfl) ?_
  intro p e s m below meth c A ls B hN hl
  have hx := B.1.1
  have hb := B.1.2.1
  have hown := B.1.2.2.2.1
  have hts := B.1.2.2.2.2
  have hE := B.2.2.2.2.2
  have hiX5 : ∀ w ∈ wsX50, w ∈ wsX5_fitsThings := by decide +kernel
  have hl : lv_has ls 3 [(0, .ref (q0 0)), (1, .int x1)] := hl
  refine lv_aload_n hx hb dX5_fitsThings_0 rfl (lv_at hl 0 rfl) ?_
  refine lm_get B hN (ci := 5) hiX5 0 rfl rfl 0 (by decide) (by decide +kernel) (v := .ref (q0 1)) rfl dX5_fitsThings_1 ?_
  refine lv_iload_n hx hb dX5_fitsThings_4 rfl (lv_at hl 1 rfl) ?_
  obtain ⟨z1, hF⟩ := lm_gIe hF
  refine lm_ald B hN 1 (f := (s0.2.1 0)) rfl z1 dX5_fitsThings_5 ?_
  refine lv_istore_n (lv' := [(2, .int ((s0.2.1 0) x1.toNatClampNeg)), (0, .ref (q0 0)), (1, .int x1)]) hx hb dX5_fitsThings_6 rfl hl (by decide) rfl (fun ls hl => ?_)
  refine lv_iload_n hx hb dX5_fitsThings_7 rfl (lv_at hl 2 rfl) ?_
  refine lv_iconst (v := 4) hx hb dX5_fitsThings_8 (by decide) ?_
  refine lv_irem hx hb dX5_fitsThings_9 (by decide) ?_
  by_cases c2_0 : (x1 - x1 / (4 : Int32) * (4 : Int32)) = 0
  · have hF := lm_itp c2_0 hF
    refine lv_tableIn (tgt := 36) hx hb dX5_fitsThings_10 (by rw [c2_0]; decide) (by rw [c2_0]; decide) (by rw [c2_0]; rfl) (by decide) ?_
    refine va_ldcS hx hb hown hE.2.1 dX5_fitsThings_36 ?_
    refine lv_iload_n hx hb dX5_fitsThings_38 rfl (lv_at hl 0 rfl) ?_
    refine lv_i2c hx hb dX5_fitsThings_39 rfl ?_
    obtain ⟨r3, hc3, hF⟩ := lm_bd hF
    refine lm_run0 B hN (lm_hrU B hN hl.1 (lm_cut0 B hN) (n := 1) (As := [.int ((((s0.2.1 0) x1.toNatClampNeg).toUInt32 % 65536).toInt32)]) (rest := []) (hJ0_indexOf_0f7a4 l G hc3) gX5_fitsThings_J0_indexOf_0f7a4 rfl (by decide +kernel) rfl (by decide) (by decide) rfl (Nat.le_of_ble_eq_true rfl) dX5_fitsThings_40) (fun H locs hN => ?_)
    refine lv_if_lt (tgt := 50) hx hb dX5_fitsThings_43 (by decide) (fun c4 => ?_) (fun c4 => ?_)
    · have hF := lm_itp c4 hF
      refine lv_iconst (v := 0) hx hb dX5_fitsThings_50 (by decide) ?_
      obtain ⟨z5, hF⟩ := lm_gBe hF
      cases hF
      exact lm_zret B hN z5 dX5_fitsThings_51
    · have hF := lm_itn c4 hF
      refine lv_iconst (v := 1) hx hb dX5_fitsThings_46 (by decide) ?_
      refine lv_goto (tgt := 51) hx hb dX5_fitsThings_47 (by decide) ?_
      obtain ⟨z6, hF⟩ := lm_gBe hF
      cases hF
      exact lm_zret B hN z6 dX5_fitsThings_51
  have hF := lm_itn c2_0 hF
  by_cases c2_1 : (x1 - x1 / (4 : Int32) * (4 : Int32)) = 1
  · have hF := lm_itp c2_1 hF
    refine lv_tableIn (tgt := 52) hx hb dX5_fitsThings_10 (by rw [c2_1]; decide) (by rw [c2_1]; decide) (by rw [c2_1]; rfl) (by decide) ?_
    refine lv_iload_n hx hb dX5_fitsThings_52 rfl (lv_at hl 0 rfl) ?_
    refine lv_bipush (v := 48) hx hb dX5_fitsThings_53 (by decide) ?_
    refine lv_icmp_eq (tgt := 69) hx hb dX5_fitsThings_55 (by decide) (fun c7 => ?_) (fun c7 => ?_)
    · have hF := lm_itp c7 hF
      refine lv_iconst (v := 0) hx hb dX5_fitsThings_69 (by decide) ?_
      obtain ⟨z8, hF⟩ := lm_gBe hF
      cases hF
      exact lm_zret B hN z8 dX5_fitsThings_70
    · have hF := lm_itn c7 hF
      refine lv_iload_n hx hb dX5_fitsThings_58 rfl (lv_at hl 0 rfl) ?_
      obtain ⟨r9, hc9, hF⟩ := lm_bd hF
      refine lm_run0 B hN (lm_hrT B hN hl.1 (lm_cut0 B hN) (n := 1) (As := [.int ((s0.2.1 0) x1.toNatClampNeg)]) (rest := []) (hX5_isDigit l G hc9) gX5_fitsThings_X5_isDigit rfl (by decide +kernel) rfl (by decide) (by decide) rfl (Nat.le_of_ble_eq_true rfl) dX5_fitsThings_59) (fun H locs hN => ?_)
      refine lv_if_eq (tgt := 69) hx hb dX5_fitsThings_62 (by decide) (fun c10 => ?_) (fun c10 => ?_)
      · have hF := lm_itp c10 hF
        refine lv_iconst (v := 0) hx hb dX5_fitsThings_69 (by decide) ?_
        obtain ⟨z11, hF⟩ := lm_gBe hF
        cases hF
        exact lm_zret B hN z11 dX5_fitsThings_70
      · have hF := lm_itn c10 hF
        refine lv_iconst (v := 1) hx hb dX5_fitsThings_65 (by decide) ?_
        refine lv_goto (tgt := 70) hx hb dX5_fitsThings_66 (by decide) ?_
        obtain ⟨z12, hF⟩ := lm_gBe hF
        cases hF
        exact lm_zret B hN z12 dX5_fitsThings_70
  have hF := lm_itn c2_1 hF
  by_cases c2_2 : (x1 - x1 / (4 : Int32) * (4 : Int32)) = 2
  · have hF := lm_itp c2_2 hF
    refine lv_tableIn (tgt := 71) hx hb dX5_fitsThings_10 (by rw [c2_2]; decide) (by rw [c2_2]; decide) (by rw [c2_2]; rfl) (by decide) ?_
    refine lv_iload_n hx hb dX5_fitsThings_71 rfl (lv_at hl 0 rfl) ?_
    obtain ⟨r13, hc13, hF⟩ := lm_bd hF
    refine lm_run0 B hN (lm_hrT B hN hl.1 (lm_cut0 B hN) (n := 1) (As := [.int ((s0.2.1 0) x1.toNatClampNeg)]) (rest := []) (hX5_isDigit l G hc13) gX5_fitsThings_X5_isDigit rfl (by decide +kernel) rfl (by decide) (by decide) rfl (Nat.le_of_ble_eq_true rfl) dX5_fitsThings_72) (fun H locs hN => ?_)
    obtain ⟨z14, hF⟩ := lm_gBe hF
    cases hF
    exact lm_zret B hN z14 dX5_fitsThings_75
  have hF := lm_itn c2_2 hF
  have ic2_0 := lm_ti (n := 0) (by decide) c2_0
  have ic2_1 := lm_ti (n := 1) (by decide) c2_1
  have ic2_2 := lm_ti (n := 2) (by decide) c2_2
  refine lv_tableOut (tgt := 76) hx hb dX5_fitsThings_10 (by omega) (by decide) ?_
  refine lv_iload_n hx hb dX5_fitsThings_76 rfl (lv_at hl 2 rfl) ?_
  refine lv_iconst (v := 4) hx hb dX5_fitsThings_77 (by decide) ?_
  refine lv_idiv hx hb dX5_fitsThings_78 (by decide) ?_
  refine lv_iconst (v := 1) hx hb dX5_fitsThings_79 (by decide) ?_
  refine lv_iadd hx hb dX5_fitsThings_80 ?_
  refine lv_iload_n hx hb dX5_fitsThings_81 rfl (lv_at hl 0 rfl) ?_
  obtain ⟨r15, hc15, hF⟩ := lm_bd hF
  refine lm_run0 B hN (lm_hrT B hN hl.1 (lm_cut0 B hN) (n := 2) (As := [.int ((x1 / (4 : Int32)) + (1 : Int32)), .int ((s0.2.1 0) x1.toNatClampNeg)]) (rest := []) (hX5_fitsBehindThings l G hc15) gX5_fitsThings_X5_fitsBehindThings rfl (by decide +kernel) rfl (by decide) (by decide) rfl (Nat.le_of_ble_eq_true rfl) dX5_fitsThings_82) (fun H locs hN => ?_)
  obtain ⟨z16, hF⟩ := lm_gBe hF
  cases hF
  exact lm_zret B hN z16 dX5_fitsThings_85
def bX5_readInto_19 (k19 : Int32 × lm_St × lm_St → Option (lm_St × lm_St)) (x2_19 : Int32) (s0_19 : lm_St) (s1_19 : lm_St) : Option (lm_St × lm_St) := if (s1_19.1 0) ≤ x2_19 then (lm_gI ((s0_19.1 0) - (2 : Int32)) 32 (lm_gI ((s0_19.1 0) - (1 : Int32)) 32 (some (s0_19, (lm_sF (lm_sF (lm_sF (lm_sF s1_19 2 (((10 : Int32) * (((s0_19.2.1 0) ((s0_19.1 0) - (2 : Int32)).toNatClampNeg) - (48 : Int32))) + (((s0_19.2.1 0) ((s0_19.1 0) - (1 : Int32)).toNatClampNeg) - (48 : Int32)))) 1 (0 : Int32)) 3 (0 : Int32)) 4 (0 : Int32)))))) else (lm_gI ((4 : Int32) * x2_19) 32 ((fJ0_indexOf_0f7a4 ((((s0_19.2.1 0) ((4 : Int32) * x2_19).toNatClampNeg).toUInt32 % 65536).toInt32)).bind (fun r5 => lm_gI x2_19 7 (lm_gI (((4 : Int32) * x2_19) + (1 : Int32)) 32 (lm_gI x2_19 7 (lm_gI (((4 : Int32) * x2_19) + (2 : Int32)) 32 (lm_gI x2_19 7 (lm_gI x2_19 7 (k19 ((x2_19 + 1), s0_19, (lm_sA (lm_sA (lm_sA (lm_sA s1_19 0 (upd (s1_19.2.1 0) x2_19.toNatClampNeg r5)) 1 (upd (s1_19.2.1 1) x2_19.toNatClampNeg (((s0_19.2.1 0) (((4 : Int32) * x2_19) + (1 : Int32)).toNatClampNeg) - (48 : Int32)))) 2 (upd (s1_19.2.1 2) x2_19.toNatClampNeg (((s0_19.2.1 0) (((4 : Int32) * x2_19) + (2 : Int32)).toNatClampNeg) - (48 : Int32)))) 3 (upd (s1_19.2.1 3) x2_19.toNatClampNeg (0 : Int32)))))))))))))
def fX5_readInto (s0 : lm_St) (s1 : lm_St) : Option (lm_St × lm_St) := lm_lp (fun k a => bX5_readInto_19 k a.1 a.2.1 a.2.2) 5000 ((0 : Int32), s0, (lm_sF s1 0 (if (((s0.1 0) - (2 : Int32)) / (4 : Int32)) < (7 : Int32) then (((s0.1 0) - (2 : Int32)) / (4 : Int32)) else (7 : Int32))))
set_option maxHeartbeats 4000000 in
set_option maxRecDepth 100000 in
theorem hX5_readInto (l : Launch) (G : lm_G) (q0 : Nat → Nat) (q1 : Nat → Nat) {s0 : lm_St} {s1 : lm_St} {R : lm_St × lm_St} (hF : fX5_readInto s0 s1 = some R) : lm_C l G yX5_readInto wsX5_readInto 8 [.ref (q0 0), .ref (q1 0)] (wX5_X3 G q0 q1 s0 s1) none (wX5_X3 G q0 q1 R.1 R.2) := by
  refine lm_C.of (cc := cX5_readInto) (maxL := 3) (ret := none) (by decide) rfl (Nat.le_of_ble_eq_true rfl) ?_
  intro p e s m below meth c A ls B hN hl
  have hx := B.1.1
  have hb := B.1.2.1
  have hown := B.1.2.2.2.1
  have hts := B.1.2.2.2.2
  have hE := B.2.2.2.2.2
  have hiX3 : ∀ w ∈ wsX30, w ∈ wsX5_readInto := by decide +kernel
  have hiX5 : ∀ w ∈ wsX50, w ∈ wsX5_readInto := by decide +kernel
  have hl : lv_has ls 3 [(0, .ref (q0 0)), (1, .ref (q1 0))] := hl
  have L19 : ∀ (n : Nat) (x2_19 : Int32) (s0_19 : lm_St) (s1_19 : lm_St) (H : Heap) (locs : List Loc) (ls : Array Slot), lm_lp (fun k a => bX5_readInto_19 k a.1 a.2.1 a.2.2) n (x2_19, s0_19, s1_19) = some R → lm_N G A s (wX5_X3 G q0 q1 s0_19 s1_19) H locs → lv_has ls 3 [(0, .ref (q0 0)), (1, .ref (q1 0)), (2, .int x2_19)] → W p l e (lm_rk 8) s m ([.ref (q0 0), .ref (q1 0)] : List Value).toArray below meth c H locs 0 0 (MQ below (lm_post G (wX5_X3 G q0 q1 R.1 R.2) none A) ([.ref (q0 0), .ref (q1 0)] : List Value).toArray s 0 0 A) (F0 m 19 ls []) := by
    intro n
    induction n with
    | zero => intro x2_19 s0_19 s1_19 H locs ls hF; exact (lm_lpz hF).elim
    | succ n ih19 =>
      intro x2_19 s0_19 s1_19 H locs ls hF hN hl
      have hF : bX5_readInto_19 (lm_lp (fun k a => bX5_readInto_19 k a.1 a.2.1 a.2.2) n) x2_19 s0_19 s1_19 = some R := lm_lps hF
      generalize lm_lp (fun k a => bX5_readInto_19 k a.1 a.2.1 a.2.2) n = k19 at hF ih19
      refine lv_iload_n hx hb dX5_readInto_19 rfl (lv_at hl 2 rfl) ?_
      refine lv_aload_n hx hb dX5_readInto_20 rfl (lv_at hl 1 rfl) ?_
      refine lm_get B hN (ci := 3) hiX3 2 rfl rfl 4 (by decide) (by decide +kernel) (v := .int (s1_19.1 0)) rfl dX5_readInto_21 ?_
      refine lv_icmp_ge (tgt := 98) hx hb dX5_readInto_24 (by decide) (fun c1 => ?_) (fun c1 => ?_)
      · have hF := lm_itp c1 hF
        refine lv_aload_n hx hb dX5_readInto_98 rfl (lv_at hl 1 rfl) ?_
        refine lv_bipush (v := 10) hx hb dX5_readInto_99 (by decide) ?_
        refine lv_aload_n hx hb dX5_readInto_101 rfl (lv_at hl 0 rfl) ?_
        refine lm_get B hN (ci := 5) hiX5 0 rfl rfl 0 (by decide) (by decide +kernel) (v := .ref (q0 1)) rfl dX5_readInto_102 ?_
        refine lv_aload_n hx hb dX5_readInto_105 rfl (lv_at hl 0 rfl) ?_
        refine lm_get B hN (ci := 5) hiX5 0 rfl rfl 1 (by decide) (by decide +kernel) (v := .int (s0_19.1 0)) rfl dX5_readInto_106 ?_
        refine lv_iconst (v := 2) hx hb dX5_readInto_109 (by decide) ?_
        refine lv_isub hx hb dX5_readInto_110 ?_
        obtain ⟨z2, hF⟩ := lm_gIe hF
        refine lm_ald B hN 1 (f := (s0_19.2.1 0)) rfl z2 dX5_readInto_111 ?_
        refine lv_bipush (v := 48) hx hb dX5_readInto_112 (by decide) ?_
        refine lv_isub hx hb dX5_readInto_114 ?_
        refine lv_imul hx hb dX5_readInto_115 ?_
        refine lv_aload_n hx hb dX5_readInto_116 rfl (lv_at hl 0 rfl) ?_
        refine lm_get B hN (ci := 5) hiX5 0 rfl rfl 0 (by decide) (by decide +kernel) (v := .ref (q0 1)) rfl dX5_readInto_117 ?_
        refine lv_aload_n hx hb dX5_readInto_120 rfl (lv_at hl 0 rfl) ?_
        refine lm_get B hN (ci := 5) hiX5 0 rfl rfl 1 (by decide) (by decide +kernel) (v := .int (s0_19.1 0)) rfl dX5_readInto_121 ?_
        refine lv_iconst (v := 1) hx hb dX5_readInto_124 (by decide) ?_
        refine lv_isub hx hb dX5_readInto_125 ?_
        obtain ⟨z3, hF⟩ := lm_gIe hF
        refine lm_ald B hN 1 (f := (s0_19.2.1 0)) rfl z3 dX5_readInto_126 ?_
        refine lv_bipush (v := 48) hx hb dX5_readInto_127 (by decide) ?_
        refine lv_isub hx hb dX5_readInto_129 ?_
        refine lv_iadd hx hb dX5_readInto_130 ?_
        refine lm_put B hN (ci := 3) hiX3 tyX3 tyX3_ok nmX3 2 rfl rfl 6 (by decide) (by decide +kernel) (by decide) (v := .int (((10 : Int32) * (((s0_19.2.1 0) ((s0_19.1 0) - (2 : Int32)).toNatClampNeg) - (48 : Int32))) + (((s0_19.2.1 0) ((s0_19.1 0) - (1 : Int32)).toNatClampNeg) - (48 : Int32)))) rfl rfl (Nat.le_of_ble_eq_true rfl) (wX5_X3 G q0 q1 s0_19 (lm_sF s1_19 2 (((10 : Int32) * (((s0_19.2.1 0) ((s0_19.1 0) - (2 : Int32)).toNatClampNeg) - (48 : Int32))) + (((s0_19.2.1 0) ((s0_19.1 0) - (1 : Int32)).toNatClampNeg) - (48 : Int32))))) (wX5_X3_r1f2 _ _ _ _ _ _) dX5_readInto_131 (fun H locs hN => ?_)
        refine lv_aload_n hx hb dX5_readInto_134 rfl (lv_at hl 1 rfl) ?_
        refine lv_iconst (v := 0) hx hb dX5_readInto_135 (by decide) ?_
        refine lm_put B hN (ci := 3) hiX3 tyX3 tyX3_ok nmX3 2 rfl rfl 5 (by decide) (by decide +kernel) (by decide) (v := .int (0 : Int32)) rfl rfl (Nat.le_of_ble_eq_true rfl) (wX5_X3 G q0 q1 s0_19 (lm_sF (lm_sF s1_19 2 (((10 : Int32) * (((s0_19.2.1 0) ((s0_19.1 0) - (2 : Int32)).toNatClampNeg) - (48 : Int32))) + (((s0_19.2.1 0) ((s0_19.1 0) - (1 : Int32)).toNatClampNeg) - (48 : Int32)))) 1 (0 : Int32))) (wX5_X3_r1f1 _ _ _ _ _ _) dX5_readInto_136 (fun H locs hN => ?_)
        refine lv_aload_n hx hb dX5_readInto_139 rfl (lv_at hl 1 rfl) ?_
        refine lv_iconst (v := 0) hx hb dX5_readInto_140 (by decide) ?_
        refine lm_put B hN (ci := 3) hiX3 tyX3 tyX3_ok nmX3 2 rfl rfl 7 (by decide) (by decide +kernel) (by decide) (v := .int (0 : Int32)) rfl rfl (Nat.le_of_ble_eq_true rfl) (wX5_X3 G q0 q1 s0_19 (lm_sF (lm_sF (lm_sF s1_19 2 (((10 : Int32) * (((s0_19.2.1 0) ((s0_19.1 0) - (2 : Int32)).toNatClampNeg) - (48 : Int32))) + (((s0_19.2.1 0) ((s0_19.1 0) - (1 : Int32)).toNatClampNeg) - (48 : Int32)))) 1 (0 : Int32)) 3 (0 : Int32))) (wX5_X3_r1f3 _ _ _ _ _ _) dX5_readInto_141 (fun H locs hN => ?_)
        refine lv_aload_n hx hb dX5_readInto_144 rfl (lv_at hl 1 rfl) ?_
        refine lv_iconst (v := 0) hx hb dX5_readInto_145 (by decide) ?_
        refine lm_put B hN (ci := 3) hiX3 tyX3 tyX3_ok nmX3 2 rfl rfl 8 (by decide) (by decide +kernel) (by decide) (v := .int (0 : Int32)) rfl rfl (Nat.le_of_ble_eq_true rfl) (wX5_X3 G q0 q1 s0_19 (lm_sF (lm_sF (lm_sF (lm_sF s1_19 2 (((10 : Int32) * (((s0_19.2.1 0) ((s0_19.1 0) - (2 : Int32)).toNatClampNeg) - (48 : Int32))) + (((s0_19.2.1 0) ((s0_19.1 0) - (1 : Int32)).toNatClampNeg) - (48 : Int32)))) 1 (0 : Int32)) 3 (0 : Int32)) 4 (0 : Int32))) (wX5_X3_r1f4 _ _ _ _ _ _) dX5_readInto_146 (fun H locs hN => ?_)
        cases hF
        exact lm_vret B hN dX5_readInto_149
      · have hF := lm_itn c1 hF
        refine lv_aload_n hx hb dX5_readInto_27 rfl (lv_at hl 1 rfl) ?_
        refine lm_get B hN (ci := 3) hiX3 2 rfl rfl 0 (by decide) (by decide +kernel) (v := .ref (q1 1)) rfl dX5_readInto_28 ?_
        refine lv_iload_n hx hb dX5_readInto_31 rfl (lv_at hl 2 rfl) ?_
        refine va_ldcS hx hb hown hE.2.1 dX5_readInto_32 ?_
        refine lv_aload_n hx hb dX5_readInto_34 rfl (lv_at hl 0 rfl) ?_
        refine lm_get B hN (ci := 5) hiX5 0 rfl rfl 0 (by decide) (by decide +kernel) (v := .ref (q0 1)) rfl dX5_readInto_35 ?_
        refine lv_iconst (v := 4) hx hb dX5_readInto_38 (by decide) ?_
        refine lv_iload_n hx hb dX5_readInto_39 rfl (lv_at hl 2 rfl) ?_
        refine lv_imul hx hb dX5_readInto_40 ?_
        obtain ⟨z4, hF⟩ := lm_gIe hF
        refine lm_ald B hN 1 (f := (s0_19.2.1 0)) rfl z4 dX5_readInto_41 ?_
        refine lv_i2c hx hb dX5_readInto_42 rfl ?_
        obtain ⟨r5, hc5, hF⟩ := lm_bd hF
        refine lm_run0 B hN (lm_hrU B hN hl.1 (lm_cut0 B hN) (n := 1) (As := [.int ((((s0_19.2.1 0) ((4 : Int32) * x2_19).toNatClampNeg).toUInt32 % 65536).toInt32)]) (rest := [.int x2_19, .ref (q1 1)]) (hJ0_indexOf_0f7a4 l G hc5) gX5_readInto_J0_indexOf_0f7a4 rfl (by decide +kernel) rfl (by decide) (by decide) rfl (Nat.le_of_ble_eq_true rfl) dX5_readInto_43) (fun H locs hN => ?_)
        obtain ⟨z6, hF⟩ := lm_gIe hF
        refine lm_ast B hN 3 (f := (s1_19.2.1 0)) rfl z6 (wX5_X3 G q0 q1 s0_19 (lm_sA s1_19 0 (upd (s1_19.2.1 0) x2_19.toNatClampNeg r5))) (wX5_X3_r1a0 _ _ _ _ _ _) dX5_readInto_46 (fun H locs hN => ?_)
        refine lv_aload_n hx hb dX5_readInto_47 rfl (lv_at hl 1 rfl) ?_
        refine lm_get B hN (ci := 3) hiX3 2 rfl rfl 1 (by decide) (by decide +kernel) (v := .ref (q1 2)) rfl dX5_readInto_48 ?_
        refine lv_iload_n hx hb dX5_readInto_51 rfl (lv_at hl 2 rfl) ?_
        refine lv_aload_n hx hb dX5_readInto_52 rfl (lv_at hl 0 rfl) ?_
        refine lm_get B hN (ci := 5) hiX5 0 rfl rfl 0 (by decide) (by decide +kernel) (v := .ref (q0 1)) rfl dX5_readInto_53 ?_
        refine lv_iconst (v := 4) hx hb dX5_readInto_56 (by decide) ?_
        refine lv_iload_n hx hb dX5_readInto_57 rfl (lv_at hl 2 rfl) ?_
        refine lv_imul hx hb dX5_readInto_58 ?_
        refine lv_iconst (v := 1) hx hb dX5_readInto_59 (by decide) ?_
        refine lv_iadd hx hb dX5_readInto_60 ?_
        obtain ⟨z7, hF⟩ := lm_gIe hF
        refine lm_ald B hN 1 (f := (s0_19.2.1 0)) rfl z7 dX5_readInto_61 ?_
        refine lv_bipush (v := 48) hx hb dX5_readInto_62 (by decide) ?_
        refine lv_isub hx hb dX5_readInto_64 ?_
        obtain ⟨z8, hF⟩ := lm_gIe hF
        refine lm_ast B hN 4 (f := (s1_19.2.1 1)) rfl z8 (wX5_X3 G q0 q1 s0_19 (lm_sA (lm_sA s1_19 0 (upd (s1_19.2.1 0) x2_19.toNatClampNeg r5)) 1 (upd (s1_19.2.1 1) x2_19.toNatClampNeg (((s0_19.2.1 0) (((4 : Int32) * x2_19) + (1 : Int32)).toNatClampNeg) - (48 : Int32))))) (wX5_X3_r1a1 _ _ _ _ _ _) dX5_readInto_65 (fun H locs hN => ?_)
        refine lv_aload_n hx hb dX5_readInto_66 rfl (lv_at hl 1 rfl) ?_
        refine lm_get B hN (ci := 3) hiX3 2 rfl rfl 2 (by decide) (by decide +kernel) (v := .ref (q1 3)) rfl dX5_readInto_67 ?_
        refine lv_iload_n hx hb dX5_readInto_70 rfl (lv_at hl 2 rfl) ?_
        refine lv_aload_n hx hb dX5_readInto_71 rfl (lv_at hl 0 rfl) ?_
        refine lm_get B hN (ci := 5) hiX5 0 rfl rfl 0 (by decide) (by decide +kernel) (v := .ref (q0 1)) rfl dX5_readInto_72 ?_
        refine lv_iconst (v := 4) hx hb dX5_readInto_75 (by decide) ?_
        refine lv_iload_n hx hb dX5_readInto_76 rfl (lv_at hl 2 rfl) ?_
        refine lv_imul hx hb dX5_readInto_77 ?_
        refine lv_iconst (v := 2) hx hb dX5_readInto_78 (by decide) ?_
        refine lv_iadd hx hb dX5_readInto_79 ?_
        obtain ⟨z9, hF⟩ := lm_gIe hF
        refine lm_ald B hN 1 (f := (s0_19.2.1 0)) rfl z9 dX5_readInto_80 ?_
        refine lv_bipush (v := 48) hx hb dX5_readInto_81 (by decide) ?_
        refine lv_isub hx hb dX5_readInto_83 ?_
        obtain ⟨z10, hF⟩ := lm_gIe hF
        refine lm_ast B hN 5 (f := (s1_19.2.1 2)) rfl z10 (wX5_X3 G q0 q1 s0_19 (lm_sA (lm_sA (lm_sA s1_19 0 (upd (s1_19.2.1 0) x2_19.toNatClampNeg r5)) 1 (upd (s1_19.2.1 1) x2_19.toNatClampNeg (((s0_19.2.1 0) (((4 : Int32) * x2_19) + (1 : Int32)).toNatClampNeg) - (48 : Int32)))) 2 (upd (s1_19.2.1 2) x2_19.toNatClampNeg (((s0_19.2.1 0) (((4 : Int32) * x2_19) + (2 : Int32)).toNatClampNeg) - (48 : Int32))))) (wX5_X3_r1a2 _ _ _ _ _ _) dX5_readInto_84 (fun H locs hN => ?_)
        refine lv_aload_n hx hb dX5_readInto_85 rfl (lv_at hl 1 rfl) ?_
        refine lm_get B hN (ci := 3) hiX3 2 rfl rfl 3 (by decide) (by decide +kernel) (v := .ref (q1 4)) rfl dX5_readInto_86 ?_
        refine lv_iload_n hx hb dX5_readInto_89 rfl (lv_at hl 2 rfl) ?_
        refine lv_iconst (v := 0) hx hb dX5_readInto_90 (by decide) ?_
        obtain ⟨z11, hF⟩ := lm_gIe hF
        refine lm_ast B hN 6 (f := (s1_19.2.1 3)) rfl z11 (wX5_X3 G q0 q1 s0_19 (lm_sA (lm_sA (lm_sA (lm_sA s1_19 0 (upd (s1_19.2.1 0) x2_19.toNatClampNeg r5)) 1 (upd (s1_19.2.1 1) x2_19.toNatClampNeg (((s0_19.2.1 0) (((4 : Int32) * x2_19) + (1 : Int32)).toNatClampNeg) - (48 : Int32)))) 2 (upd (s1_19.2.1 2) x2_19.toNatClampNeg (((s0_19.2.1 0) (((4 : Int32) * x2_19) + (2 : Int32)).toNatClampNeg) - (48 : Int32)))) 3 (upd (s1_19.2.1 3) x2_19.toNatClampNeg (0 : Int32)))) (wX5_X3_r1a3 _ _ _ _ _ _) dX5_readInto_91 (fun H locs hN => ?_)
        refine lv_iinc (v := (x2_19 + 1)) (lv' := [(2, .int (x2_19 + 1)), (0, .ref (q0 0)), (1, .ref (q1 0))]) hx hb dX5_readInto_92 hl (k := 2) rfl rfl (by decide) rfl (fun ls hl => ?_)
        refine lv_goto (tgt := 19) hx hb dX5_readInto_95 (by decide) ?_
        exact ih19 _ _ _ _ _ _ hF hN (lv_sub hl [1, 2, 0] rfl)
  refine lv_aload_n hx hb dX5_readInto_0 rfl (lv_at hl 1 rfl) ?_
  refine lv_bipush (v := 7) hx hb dX5_readInto_1 (by decide) ?_
  refine lv_aload_n hx hb dX5_readInto_3 rfl (lv_at hl 0 rfl) ?_
  refine lm_get B hN (ci := 5) hiX5 0 rfl rfl 1 (by decide) (by decide +kernel) (v := .int (s0.1 0)) rfl dX5_readInto_4 ?_
  refine lv_iconst (v := 2) hx hb dX5_readInto_7 (by decide) ?_
  refine lv_isub hx hb dX5_readInto_8 ?_
  refine lv_iconst (v := 4) hx hb dX5_readInto_9 (by decide) ?_
  refine lv_idiv hx hb dX5_readInto_10 (by decide) ?_
  refine lm_mmin B hl.1 (by decide +kernel) (by decide +kernel) (by decide +kernel) (by decide +kernel) (by decide) (Nat.le_of_ble_eq_true rfl) dX5_readInto_11 ?_
  refine lm_put B hN (ci := 3) hiX3 tyX3 tyX3_ok nmX3 2 rfl rfl 4 (by decide) (by decide +kernel) (by decide) (v := .int (if (((s0.1 0) - (2 : Int32)) / (4 : Int32)) < (7 : Int32) then (((s0.1 0) - (2 : Int32)) / (4 : Int32)) else (7 : Int32))) rfl rfl (Nat.le_of_ble_eq_true rfl) (wX5_X3 G q0 q1 s0 (lm_sF s1 0 (if (((s0.1 0) - (2 : Int32)) / (4 : Int32)) < (7 : Int32) then (((s0.1 0) - (2 : Int32)) / (4 : Int32)) else (7 : Int32)))) (wX5_X3_r1f0 _ _ _ _ _ _) dX5_readInto_14 (fun H locs hN => ?_)
  refine lv_iconst (v := 0) hx hb dX5_readInto_17 (by decide) ?_
  refine lv_istore_n (lv' := [(2, .int (0 : Int32)), (0, .ref (q0 0)), (1, .ref (q1 0))]) hx hb dX5_readInto_18 rfl hl (by decide) rfl (fun ls hl => ?_)
  exact L19 5000 _ _ _ _ _ _ hF hN (lv_sub hl [1, 2, 0] rfl)
def jX5_firstFault_51 (k4 : Int32 × Int32 × lm_St → Option (Int32 × lm_St)) (x1_51 : Int32) (x2_51 : Int32) (s0_51 : lm_St) : Option (Int32 × lm_St) := k4 (x1_51, (x2_51 + 1), s0_51)
def jX5_firstFault_31 (k4 : Int32 × Int32 × lm_St → Option (Int32 × lm_St)) (x1_31 : Int32) (x2_31 : Int32) (y0_31 : Int32) (s0_31 : lm_St) : Option (Int32 × lm_St) := if y0_31 = 0 then (some (x2_31, s0_31)) else (lm_gI x2_31 32 (if ((s0_31.2.1 0) x2_31.toNatClampNeg) = (59 : Int32) then (jX5_firstFault_51 k4 x2_31 x2_31 s0_31) else (jX5_firstFault_51 k4 x1_31 x2_31 s0_31)))
def bX5_firstFault_4 (k4 : Int32 × Int32 × lm_St → Option (Int32 × lm_St)) (x1_4 : Int32) (x2_4 : Int32) (s0_4 : lm_St) : Option (Int32 × lm_St) := if (s0_4.1 0) ≤ x2_4 then (some ((s0_4.1 0), s0_4)) else (if x1_4 = (-1 : Int32) then ((fX5_fitsThings s0_4 x2_4).bind (fun v7 => lm_un2 v7 (fun r7 t7_0 => jX5_firstFault_31 k4 x1_4 x2_4 r7 t7_0))) else ((fX5_fitsDebt s0_4 x2_4 x1_4).bind (fun v6 => lm_un2 v6 (fun r6 t6_0 => jX5_firstFault_31 k4 x1_4 x2_4 r6 t6_0))))
def fX5_firstFault (s0 : lm_St) : Option (Int32 × lm_St) := lm_lp (fun k a => bX5_firstFault_4 k a.1 a.2.1 a.2.2) 5000 ((-1 : Int32), (0 : Int32), s0)
set_option maxHeartbeats 4000000 in
set_option maxRecDepth 100000 in
theorem hX5_firstFault (l : Launch) (G : lm_G) (q0 : Nat → Nat) {s0 : lm_St} {R : Int32 × lm_St} (hF : fX5_firstFault s0 = some R) : lm_C l G yX5_firstFault wsX5_firstFault 9 [.ref (q0 0)] (wX5 G q0 s0) (some (.int R.1)) (wX5 G q0 R.2) := by
  refine lm_C.of (cc := cX5_firstFault) (maxL := 4) (ret := (some .int)) (by decide) rfl (Nat.le_of_ble_eq_true rfl) ?_
  intro p e s m below meth c A ls B hN hl
  have hx := B.1.1
  have hb := B.1.2.1
  have hown := B.1.2.2.2.1
  have hts := B.1.2.2.2.2
  have hE := B.2.2.2.2.2
  have hiX5 : ∀ w ∈ wsX50, w ∈ wsX5_firstFault := by decide +kernel
  have hl : lv_has ls 4 [(0, .ref (q0 0))] := hl
  have L4 : ∀ (n : Nat) (x1_4 : Int32) (x2_4 : Int32) (s0_4 : lm_St) (H : Heap) (locs : List Loc) (ls : Array Slot), lm_lp (fun k a => bX5_firstFault_4 k a.1 a.2.1 a.2.2) n (x1_4, x2_4, s0_4) = some R → lm_N G A s (wX5 G q0 s0_4) H locs → lv_has ls 4 [(0, .ref (q0 0)), (1, .int x1_4), (2, .int x2_4)] → W p l e (lm_rk 9) s m ([.ref (q0 0)] : List Value).toArray below meth c H locs 0 0 (MQ below (lm_post G (wX5 G q0 R.2) (some (.int R.1)) A) ([.ref (q0 0)] : List Value).toArray s 0 0 A) (F0 m 4 ls []) := by
    intro n
    induction n with
    | zero => intro x1_4 x2_4 s0_4 H locs ls hF; exact (lm_lpz hF).elim
    | succ n ih4 =>
      intro x1_4 x2_4 s0_4 H locs ls hF hN hl
      have hF : bX5_firstFault_4 (lm_lp (fun k a => bX5_firstFault_4 k a.1 a.2.1 a.2.2) n) x1_4 x2_4 s0_4 = some R := lm_lps hF
      generalize lm_lp (fun k a => bX5_firstFault_4 k a.1 a.2.1 a.2.2) n = k4 at hF ih4
      have J31 : ∀ (x1_31 : Int32) (x2_31 : Int32) (y0_31 : Int32) (s0_31 : lm_St) (H : Heap) (locs : List Loc) (ls : Array Slot), jX5_firstFault_31 k4 x1_31 x2_31 y0_31 s0_31 = some R → lm_N G A s (wX5 G q0 s0_31) H locs → lv_has ls 4 [(0, .ref (q0 0)), (1, .int x1_31), (2, .int x2_31)] → W p l e (lm_rk 9) s m ([.ref (q0 0)] : List Value).toArray below meth c H locs 0 0 (MQ below (lm_post G (wX5 G q0 R.2) (some (.int R.1)) A) ([.ref (q0 0)] : List Value).toArray s 0 0 A) (F0 m 31 ls [.int y0_31]) := by
        intro x1_31 x2_31 y0_31 s0_31 H locs ls hF hN hl
        have J51 : ∀ (x1_51 : Int32) (x2_51 : Int32) (s0_51 : lm_St) (H : Heap) (locs : List Loc) (ls : Array Slot), jX5_firstFault_51 k4 x1_51 x2_51 s0_51 = some R → lm_N G A s (wX5 G q0 s0_51) H locs → lv_has ls 4 [(0, .ref (q0 0)), (1, .int x1_51), (2, .int x2_51)] → W p l e (lm_rk 9) s m ([.ref (q0 0)] : List Value).toArray below meth c H locs 0 0 (MQ below (lm_post G (wX5 G q0 R.2) (some (.int R.1)) A) ([.ref (q0 0)] : List Value).toArray s 0 0 A) (F0 m 51 ls []) := by
          intro x1_51 x2_51 s0_51 H locs ls hF hN hl
          refine lv_iinc (v := (x2_51 + 1)) (lv' := [(2, .int (x2_51 + 1)), (0, .ref (q0 0)), (1, .int x1_51)]) hx hb dX5_firstFault_51 hl (k := 2) rfl rfl (by decide) rfl (fun ls hl => ?_)
          refine lv_goto (tgt := 4) hx hb dX5_firstFault_54 (by decide) ?_
          exact ih4 _ _ _ _ _ _ hF hN (lv_sub hl [1, 2, 0] rfl)
        refine lv_istore_n (lv' := [(3, .int y0_31), (0, .ref (q0 0)), (1, .int x1_31), (2, .int x2_31)]) hx hb dX5_firstFault_31 rfl hl (by decide) rfl (fun ls hl => ?_)
        refine lv_iload_n hx hb dX5_firstFault_32 rfl (lv_at hl 0 rfl) ?_
        refine lv_if_ne (tgt := 38) hx hb dX5_firstFault_33 (by decide) (fun c1 => ?_) (fun c1 => ?_)
        · have hF := lm_itn c1 hF
          refine lv_aload_n hx hb dX5_firstFault_38 rfl (lv_at hl 1 rfl) ?_
          refine lm_get B hN (ci := 5) hiX5 0 rfl rfl 0 (by decide) (by decide +kernel) (v := .ref (q0 1)) rfl dX5_firstFault_39 ?_
          refine lv_iload_n hx hb dX5_firstFault_42 rfl (lv_at hl 3 rfl) ?_
          obtain ⟨z2, hF⟩ := lm_gIe hF
          refine lm_ald B hN 1 (f := (s0_31.2.1 0)) rfl z2 dX5_firstFault_43 ?_
          refine lv_bipush (v := 59) hx hb dX5_firstFault_44 (by decide) ?_
          refine lv_icmp_ne (tgt := 51) hx hb dX5_firstFault_46 (by decide) (fun c3 => ?_) (fun c3 => ?_)
          · have hF := lm_itn c3 hF
            exact J51 _ _ _ _ _ _ hF hN (lv_sub hl [1, 2, 3] rfl)
          · have hF := lm_itp c3 hF
            refine lv_iload_n hx hb dX5_firstFault_49 rfl (lv_at hl 3 rfl) ?_
            refine lv_istore_n (lv' := [(1, .int x2_31), (3, .int y0_31), (0, .ref (q0 0)), (2, .int x2_31)]) hx hb dX5_firstFault_50 rfl hl (by decide) rfl (fun ls hl => ?_)
            exact J51 _ _ _ _ _ _ hF hN (lv_sub hl [2, 0, 3] rfl)
        · have hF := lm_itp c1 hF
          refine lv_iload_n hx hb dX5_firstFault_36 rfl (lv_at hl 3 rfl) ?_
          cases hF
          exact lm_iret B hN dX5_firstFault_37
      refine lv_iload_n hx hb dX5_firstFault_4 rfl (lv_at hl 2 rfl) ?_
      refine lv_aload_n hx hb dX5_firstFault_5 rfl (lv_at hl 0 rfl) ?_
      refine lm_get B hN (ci := 5) hiX5 0 rfl rfl 1 (by decide) (by decide +kernel) (v := .int (s0_4.1 0)) rfl dX5_firstFault_6 ?_
      refine lv_icmp_ge (tgt := 57) hx hb dX5_firstFault_9 (by decide) (fun c4 => ?_) (fun c4 => ?_)
      · have hF := lm_itp c4 hF
        refine lv_aload_n hx hb dX5_firstFault_57 rfl (lv_at hl 0 rfl) ?_
        refine lm_get B hN (ci := 5) hiX5 0 rfl rfl 1 (by decide) (by decide +kernel) (v := .int (s0_4.1 0)) rfl dX5_firstFault_58 ?_
        cases hF
        exact lm_iret B hN dX5_firstFault_61
      · have hF := lm_itn c4 hF
        refine lv_iload_n hx hb dX5_firstFault_12 rfl (lv_at hl 1 rfl) ?_
        refine lv_iconst (v := -1) hx hb dX5_firstFault_13 (by decide) ?_
        refine lv_icmp_ne (tgt := 25) hx hb dX5_firstFault_14 (by decide) (fun c5 => ?_) (fun c5 => ?_)
        · have hF := lm_itn c5 hF
          refine lv_aload_n hx hb dX5_firstFault_25 rfl (lv_at hl 0 rfl) ?_
          refine lv_iload_n hx hb dX5_firstFault_26 rfl (lv_at hl 2 rfl) ?_
          refine lv_iload_n hx hb dX5_firstFault_27 rfl (lv_at hl 1 rfl) ?_
          obtain ⟨⟨r6, t6_0⟩, hc6, hF⟩ := lm_bd hF
          have hF := lm_un2E hF
          refine lm_runA B hN (lm_hrV B hN hl.1 (lm_cutA B hN) (n := 2) (As := [.int x2_4, .int x1_4]) (rest := []) (hX5_fitsDebt l G q0 hc6) gX5_firstFault_X5_fitsDebt rfl (by decide +kernel) rfl (by decide) (by decide) (ci := 5) (q0 := 0) rfl rfl rfl (Nat.le_of_ble_eq_true rfl) dX5_firstFault_28) (fun H locs hN => ?_)
          exact J31 _ _ _ _ _ _ _ hF hN (lv_sub hl [0, 1, 2] rfl)
        · have hF := lm_itp c5 hF
          refine lv_aload_n hx hb dX5_firstFault_17 rfl (lv_at hl 0 rfl) ?_
          refine lv_iload_n hx hb dX5_firstFault_18 rfl (lv_at hl 2 rfl) ?_
          obtain ⟨⟨r7, t7_0⟩, hc7, hF⟩ := lm_bd hF
          have hF := lm_un2E hF
          refine lm_runA B hN (lm_hrV B hN hl.1 (lm_cutA B hN) (n := 1) (As := [.int x2_4]) (rest := []) (hX5_fitsThings l G q0 hc7) gX5_firstFault_X5_fitsThings rfl (by decide +kernel) rfl (by decide) (by decide) (ci := 5) (q0 := 0) rfl rfl rfl (Nat.le_of_ble_eq_true rfl) dX5_firstFault_19) (fun H locs hN => ?_)
          refine lv_goto (tgt := 31) hx hb dX5_firstFault_22 (by decide) ?_
          exact J31 _ _ _ _ _ _ _ hF hN (lv_sub hl [0, 1, 2] rfl)
  refine lv_iconst (v := -1) hx hb dX5_firstFault_0 (by decide) ?_
  refine lv_istore_n (lv' := [(1, .int (-1 : Int32)), (0, .ref (q0 0))]) hx hb dX5_firstFault_1 rfl hl (by decide) rfl (fun ls hl => ?_)
  refine lv_iconst (v := 0) hx hb dX5_firstFault_2 (by decide) ?_
  refine lv_istore_n (lv' := [(2, .int (0 : Int32)), (1, .int (-1 : Int32)), (0, .ref (q0 0))]) hx hb dX5_firstFault_3 rfl hl (by decide) rfl (fun ls hl => ?_)
  exact L4 5000 _ _ _ _ _ _ hF hN (lv_sub hl [2, 1, 0] rfl)
def fX5_isHouse (s0 : lm_St) : Option (Int32 × lm_St) := if (s0.1 0) < (3 : Int32) then (lm_gB (0 : Int32) (some ((0 : Int32), s0))) else ((fX5_firstFault s0).bind (fun v3 => lm_un2 v3 (fun r3 t3_0 => if r3 = (t3_0.1 0) then (lm_gI ((t3_0.1 0) - (3 : Int32)) 32 (if ((t3_0.2.1 0) ((t3_0.1 0) - (3 : Int32)).toNatClampNeg) = (59 : Int32) then (lm_gB (1 : Int32) (some ((1 : Int32), t3_0))) else (lm_gB (0 : Int32) (some ((0 : Int32), t3_0))))) else (lm_gB (0 : Int32) (some ((0 : Int32), t3_0))))))
set_option maxHeartbeats 4000000 in
set_option maxRecDepth 100000 in
theorem hX5_isHouse (l : Launch) (G : lm_G) (q0 : Nat → Nat) {s0 : lm_St} {R : Int32 × lm_St} (hF : fX5_isHouse s0 = some R) : lm_C l G yX5_isHouse wsX5_isHouse 10 [.ref (q0 0)] (wX5 G q0 s0) (some (.int R.1)) (wX5 G q0 R.2) := by
  refine lm_C.of (cc := cX5_isHouse) (maxL := 1) (ret := (some .boolean)) (by decide) rfl (Nat.le_of_ble_eq_true rfl) ?_
  intro p e s m below meth c A ls B hN hl
  have hx := B.1.1
  have hb := B.1.2.1
  have hown := B.1.2.2.2.1
  have hts := B.1.2.2.2.2
  have hE := B.2.2.2.2.2
  have hiX5 : ∀ w ∈ wsX50, w ∈ wsX5_isHouse := by decide +kernel
  have hl : lv_has ls 1 [(0, .ref (q0 0))] := hl
  refine lv_aload_n hx hb dX5_isHouse_0 rfl (lv_at hl 0 rfl) ?_
  refine lm_get B hN (ci := 5) hiX5 0 rfl rfl 1 (by decide) (by decide +kernel) (v := .int (s0.1 0)) rfl dX5_isHouse_1 ?_
  refine lv_iconst (v := 3) hx hb dX5_isHouse_4 (by decide) ?_
  refine lv_icmp_lt (tgt := 39) hx hb dX5_isHouse_5 (by decide) (fun c1 => ?_) (fun c1 => ?_)
  · have hF := lm_itp c1 hF
    refine lv_iconst (v := 0) hx hb dX5_isHouse_39 (by decide) ?_
    obtain ⟨z2, hF⟩ := lm_gBe hF
    cases hF
    exact lm_zret B hN z2 dX5_isHouse_40
  · have hF := lm_itn c1 hF
    refine lv_aload_n hx hb dX5_isHouse_8 rfl (lv_at hl 0 rfl) ?_
    obtain ⟨⟨r3, t3_0⟩, hc3, hF⟩ := lm_bd hF
    have hF := lm_un2E hF
    refine lm_runA B hN (lm_hrV B hN hl.1 (lm_cutA B hN) (n := 0) (As := []) (rest := []) (hX5_firstFault l G q0 hc3) gX5_isHouse_X5_firstFault rfl (by decide +kernel) rfl (by decide) (by decide) (ci := 5) (q0 := 0) rfl rfl rfl (Nat.le_of_ble_eq_true rfl) dX5_isHouse_9) (fun H locs hN => ?_)
    refine lv_aload_n hx hb dX5_isHouse_12 rfl (lv_at hl 0 rfl) ?_
    refine lm_get B hN (ci := 5) hiX5 0 rfl rfl 1 (by decide) (by decide +kernel) (v := .int (t3_0.1 0)) rfl dX5_isHouse_13 ?_
    refine lv_icmp_ne (tgt := 39) hx hb dX5_isHouse_16 (by decide) (fun c4 => ?_) (fun c4 => ?_)
    · have hF := lm_itn c4 hF
      refine lv_iconst (v := 0) hx hb dX5_isHouse_39 (by decide) ?_
      obtain ⟨z5, hF⟩ := lm_gBe hF
      cases hF
      exact lm_zret B hN z5 dX5_isHouse_40
    · have hF := lm_itp c4 hF
      refine lv_aload_n hx hb dX5_isHouse_19 rfl (lv_at hl 0 rfl) ?_
      refine lm_get B hN (ci := 5) hiX5 0 rfl rfl 0 (by decide) (by decide +kernel) (v := .ref (q0 1)) rfl dX5_isHouse_20 ?_
      refine lv_aload_n hx hb dX5_isHouse_23 rfl (lv_at hl 0 rfl) ?_
      refine lm_get B hN (ci := 5) hiX5 0 rfl rfl 1 (by decide) (by decide +kernel) (v := .int (t3_0.1 0)) rfl dX5_isHouse_24 ?_
      refine lv_iconst (v := 3) hx hb dX5_isHouse_27 (by decide) ?_
      refine lv_isub hx hb dX5_isHouse_28 ?_
      obtain ⟨z6, hF⟩ := lm_gIe hF
      refine lm_ald B hN 1 (f := (t3_0.2.1 0)) rfl z6 dX5_isHouse_29 ?_
      refine lv_bipush (v := 59) hx hb dX5_isHouse_30 (by decide) ?_
      refine lv_icmp_ne (tgt := 39) hx hb dX5_isHouse_32 (by decide) (fun c7 => ?_) (fun c7 => ?_)
      · have hF := lm_itn c7 hF
        refine lv_iconst (v := 0) hx hb dX5_isHouse_39 (by decide) ?_
        obtain ⟨z8, hF⟩ := lm_gBe hF
        cases hF
        exact lm_zret B hN z8 dX5_isHouse_40
      · have hF := lm_itp c7 hF
        refine lv_iconst (v := 1) hx hb dX5_isHouse_35 (by decide) ?_
        refine lv_goto (tgt := 40) hx hb dX5_isHouse_36 (by decide) ?_
        obtain ⟨z9, hF⟩ := lm_gBe hF
        cases hF
        exact lm_zret B hN z9 dX5_isHouse_40
