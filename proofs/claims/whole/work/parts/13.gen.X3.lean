def fX3_has (s0 : lm_St) (x1 : Int32) : Option (Int32 × lm_St) := if x1 < 0 then (lm_gB (0 : Int32) (some ((0 : Int32), s0))) else (if (s0.1 0) ≤ x1 then (lm_gB (0 : Int32) (some ((0 : Int32), s0))) else (lm_gB (1 : Int32) (some ((1 : Int32), s0))))
set_option maxHeartbeats 4000000 in
set_option maxRecDepth 100000 in
theorem hX3_has (l : Launch) (G : lm_G) (q0 : Nat → Nat) {s0 : lm_St} {x1 : Int32} {R : Int32 × lm_St} (hF : fX3_has s0 x1 = some R) : lm_C l G yX3_has wsX3_has 1 [.ref (q0 0), .int x1] (wX3 G q0 s0) (some (.int R.1)) (wX3 G q0 R.2) := by
  refine lm_C.of (cc := cX3_has) (maxL := 2) (ret := (some .boolean)) (by decide) rfl (Nat.le_of_ble_eq_true rfl) ?_
  intro p e s m below meth c A ls B hN hl
  have hx := B.1.1
  have hb := B.1.2.1
  have hown := B.1.2.2.2.1
  have hts := B.1.2.2.2.2
  have hiX3 : ∀ w ∈ wsX30, w ∈ wsX3_has := by decide +kernel
  have hl : lv_has ls 2 [(0, .ref (q0 0)), (1, .int x1)] := hl
  refine lv_iload_n hx hb dX3_has_0 rfl (lv_at hl 1 rfl) ?_
  refine lv_if_lt (tgt := 16) hx hb dX3_has_1 (by decide) (fun c1 => ?_) (fun c1 => ?_)
  · have hF := lm_itp c1 hF
    refine lv_iconst (v := 0) hx hb dX3_has_16 (by decide) ?_
    obtain ⟨z2, hF⟩ := lm_gBe hF
    cases hF
    exact lm_zret B hN z2 dX3_has_17
  · have hF := lm_itn c1 hF
    refine lv_iload_n hx hb dX3_has_4 rfl (lv_at hl 1 rfl) ?_
    refine lv_aload_n hx hb dX3_has_5 rfl (lv_at hl 0 rfl) ?_
    refine lm_get B hN (ci := 3) hiX3 0 rfl rfl 4 (by decide) (by decide +kernel) (v := .int (s0.1 0)) rfl dX3_has_6 ?_
    refine lv_icmp_ge (tgt := 16) hx hb dX3_has_9 (by decide) (fun c3 => ?_) (fun c3 => ?_)
    · have hF := lm_itp c3 hF
      refine lv_iconst (v := 0) hx hb dX3_has_16 (by decide) ?_
      obtain ⟨z4, hF⟩ := lm_gBe hF
      cases hF
      exact lm_zret B hN z4 dX3_has_17
    · have hF := lm_itn c3 hF
      refine lv_iconst (v := 1) hx hb dX3_has_12 (by decide) ?_
      refine lv_goto (tgt := 17) hx hb dX3_has_13 (by decide) ?_
      obtain ⟨z5, hF⟩ := lm_gBe hF
      cases hF
      exact lm_zret B hN z5 dX3_has_17
def fX3_isNone (s0 : lm_St) : Option (Int32 × lm_St) := if (s0.1 0) = 0 then (lm_gB (1 : Int32) (some ((1 : Int32), s0))) else (lm_gB (0 : Int32) (some ((0 : Int32), s0)))
set_option maxHeartbeats 4000000 in
set_option maxRecDepth 100000 in
theorem hX3_isNone (l : Launch) (G : lm_G) (q0 : Nat → Nat) {s0 : lm_St} {R : Int32 × lm_St} (hF : fX3_isNone s0 = some R) : lm_C l G yX3_isNone wsX3_isNone 1 [.ref (q0 0)] (wX3 G q0 s0) (some (.int R.1)) (wX3 G q0 R.2) := by
  refine lm_C.of (cc := cX3_isNone) (maxL := 1) (ret := (some .boolean)) (by decide) rfl (Nat.le_of_ble_eq_true rfl) ?_
  intro p e s m below meth c A ls B hN hl
  have hx := B.1.1
  have hb := B.1.2.1
  have hown := B.1.2.2.2.1
  have hts := B.1.2.2.2.2
  have hiX3 : ∀ w ∈ wsX30, w ∈ wsX3_isNone := by decide +kernel
  have hl : lv_has ls 1 [(0, .ref (q0 0))] := hl
  refine lv_aload_n hx hb dX3_isNone_0 rfl (lv_at hl 0 rfl) ?_
  refine lm_get B hN (ci := 3) hiX3 0 rfl rfl 4 (by decide) (by decide +kernel) (v := .int (s0.1 0)) rfl dX3_isNone_1 ?_
  refine lv_if_ne (tgt := 11) hx hb dX3_isNone_4 (by decide) (fun c1 => ?_) (fun c1 => ?_)
  · have hF := lm_itn c1 hF
    refine lv_iconst (v := 0) hx hb dX3_isNone_11 (by decide) ?_
    obtain ⟨z2, hF⟩ := lm_gBe hF
    cases hF
    exact lm_zret B hN z2 dX3_isNone_12
  · have hF := lm_itp c1 hF
    refine lv_iconst (v := 1) hx hb dX3_isNone_7 (by decide) ?_
    refine lv_goto (tgt := 12) hx hb dX3_isNone_8 (by decide) ?_
    obtain ⟨z3, hF⟩ := lm_gBe hF
    cases hF
    exact lm_zret B hN z3 dX3_isNone_12
def fX3_copyFrom (s0 : lm_St) (s1 : lm_St) : Option (lm_St × lm_St) := lm_gC (7 : Int32) 7 7 (lm_gC (7 : Int32) 7 7 (lm_gC (7 : Int32) 7 7 (lm_gC (7 : Int32) 7 7 (some ((lm_sF (lm_sF (lm_sF (lm_sF (lm_sF (lm_sA (lm_sA (lm_sA (lm_sA s0 0 (va_cpy (s1.2.1 0) (s0.2.1 0) 0 0 (7 : Int32).toNatClampNeg)) 1 (va_cpy (s1.2.1 1) (s0.2.1 1) 0 0 (7 : Int32).toNatClampNeg)) 2 (va_cpy (s1.2.1 2) (s0.2.1 2) 0 0 (7 : Int32).toNatClampNeg)) 3 (va_cpy (s1.2.1 3) (s0.2.1 3) 0 0 (7 : Int32).toNatClampNeg)) 0 (s1.1 0)) 1 (s1.1 1)) 2 (s1.1 2)) 3 (s1.1 3)) 4 (s1.1 4)), s1)))))
set_option maxHeartbeats 4000000 in
set_option maxRecDepth 100000 in
theorem hX3_copyFrom (l : Launch) (G : lm_G) (q0 : Nat → Nat) (q1 : Nat → Nat) {s0 : lm_St} {s1 : lm_St} {R : lm_St × lm_St} (hF : fX3_copyFrom s0 s1 = some R) : lm_C l G yX3_copyFrom wsX3_copyFrom 2 [.ref (q0 0), .ref (q1 0)] (wX3_X3 G q0 q1 s0 s1) none (wX3_X3 G q0 q1 R.1 R.2) := by
  refine lm_C.of (cc := cX3_copyFrom) (maxL := 2) (ret := none) (by decide) rfl (Nat.le_of_ble_eq_true rfl) ?_
  intro p e s m below meth c A ls B hN hl
  have hx := B.1.1
  have hb := B.1.2.1
  have hown := B.1.2.2.2.1
  have hts := B.1.2.2.2.2
  have hiX3 : ∀ w ∈ wsX30, w ∈ wsX3_copyFrom := by decide +kernel
  have hl : lv_has ls 2 [(0, .ref (q0 0)), (1, .ref (q1 0))] := hl
  refine lv_aload_n hx hb dX3_copyFrom_0 rfl (lv_at hl 1 rfl) ?_
  refine lm_get B hN (ci := 3) hiX3 5 rfl rfl 0 (by decide) (by decide +kernel) (v := .ref (q1 1)) rfl dX3_copyFrom_1 ?_
  refine lv_iconst (v := 0) hx hb dX3_copyFrom_4 (by decide) ?_
  refine lv_aload_n hx hb dX3_copyFrom_5 rfl (lv_at hl 0 rfl) ?_
  refine lm_get B hN (ci := 3) hiX3 0 rfl rfl 0 (by decide) (by decide +kernel) (v := .ref (q0 1)) rfl dX3_copyFrom_6 ?_
  refine lv_iconst (v := 0) hx hb dX3_copyFrom_9 (by decide) ?_
  refine lv_bipush (v := 7) hx hb dX3_copyFrom_10 (by decide) ?_
  obtain ⟨z1, hF⟩ := lm_gCe hF
  refine lm_cpy B hN hl.1 (by decide +kernel) (by decide +kernel) (by decide +kernel) (by decide +kernel) 6 1 (f := (s1.2.1 0)) (g := (s0.2.1 0)) rfl rfl z1 (by decide) (by decide) (wX3_X3 G q0 q1 (lm_sA s0 0 (va_cpy (s1.2.1 0) (s0.2.1 0) 0 0 (7 : Int32).toNatClampNeg)) s1) (wX3_X3_r0a0 _ _ _ _ _ _) dX3_copyFrom_12 (fun H locs hN => ?_)
  refine lv_aload_n hx hb dX3_copyFrom_15 rfl (lv_at hl 1 rfl) ?_
  refine lm_get B hN (ci := 3) hiX3 5 rfl rfl 1 (by decide) (by decide +kernel) (v := .ref (q1 2)) rfl dX3_copyFrom_16 ?_
  refine lv_iconst (v := 0) hx hb dX3_copyFrom_19 (by decide) ?_
  refine lv_aload_n hx hb dX3_copyFrom_20 rfl (lv_at hl 0 rfl) ?_
  refine lm_get B hN (ci := 3) hiX3 0 rfl rfl 1 (by decide) (by decide +kernel) (v := .ref (q0 2)) rfl dX3_copyFrom_21 ?_
  refine lv_iconst (v := 0) hx hb dX3_copyFrom_24 (by decide) ?_
  refine lv_bipush (v := 7) hx hb dX3_copyFrom_25 (by decide) ?_
  obtain ⟨z2, hF⟩ := lm_gCe hF
  refine lm_cpy B hN hl.1 (by decide +kernel) (by decide +kernel) (by decide +kernel) (by decide +kernel) 7 2 (f := (s1.2.1 1)) (g := (s0.2.1 1)) rfl rfl z2 (by decide) (by decide) (wX3_X3 G q0 q1 (lm_sA (lm_sA s0 0 (va_cpy (s1.2.1 0) (s0.2.1 0) 0 0 (7 : Int32).toNatClampNeg)) 1 (va_cpy (s1.2.1 1) (s0.2.1 1) 0 0 (7 : Int32).toNatClampNeg)) s1) (wX3_X3_r0a1 _ _ _ _ _ _) dX3_copyFrom_27 (fun H locs hN => ?_)
  refine lv_aload_n hx hb dX3_copyFrom_30 rfl (lv_at hl 1 rfl) ?_
  refine lm_get B hN (ci := 3) hiX3 5 rfl rfl 2 (by decide) (by decide +kernel) (v := .ref (q1 3)) rfl dX3_copyFrom_31 ?_
  refine lv_iconst (v := 0) hx hb dX3_copyFrom_34 (by decide) ?_
  refine lv_aload_n hx hb dX3_copyFrom_35 rfl (lv_at hl 0 rfl) ?_
  refine lm_get B hN (ci := 3) hiX3 0 rfl rfl 2 (by decide) (by decide +kernel) (v := .ref (q0 3)) rfl dX3_copyFrom_36 ?_
  refine lv_iconst (v := 0) hx hb dX3_copyFrom_39 (by decide) ?_
  refine lv_bipush (v := 7) hx hb dX3_copyFrom_40 (by decide) ?_
  obtain ⟨z3, hF⟩ := lm_gCe hF
  refine lm_cpy B hN hl.1 (by decide +kernel) (by decide +kernel) (by decide +kernel) (by decide +kernel) 8 3 (f := (s1.2.1 2)) (g := (s0.2.1 2)) rfl rfl z3 (by decide) (by decide) (wX3_X3 G q0 q1 (lm_sA (lm_sA (lm_sA s0 0 (va_cpy (s1.2.1 0) (s0.2.1 0) 0 0 (7 : Int32).toNatClampNeg)) 1 (va_cpy (s1.2.1 1) (s0.2.1 1) 0 0 (7 : Int32).toNatClampNeg)) 2 (va_cpy (s1.2.1 2) (s0.2.1 2) 0 0 (7 : Int32).toNatClampNeg)) s1) (wX3_X3_r0a2 _ _ _ _ _ _) dX3_copyFrom_42 (fun H locs hN => ?_)
  refine lv_aload_n hx hb dX3_copyFrom_45 rfl (lv_at hl 1 rfl) ?_
  refine lm_get B hN (ci := 3) hiX3 5 rfl rfl 3 (by decide) (by decide +kernel) (v := .ref (q1 4)) rfl dX3_copyFrom_46 ?_
  refine lv_iconst (v := 0) hx hb dX3_copyFrom_49 (by decide) ?_
  refine lv_aload_n hx hb dX3_copyFrom_50 rfl (lv_at hl 0 rfl) ?_
  refine lm_get B hN (ci := 3) hiX3 0 rfl rfl 3 (by decide) (by decide +kernel) (v := .ref (q0 4)) rfl dX3_copyFrom_51 ?_
  refine lv_iconst (v := 0) hx hb dX3_copyFrom_54 (by decide) ?_
  refine lv_bipush (v := 7) hx hb dX3_copyFrom_55 (by decide) ?_
  obtain ⟨z4, hF⟩ := lm_gCe hF
  refine lm_cpy B hN hl.1 (by decide +kernel) (by decide +kernel) (by decide +kernel) (by decide +kernel) 9 4 (f := (s1.2.1 3)) (g := (s0.2.1 3)) rfl rfl z4 (by decide) (by decide) (wX3_X3 G q0 q1 (lm_sA (lm_sA (lm_sA (lm_sA s0 0 (va_cpy (s1.2.1 0) (s0.2.1 0) 0 0 (7 : Int32).toNatClampNeg)) 1 (va_cpy (s1.2.1 1) (s0.2.1 1) 0 0 (7 : Int32).toNatClampNeg)) 2 (va_cpy (s1.2.1 2) (s0.2.1 2) 0 0 (7 : Int32).toNatClampNeg)) 3 (va_cpy (s1.2.1 3) (s0.2.1 3) 0 0 (7 : Int32).toNatClampNeg)) s1) (wX3_X3_r0a3 _ _ _ _ _ _) dX3_copyFrom_57 (fun H locs hN => ?_)
  refine lv_aload_n hx hb dX3_copyFrom_60 rfl (lv_at hl 0 rfl) ?_
  refine lv_aload_n hx hb dX3_copyFrom_61 rfl (lv_at hl 1 rfl) ?_
  refine lm_get B hN (ci := 3) hiX3 5 rfl rfl 4 (by decide) (by decide +kernel) (v := .int (s1.1 0)) rfl dX3_copyFrom_62 ?_
  refine lm_put B hN (ci := 3) hiX3 tyX3 tyX3_ok nmX3 0 rfl rfl 4 (by decide) (by decide +kernel) (by decide) (v := .int (s1.1 0)) rfl rfl (Nat.le_of_ble_eq_true rfl) (wX3_X3 G q0 q1 (lm_sF (lm_sA (lm_sA (lm_sA (lm_sA s0 0 (va_cpy (s1.2.1 0) (s0.2.1 0) 0 0 (7 : Int32).toNatClampNeg)) 1 (va_cpy (s1.2.1 1) (s0.2.1 1) 0 0 (7 : Int32).toNatClampNeg)) 2 (va_cpy (s1.2.1 2) (s0.2.1 2) 0 0 (7 : Int32).toNatClampNeg)) 3 (va_cpy (s1.2.1 3) (s0.2.1 3) 0 0 (7 : Int32).toNatClampNeg)) 0 (s1.1 0)) s1) (wX3_X3_r0f0 _ _ _ _ _ _) dX3_copyFrom_65 (fun H locs hN => ?_)
  refine lv_aload_n hx hb dX3_copyFrom_68 rfl (lv_at hl 0 rfl) ?_
  refine lv_aload_n hx hb dX3_copyFrom_69 rfl (lv_at hl 1 rfl) ?_
  refine lm_get B hN (ci := 3) hiX3 5 rfl rfl 5 (by decide) (by decide +kernel) (v := .int (s1.1 1)) rfl dX3_copyFrom_70 ?_
  refine lm_put B hN (ci := 3) hiX3 tyX3 tyX3_ok nmX3 0 rfl rfl 5 (by decide) (by decide +kernel) (by decide) (v := .int (s1.1 1)) rfl rfl (Nat.le_of_ble_eq_true rfl) (wX3_X3 G q0 q1 (lm_sF (lm_sF (lm_sA (lm_sA (lm_sA (lm_sA s0 0 (va_cpy (s1.2.1 0) (s0.2.1 0) 0 0 (7 : Int32).toNatClampNeg)) 1 (va_cpy (s1.2.1 1) (s0.2.1 1) 0 0 (7 : Int32).toNatClampNeg)) 2 (va_cpy (s1.2.1 2) (s0.2.1 2) 0 0 (7 : Int32).toNatClampNeg)) 3 (va_cpy (s1.2.1 3) (s0.2.1 3) 0 0 (7 : Int32).toNatClampNeg)) 0 (s1.1 0)) 1 (s1.1 1)) s1) (wX3_X3_r0f1 _ _ _ _ _ _) dX3_copyFrom_73 (fun H locs hN => ?_)
  refine lv_aload_n hx hb dX3_copyFrom_76 rfl (lv_at hl 0 rfl) ?_
  refine lv_aload_n hx hb dX3_copyFrom_77 rfl (lv_at hl 1 rfl) ?_
  refine lm_get B hN (ci := 3) hiX3 5 rfl rfl 6 (by decide) (by decide +kernel) (v := .int (s1.1 2)) rfl dX3_copyFrom_78 ?_
  refine lm_put B hN (ci := 3) hiX3 tyX3 tyX3_ok nmX3 0 rfl rfl 6 (by decide) (by decide +kernel) (by decide) (v := .int (s1.1 2)) rfl rfl (Nat.le_of_ble_eq_true rfl) (wX3_X3 G q0 q1 (lm_sF (lm_sF (lm_sF (lm_sA (lm_sA (lm_sA (lm_sA s0 0 (va_cpy (s1.2.1 0) (s0.2.1 0) 0 0 (7 : Int32).toNatClampNeg)) 1 (va_cpy (s1.2.1 1) (s0.2.1 1) 0 0 (7 : Int32).toNatClampNeg)) 2 (va_cpy (s1.2.1 2) (s0.2.1 2) 0 0 (7 : Int32).toNatClampNeg)) 3 (va_cpy (s1.2.1 3) (s0.2.1 3) 0 0 (7 : Int32).toNatClampNeg)) 0 (s1.1 0)) 1 (s1.1 1)) 2 (s1.1 2)) s1) (wX3_X3_r0f2 _ _ _ _ _ _) dX3_copyFrom_81 (fun H locs hN => ?_)
  refine lv_aload_n hx hb dX3_copyFrom_84 rfl (lv_at hl 0 rfl) ?_
  refine lv_aload_n hx hb dX3_copyFrom_85 rfl (lv_at hl 1 rfl) ?_
  refine lm_get B hN (ci := 3) hiX3 5 rfl rfl 7 (by decide) (by decide +kernel) (v := .int (s1.1 3)) rfl dX3_copyFrom_86 ?_
  refine lm_put B hN (ci := 3) hiX3 tyX3 tyX3_ok nmX3 0 rfl rfl 7 (by decide) (by decide +kernel) (by decide) (v := .int (s1.1 3)) rfl rfl (Nat.le_of_ble_eq_true rfl) (wX3_X3 G q0 q1 (lm_sF (lm_sF (lm_sF (lm_sF (lm_sA (lm_sA (lm_sA (lm_sA s0 0 (va_cpy (s1.2.1 0) (s0.2.1 0) 0 0 (7 : Int32).toNatClampNeg)) 1 (va_cpy (s1.2.1 1) (s0.2.1 1) 0 0 (7 : Int32).toNatClampNeg)) 2 (va_cpy (s1.2.1 2) (s0.2.1 2) 0 0 (7 : Int32).toNatClampNeg)) 3 (va_cpy (s1.2.1 3) (s0.2.1 3) 0 0 (7 : Int32).toNatClampNeg)) 0 (s1.1 0)) 1 (s1.1 1)) 2 (s1.1 2)) 3 (s1.1 3)) s1) (wX3_X3_r0f3 _ _ _ _ _ _) dX3_copyFrom_89 (fun H locs hN => ?_)
  refine lv_aload_n hx hb dX3_copyFrom_92 rfl (lv_at hl 0 rfl) ?_
  refine lv_aload_n hx hb dX3_copyFrom_93 rfl (lv_at hl 1 rfl) ?_
  refine lm_get B hN (ci := 3) hiX3 5 rfl rfl 8 (by decide) (by decide +kernel) (v := .int (s1.1 4)) rfl dX3_copyFrom_94 ?_
  refine lm_put B hN (ci := 3) hiX3 tyX3 tyX3_ok nmX3 0 rfl rfl 8 (by decide) (by decide +kernel) (by decide) (v := .int (s1.1 4)) rfl rfl (Nat.le_of_ble_eq_true rfl) (wX3_X3 G q0 q1 (lm_sF (lm_sF (lm_sF (lm_sF (lm_sF (lm_sA (lm_sA (lm_sA (lm_sA s0 0 (va_cpy (s1.2.1 0) (s0.2.1 0) 0 0 (7 : Int32).toNatClampNeg)) 1 (va_cpy (s1.2.1 1) (s0.2.1 1) 0 0 (7 : Int32).toNatClampNeg)) 2 (va_cpy (s1.2.1 2) (s0.2.1 2) 0 0 (7 : Int32).toNatClampNeg)) 3 (va_cpy (s1.2.1 3) (s0.2.1 3) 0 0 (7 : Int32).toNatClampNeg)) 0 (s1.1 0)) 1 (s1.1 1)) 2 (s1.1 2)) 3 (s1.1 3)) 4 (s1.1 4)) s1) (wX3_X3_r0f4 _ _ _ _ _ _) dX3_copyFrom_97 (fun H locs hN => ?_)
  cases hF
  exact lm_vret B hN dX3_copyFrom_100
def fX3_haveAway (s0 : lm_St) (x1 : Int32) : Option (lm_St) := lm_gI x1 7 (some (lm_sF (lm_sF s0 1 ((s0.1 1) ||| ((1 : Int32) <<< (x1 &&& 31)))) 2 (if (0 : Int32) < ((s0.1 2) - ((s0.2.1 1) x1.toNatClampNeg)) then ((s0.1 2) - ((s0.2.1 1) x1.toNatClampNeg)) else (0 : Int32))))
set_option maxHeartbeats 4000000 in
set_option maxRecDepth 100000 in
theorem hX3_haveAway (l : Launch) (G : lm_G) (q0 : Nat → Nat) {s0 : lm_St} {x1 : Int32} {R : lm_St} (hF : fX3_haveAway s0 x1 = some R) : lm_C l G yX3_haveAway wsX3_haveAway 2 [.ref (q0 0), .int x1] (wX3 G q0 s0) none (wX3 G q0 R) := by
  refine lm_C.of (cc := cX3_haveAway) (maxL := 2) (ret := none) (by decide) rfl (Nat.le_of_ble_eq_true rfl) ?_
  intro p e s m below meth c A ls B hN hl
  have hx := B.1.1
  have hb := B.1.2.1
  have hown := B.1.2.2.2.1
  have hts := B.1.2.2.2.2
  have hiX3 : ∀ w ∈ wsX30, w ∈ wsX3_haveAway := by decide +kernel
  have hl : lv_has ls 2 [(0, .ref (q0 0)), (1, .int x1)] := hl
  refine lv_aload_n hx hb dX3_haveAway_0 rfl (lv_at hl 0 rfl) ?_
  refine lv_dup hx hb dX3_haveAway_1 rfl ?_
  refine lm_get B hN (ci := 3) hiX3 0 rfl rfl 5 (by decide) (by decide +kernel) (v := .int (s0.1 1)) rfl dX3_haveAway_2 ?_
  refine lv_iconst (v := 1) hx hb dX3_haveAway_5 (by decide) ?_
  refine lv_iload_n hx hb dX3_haveAway_6 rfl (lv_at hl 1 rfl) ?_
  refine lv_ishl hx hb dX3_haveAway_7 ?_
  refine lv_ior hx hb dX3_haveAway_8 ?_
  refine lm_put B hN (ci := 3) hiX3 tyX3 tyX3_ok nmX3 0 rfl rfl 5 (by decide) (by decide +kernel) (by decide) (v := .int ((s0.1 1) ||| ((1 : Int32) <<< (x1 &&& 31)))) rfl rfl (Nat.le_of_ble_eq_true rfl) (wX3 G q0 (lm_sF s0 1 ((s0.1 1) ||| ((1 : Int32) <<< (x1 &&& 31))))) (wX3_r0f1 _ _ _ _) dX3_haveAway_9 (fun H locs hN => ?_)
  refine lv_aload_n hx hb dX3_haveAway_12 rfl (lv_at hl 0 rfl) ?_
  refine lv_iconst (v := 0) hx hb dX3_haveAway_13 (by decide) ?_
  refine lv_aload_n hx hb dX3_haveAway_14 rfl (lv_at hl 0 rfl) ?_
  refine lm_get B hN (ci := 3) hiX3 0 rfl rfl 6 (by decide) (by decide +kernel) (v := .int (s0.1 2)) rfl dX3_haveAway_15 ?_
  refine lv_aload_n hx hb dX3_haveAway_18 rfl (lv_at hl 0 rfl) ?_
  refine lm_get B hN (ci := 3) hiX3 0 rfl rfl 1 (by decide) (by decide +kernel) (v := .ref (q0 2)) rfl dX3_haveAway_19 ?_
  refine lv_iload_n hx hb dX3_haveAway_22 rfl (lv_at hl 1 rfl) ?_
  obtain ⟨z1, hF⟩ := lm_gIe hF
  refine lm_ald B hN 2 (f := (s0.2.1 1)) rfl z1 dX3_haveAway_23 ?_
  refine lv_isub hx hb dX3_haveAway_24 ?_
  refine lm_mmax B hl.1 (by decide +kernel) (by decide +kernel) (by decide +kernel) (by decide +kernel) (by decide) (Nat.le_of_ble_eq_true rfl) dX3_haveAway_25 ?_
  refine lm_put B hN (ci := 3) hiX3 tyX3 tyX3_ok nmX3 0 rfl rfl 6 (by decide) (by decide +kernel) (by decide) (v := .int (if (0 : Int32) < ((s0.1 2) - ((s0.2.1 1) x1.toNatClampNeg)) then ((s0.1 2) - ((s0.2.1 1) x1.toNatClampNeg)) else (0 : Int32))) rfl rfl (Nat.le_of_ble_eq_true rfl) (wX3 G q0 (lm_sF (lm_sF s0 1 ((s0.1 1) ||| ((1 : Int32) <<< (x1 &&& 31)))) 2 (if (0 : Int32) < ((s0.1 2) - ((s0.2.1 1) x1.toNatClampNeg)) then ((s0.1 2) - ((s0.2.1 1) x1.toNatClampNeg)) else (0 : Int32)))) (wX3_r0f2 _ _ _ _) dX3_haveAway_28 (fun H locs hN => ?_)
  cases hF
  exact lm_vret B hN dX3_haveAway_31
def fX3_left (s0 : lm_St) : Option (Int32 × lm_St) := (fJ6_bitCount_0f7a4 (s0.1 1)).bind (fun r1 => some (((s0.1 0) - r1), s0))
set_option maxHeartbeats 4000000 in
set_option maxRecDepth 100000 in
theorem hX3_left (l : Launch) (G : lm_G) (q0 : Nat → Nat) {s0 : lm_St} {R : Int32 × lm_St} (hF : fX3_left s0 = some R) : lm_C l G yX3_left wsX3_left 2 [.ref (q0 0)] (wX3 G q0 s0) (some (.int R.1)) (wX3 G q0 R.2) := by
  refine lm_C.of (cc := cX3_left) (maxL := 1) (ret := (some .int)) (by decide) rfl (Nat.le_of_ble_eq_true rfl) ?_
  intro p e s m below meth c A ls B hN hl
  have hx := B.1.1
  have hb := B.1.2.1
  have hown := B.1.2.2.2.1
  have hts := B.1.2.2.2.2
  have hiX3 : ∀ w ∈ wsX30, w ∈ wsX3_left := by decide +kernel
  have hl : lv_has ls 1 [(0, .ref (q0 0))] := hl
  refine lv_aload_n hx hb dX3_left_0 rfl (lv_at hl 0 rfl) ?_
  refine lm_get B hN (ci := 3) hiX3 0 rfl rfl 4 (by decide) (by decide +kernel) (v := .int (s0.1 0)) rfl dX3_left_1 ?_
  refine lv_aload_n hx hb dX3_left_4 rfl (lv_at hl 0 rfl) ?_
  refine lm_get B hN (ci := 3) hiX3 0 rfl rfl 5 (by decide) (by decide +kernel) (v := .int (s0.1 1)) rfl dX3_left_5 ?_
  obtain ⟨r1, hc1, hF⟩ := lm_bd hF
  refine lm_run0 B hN (lm_hrT B hN hl.1 (lm_cut0 B hN) (n := 1) (As := [.int (s0.1 1)]) (rest := [.int (s0.1 0)]) (hJ6_bitCount_0f7a4 l G hc1) gX3_left_J6_bitCount_0f7a4 rfl (by decide +kernel) rfl (by decide) (by decide) rfl (Nat.le_of_ble_eq_true rfl) dX3_left_8) (fun H locs hN => ?_)
  refine lv_isub hx hb dX3_left_11 ?_
  cases hF
  exact lm_iret B hN dX3_left_12
def fX3_lookAt (s0 : lm_St) (x1 : Int32) (x2 : Int32) : Option (lm_St) := lm_gI x1 7 (lm_gI x1 7 (lm_gI x1 7 (some (lm_sA (lm_sA s0 2 (upd (s0.2.1 2) x1.toNatClampNeg (if (((s0.2.1 2) x1.toNatClampNeg) + (1 : Int32)) < (20 : Int32) then (((s0.2.1 2) x1.toNatClampNeg) + (1 : Int32)) else (20 : Int32)))) 3 (upd (s0.2.1 3) x1.toNatClampNeg (-x2))))))
set_option maxHeartbeats 4000000 in
set_option maxRecDepth 100000 in
theorem hX3_lookAt (l : Launch) (G : lm_G) (q0 : Nat → Nat) {s0 : lm_St} {x1 : Int32} {x2 : Int32} {R : lm_St} (hF : fX3_lookAt s0 x1 x2 = some R) : lm_C l G yX3_lookAt wsX3_lookAt 2 [.ref (q0 0), .int x1, .int x2] (wX3 G q0 s0) none (wX3 G q0 R) := by
  refine lm_C.of (cc := cX3_lookAt) (maxL := 3) (ret := none) (by decide) rfl (Nat.le_of_ble_eq_true rfl) ?_
  intro p e s m below meth c A ls B hN hl
  have hx := B.1.1
  have hb := B.1.2.1
  have hown := B.1.2.2.2.1
  have hts := B.1.2.2.2.2
  have hiX3 : ∀ w ∈ wsX30, w ∈ wsX3_lookAt := by decide +kernel
  have hl : lv_has ls 3 [(0, .ref (q0 0)), (1, .int x1), (2, .int x2)] := hl
  refine lv_aload_n hx hb dX3_lookAt_0 rfl (lv_at hl 0 rfl) ?_
  refine lm_get B hN (ci := 3) hiX3 0 rfl rfl 2 (by decide) (by decide +kernel) (v := .ref (q0 3)) rfl dX3_lookAt_1 ?_
  refine lv_iload_n hx hb dX3_lookAt_4 rfl (lv_at hl 1 rfl) ?_
  refine lv_bipush (v := 20) hx hb dX3_lookAt_5 (by decide) ?_
  refine lv_aload_n hx hb dX3_lookAt_7 rfl (lv_at hl 0 rfl) ?_
  refine lm_get B hN (ci := 3) hiX3 0 rfl rfl 2 (by decide) (by decide +kernel) (v := .ref (q0 3)) rfl dX3_lookAt_8 ?_
  refine lv_iload_n hx hb dX3_lookAt_11 rfl (lv_at hl 1 rfl) ?_
  obtain ⟨z1, hF⟩ := lm_gIe hF
  refine lm_ald B hN 3 (f := (s0.2.1 2)) rfl z1 dX3_lookAt_12 ?_
  refine lv_iconst (v := 1) hx hb dX3_lookAt_13 (by decide) ?_
  refine lv_iadd hx hb dX3_lookAt_14 ?_
  refine lm_mmin B hl.1 (by decide +kernel) (by decide +kernel) (by decide +kernel) (by decide +kernel) (by decide) (Nat.le_of_ble_eq_true rfl) dX3_lookAt_15 ?_
  obtain ⟨z2, hF⟩ := lm_gIe hF
  refine lm_ast B hN 3 (f := (s0.2.1 2)) rfl z2 (wX3 G q0 (lm_sA s0 2 (upd (s0.2.1 2) x1.toNatClampNeg (if (((s0.2.1 2) x1.toNatClampNeg) + (1 : Int32)) < (20 : Int32) then (((s0.2.1 2) x1.toNatClampNeg) + (1 : Int32)) else (20 : Int32))))) (wX3_r0a2 _ _ _ _) dX3_lookAt_18 (fun H locs hN => ?_)
  refine lv_aload_n hx hb dX3_lookAt_19 rfl (lv_at hl 0 rfl) ?_
  refine lm_get B hN (ci := 3) hiX3 0 rfl rfl 3 (by decide) (by decide +kernel) (v := .ref (q0 4)) rfl dX3_lookAt_20 ?_
  refine lv_iload_n hx hb dX3_lookAt_23 rfl (lv_at hl 1 rfl) ?_
  refine lv_iload_n hx hb dX3_lookAt_24 rfl (lv_at hl 2 rfl) ?_
  refine lv_ineg hx hb dX3_lookAt_25 ?_
  obtain ⟨z3, hF⟩ := lm_gIe hF
  refine lm_ast B hN 4 (f := (s0.2.1 3)) rfl z3 (wX3 G q0 (lm_sA (lm_sA s0 2 (upd (s0.2.1 2) x1.toNatClampNeg (if (((s0.2.1 2) x1.toNatClampNeg) + (1 : Int32)) < (20 : Int32) then (((s0.2.1 2) x1.toNatClampNeg) + (1 : Int32)) else (20 : Int32)))) 3 (upd (s0.2.1 3) x1.toNatClampNeg (-x2)))) (wX3_r0a3 _ _ _ _) dX3_lookAt_26 (fun H locs hN => ?_)
  cases hF
  exact lm_vret B hN dX3_lookAt_27
def fX3_sinceBehind (s0 : lm_St) (x1 : Int32) (x2 : Int32) : Option (Int32 × lm_St) := (fX8_isIn (s0.1 1) x1).bind (fun r1 => if r1 = 0 then (lm_gI x1 7 (some ((if (((s0.2.1 3) x1.toNatClampNeg) + x2) < (20 : Int32) then (((s0.2.1 3) x1.toNatClampNeg) + x2) else (20 : Int32)), s0))) else (lm_gI x1 7 (some (((s0.2.1 3) x1.toNatClampNeg), s0))))
set_option maxHeartbeats 4000000 in
set_option maxRecDepth 100000 in
theorem hX3_sinceBehind (l : Launch) (G : lm_G) (q0 : Nat → Nat) {s0 : lm_St} {x1 : Int32} {x2 : Int32} {R : Int32 × lm_St} (hF : fX3_sinceBehind s0 x1 x2 = some R) : lm_C l G yX3_sinceBehind wsX3_sinceBehind 2 [.ref (q0 0), .int x1, .int x2] (wX3 G q0 s0) (some (.int R.1)) (wX3 G q0 R.2) := by
  refine lm_C.of (cc := cX3_sinceBehind) (maxL := 3) (ret := (some .int)) (by decide) rfl (Nat.le_of_ble_eq_true rfl) ?_
  intro p e s m below meth c A ls B hN hl
  have hx := B.1.1
  have hb := B.1.2.1
  have hown := B.1.2.2.2.1
  have hts := B.1.2.2.2.2
  have hiX3 : ∀ w ∈ wsX30, w ∈ wsX3_sinceBehind := by decide +kernel
  have hl : lv_has ls 3 [(0, .ref (q0 0)), (1, .int x1), (2, .int x2)] := hl
  refine lv_aload_n hx hb dX3_sinceBehind_0 rfl (lv_at hl 0 rfl) ?_
  refine lm_get B hN (ci := 3) hiX3 0 rfl rfl 5 (by decide) (by decide +kernel) (v := .int (s0.1 1)) rfl dX3_sinceBehind_1 ?_
  refine lv_iload_n hx hb dX3_sinceBehind_4 rfl (lv_at hl 1 rfl) ?_
  obtain ⟨r1, hc1, hF⟩ := lm_bd hF
  refine lm_run0 B hN (lm_hrN B hN hl.1 (lm_cut0 B hN) (n := 2) (host := RX8) (As := [.int (s0.1 1), .int x1]) (rest := []) (hX8_isIn l G hc1) gX3_sinceBehind_X8_isIn_n64 rfl (by decide +kernel) (by decide +kernel) (by decide +kernel) (by decide +kernel) rfl (by decide) (by decide) rfl (Nat.le_of_ble_eq_true rfl) dX3_sinceBehind_5) (fun H locs hN => ?_)
  refine lv_if_eq (tgt := 20) hx hb dX3_sinceBehind_8 (by decide) (fun c2 => ?_) (fun c2 => ?_)
  · have hF := lm_itp c2 hF
    refine lv_bipush (v := 20) hx hb dX3_sinceBehind_20 (by decide) ?_
    refine lv_aload_n hx hb dX3_sinceBehind_22 rfl (lv_at hl 0 rfl) ?_
    refine lm_get B hN (ci := 3) hiX3 0 rfl rfl 3 (by decide) (by decide +kernel) (v := .ref (q0 4)) rfl dX3_sinceBehind_23 ?_
    refine lv_iload_n hx hb dX3_sinceBehind_26 rfl (lv_at hl 1 rfl) ?_
    obtain ⟨z3, hF⟩ := lm_gIe hF
    refine lm_ald B hN 4 (f := (s0.2.1 3)) rfl z3 dX3_sinceBehind_27 ?_
    refine lv_iload_n hx hb dX3_sinceBehind_28 rfl (lv_at hl 2 rfl) ?_
    refine lv_iadd hx hb dX3_sinceBehind_29 ?_
    refine lm_mmin B hl.1 (by decide +kernel) (by decide +kernel) (by decide +kernel) (by decide +kernel) (by decide) (Nat.le_of_ble_eq_true rfl) dX3_sinceBehind_30 ?_
    cases hF
    exact lm_iret B hN dX3_sinceBehind_33
  · have hF := lm_itn c2 hF
    refine lv_aload_n hx hb dX3_sinceBehind_11 rfl (lv_at hl 0 rfl) ?_
    refine lm_get B hN (ci := 3) hiX3 0 rfl rfl 3 (by decide) (by decide +kernel) (v := .ref (q0 4)) rfl dX3_sinceBehind_12 ?_
    refine lv_iload_n hx hb dX3_sinceBehind_15 rfl (lv_at hl 1 rfl) ?_
    obtain ⟨z4, hF⟩ := lm_gIe hF
    refine lm_ald B hN 4 (f := (s0.2.1 3)) rfl z4 dX3_sinceBehind_16 ?_
    refine lv_goto (tgt := 33) hx hb dX3_sinceBehind_17 (by decide) ?_
    cases hF
    exact lm_iret B hN dX3_sinceBehind_33
def jX3_worthOf_31 (k4 : Int32 × Int32 × Int32 × lm_St → Option (Int32 × lm_St)) (x1_31 : Int32) (x3_31 : Int32) (y0_31 : Int32) (y1_31 : Int32) (s0_31 : lm_St) : Option (Int32 × lm_St) := k4 (x1_31, (y1_31 + y0_31), (x3_31 + 1), s0_31)
def bX3_worthOf_4 (k4 : Int32 × Int32 × Int32 × lm_St → Option (Int32 × lm_St)) (x1_4 : Int32) (x2_4 : Int32) (x3_4 : Int32) (s0_4 : lm_St) : Option (Int32 × lm_St) := if (s0_4.1 0) ≤ x3_4 then (some (x2_4, s0_4)) else ((fX8_isIn x1_4 x3_4).bind (fun r2 => if r2 = 0 then (jX3_worthOf_31 k4 x1_4 x3_4 (0 : Int32) x2_4 s0_4) else (lm_gI x3_4 7 (jX3_worthOf_31 k4 x1_4 x3_4 ((s0_4.2.1 1) x3_4.toNatClampNeg) x2_4 s0_4))))
def fX3_worthOf (s0 : lm_St) (x1 : Int32) : Option (Int32 × lm_St) := lm_lp (fun k a => bX3_worthOf_4 k a.1 a.2.1 a.2.2.1 a.2.2.2) 5000 (x1, (0 : Int32), (0 : Int32), s0)
set_option maxHeartbeats 4000000 in
set_option maxRecDepth 100000 in
theorem hX3_worthOf (l : Launch) (G : lm_G) (q0 : Nat → Nat) {s0 : lm_St} {x1 : Int32} {R : Int32 × lm_St} (hF : fX3_worthOf s0 x1 = some R) : lm_C l G yX3_worthOf wsX3_worthOf 2 [.ref (q0 0), .int x1] (wX3 G q0 s0) (some (.int R.1)) (wX3 G q0 R.2) := by
  refine lm_C.of (cc := cX3_worthOf) (maxL := 4) (ret := (some .int)) (by decide) rfl (Nat.le_of_ble_eq_true rfl) ?_
  intro p e s m below meth c A ls B hN hl
  have hx := B.1.1
  have hb := B.1.2.1
  have hown := B.1.2.2.2.1
  have hts := B.1.2.2.2.2
  have hiX3 : ∀ w ∈ wsX30, w ∈ wsX3_worthOf := by decide +kernel
  have hl : lv_has ls 4 [(0, .ref (q0 0)), (1, .int x1)] := hl
  have L4 : ∀ (n : Nat) (x1_4 : Int32) (x2_4 : Int32) (x3_4 : Int32) (s0_4 : lm_St) (H : Heap) (locs : List Loc) (ls : Array Slot), lm_lp (fun k a => bX3_worthOf_4 k a.1 a.2.1 a.2.2.1 a.2.2.2) n (x1_4, x2_4, x3_4, s0_4) = some R → lm_N G A s (wX3 G q0 s0_4) H locs → lv_has ls 4 [(0, .ref (q0 0)), (1, .int x1_4), (2, .int x2_4), (3, .int x3_4)] → W p l e (lm_rk 2) s m ([.ref (q0 0), .int x1] : List Value).toArray below meth c H locs 0 0 (MQ below (lm_post G (wX3 G q0 R.2) (some (.int R.1)) A) ([.ref (q0 0), .int x1] : List Value).toArray s 0 0 A) (F0 m 4 ls []) := by
    intro n
    induction n with
    | zero => intro x1_4 x2_4 x3_4 s0_4 H locs ls hF; exact (lm_lpz hF).elim
    | succ n ih4 =>
      intro x1_4 x2_4 x3_4 s0_4 H locs ls hF hN hl
      have hF : bX3_worthOf_4 (lm_lp (fun k a => bX3_worthOf_4 k a.1 a.2.1 a.2.2.1 a.2.2.2) n) x1_4 x2_4 x3_4 s0_4 = some R := lm_lps hF
      generalize lm_lp (fun k a => bX3_worthOf_4 k a.1 a.2.1 a.2.2.1 a.2.2.2) n = k4 at hF ih4
      have J31 : ∀ (x1_31 : Int32) (x3_31 : Int32) (y0_31 : Int32) (y1_31 : Int32) (s0_31 : lm_St) (H : Heap) (locs : List Loc) (ls : Array Slot), jX3_worthOf_31 k4 x1_31 x3_31 y0_31 y1_31 s0_31 = some R → lm_N G A s (wX3 G q0 s0_31) H locs → lv_has ls 4 [(0, .ref (q0 0)), (1, .int x1_31), (3, .int x3_31)] → W p l e (lm_rk 2) s m ([.ref (q0 0), .int x1] : List Value).toArray below meth c H locs 0 0 (MQ below (lm_post G (wX3 G q0 R.2) (some (.int R.1)) A) ([.ref (q0 0), .int x1] : List Value).toArray s 0 0 A) (F0 m 31 ls [.int y0_31, .int y1_31]) := by
        intro x1_31 x3_31 y0_31 y1_31 s0_31 H locs ls hF hN hl
        refine lv_iadd hx hb dX3_worthOf_31 ?_
        refine lv_istore_n (lv' := [(2, .int (y1_31 + y0_31)), (0, .ref (q0 0)), (1, .int x1_31), (3, .int x3_31)]) hx hb dX3_worthOf_32 rfl hl (by decide) rfl (fun ls hl => ?_)
        refine lv_iinc (v := (x3_31 + 1)) (lv' := [(3, .int (x3_31 + 1)), (2, .int (y1_31 + y0_31)), (0, .ref (q0 0)), (1, .int x1_31)]) hx hb dX3_worthOf_33 hl (k := 3) rfl rfl (by decide) rfl (fun ls hl => ?_)
        refine lv_goto (tgt := 4) hx hb dX3_worthOf_36 (by decide) ?_
        exact ih4 _ _ _ _ _ _ _ hF hN (lv_sub hl [2, 3, 1, 0] rfl)
      refine lv_iload_n hx hb dX3_worthOf_4 rfl (lv_at hl 3 rfl) ?_
      refine lv_aload_n hx hb dX3_worthOf_5 rfl (lv_at hl 0 rfl) ?_
      refine lm_get B hN (ci := 3) hiX3 0 rfl rfl 4 (by decide) (by decide +kernel) (v := .int (s0_4.1 0)) rfl dX3_worthOf_6 ?_
      refine lv_icmp_ge (tgt := 39) hx hb dX3_worthOf_9 (by decide) (fun c1 => ?_) (fun c1 => ?_)
      · have hF := lm_itp c1 hF
        refine lv_iload_n hx hb dX3_worthOf_39 rfl (lv_at hl 2 rfl) ?_
        cases hF
        exact lm_iret B hN dX3_worthOf_40
      · have hF := lm_itn c1 hF
        refine lv_iload_n hx hb dX3_worthOf_12 rfl (lv_at hl 2 rfl) ?_
        refine lv_iload_n hx hb dX3_worthOf_13 rfl (lv_at hl 1 rfl) ?_
        refine lv_iload_n hx hb dX3_worthOf_14 rfl (lv_at hl 3 rfl) ?_
        obtain ⟨r2, hc2, hF⟩ := lm_bd hF
        refine lm_run0 B hN (lm_hrN B hN hl.1 (lm_cut0 B hN) (n := 2) (host := RX8) (As := [.int x1_4, .int x3_4]) (rest := [.int x2_4]) (hX8_isIn l G hc2) gX3_worthOf_X8_isIn_n64 rfl (by decide +kernel) (by decide +kernel) (by decide +kernel) (by decide +kernel) rfl (by decide) (by decide) rfl (Nat.le_of_ble_eq_true rfl) dX3_worthOf_15) (fun H locs hN => ?_)
        refine lv_if_eq (tgt := 30) hx hb dX3_worthOf_18 (by decide) (fun c3 => ?_) (fun c3 => ?_)
        · have hF := lm_itp c3 hF
          refine lv_iconst (v := 0) hx hb dX3_worthOf_30 (by decide) ?_
          exact J31 _ _ _ _ _ _ _ _ hF hN (lv_sub hl [0, 1, 3] rfl)
        · have hF := lm_itn c3 hF
          refine lv_aload_n hx hb dX3_worthOf_21 rfl (lv_at hl 0 rfl) ?_
          refine lm_get B hN (ci := 3) hiX3 0 rfl rfl 1 (by decide) (by decide +kernel) (v := .ref (q0 2)) rfl dX3_worthOf_22 ?_
          refine lv_iload_n hx hb dX3_worthOf_25 rfl (lv_at hl 3 rfl) ?_
          obtain ⟨z4, hF⟩ := lm_gIe hF
          refine lm_ald B hN 2 (f := (s0_4.2.1 1)) rfl z4 dX3_worthOf_26 ?_
          refine lv_goto (tgt := 31) hx hb dX3_worthOf_27 (by decide) ?_
          exact J31 _ _ _ _ _ _ _ _ hF hN (lv_sub hl [0, 1, 3] rfl)
  refine lv_iconst (v := 0) hx hb dX3_worthOf_0 (by decide) ?_
  refine lv_istore_n (lv' := [(2, .int (0 : Int32)), (0, .ref (q0 0)), (1, .int x1)]) hx hb dX3_worthOf_1 rfl hl (by decide) rfl (fun ls hl => ?_)
  refine lv_iconst (v := 0) hx hb dX3_worthOf_2 (by decide) ?_
  refine lv_istore_n (lv' := [(3, .int (0 : Int32)), (2, .int (0 : Int32)), (0, .ref (q0 0)), (1, .int x1)]) hx hb dX3_worthOf_3 rfl hl (by decide) rfl (fun ls hl => ?_)
  exact L4 5000 _ _ _ _ _ _ _ hF hN (lv_sub hl [2, 3, 1, 0] rfl)
def fX3_missedBehind (s0 : lm_St) (x1 : Int32) (x2 : Int32) : Option (Int32 × lm_St) := lm_gI x1 7 (lm_gI x1 7 ((fX3_sinceBehind s0 x1 x2).bind (fun v3 => lm_un2 v3 (fun r3 t3_0 => (fX8_missedBy ((s0.2.1 0) x1.toNatClampNeg) ((s0.2.1 2) x1.toNatClampNeg) r3).bind (fun r4 => some (r4, t3_0))))))
set_option maxHeartbeats 4000000 in
set_option maxRecDepth 100000 in
theorem hX3_missedBehind (l : Launch) (G : lm_G) (q0 : Nat → Nat) {s0 : lm_St} {x1 : Int32} {x2 : Int32} {R : Int32 × lm_St} (hF : fX3_missedBehind s0 x1 x2 = some R) : lm_C l G yX3_missedBehind wsX3_missedBehind 3 [.ref (q0 0), .int x1, .int x2] (wX3 G q0 s0) (some (.int R.1)) (wX3 G q0 R.2) := by
  refine lm_C.of (cc := cX3_missedBehind) (maxL := 3) (ret := (some .int)) (by decide) rfl (Nat.le_of_ble_eq_true rfl) ?_
  intro p e s m below meth c A ls B hN hl
  have hx := B.1.1
  have hb := B.1.2.1
  have hown := B.1.2.2.2.1
  have hts := B.1.2.2.2.2
  have hiX3 : ∀ w ∈ wsX30, w ∈ wsX3_missedBehind := by decide +kernel
  have hl : lv_has ls 3 [(0, .ref (q0 0)), (1, .int x1), (2, .int x2)] := hl
  refine lv_aload_n hx hb dX3_missedBehind_0 rfl (lv_at hl 0 rfl) ?_
  refine lm_get B hN (ci := 3) hiX3 0 rfl rfl 0 (by decide) (by decide +kernel) (v := .ref (q0 1)) rfl dX3_missedBehind_1 ?_
  refine lv_iload_n hx hb dX3_missedBehind_4 rfl (lv_at hl 1 rfl) ?_
  obtain ⟨z1, hF⟩ := lm_gIe hF
  refine lm_ald B hN 1 (f := (s0.2.1 0)) rfl z1 dX3_missedBehind_5 ?_
  refine lv_aload_n hx hb dX3_missedBehind_6 rfl (lv_at hl 0 rfl) ?_
  refine lm_get B hN (ci := 3) hiX3 0 rfl rfl 2 (by decide) (by decide +kernel) (v := .ref (q0 3)) rfl dX3_missedBehind_7 ?_
  refine lv_iload_n hx hb dX3_missedBehind_10 rfl (lv_at hl 1 rfl) ?_
  obtain ⟨z2, hF⟩ := lm_gIe hF
  refine lm_ald B hN 3 (f := (s0.2.1 2)) rfl z2 dX3_missedBehind_11 ?_
  refine lv_aload_n hx hb dX3_missedBehind_12 rfl (lv_at hl 0 rfl) ?_
  refine lv_iload_n hx hb dX3_missedBehind_13 rfl (lv_at hl 1 rfl) ?_
  refine lv_iload_n hx hb dX3_missedBehind_14 rfl (lv_at hl 2 rfl) ?_
  obtain ⟨⟨r3, t3_0⟩, hc3, hF⟩ := lm_bd hF
  have hF := lm_un2E hF
  refine lm_runA B hN (lm_hrV B hN hl.1 (lm_cutA B hN) (n := 2) (As := [.int x1, .int x2]) (rest := [.int ((s0.2.1 2) x1.toNatClampNeg), .int ((s0.2.1 0) x1.toNatClampNeg)]) (hX3_sinceBehind l G q0 hc3) gX3_missedBehind_X3_sinceBehind rfl (by decide +kernel) rfl (by decide) (by decide) (ci := 3) (q0 := 0) rfl rfl rfl (Nat.le_of_ble_eq_true rfl) dX3_missedBehind_15) (fun H locs hN => ?_)
  obtain ⟨r4, hc4, hF⟩ := lm_bd hF
  refine lm_run0 B hN (lm_hrN B hN hl.1 (lm_cut0 B hN) (n := 3) (host := RX8) (As := [.int ((s0.2.1 0) x1.toNatClampNeg), .int ((s0.2.1 2) x1.toNatClampNeg), .int r3]) (rest := []) (hX8_missedBy l G hc4) gX3_missedBehind_X8_missedBy_n68 rfl (by decide +kernel) (by decide +kernel) (by decide +kernel) (by decide +kernel) rfl (by decide) (by decide) rfl (Nat.le_of_ble_eq_true rfl) dX3_missedBehind_18) (fun H locs hN => ?_)
  cases hF
  exact lm_iret B hN dX3_missedBehind_21
def bX3_passDay_12 (k12 : Int32 × lm_St → Option (lm_St)) (x1_12 : Int32) (s0_12 : lm_St) : Option (lm_St) := if (s0_12.1 0) ≤ x1_12 then (some s0_12) else ((fX3_sinceBehind s0_12 x1_12 (1 : Int32)).bind (fun v2 => lm_un2 v2 (fun r2 t2_0 => lm_gI x1_12 7 (k12 ((x1_12 + 1), (lm_sA t2_0 3 (upd (t2_0.2.1 3) x1_12.toNatClampNeg r2)))))))
def fX3_passDay (s0 : lm_St) : Option (lm_St) := lm_lp (fun k a => bX3_passDay_12 k a.1 a.2) 5000 ((0 : Int32), (lm_sF s0 3 ((s0.1 3) + (1 : Int32))))
set_option maxHeartbeats 4000000 in
set_option maxRecDepth 100000 in
theorem hX3_passDay (l : Launch) (G : lm_G) (q0 : Nat → Nat) {s0 : lm_St} {R : lm_St} (hF : fX3_passDay s0 = some R) : lm_C l G yX3_passDay wsX3_passDay 3 [.ref (q0 0)] (wX3 G q0 s0) none (wX3 G q0 R) := by
  refine lm_C.of (cc := cX3_passDay) (maxL := 2) (ret := none) (by decide) rfl (Nat.le_of_ble_eq_true rfl) ?_
  intro p e s m below meth c A ls B hN hl
  have hx := B.1.1
  have hb := B.1.2.1
  have hown := B.1.2.2.2.1
  have hts := B.1.2.2.2.2
  have hiX3 : ∀ w ∈ wsX30, w ∈ wsX3_passDay := by decide +kernel
  have hl : lv_has ls 2 [(0, .ref (q0 0))] := hl
  have L12 : ∀ (n : Nat) (x1_12 : Int32) (s0_12 : lm_St) (H : Heap) (locs : List Loc) (ls : Array Slot), lm_lp (fun k a => bX3_passDay_12 k a.1 a.2) n (x1_12, s0_12) = some R → lm_N G A s (wX3 G q0 s0_12) H locs → lv_has ls 2 [(0, .ref (q0 0)), (1, .int x1_12)] → W p l e (lm_rk 3) s m ([.ref (q0 0)] : List Value).toArray below meth c H locs 0 0 (MQ below (lm_post G (wX3 G q0 R) none A) ([.ref (q0 0)] : List Value).toArray s 0 0 A) (F0 m 12 ls []) := by
    intro n
    induction n with
    | zero => intro x1_12 s0_12 H locs ls hF; exact (lm_lpz hF).elim
    | succ n ih12 =>
      intro x1_12 s0_12 H locs ls hF hN hl
      have hF : bX3_passDay_12 (lm_lp (fun k a => bX3_passDay_12 k a.1 a.2) n) x1_12 s0_12 = some R := lm_lps hF
      generalize lm_lp (fun k a => bX3_passDay_12 k a.1 a.2) n = k12 at hF ih12
      refine lv_iload_n hx hb dX3_passDay_12 rfl (lv_at hl 1 rfl) ?_
      refine lv_aload_n hx hb dX3_passDay_13 rfl (lv_at hl 0 rfl) ?_
      refine lm_get B hN (ci := 3) hiX3 0 rfl rfl 4 (by decide) (by decide +kernel) (v := .int (s0_12.1 0)) rfl dX3_passDay_14 ?_
      refine lv_icmp_ge (tgt := 38) hx hb dX3_passDay_17 (by decide) (fun c1 => ?_) (fun c1 => ?_)
      · have hF := lm_itp c1 hF
        cases hF
        exact lm_vret B hN dX3_passDay_38
      · have hF := lm_itn c1 hF
        refine lv_aload_n hx hb dX3_passDay_20 rfl (lv_at hl 0 rfl) ?_
        refine lm_get B hN (ci := 3) hiX3 0 rfl rfl 3 (by decide) (by decide +kernel) (v := .ref (q0 4)) rfl dX3_passDay_21 ?_
        refine lv_iload_n hx hb dX3_passDay_24 rfl (lv_at hl 1 rfl) ?_
        refine lv_aload_n hx hb dX3_passDay_25 rfl (lv_at hl 0 rfl) ?_
        refine lv_iload_n hx hb dX3_passDay_26 rfl (lv_at hl 1 rfl) ?_
        refine lv_iconst (v := 1) hx hb dX3_passDay_27 (by decide) ?_
        obtain ⟨⟨r2, t2_0⟩, hc2, hF⟩ := lm_bd hF
        have hF := lm_un2E hF
        refine lm_runA B hN (lm_hrV B hN hl.1 (lm_cutA B hN) (n := 2) (As := [.int x1_12, .int (1 : Int32)]) (rest := [.int x1_12, .ref (q0 4)]) (hX3_sinceBehind l G q0 hc2) gX3_passDay_X3_sinceBehind rfl (by decide +kernel) rfl (by decide) (by decide) (ci := 3) (q0 := 0) rfl rfl rfl (Nat.le_of_ble_eq_true rfl) dX3_passDay_28) (fun H locs hN => ?_)
        obtain ⟨z3, hF⟩ := lm_gIe hF
        refine lm_ast B hN 4 (f := (t2_0.2.1 3)) rfl z3 (wX3 G q0 (lm_sA t2_0 3 (upd (t2_0.2.1 3) x1_12.toNatClampNeg r2))) (wX3_r0a3 _ _ _ _) dX3_passDay_31 (fun H locs hN => ?_)
        refine lv_iinc (v := (x1_12 + 1)) (lv' := [(1, .int (x1_12 + 1)), (0, .ref (q0 0))]) hx hb dX3_passDay_32 hl (k := 1) rfl rfl (by decide) rfl (fun ls hl => ?_)
        refine lv_goto (tgt := 12) hx hb dX3_passDay_35 (by decide) ?_
        exact ih12 _ _ _ _ _ hF hN (lv_sub hl [1, 0] rfl)
  refine lv_aload_n hx hb dX3_passDay_0 rfl (lv_at hl 0 rfl) ?_
  refine lv_dup hx hb dX3_passDay_1 rfl ?_
  refine lm_get B hN (ci := 3) hiX3 0 rfl rfl 7 (by decide) (by decide +kernel) (v := .int (s0.1 3)) rfl dX3_passDay_2 ?_
  refine lv_iconst (v := 1) hx hb dX3_passDay_5 (by decide) ?_
  refine lv_iadd hx hb dX3_passDay_6 ?_
  refine lm_put B hN (ci := 3) hiX3 tyX3 tyX3_ok nmX3 0 rfl rfl 7 (by decide) (by decide +kernel) (by decide) (v := .int ((s0.1 3) + (1 : Int32))) rfl rfl (Nat.le_of_ble_eq_true rfl) (wX3 G q0 (lm_sF s0 3 ((s0.1 3) + (1 : Int32)))) (wX3_r0f3 _ _ _ _) dX3_passDay_7 (fun H locs hN => ?_)
  refine lv_iconst (v := 0) hx hb dX3_passDay_10 (by decide) ?_
  refine lv_istore_n (lv' := [(1, .int (0 : Int32)), (0, .ref (q0 0))]) hx hb dX3_passDay_11 rfl hl (by decide) rfl (fun ls hl => ?_)
  exact L12 5000 _ _ _ _ _ hF hN (lv_sub hl [1, 0] rfl)
def jX3_missedOf_35 (k5 : Int32 × Int32 × Int32 × Int32 × lm_St → Option (Int32 × lm_St)) (x1_35 : Int32) (x2_35 : Int32) (x4_35 : Int32) (y0_35 : Int32) (y1_35 : Int32) (s0_35 : lm_St) : Option (Int32 × lm_St) := k5 (x1_35, x2_35, (y1_35 + y0_35), (x4_35 + 1), s0_35)
def bX3_missedOf_5 (k5 : Int32 × Int32 × Int32 × Int32 × lm_St → Option (Int32 × lm_St)) (x1_5 : Int32) (x2_5 : Int32) (x3_5 : Int32) (x4_5 : Int32) (s0_5 : lm_St) : Option (Int32 × lm_St) := if (s0_5.1 0) ≤ x4_5 then (some (x3_5, s0_5)) else ((fX8_isIn x1_5 x4_5).bind (fun r2 => if r2 = 0 then (jX3_missedOf_35 k5 x1_5 x2_5 x4_5 (0 : Int32) x3_5 s0_5) else ((fX3_missedBehind s0_5 x4_5 x2_5).bind (fun v4 => lm_un2 v4 (fun r4 t4_0 => jX3_missedOf_35 k5 x1_5 x2_5 x4_5 r4 x3_5 t4_0)))))
def fX3_missedOf (s0 : lm_St) (x1 : Int32) (x2 : Int32) : Option (Int32 × lm_St) := lm_lp (fun k a => bX3_missedOf_5 k a.1 a.2.1 a.2.2.1 a.2.2.2.1 a.2.2.2.2) 5000 (x1, x2, (0 : Int32), (0 : Int32), s0)
set_option maxHeartbeats 4000000 in
set_option maxRecDepth 100000 in
theorem hX3_missedOf (l : Launch) (G : lm_G) (q0 : Nat → Nat) {s0 : lm_St} {x1 : Int32} {x2 : Int32} {R : Int32 × lm_St} (hF : fX3_missedOf s0 x1 x2 = some R) : lm_C l G yX3_missedOf wsX3_missedOf 4 [.ref (q0 0), .int x1, .int x2] (wX3 G q0 s0) (some (.int R.1)) (wX3 G q0 R.2) := by
  refine lm_C.of (cc := cX3_missedOf) (maxL := 5) (ret := (some .int)) (by decide) rfl (Nat.le_of_ble_eq_true rfl) ?_
  intro p e s m below meth c A ls B hN hl
  have hx := B.1.1
  have hb := B.1.2.1
  have hown := B.1.2.2.2.1
  have hts := B.1.2.2.2.2
  have hiX3 : ∀ w ∈ wsX30, w ∈ wsX3_missedOf := by decide +kernel
  have hl : lv_has ls 5 [(0, .ref (q0 0)), (1, .int x1), (2, .int x2)] := hl
  have L5 : ∀ (n : Nat) (x1_5 : Int32) (x2_5 : Int32) (x3_5 : Int32) (x4_5 : Int32) (s0_5 : lm_St) (H : Heap) (locs : List Loc) (ls : Array Slot), lm_lp (fun k a => bX3_missedOf_5 k a.1 a.2.1 a.2.2.1 a.2.2.2.1 a.2.2.2.2) n (x1_5, x2_5, x3_5, x4_5, s0_5) = some R → lm_N G A s (wX3 G q0 s0_5) H locs → lv_has ls 5 [(0, .ref (q0 0)), (1, .int x1_5), (2, .int x2_5), (3, .int x3_5), (4, .int x4_5)] → W p l e (lm_rk 4) s m ([.ref (q0 0), .int x1, .int x2] : List Value).toArray below meth c H locs 0 0 (MQ below (lm_post G (wX3 G q0 R.2) (some (.int R.1)) A) ([.ref (q0 0), .int x1, .int x2] : List Value).toArray s 0 0 A) (F0 m 5 ls []) := by
    intro n
    induction n with
    | zero => intro x1_5 x2_5 x3_5 x4_5 s0_5 H locs ls hF; exact (lm_lpz hF).elim
    | succ n ih5 =>
      intro x1_5 x2_5 x3_5 x4_5 s0_5 H locs ls hF hN hl
      have hF : bX3_missedOf_5 (lm_lp (fun k a => bX3_missedOf_5 k a.1 a.2.1 a.2.2.1 a.2.2.2.1 a.2.2.2.2) n) x1_5 x2_5 x3_5 x4_5 s0_5 = some R := lm_lps hF
      generalize lm_lp (fun k a => bX3_missedOf_5 k a.1 a.2.1 a.2.2.1 a.2.2.2.1 a.2.2.2.2) n = k5 at hF ih5
      have J35 : ∀ (x1_35 : Int32) (x2_35 : Int32) (x4_35 : Int32) (y0_35 : Int32) (y1_35 : Int32) (s0_35 : lm_St) (H : Heap) (locs : List Loc) (ls : Array Slot), jX3_missedOf_35 k5 x1_35 x2_35 x4_35 y0_35 y1_35 s0_35 = some R → lm_N G A s (wX3 G q0 s0_35) H locs → lv_has ls 5 [(0, .ref (q0 0)), (1, .int x1_35), (2, .int x2_35), (4, .int x4_35)] → W p l e (lm_rk 4) s m ([.ref (q0 0), .int x1, .int x2] : List Value).toArray below meth c H locs 0 0 (MQ below (lm_post G (wX3 G q0 R.2) (some (.int R.1)) A) ([.ref (q0 0), .int x1, .int x2] : List Value).toArray s 0 0 A) (F0 m 35 ls [.int y0_35, .int y1_35]) := by
        intro x1_35 x2_35 x4_35 y0_35 y1_35 s0_35 H locs ls hF hN hl
        refine lv_iadd hx hb dX3_missedOf_35 ?_
        refine lv_istore_n (lv' := [(3, .int (y1_35 + y0_35)), (0, .ref (q0 0)), (1, .int x1_35), (2, .int x2_35), (4, .int x4_35)]) hx hb dX3_missedOf_36 rfl hl (by decide) rfl (fun ls hl => ?_)
        refine lv_iinc (v := (x4_35 + 1)) (lv' := [(4, .int (x4_35 + 1)), (3, .int (y1_35 + y0_35)), (0, .ref (q0 0)), (1, .int x1_35), (2, .int x2_35)]) hx hb dX3_missedOf_37 hl (k := 4) rfl rfl (by decide) rfl (fun ls hl => ?_)
        refine lv_goto (tgt := 5) hx hb dX3_missedOf_40 (by decide) ?_
        exact ih5 _ _ _ _ _ _ _ _ hF hN (lv_sub hl [2, 3, 4, 1, 0] rfl)
      refine lv_iload hx hb dX3_missedOf_5 (lv_at hl 4 rfl) ?_
      refine lv_aload_n hx hb dX3_missedOf_7 rfl (lv_at hl 0 rfl) ?_
      refine lm_get B hN (ci := 3) hiX3 0 rfl rfl 4 (by decide) (by decide +kernel) (v := .int (s0_5.1 0)) rfl dX3_missedOf_8 ?_
      refine lv_icmp_ge (tgt := 43) hx hb dX3_missedOf_11 (by decide) (fun c1 => ?_) (fun c1 => ?_)
      · have hF := lm_itp c1 hF
        refine lv_iload_n hx hb dX3_missedOf_43 rfl (lv_at hl 3 rfl) ?_
        cases hF
        exact lm_iret B hN dX3_missedOf_44
      · have hF := lm_itn c1 hF
        refine lv_iload_n hx hb dX3_missedOf_14 rfl (lv_at hl 3 rfl) ?_
        refine lv_iload_n hx hb dX3_missedOf_15 rfl (lv_at hl 1 rfl) ?_
        refine lv_iload hx hb dX3_missedOf_16 (lv_at hl 4 rfl) ?_
        obtain ⟨r2, hc2, hF⟩ := lm_bd hF
        refine lm_run0 B hN (lm_hrN B hN hl.1 (lm_cut0 B hN) (n := 2) (host := RX8) (As := [.int x1_5, .int x4_5]) (rest := [.int x3_5]) (hX8_isIn l G hc2) gX3_missedOf_X8_isIn_n64 rfl (by decide +kernel) (by decide +kernel) (by decide +kernel) (by decide +kernel) rfl (by decide) (by decide) rfl (Nat.le_of_ble_eq_true rfl) dX3_missedOf_18) (fun H locs hN => ?_)
        refine lv_if_eq (tgt := 34) hx hb dX3_missedOf_21 (by decide) (fun c3 => ?_) (fun c3 => ?_)
        · have hF := lm_itp c3 hF
          refine lv_iconst (v := 0) hx hb dX3_missedOf_34 (by decide) ?_
          exact J35 _ _ _ _ _ _ _ _ _ hF hN (lv_sub hl [0, 1, 2, 4] rfl)
        · have hF := lm_itn c3 hF
          refine lv_aload_n hx hb dX3_missedOf_24 rfl (lv_at hl 0 rfl) ?_
          refine lv_iload hx hb dX3_missedOf_25 (lv_at hl 4 rfl) ?_
          refine lv_iload_n hx hb dX3_missedOf_27 rfl (lv_at hl 2 rfl) ?_
          obtain ⟨⟨r4, t4_0⟩, hc4, hF⟩ := lm_bd hF
          have hF := lm_un2E hF
          refine lm_runA B hN (lm_hrV B hN hl.1 (lm_cutA B hN) (n := 2) (As := [.int x4_5, .int x2_5]) (rest := [.int x3_5]) (hX3_missedBehind l G q0 hc4) gX3_missedOf_X3_missedBehind rfl (by decide +kernel) rfl (by decide) (by decide) (ci := 3) (q0 := 0) rfl rfl rfl (Nat.le_of_ble_eq_true rfl) dX3_missedOf_28) (fun H locs hN => ?_)
          refine lv_goto (tgt := 35) hx hb dX3_missedOf_31 (by decide) ?_
          exact J35 _ _ _ _ _ _ _ _ _ hF hN (lv_sub hl [0, 1, 2, 4] rfl)
  refine lv_iconst (v := 0) hx hb dX3_missedOf_0 (by decide) ?_
  refine lv_istore_n (lv' := [(3, .int (0 : Int32)), (0, .ref (q0 0)), (1, .int x1), (2, .int x2)]) hx hb dX3_missedOf_1 rfl hl (by decide) rfl (fun ls hl => ?_)
  refine lv_iconst (v := 0) hx hb dX3_missedOf_2 (by decide) ?_
  refine lv_istore (lv' := [(4, .int (0 : Int32)), (3, .int (0 : Int32)), (0, .ref (q0 0)), (1, .int x1), (2, .int x2)]) hx hb dX3_missedOf_3 hl (by decide) rfl (fun ls hl => ?_)
  exact L5 5000 _ _ _ _ _ _ _ _ hF hN (lv_sub hl [2, 3, 4, 1, 0] rfl)
def jX3_wouldTake_66 (k16 : Int32 × Int32 × Int32 × Int32 × lm_St → Option (Int32 × lm_St)) (x1_66 : Int32) (x2_66 : Int32) (x3_66 : Int32) (x4_66 : Int32) (s0_66 : lm_St) : Option (Int32 × lm_St) := k16 (x1_66, x2_66, x3_66, (x4_66 + 1), s0_66)
def jX3_wouldTake_60 (k16 : Int32 × Int32 × Int32 × Int32 × lm_St → Option (Int32 × lm_St)) (x1_60 : Int32) (x4_60 : Int32) (x5_60 : Int32) (s0_60 : lm_St) : Option (Int32 × lm_St) := jX3_wouldTake_66 k16 x1_60 x4_60 x5_60 x4_60 s0_60
def bX3_wouldTake_16 (k16 : Int32 × Int32 × Int32 × Int32 × lm_St → Option (Int32 × lm_St)) (x1_16 : Int32) (x2_16 : Int32) (x3_16 : Int32) (x4_16 : Int32) (s0_16 : lm_St) : Option (Int32 × lm_St) := if (s0_16.1 0) ≤ x4_16 then (some (x2_16, s0_16)) else ((fX8_isIn (s0_16.1 1) x4_16).bind (fun r2 => if r2 = 0 then ((fX3_missedBehind s0_16 x4_16 x1_16).bind (fun v4 => lm_un2 v4 (fun r4 t4_0 => if x2_16 = (-1 : Int32) then (jX3_wouldTake_60 k16 x1_16 x4_16 r4 t4_0) else (if x3_16 ≤ r4 then (jX3_wouldTake_66 k16 x1_16 x2_16 x3_16 x4_16 t4_0) else (jX3_wouldTake_60 k16 x1_16 x4_16 r4 t4_0))))) else (jX3_wouldTake_66 k16 x1_16 x2_16 x3_16 x4_16 s0_16)))
def fX3_wouldTake (s0 : lm_St) (x1 : Int32) : Option (Int32 × lm_St) := if 0 < (s0.1 2) then (lm_lp (fun k a => bX3_wouldTake_16 k a.1 a.2.1 a.2.2.1 a.2.2.2.1 a.2.2.2.2) 5000 (x1, (-1 : Int32), (0 : Int32), (0 : Int32), s0)) else (some ((-1 : Int32), s0))
set_option maxHeartbeats 4000000 in
set_option maxRecDepth 100000 in
theorem hX3_wouldTake (l : Launch) (G : lm_G) (q0 : Nat → Nat) {s0 : lm_St} {x1 : Int32} {R : Int32 × lm_St} (hF : fX3_wouldTake s0 x1 = some R) : lm_C l G yX3_wouldTake wsX3_wouldTake 4 [.ref (q0 0), .int x1] (wX3 G q0 s0) (some (.int R.1)) (wX3 G q0 R.2) := by
  refine lm_C.of (cc := cX3_wouldTake) (maxL := 6) (ret := (some .int)) (by decide) rfl (Nat.le_of_ble_eq_true rfl) ?_
  intro p e s m below meth c A ls B hN hl
  have hx := B.1.1
  have hb := B.1.2.1
  have hown := B.1.2.2.2.1
  have hts := B.1.2.2.2.2
  have hiX3 : ∀ w ∈ wsX30, w ∈ wsX3_wouldTake := by decide +kernel
  have hl : lv_has ls 6 [(0, .ref (q0 0)), (1, .int x1)] := hl
  have L16 : ∀ (n : Nat) (x1_16 : Int32) (x2_16 : Int32) (x3_16 : Int32) (x4_16 : Int32) (s0_16 : lm_St) (H : Heap) (locs : List Loc) (ls : Array Slot), lm_lp (fun k a => bX3_wouldTake_16 k a.1 a.2.1 a.2.2.1 a.2.2.2.1 a.2.2.2.2) n (x1_16, x2_16, x3_16, x4_16, s0_16) = some R → lm_N G A s (wX3 G q0 s0_16) H locs → lv_has ls 6 [(0, .ref (q0 0)), (1, .int x1_16), (2, .int x2_16), (3, .int x3_16), (4, .int x4_16)] → W p l e (lm_rk 4) s m ([.ref (q0 0), .int x1] : List Value).toArray below meth c H locs 0 0 (MQ below (lm_post G (wX3 G q0 R.2) (some (.int R.1)) A) ([.ref (q0 0), .int x1] : List Value).toArray s 0 0 A) (F0 m 16 ls []) := by
    intro n
    induction n with
    | zero => intro x1_16 x2_16 x3_16 x4_16 s0_16 H locs ls hF; exact (lm_lpz hF).elim
    | succ n ih16 =>
      intro x1_16 x2_16 x3_16 x4_16 s0_16 H locs ls hF hN hl
      have hF : bX3_wouldTake_16 (lm_lp (fun k a => bX3_wouldTake_16 k a.1 a.2.1 a.2.2.1 a.2.2.2.1 a.2.2.2.2) n) x1_16 x2_16 x3_16 x4_16 s0_16 = some R := lm_lps hF
      generalize lm_lp (fun k a => bX3_wouldTake_16 k a.1 a.2.1 a.2.2.1 a.2.2.2.1 a.2.2.2.2) n = k16 at hF ih16
      have J66 : ∀ (x1_66 : Int32) (x2_66 : Int32) (x3_66 : Int32) (x4_66 : Int32) (s0_66 : lm_St) (H : Heap) (locs : List Loc) (ls : Array Slot), jX3_wouldTake_66 k16 x1_66 x2_66 x3_66 x4_66 s0_66 = some R → lm_N G A s (wX3 G q0 s0_66) H locs → lv_has ls 6 [(0, .ref (q0 0)), (1, .int x1_66), (2, .int x2_66), (3, .int x3_66), (4, .int x4_66)] → W p l e (lm_rk 4) s m ([.ref (q0 0), .int x1] : List Value).toArray below meth c H locs 0 0 (MQ below (lm_post G (wX3 G q0 R.2) (some (.int R.1)) A) ([.ref (q0 0), .int x1] : List Value).toArray s 0 0 A) (F0 m 66 ls []) := by
        intro x1_66 x2_66 x3_66 x4_66 s0_66 H locs ls hF hN hl
        refine lv_iinc (v := (x4_66 + 1)) (lv' := [(4, .int (x4_66 + 1)), (0, .ref (q0 0)), (1, .int x1_66), (2, .int x2_66), (3, .int x3_66)]) hx hb dX3_wouldTake_66 hl (k := 4) rfl rfl (by decide) rfl (fun ls hl => ?_)
        refine lv_goto (tgt := 16) hx hb dX3_wouldTake_69 (by decide) ?_
        exact ih16 _ _ _ _ _ _ _ _ hF hN (lv_sub hl [1, 2, 3, 4, 0] rfl)
      have J60 : ∀ (x1_60 : Int32) (x4_60 : Int32) (x5_60 : Int32) (s0_60 : lm_St) (H : Heap) (locs : List Loc) (ls : Array Slot), jX3_wouldTake_60 k16 x1_60 x4_60 x5_60 s0_60 = some R → lm_N G A s (wX3 G q0 s0_60) H locs → lv_has ls 6 [(0, .ref (q0 0)), (1, .int x1_60), (4, .int x4_60), (5, .int x5_60)] → W p l e (lm_rk 4) s m ([.ref (q0 0), .int x1] : List Value).toArray below meth c H locs 0 0 (MQ below (lm_post G (wX3 G q0 R.2) (some (.int R.1)) A) ([.ref (q0 0), .int x1] : List Value).toArray s 0 0 A) (F0 m 60 ls []) := by
        intro x1_60 x4_60 x5_60 s0_60 H locs ls hF hN hl
        refine lv_iload hx hb dX3_wouldTake_60 (lv_at hl 2 rfl) ?_
        refine lv_istore_n (lv' := [(2, .int x4_60), (0, .ref (q0 0)), (1, .int x1_60), (4, .int x4_60), (5, .int x5_60)]) hx hb dX3_wouldTake_62 rfl hl (by decide) rfl (fun ls hl => ?_)
        refine lv_iload hx hb dX3_wouldTake_63 (lv_at hl 4 rfl) ?_
        refine lv_istore_n (lv' := [(3, .int x5_60), (2, .int x4_60), (0, .ref (q0 0)), (1, .int x1_60), (4, .int x4_60), (5, .int x5_60)]) hx hb dX3_wouldTake_65 rfl hl (by decide) rfl (fun ls hl => ?_)
        exact J66 _ _ _ _ _ _ _ _ hF hN (lv_sub hl [2, 3, 1, 0, 4] rfl)
      refine lv_iload hx hb dX3_wouldTake_16 (lv_at hl 4 rfl) ?_
      refine lv_aload_n hx hb dX3_wouldTake_18 rfl (lv_at hl 0 rfl) ?_
      refine lm_get B hN (ci := 3) hiX3 0 rfl rfl 4 (by decide) (by decide +kernel) (v := .int (s0_16.1 0)) rfl dX3_wouldTake_19 ?_
      refine lv_icmp_ge (tgt := 72) hx hb dX3_wouldTake_22 (by decide) (fun c1 => ?_) (fun c1 => ?_)
      · have hF := lm_itp c1 hF
        refine lv_iload_n hx hb dX3_wouldTake_72 rfl (lv_at hl 2 rfl) ?_
        cases hF
        exact lm_iret B hN dX3_wouldTake_73
      · have hF := lm_itn c1 hF
        refine lv_aload_n hx hb dX3_wouldTake_25 rfl (lv_at hl 0 rfl) ?_
        refine lm_get B hN (ci := 3) hiX3 0 rfl rfl 5 (by decide) (by decide +kernel) (v := .int (s0_16.1 1)) rfl dX3_wouldTake_26 ?_
        refine lv_iload hx hb dX3_wouldTake_29 (lv_at hl 4 rfl) ?_
        obtain ⟨r2, hc2, hF⟩ := lm_bd hF
        refine lm_run0 B hN (lm_hrN B hN hl.1 (lm_cut0 B hN) (n := 2) (host := RX8) (As := [.int (s0_16.1 1), .int x4_16]) (rest := []) (hX8_isIn l G hc2) gX3_wouldTake_X8_isIn_n64 rfl (by decide +kernel) (by decide +kernel) (by decide +kernel) (by decide +kernel) rfl (by decide) (by decide) rfl (Nat.le_of_ble_eq_true rfl) dX3_wouldTake_31) (fun H locs hN => ?_)
        refine lv_if_eq (tgt := 40) hx hb dX3_wouldTake_34 (by decide) (fun c3 => ?_) (fun c3 => ?_)
        · have hF := lm_itp c3 hF
          refine lv_aload_n hx hb dX3_wouldTake_40 rfl (lv_at hl 0 rfl) ?_
          refine lv_iload hx hb dX3_wouldTake_41 (lv_at hl 4 rfl) ?_
          refine lv_iload_n hx hb dX3_wouldTake_43 rfl (lv_at hl 1 rfl) ?_
          obtain ⟨⟨r4, t4_0⟩, hc4, hF⟩ := lm_bd hF
          have hF := lm_un2E hF
          refine lm_runA B hN (lm_hrV B hN hl.1 (lm_cutA B hN) (n := 2) (As := [.int x4_16, .int x1_16]) (rest := []) (hX3_missedBehind l G q0 hc4) gX3_wouldTake_X3_missedBehind rfl (by decide +kernel) rfl (by decide) (by decide) (ci := 3) (q0 := 0) rfl rfl rfl (Nat.le_of_ble_eq_true rfl) dX3_wouldTake_44) (fun H locs hN => ?_)
          refine lv_istore (lv' := [(5, .int r4), (0, .ref (q0 0)), (1, .int x1_16), (2, .int x2_16), (3, .int x3_16), (4, .int x4_16)]) hx hb dX3_wouldTake_47 hl (by decide) rfl (fun ls hl => ?_)
          refine lv_iload_n hx hb dX3_wouldTake_49 rfl (lv_at hl 3 rfl) ?_
          refine lv_iconst (v := -1) hx hb dX3_wouldTake_50 (by decide) ?_
          refine lv_icmp_eq (tgt := 60) hx hb dX3_wouldTake_51 (by decide) (fun c5 => ?_) (fun c5 => ?_)
          · have hF := lm_itp c5 hF
            exact J60 _ _ _ _ _ _ _ hF hN (lv_sub hl [1, 2, 5, 0] rfl)
          · have hF := lm_itn c5 hF
            refine lv_iload hx hb dX3_wouldTake_54 (lv_at hl 0 rfl) ?_
            refine lv_iload_n hx hb dX3_wouldTake_56 rfl (lv_at hl 4 rfl) ?_
            refine lv_icmp_ge (tgt := 66) hx hb dX3_wouldTake_57 (by decide) (fun c6 => ?_) (fun c6 => ?_)
            · have hF := lm_itp c6 hF
              exact J66 _ _ _ _ _ _ _ _ hF hN (lv_sub hl [1, 2, 3, 4, 5] rfl)
            · have hF := lm_itn c6 hF
              exact J60 _ _ _ _ _ _ _ hF hN (lv_sub hl [1, 2, 5, 0] rfl)
        · have hF := lm_itn c3 hF
          refine lv_goto (tgt := 66) hx hb dX3_wouldTake_37 (by decide) ?_
          exact J66 _ _ _ _ _ _ _ _ hF hN (lv_sub hl [0, 1, 2, 3, 4] rfl)
  refine lv_aload_n hx hb dX3_wouldTake_0 rfl (lv_at hl 0 rfl) ?_
  refine lm_get B hN (ci := 3) hiX3 0 rfl rfl 6 (by decide) (by decide +kernel) (v := .int (s0.1 2)) rfl dX3_wouldTake_1 ?_
  refine lv_if_gt (tgt := 9) hx hb dX3_wouldTake_4 (by decide) (fun c7 => ?_) (fun c7 => ?_)
  · have hF := lm_itp c7 hF
    refine lv_iconst (v := -1) hx hb dX3_wouldTake_9 (by decide) ?_
    refine lv_istore_n (lv' := [(2, .int (-1 : Int32)), (0, .ref (q0 0)), (1, .int x1)]) hx hb dX3_wouldTake_10 rfl hl (by decide) rfl (fun ls hl => ?_)
    refine lv_iconst (v := 0) hx hb dX3_wouldTake_11 (by decide) ?_
    refine lv_istore_n (lv' := [(3, .int (0 : Int32)), (2, .int (-1 : Int32)), (0, .ref (q0 0)), (1, .int x1)]) hx hb dX3_wouldTake_12 rfl hl (by decide) rfl (fun ls hl => ?_)
    refine lv_iconst (v := 0) hx hb dX3_wouldTake_13 (by decide) ?_
    refine lv_istore (lv' := [(4, .int (0 : Int32)), (3, .int (0 : Int32)), (2, .int (-1 : Int32)), (0, .ref (q0 0)), (1, .int x1)]) hx hb dX3_wouldTake_14 hl (by decide) rfl (fun ls hl => ?_)
    exact L16 5000 _ _ _ _ _ _ _ _ hF hN (lv_sub hl [3, 4, 2, 1, 0] rfl)
  · have hF := lm_itn c7 hF
    refine lv_iconst (v := -1) hx hb dX3_wouldTake_7 (by decide) ?_
    cases hF
    exact lm_iret B hN dX3_wouldTake_8
