def fX7_add (s0 : lm_St) (x1 : Int32) (x2 : Int32) (x3 : Int32) : Option (Int32 × lm_St) := if (s0.1 0) < (6 : Int32) then (lm_gI (s0.1 0) 6 (lm_gI (s0.1 0) 6 (lm_gI (s0.1 0) 6 (lm_gB (1 : Int32) (some ((1 : Int32), (lm_sF (lm_sA (lm_sA (lm_sA s0 0 (upd (s0.2.1 0) (s0.1 0).toNatClampNeg x1)) 1 (upd (s0.2.1 1) (s0.1 0).toNatClampNeg x2)) 2 (upd (s0.2.1 2) (s0.1 0).toNatClampNeg x3)) 0 ((s0.1 0) + (1 : Int32))))))))) else (lm_gB (0 : Int32) (some ((0 : Int32), s0)))
set_option maxHeartbeats 4000000 in
set_option maxRecDepth 100000 in
theorem hX7_add (l : Launch) (G : lm_G) (q0 : Nat → Nat) {s0 : lm_St} {x1 : Int32} {x2 : Int32} {x3 : Int32} {R : Int32 × lm_St} (hF : fX7_add s0 x1 x2 x3 = some R) : lm_C l G yX7_add wsX7_add 1 [.ref (q0 0), .int x1, .int x2, .int x3] (wX7 G q0 s0) (some (.int R.1)) (wX7 G q0 R.2) := by
  refine lm_C.of (cc := cX7_add) (maxL := 4) (ret := (some .boolean)) (by decide) rfl (Nat.le_of_ble_eq_true rfl) ?_
  intro p e s m below meth c A ls B hN hl
  have hx := B.1.1
  have hb := B.1.2.1
  have hown := B.1.2.2.2.1
  have hts := B.1.2.2.2.2
  have hiX7 : ∀ w ∈ wsX70, w ∈ wsX7_add := by decide +kernel
  have hl : lv_has ls 4 [(0, .ref (q0 0)), (1, .int x1), (2, .int x2), (3, .int x3)] := hl
  refine lv_aload_n hx hb dX7_add_0 rfl (lv_at hl 0 rfl) ?_
  refine lm_get B hN (ci := 7) hiX7 0 rfl rfl 4 (by decide) (by decide +kernel) (v := .int (s0.1 0)) rfl dX7_add_1 ?_
  refine lv_bipush (v := 6) hx hb dX7_add_4 (by decide) ?_
  refine lv_icmp_lt (tgt := 11) hx hb dX7_add_6 (by decide) (fun c1 => ?_) (fun c1 => ?_)
  · have hF := lm_itp c1 hF
    refine lv_aload_n hx hb dX7_add_11 rfl (lv_at hl 0 rfl) ?_
    refine lm_get B hN (ci := 7) hiX7 0 rfl rfl 0 (by decide) (by decide +kernel) (v := .ref (q0 1)) rfl dX7_add_12 ?_
    refine lv_aload_n hx hb dX7_add_15 rfl (lv_at hl 0 rfl) ?_
    refine lm_get B hN (ci := 7) hiX7 0 rfl rfl 4 (by decide) (by decide +kernel) (v := .int (s0.1 0)) rfl dX7_add_16 ?_
    refine lv_iload_n hx hb dX7_add_19 rfl (lv_at hl 1 rfl) ?_
    obtain ⟨z2, hF⟩ := lm_gIe hF
    refine lm_ast B hN 1 (f := (s0.2.1 0)) rfl z2 (wX7 G q0 (lm_sA s0 0 (upd (s0.2.1 0) (s0.1 0).toNatClampNeg x1))) (wX7_r0a0 _ _ _ _) dX7_add_20 (fun H locs hN => ?_)
    refine lv_aload_n hx hb dX7_add_21 rfl (lv_at hl 0 rfl) ?_
    refine lm_get B hN (ci := 7) hiX7 0 rfl rfl 1 (by decide) (by decide +kernel) (v := .ref (q0 2)) rfl dX7_add_22 ?_
    refine lv_aload_n hx hb dX7_add_25 rfl (lv_at hl 0 rfl) ?_
    refine lm_get B hN (ci := 7) hiX7 0 rfl rfl 4 (by decide) (by decide +kernel) (v := .int (s0.1 0)) rfl dX7_add_26 ?_
    refine lv_iload_n hx hb dX7_add_29 rfl (lv_at hl 2 rfl) ?_
    obtain ⟨z3, hF⟩ := lm_gIe hF
    refine lm_ast B hN 2 (f := (s0.2.1 1)) rfl z3 (wX7 G q0 (lm_sA (lm_sA s0 0 (upd (s0.2.1 0) (s0.1 0).toNatClampNeg x1)) 1 (upd (s0.2.1 1) (s0.1 0).toNatClampNeg x2))) (wX7_r0a1 _ _ _ _) dX7_add_30 (fun H locs hN => ?_)
    refine lv_aload_n hx hb dX7_add_31 rfl (lv_at hl 0 rfl) ?_
    refine lm_get B hN (ci := 7) hiX7 0 rfl rfl 2 (by decide) (by decide +kernel) (v := .ref (q0 3)) rfl dX7_add_32 ?_
    refine lv_aload_n hx hb dX7_add_35 rfl (lv_at hl 0 rfl) ?_
    refine lm_get B hN (ci := 7) hiX7 0 rfl rfl 4 (by decide) (by decide +kernel) (v := .int (s0.1 0)) rfl dX7_add_36 ?_
    refine lv_iload_n hx hb dX7_add_39 rfl (lv_at hl 3 rfl) ?_
    obtain ⟨z4, hF⟩ := lm_gIe hF
    refine lm_ast B hN 3 (f := (s0.2.1 2)) rfl z4 (wX7 G q0 (lm_sA (lm_sA (lm_sA s0 0 (upd (s0.2.1 0) (s0.1 0).toNatClampNeg x1)) 1 (upd (s0.2.1 1) (s0.1 0).toNatClampNeg x2)) 2 (upd (s0.2.1 2) (s0.1 0).toNatClampNeg x3))) (wX7_r0a2 _ _ _ _) dX7_add_40 (fun H locs hN => ?_)
    refine lv_aload_n hx hb dX7_add_41 rfl (lv_at hl 0 rfl) ?_
    refine lv_dup hx hb dX7_add_42 rfl ?_
    refine lm_get B hN (ci := 7) hiX7 0 rfl rfl 4 (by decide) (by decide +kernel) (v := .int (s0.1 0)) rfl dX7_add_43 ?_
    refine lv_iconst (v := 1) hx hb dX7_add_46 (by decide) ?_
    refine lv_iadd hx hb dX7_add_47 ?_
    refine lm_put B hN (ci := 7) hiX7 tyX7 tyX7_ok nmX7 0 rfl rfl 4 (by decide) (by decide +kernel) (by decide) (v := .int ((s0.1 0) + (1 : Int32))) rfl rfl (Nat.le_of_ble_eq_true rfl) (wX7 G q0 (lm_sF (lm_sA (lm_sA (lm_sA s0 0 (upd (s0.2.1 0) (s0.1 0).toNatClampNeg x1)) 1 (upd (s0.2.1 1) (s0.1 0).toNatClampNeg x2)) 2 (upd (s0.2.1 2) (s0.1 0).toNatClampNeg x3)) 0 ((s0.1 0) + (1 : Int32)))) (wX7_r0f0 _ _ _ _) dX7_add_48 (fun H locs hN => ?_)
    refine lv_iconst (v := 1) hx hb dX7_add_51 (by decide) ?_
    obtain ⟨z5, hF⟩ := lm_gBe hF
    cases hF
    exact lm_zret B hN z5 dX7_add_52
  · have hF := lm_itn c1 hF
    refine lv_iconst (v := 0) hx hb dX7_add_9 (by decide) ?_
    obtain ⟨z6, hF⟩ := lm_gBe hF
    cases hF
    exact lm_zret B hN z6 dX7_add_10
def fX7_copyFrom (s0 : lm_St) (s1 : lm_St) : Option (lm_St × lm_St) := lm_gC (6 : Int32) 6 6 (lm_gC (6 : Int32) 6 6 (lm_gC (6 : Int32) 6 6 (some ((lm_sF (lm_sA (lm_sA (lm_sA s0 0 (va_cpy (s1.2.1 0) (s0.2.1 0) 0 0 (6 : Int32).toNatClampNeg)) 1 (va_cpy (s1.2.1 1) (s0.2.1 1) 0 0 (6 : Int32).toNatClampNeg)) 2 (va_cpy (s1.2.1 2) (s0.2.1 2) 0 0 (6 : Int32).toNatClampNeg)) 0 (s1.1 0)), s1))))
set_option maxHeartbeats 4000000 in
set_option maxRecDepth 100000 in
theorem hX7_copyFrom (l : Launch) (G : lm_G) (q0 : Nat → Nat) (q1 : Nat → Nat) {s0 : lm_St} {s1 : lm_St} {R : lm_St × lm_St} (hF : fX7_copyFrom s0 s1 = some R) : lm_C l G yX7_copyFrom wsX7_copyFrom 2 [.ref (q0 0), .ref (q1 0)] (wX7_X7 G q0 q1 s0 s1) none (wX7_X7 G q0 q1 R.1 R.2) := by
  refine lm_C.of (cc := cX7_copyFrom) (maxL := 2) (ret := none) (by decide) rfl (Nat.le_of_ble_eq_true rfl) ?_
  intro p e s m below meth c A ls B hN hl
  have hx := B.1.1
  have hb := B.1.2.1
  have hown := B.1.2.2.2.1
  have hts := B.1.2.2.2.2
  have hiX7 : ∀ w ∈ wsX70, w ∈ wsX7_copyFrom := by decide +kernel
  have hl : lv_has ls 2 [(0, .ref (q0 0)), (1, .ref (q1 0))] := hl
  refine lv_aload_n hx hb dX7_copyFrom_0 rfl (lv_at hl 1 rfl) ?_
  refine lm_get B hN (ci := 7) hiX7 5 rfl rfl 0 (by decide) (by decide +kernel) (v := .ref (q1 1)) rfl dX7_copyFrom_1 ?_
  refine lv_iconst (v := 0) hx hb dX7_copyFrom_4 (by decide) ?_
  refine lv_aload_n hx hb dX7_copyFrom_5 rfl (lv_at hl 0 rfl) ?_
  refine lm_get B hN (ci := 7) hiX7 0 rfl rfl 0 (by decide) (by decide +kernel) (v := .ref (q0 1)) rfl dX7_copyFrom_6 ?_
  refine lv_iconst (v := 0) hx hb dX7_copyFrom_9 (by decide) ?_
  refine lv_bipush (v := 6) hx hb dX7_copyFrom_10 (by decide) ?_
  obtain ⟨z1, hF⟩ := lm_gCe hF
  refine lm_cpy B hN hl.1 (by decide +kernel) (by decide +kernel) (by decide +kernel) (by decide +kernel) 6 1 (f := (s1.2.1 0)) (g := (s0.2.1 0)) rfl rfl z1 (by decide) (by decide) (wX7_X7 G q0 q1 (lm_sA s0 0 (va_cpy (s1.2.1 0) (s0.2.1 0) 0 0 (6 : Int32).toNatClampNeg)) s1) (wX7_X7_r0a0 _ _ _ _ _ _) dX7_copyFrom_12 (fun H locs hN => ?_)
  refine lv_aload_n hx hb dX7_copyFrom_15 rfl (lv_at hl 1 rfl) ?_
  refine lm_get B hN (ci := 7) hiX7 5 rfl rfl 1 (by decide) (by decide +kernel) (v := .ref (q1 2)) rfl dX7_copyFrom_16 ?_
  refine lv_iconst (v := 0) hx hb dX7_copyFrom_19 (by decide) ?_
  refine lv_aload_n hx hb dX7_copyFrom_20 rfl (lv_at hl 0 rfl) ?_
  refine lm_get B hN (ci := 7) hiX7 0 rfl rfl 1 (by decide) (by decide +kernel) (v := .ref (q0 2)) rfl dX7_copyFrom_21 ?_
  refine lv_iconst (v := 0) hx hb dX7_copyFrom_24 (by decide) ?_
  refine lv_bipush (v := 6) hx hb dX7_copyFrom_25 (by decide) ?_
  obtain ⟨z2, hF⟩ := lm_gCe hF
  refine lm_cpy B hN hl.1 (by decide +kernel) (by decide +kernel) (by decide +kernel) (by decide +kernel) 7 2 (f := (s1.2.1 1)) (g := (s0.2.1 1)) rfl rfl z2 (by decide) (by decide) (wX7_X7 G q0 q1 (lm_sA (lm_sA s0 0 (va_cpy (s1.2.1 0) (s0.2.1 0) 0 0 (6 : Int32).toNatClampNeg)) 1 (va_cpy (s1.2.1 1) (s0.2.1 1) 0 0 (6 : Int32).toNatClampNeg)) s1) (wX7_X7_r0a1 _ _ _ _ _ _) dX7_copyFrom_27 (fun H locs hN => ?_)
  refine lv_aload_n hx hb dX7_copyFrom_30 rfl (lv_at hl 1 rfl) ?_
  refine lm_get B hN (ci := 7) hiX7 5 rfl rfl 2 (by decide) (by decide +kernel) (v := .ref (q1 3)) rfl dX7_copyFrom_31 ?_
  refine lv_iconst (v := 0) hx hb dX7_copyFrom_34 (by decide) ?_
  refine lv_aload_n hx hb dX7_copyFrom_35 rfl (lv_at hl 0 rfl) ?_
  refine lm_get B hN (ci := 7) hiX7 0 rfl rfl 2 (by decide) (by decide +kernel) (v := .ref (q0 3)) rfl dX7_copyFrom_36 ?_
  refine lv_iconst (v := 0) hx hb dX7_copyFrom_39 (by decide) ?_
  refine lv_bipush (v := 6) hx hb dX7_copyFrom_40 (by decide) ?_
  obtain ⟨z3, hF⟩ := lm_gCe hF
  refine lm_cpy B hN hl.1 (by decide +kernel) (by decide +kernel) (by decide +kernel) (by decide +kernel) 8 3 (f := (s1.2.1 2)) (g := (s0.2.1 2)) rfl rfl z3 (by decide) (by decide) (wX7_X7 G q0 q1 (lm_sA (lm_sA (lm_sA s0 0 (va_cpy (s1.2.1 0) (s0.2.1 0) 0 0 (6 : Int32).toNatClampNeg)) 1 (va_cpy (s1.2.1 1) (s0.2.1 1) 0 0 (6 : Int32).toNatClampNeg)) 2 (va_cpy (s1.2.1 2) (s0.2.1 2) 0 0 (6 : Int32).toNatClampNeg)) s1) (wX7_X7_r0a2 _ _ _ _ _ _) dX7_copyFrom_42 (fun H locs hN => ?_)
  refine lv_aload_n hx hb dX7_copyFrom_45 rfl (lv_at hl 0 rfl) ?_
  refine lv_aload_n hx hb dX7_copyFrom_46 rfl (lv_at hl 1 rfl) ?_
  refine lm_get B hN (ci := 7) hiX7 5 rfl rfl 4 (by decide) (by decide +kernel) (v := .int (s1.1 0)) rfl dX7_copyFrom_47 ?_
  refine lm_put B hN (ci := 7) hiX7 tyX7 tyX7_ok nmX7 0 rfl rfl 4 (by decide) (by decide +kernel) (by decide) (v := .int (s1.1 0)) rfl rfl (Nat.le_of_ble_eq_true rfl) (wX7_X7 G q0 q1 (lm_sF (lm_sA (lm_sA (lm_sA s0 0 (va_cpy (s1.2.1 0) (s0.2.1 0) 0 0 (6 : Int32).toNatClampNeg)) 1 (va_cpy (s1.2.1 1) (s0.2.1 1) 0 0 (6 : Int32).toNatClampNeg)) 2 (va_cpy (s1.2.1 2) (s0.2.1 2) 0 0 (6 : Int32).toNatClampNeg)) 0 (s1.1 0)) s1) (wX7_X7_r0f0 _ _ _ _ _ _) dX7_copyFrom_50 (fun H locs hN => ?_)
  cases hF
  exact lm_vret B hN dX7_copyFrom_53
def jX7_agrees_57 (k3 : Int32 × Int32 × Int32 × lm_St × lm_St → Option (Int32 × lm_St × lm_St)) (x2_57 : Int32) (x3_57 : Int32) (x4_57 : Int32) (s0_57 : lm_St) (s1_57 : lm_St) : Option (Int32 × lm_St × lm_St) := k3 (x2_57, x3_57, (x4_57 + 1), s0_57, s1_57)
def bX7_agrees_3 (k3 : Int32 × Int32 × Int32 × lm_St × lm_St → Option (Int32 × lm_St × lm_St)) (x2_3 : Int32) (x3_3 : Int32) (x4_3 : Int32) (s0_3 : lm_St) (s1_3 : lm_St) : Option (Int32 × lm_St × lm_St) := if (s0_3.1 0) ≤ x4_3 then (lm_gB (1 : Int32) (some ((1 : Int32), s0_3, s1_3))) else (lm_gI x4_3 6 (if ((s0_3.2.1 0) x4_3.toNatClampNeg) = x2_3 then (lm_gI x2_3 7 (lm_gI x4_3 6 ((fX3_sinceBehind s1_3 x2_3 ((s0_3.2.1 1) x4_3.toNatClampNeg)).bind (fun v7 => lm_un2 v7 (fun r7 t7_0 => (fX8_missedBy ((s1_3.2.1 0) x2_3.toNatClampNeg) x3_3 r7).bind (fun r8 => lm_gI x4_3 6 (if r8 = ((s0_3.2.1 2) x4_3.toNatClampNeg) then (jX7_agrees_57 k3 x2_3 x3_3 x4_3 s0_3 t7_0) else (lm_gB (0 : Int32) (some ((0 : Int32), s0_3, t7_0)))))))))) else (jX7_agrees_57 k3 x2_3 x3_3 x4_3 s0_3 s1_3)))
def fX7_agrees (s0 : lm_St) (s1 : lm_St) (x2 : Int32) (x3 : Int32) : Option (Int32 × lm_St × lm_St) := lm_lp (fun k a => bX7_agrees_3 k a.1 a.2.1 a.2.2.1 a.2.2.2.1 a.2.2.2.2) 5000 (x2, x3, (0 : Int32), s0, s1)
set_option maxHeartbeats 4000000 in
set_option maxRecDepth 100000 in
theorem hX7_agrees (l : Launch) (G : lm_G) (q0 : Nat → Nat) (q1 : Nat → Nat) {s0 : lm_St} {s1 : lm_St} {x2 : Int32} {x3 : Int32} {R : Int32 × lm_St × lm_St} (hF : fX7_agrees s0 s1 x2 x3 = some R) : lm_C l G yX7_agrees wsX7_agrees 3 [.ref (q0 0), .ref (q1 0), .int x2, .int x3] (wX7_X3 G q0 q1 s0 s1) (some (.int R.1)) (wX7_X3 G q0 q1 R.2.1 R.2.2) := by
  refine lm_C.of (cc := cX7_agrees) (maxL := 5) (ret := (some .boolean)) (by decide) rfl (Nat.le_of_ble_eq_true rfl) ?_
  intro p e s m below meth c A ls B hN hl
  have hx := B.1.1
  have hb := B.1.2.1
  have hown := B.1.2.2.2.1
  have hts := B.1.2.2.2.2
  have hiX3 : ∀ w ∈ wsX30, w ∈ wsX7_agrees := by decide +kernel
  have hiX7 : ∀ w ∈ wsX70, w ∈ wsX7_agrees := by decide +kernel
  have hl : lv_has ls 5 [(0, .ref (q0 0)), (1, .ref (q1 0)), (2, .int x2), (3, .int x3)] := hl
  have L3 : ∀ (n : Nat) (x2_3 : Int32) (x3_3 : Int32) (x4_3 : Int32) (s0_3 : lm_St) (s1_3 : lm_St) (H : Heap) (locs : List Loc) (ls : Array Slot), lm_lp (fun k a => bX7_agrees_3 k a.1 a.2.1 a.2.2.1 a.2.2.2.1 a.2.2.2.2) n (x2_3, x3_3, x4_3, s0_3, s1_3) = some R → lm_N G A s (wX7_X3 G q0 q1 s0_3 s1_3) H locs → lv_has ls 5 [(0, .ref (q0 0)), (1, .ref (q1 0)), (2, .int x2_3), (3, .int x3_3), (4, .int x4_3)] → W p l e (lm_rk 3) s m ([.ref (q0 0), .ref (q1 0), .int x2, .int x3] : List Value).toArray below meth c H locs 0 0 (MQ below (lm_post G (wX7_X3 G q0 q1 R.2.1 R.2.2) (some (.int R.1)) A) ([.ref (q0 0), .ref (q1 0), .int x2, .int x3] : List Value).toArray s 0 0 A) (F0 m 3 ls []) := by
    intro n
    induction n with
    | zero => intro x2_3 x3_3 x4_3 s0_3 s1_3 H locs ls hF; exact (lm_lpz hF).elim
    | succ n ih3 =>
      intro x2_3 x3_3 x4_3 s0_3 s1_3 H locs ls hF hN hl
      have hF : bX7_agrees_3 (lm_lp (fun k a => bX7_agrees_3 k a.1 a.2.1 a.2.2.1 a.2.2.2.1 a.2.2.2.2) n) x2_3 x3_3 x4_3 s0_3 s1_3 = some R := lm_lps hF
      generalize lm_lp (fun k a => bX7_agrees_3 k a.1 a.2.1 a.2.2.1 a.2.2.2.1 a.2.2.2.2) n = k3 at hF ih3
      have J57 : ∀ (x2_57 : Int32) (x3_57 : Int32) (x4_57 : Int32) (s0_57 : lm_St) (s1_57 : lm_St) (H : Heap) (locs : List Loc) (ls : Array Slot), jX7_agrees_57 k3 x2_57 x3_57 x4_57 s0_57 s1_57 = some R → lm_N G A s (wX7_X3 G q0 q1 s0_57 s1_57) H locs → lv_has ls 5 [(0, .ref (q0 0)), (1, .ref (q1 0)), (2, .int x2_57), (3, .int x3_57), (4, .int x4_57)] → W p l e (lm_rk 3) s m ([.ref (q0 0), .ref (q1 0), .int x2, .int x3] : List Value).toArray below meth c H locs 0 0 (MQ below (lm_post G (wX7_X3 G q0 q1 R.2.1 R.2.2) (some (.int R.1)) A) ([.ref (q0 0), .ref (q1 0), .int x2, .int x3] : List Value).toArray s 0 0 A) (F0 m 57 ls []) := by
        intro x2_57 x3_57 x4_57 s0_57 s1_57 H locs ls hF hN hl
        refine lv_iinc (v := (x4_57 + 1)) (lv' := [(4, .int (x4_57 + 1)), (0, .ref (q0 0)), (1, .ref (q1 0)), (2, .int x2_57), (3, .int x3_57)]) hx hb dX7_agrees_57 hl (k := 4) rfl rfl (by decide) rfl (fun ls hl => ?_)
        refine lv_goto (tgt := 3) hx hb dX7_agrees_60 (by decide) ?_
        exact ih3 _ _ _ _ _ _ _ _ hF hN (lv_sub hl [1, 2, 3, 4, 0] rfl)
      refine lv_iload hx hb dX7_agrees_3 (lv_at hl 4 rfl) ?_
      refine lv_aload_n hx hb dX7_agrees_5 rfl (lv_at hl 0 rfl) ?_
      refine lm_get B hN (ci := 7) hiX7 0 rfl rfl 4 (by decide) (by decide +kernel) (v := .int (s0_3.1 0)) rfl dX7_agrees_6 ?_
      refine lv_icmp_ge (tgt := 63) hx hb dX7_agrees_9 (by decide) (fun c1 => ?_) (fun c1 => ?_)
      · have hF := lm_itp c1 hF
        refine lv_iconst (v := 1) hx hb dX7_agrees_63 (by decide) ?_
        obtain ⟨z2, hF⟩ := lm_gBe hF
        cases hF
        exact lm_zret B hN z2 dX7_agrees_64
      · have hF := lm_itn c1 hF
        refine lv_aload_n hx hb dX7_agrees_12 rfl (lv_at hl 0 rfl) ?_
        refine lm_get B hN (ci := 7) hiX7 0 rfl rfl 0 (by decide) (by decide +kernel) (v := .ref (q0 1)) rfl dX7_agrees_13 ?_
        refine lv_iload hx hb dX7_agrees_16 (lv_at hl 4 rfl) ?_
        obtain ⟨z3, hF⟩ := lm_gIe hF
        refine lm_ald B hN 1 (f := (s0_3.2.1 0)) rfl z3 dX7_agrees_18 ?_
        refine lv_iload_n hx hb dX7_agrees_19 rfl (lv_at hl 2 rfl) ?_
        refine lv_icmp_ne (tgt := 57) hx hb dX7_agrees_20 (by decide) (fun c4 => ?_) (fun c4 => ?_)
        · have hF := lm_itn c4 hF
          exact J57 _ _ _ _ _ _ _ _ hF hN (lv_sub hl [0, 1, 2, 3, 4] rfl)
        · have hF := lm_itp c4 hF
          refine lv_aload_n hx hb dX7_agrees_23 rfl (lv_at hl 1 rfl) ?_
          refine lm_get B hN (ci := 3) hiX3 5 rfl rfl 0 (by decide) (by decide +kernel) (v := .ref (q1 1)) rfl dX7_agrees_24 ?_
          refine lv_iload_n hx hb dX7_agrees_27 rfl (lv_at hl 2 rfl) ?_
          obtain ⟨z5, hF⟩ := lm_gIe hF
          refine lm_ald B hN 6 (f := (s1_3.2.1 0)) rfl z5 dX7_agrees_28 ?_
          refine lv_iload_n hx hb dX7_agrees_29 rfl (lv_at hl 3 rfl) ?_
          refine lv_aload_n hx hb dX7_agrees_30 rfl (lv_at hl 1 rfl) ?_
          refine lv_iload_n hx hb dX7_agrees_31 rfl (lv_at hl 2 rfl) ?_
          refine lv_aload_n hx hb dX7_agrees_32 rfl (lv_at hl 0 rfl) ?_
          refine lm_get B hN (ci := 7) hiX7 0 rfl rfl 1 (by decide) (by decide +kernel) (v := .ref (q0 2)) rfl dX7_agrees_33 ?_
          refine lv_iload hx hb dX7_agrees_36 (lv_at hl 4 rfl) ?_
          obtain ⟨z6, hF⟩ := lm_gIe hF
          refine lm_ald B hN 2 (f := (s0_3.2.1 1)) rfl z6 dX7_agrees_38 ?_
          obtain ⟨⟨r7, t7_0⟩, hc7, hF⟩ := lm_bd hF
          have hF := lm_un2E hF
          refine lm_run B hN (kp_wX7_X3_1 _ _ _ _ _) (lm_hrV B hN hl.1 (lm_cutP B hN (kp_wX7_X3_1 _ _ _ _ _)) (n := 2) (As := [.int x2_3, .int ((s0_3.2.1 1) x4_3.toNatClampNeg)]) (rest := [.int x3_3, .int ((s1_3.2.1 0) x2_3.toNatClampNeg)]) (hX3_sinceBehind l G q1 hc7) gX7_agrees_X3_sinceBehind rfl (by decide +kernel) rfl (by decide) (by decide) (ci := 3) (q0 := 0) rfl rfl rfl (Nat.le_of_ble_eq_true rfl) dX7_agrees_39) (wX7_X3 G q0 q1 s0_3 t7_0) (kq_wX7_X3_1 _ _ _ _ _) (fun H locs hN => ?_)
          obtain ⟨r8, hc8, hF⟩ := lm_bd hF
          refine lm_run0 B hN (lm_hrN B hN hl.1 (lm_cut0 B hN) (n := 3) (host := RX8) (As := [.int ((s1_3.2.1 0) x2_3.toNatClampNeg), .int x3_3, .int r7]) (rest := []) (hX8_missedBy l G hc8) gX7_agrees_X8_missedBy_n55 rfl (by decide +kernel) (by decide +kernel) (by decide +kernel) (by decide +kernel) rfl (by decide) (by decide) rfl (Nat.le_of_ble_eq_true rfl) dX7_agrees_42) (fun H locs hN => ?_)
          refine lv_aload_n hx hb dX7_agrees_45 rfl (lv_at hl 0 rfl) ?_
          refine lm_get B hN (ci := 7) hiX7 0 rfl rfl 2 (by decide) (by decide +kernel) (v := .ref (q0 3)) rfl dX7_agrees_46 ?_
          refine lv_iload hx hb dX7_agrees_49 (lv_at hl 4 rfl) ?_
          obtain ⟨z9, hF⟩ := lm_gIe hF
          refine lm_ald B hN 3 (f := (s0_3.2.1 2)) rfl z9 dX7_agrees_51 ?_
          refine lv_icmp_eq (tgt := 57) hx hb dX7_agrees_52 (by decide) (fun c10 => ?_) (fun c10 => ?_)
          · have hF := lm_itp c10 hF
            exact J57 _ _ _ _ _ _ _ _ hF hN (lv_sub hl [0, 1, 2, 3, 4] rfl)
          · have hF := lm_itn c10 hF
            refine lv_iconst (v := 0) hx hb dX7_agrees_55 (by decide) ?_
            obtain ⟨z11, hF⟩ := lm_gBe hF
            cases hF
            exact lm_zret B hN z11 dX7_agrees_56
  refine lv_iconst (v := 0) hx hb dX7_agrees_0 (by decide) ?_
  refine lv_istore (lv' := [(4, .int (0 : Int32)), (0, .ref (q0 0)), (1, .ref (q1 0)), (2, .int x2), (3, .int x3)]) hx hb dX7_agrees_1 hl (by decide) rfl (fun ls hl => ?_)
  exact L3 5000 _ _ _ _ _ _ _ _ hF hN (lv_sub hl [1, 2, 3, 4, 0] rfl)
def jX7_mostLeft_83 (k33 : Int32 × Int32 × Int32 × Int32 × Int32 × lm_St → Option (Int32 × lm_St)) (x1_83 : Int32) (x2_83 : Int32) (x3_83 : Int32) (x4_83 : Int32) (x5_83 : Int32) (s0_83 : lm_St) : Option (Int32 × lm_St) := k33 (x1_83, x2_83, x3_83, x4_83, (x5_83 + 1), s0_83)
def bX7_mostLeft_33 (k33 : Int32 × Int32 × Int32 × Int32 × Int32 × lm_St → Option (Int32 × lm_St)) (x1_33 : Int32) (x2_33 : Int32) (x3_33 : Int32) (x4_33 : Int32) (x5_33 : Int32) (s0_33 : lm_St) : Option (Int32 × lm_St) := if (20 : Int32) < x5_33 then (some (x4_33, s0_33)) else ((fX8_isIn x1_33 x5_33).bind (fun r2 => if r2 = 0 then (jX7_mostLeft_83 k33 x1_33 x2_33 x3_33 x4_33 x5_33 s0_33) else ((fX8_missedBy x2_33 x5_33 x3_33).bind (fun r4 => lm_gI r4 21 (lm_gI r4 21 (lm_gI r4 21 (lm_nm (if x4_33 < ((upd (s0_33.2.1 3) r4.toNatClampNeg (((s0_33.2.1 3) r4.toNatClampNeg) + (1 : Int32))) r4.toNatClampNeg) then ((upd (s0_33.2.1 3) r4.toNatClampNeg (((s0_33.2.1 3) r4.toNatClampNeg) + (1 : Int32))) r4.toNatClampNeg) else x4_33) (fun z8 => jX7_mostLeft_83 k33 x1_33 x2_33 x3_33 z8 x5_33 (lm_sA s0_33 3 (upd (s0_33.2.1 3) r4.toNatClampNeg (((s0_33.2.1 3) r4.toNatClampNeg) + (1 : Int32))))))))))))
def bX7_mostLeft_3 (k3 : Int32 × Int32 × Int32 × Int32 × lm_St → Option (Int32 × lm_St)) (x1_3 : Int32) (x2_3 : Int32) (x3_3 : Int32) (x4_3 : Int32) (s0_3 : lm_St) : Option (Int32 × lm_St) := if (21 : Int32) ≤ x4_3 then (lm_lp (fun k a => bX7_mostLeft_33 k a.1 a.2.1 a.2.2.1 a.2.2.2.1 a.2.2.2.2.1 a.2.2.2.2.2) 5000 (x1_3, x2_3, x3_3, (0 : Int32), (0 : Int32), s0_3)) else (lm_gI x4_3 21 (k3 (x1_3, x2_3, x3_3, (x4_3 + 1), (lm_sA s0_3 3 (upd (s0_3.2.1 3) x4_3.toNatClampNeg (0 : Int32))))))
def fX7_mostLeft (s0 : lm_St) (x1 : Int32) (x2 : Int32) (x3 : Int32) : Option (Int32 × lm_St) := lm_lp (fun k a => bX7_mostLeft_3 k a.1 a.2.1 a.2.2.1 a.2.2.2.1 a.2.2.2.2) 5000 (x1, x2, x3, (0 : Int32), s0)
set_option maxHeartbeats 4000000 in
set_option maxRecDepth 100000 in
theorem hX7_mostLeft (l : Launch) (G : lm_G) (q0 : Nat → Nat) {s0 : lm_St} {x1 : Int32} {x2 : Int32} {x3 : Int32} {R : Int32 × lm_St} (hF : fX7_mostLeft s0 x1 x2 x3 = some R) : lm_C l G yX7_mostLeft wsX7_mostLeft 3 [.ref (q0 0), .int x1, .int x2, .int x3] (wX7 G q0 s0) (some (.int R.1)) (wX7 G q0 R.2) := by
  refine lm_C.of (cc := cX7_mostLeft) (maxL := 7) (ret := (some .int)) (by decide) rfl (Nat.le_of_ble_eq_true rfl) ?_
  intro p e s m below meth c A ls B hN hl
  have hx := B.1.1
  have hb := B.1.2.1
  have hown := B.1.2.2.2.1
  have hts := B.1.2.2.2.2
  have hiX7 : ∀ w ∈ wsX70, w ∈ wsX7_mostLeft := by decide +kernel
  have hl : lv_has ls 7 [(0, .ref (q0 0)), (1, .int x1), (2, .int x2), (3, .int x3)] := hl
  have L3 : ∀ (n : Nat) (x1_3 : Int32) (x2_3 : Int32) (x3_3 : Int32) (x4_3 : Int32) (s0_3 : lm_St) (H : Heap) (locs : List Loc) (ls : Array Slot), lm_lp (fun k a => bX7_mostLeft_3 k a.1 a.2.1 a.2.2.1 a.2.2.2.1 a.2.2.2.2) n (x1_3, x2_3, x3_3, x4_3, s0_3) = some R → lm_N G A s (wX7 G q0 s0_3) H locs → lv_has ls 7 [(0, .ref (q0 0)), (1, .int x1_3), (2, .int x2_3), (3, .int x3_3), (4, .int x4_3)] → W p l e (lm_rk 3) s m ([.ref (q0 0), .int x1, .int x2, .int x3] : List Value).toArray below meth c H locs 0 0 (MQ below (lm_post G (wX7 G q0 R.2) (some (.int R.1)) A) ([.ref (q0 0), .int x1, .int x2, .int x3] : List Value).toArray s 0 0 A) (F0 m 3 ls []) := by
    intro n
    induction n with
    | zero => intro x1_3 x2_3 x3_3 x4_3 s0_3 H locs ls hF; exact (lm_lpz hF).elim
    | succ n ih3 =>
      intro x1_3 x2_3 x3_3 x4_3 s0_3 H locs ls hF hN hl
      have hF : bX7_mostLeft_3 (lm_lp (fun k a => bX7_mostLeft_3 k a.1 a.2.1 a.2.2.1 a.2.2.2.1 a.2.2.2.2) n) x1_3 x2_3 x3_3 x4_3 s0_3 = some R := lm_lps hF
      generalize lm_lp (fun k a => bX7_mostLeft_3 k a.1 a.2.1 a.2.2.1 a.2.2.2.1 a.2.2.2.2) n = k3 at hF ih3
      have L33 : ∀ (n : Nat) (x1_33 : Int32) (x2_33 : Int32) (x3_33 : Int32) (x4_33 : Int32) (x5_33 : Int32) (s0_33 : lm_St) (H : Heap) (locs : List Loc) (ls : Array Slot), lm_lp (fun k a => bX7_mostLeft_33 k a.1 a.2.1 a.2.2.1 a.2.2.2.1 a.2.2.2.2.1 a.2.2.2.2.2) n (x1_33, x2_33, x3_33, x4_33, x5_33, s0_33) = some R → lm_N G A s (wX7 G q0 s0_33) H locs → lv_has ls 7 [(0, .ref (q0 0)), (1, .int x1_33), (2, .int x2_33), (3, .int x3_33), (4, .int x4_33), (5, .int x5_33)] → W p l e (lm_rk 3) s m ([.ref (q0 0), .int x1, .int x2, .int x3] : List Value).toArray below meth c H locs 0 0 (MQ below (lm_post G (wX7 G q0 R.2) (some (.int R.1)) A) ([.ref (q0 0), .int x1, .int x2, .int x3] : List Value).toArray s 0 0 A) (F0 m 33 ls []) := by
        intro n
        induction n with
        | zero => intro x1_33 x2_33 x3_33 x4_33 x5_33 s0_33 H locs ls hF; exact (lm_lpz hF).elim
        | succ n ih33 =>
          intro x1_33 x2_33 x3_33 x4_33 x5_33 s0_33 H locs ls hF hN hl
          have hF : bX7_mostLeft_33 (lm_lp (fun k a => bX7_mostLeft_33 k a.1 a.2.1 a.2.2.1 a.2.2.2.1 a.2.2.2.2.1 a.2.2.2.2.2) n) x1_33 x2_33 x3_33 x4_33 x5_33 s0_33 = some R := lm_lps hF
          generalize lm_lp (fun k a => bX7_mostLeft_33 k a.1 a.2.1 a.2.2.1 a.2.2.2.1 a.2.2.2.2.1 a.2.2.2.2.2) n = k33 at hF ih33
          have J83 : ∀ (x1_83 : Int32) (x2_83 : Int32) (x3_83 : Int32) (x4_83 : Int32) (x5_83 : Int32) (s0_83 : lm_St) (H : Heap) (locs : List Loc) (ls : Array Slot), jX7_mostLeft_83 k33 x1_83 x2_83 x3_83 x4_83 x5_83 s0_83 = some R → lm_N G A s (wX7 G q0 s0_83) H locs → lv_has ls 7 [(0, .ref (q0 0)), (1, .int x1_83), (2, .int x2_83), (3, .int x3_83), (4, .int x4_83), (5, .int x5_83)] → W p l e (lm_rk 3) s m ([.ref (q0 0), .int x1, .int x2, .int x3] : List Value).toArray below meth c H locs 0 0 (MQ below (lm_post G (wX7 G q0 R.2) (some (.int R.1)) A) ([.ref (q0 0), .int x1, .int x2, .int x3] : List Value).toArray s 0 0 A) (F0 m 83 ls []) := by
            intro x1_83 x2_83 x3_83 x4_83 x5_83 s0_83 H locs ls hF hN hl
            refine lv_iinc (v := (x5_83 + 1)) (lv' := [(5, .int (x5_83 + 1)), (0, .ref (q0 0)), (1, .int x1_83), (2, .int x2_83), (3, .int x3_83), (4, .int x4_83)]) hx hb dX7_mostLeft_83 hl (k := 5) rfl rfl (by decide) rfl (fun ls hl => ?_)
            refine lv_goto (tgt := 33) hx hb dX7_mostLeft_86 (by decide) ?_
            exact ih33 _ _ _ _ _ _ _ _ _ hF hN (lv_sub hl [1, 2, 3, 4, 5, 0] rfl)
          refine lv_iload hx hb dX7_mostLeft_33 (lv_at hl 5 rfl) ?_
          refine lv_bipush (v := 20) hx hb dX7_mostLeft_35 (by decide) ?_
          refine lv_icmp_gt (tgt := 89) hx hb dX7_mostLeft_37 (by decide) (fun c1 => ?_) (fun c1 => ?_)
          · have hF := lm_itp c1 hF
            refine lv_iload hx hb dX7_mostLeft_89 (lv_at hl 4 rfl) ?_
            cases hF
            exact lm_iret B hN dX7_mostLeft_91
          · have hF := lm_itn c1 hF
            refine lv_iload_n hx hb dX7_mostLeft_40 rfl (lv_at hl 1 rfl) ?_
            refine lv_iload hx hb dX7_mostLeft_41 (lv_at hl 5 rfl) ?_
            obtain ⟨r2, hc2, hF⟩ := lm_bd hF
            refine lm_run0 B hN (lm_hrN B hN hl.1 (lm_cut0 B hN) (n := 2) (host := RX8) (As := [.int x1_33, .int x5_33]) (rest := []) (hX8_isIn l G hc2) gX7_mostLeft_X8_isIn_n58 rfl (by decide +kernel) (by decide +kernel) (by decide +kernel) (by decide +kernel) rfl (by decide) (by decide) rfl (Nat.le_of_ble_eq_true rfl) dX7_mostLeft_43) (fun H locs hN => ?_)
            refine lv_if_eq (tgt := 83) hx hb dX7_mostLeft_46 (by decide) (fun c3 => ?_) (fun c3 => ?_)
            · have hF := lm_itp c3 hF
              exact J83 _ _ _ _ _ _ _ _ _ hF hN (lv_sub hl [0, 1, 2, 3, 4, 5] rfl)
            · have hF := lm_itn c3 hF
              refine lv_iload_n hx hb dX7_mostLeft_49 rfl (lv_at hl 2 rfl) ?_
              refine lv_iload hx hb dX7_mostLeft_50 (lv_at hl 5 rfl) ?_
              refine lv_iload_n hx hb dX7_mostLeft_52 rfl (lv_at hl 3 rfl) ?_
              obtain ⟨r4, hc4, hF⟩ := lm_bd hF
              refine lm_run0 B hN (lm_hrN B hN hl.1 (lm_cut0 B hN) (n := 3) (host := RX8) (As := [.int x2_33, .int x5_33, .int x3_33]) (rest := []) (hX8_missedBy l G hc4) gX7_mostLeft_X8_missedBy_n55 rfl (by decide +kernel) (by decide +kernel) (by decide +kernel) (by decide +kernel) rfl (by decide) (by decide) rfl (Nat.le_of_ble_eq_true rfl) dX7_mostLeft_53) (fun H locs hN => ?_)
              refine lv_istore (lv' := [(6, .int r4), (0, .ref (q0 0)), (1, .int x1_33), (2, .int x2_33), (3, .int x3_33), (4, .int x4_33), (5, .int x5_33)]) hx hb dX7_mostLeft_56 hl (by decide) rfl (fun ls hl => ?_)
              refine lv_aload_n hx hb dX7_mostLeft_58 rfl (lv_at hl 1 rfl) ?_
              refine lm_get B hN (ci := 7) hiX7 0 rfl rfl 3 (by decide) (by decide +kernel) (v := .ref (q0 4)) rfl dX7_mostLeft_59 ?_
              refine lv_iload hx hb dX7_mostLeft_62 (lv_at hl 0 rfl) ?_
              refine lv_dup2_11 hx hb dX7_mostLeft_64 rfl rfl ?_
              obtain ⟨z5, hF⟩ := lm_gIe hF
              refine lm_ald B hN 4 (f := (s0_33.2.1 3)) rfl z5 dX7_mostLeft_65 ?_
              refine lv_iconst (v := 1) hx hb dX7_mostLeft_66 (by decide) ?_
              refine lv_iadd hx hb dX7_mostLeft_67 ?_
              obtain ⟨z6, hF⟩ := lm_gIe hF
              refine lm_ast B hN 4 (f := (s0_33.2.1 3)) rfl z6 (wX7 G q0 (lm_sA s0_33 3 (upd (s0_33.2.1 3) r4.toNatClampNeg (((s0_33.2.1 3) r4.toNatClampNeg) + (1 : Int32))))) (wX7_r0a3 _ _ _ _) dX7_mostLeft_68 (fun H locs hN => ?_)
              refine lv_iload hx hb dX7_mostLeft_69 (lv_at hl 5 rfl) ?_
              refine lv_aload_n hx hb dX7_mostLeft_71 rfl (lv_at hl 1 rfl) ?_
              refine lm_get B hN (ci := 7) hiX7 0 rfl rfl 3 (by decide) (by decide +kernel) (v := .ref (q0 4)) rfl dX7_mostLeft_72 ?_
              refine lv_iload hx hb dX7_mostLeft_75 (lv_at hl 0 rfl) ?_
              obtain ⟨z7, hF⟩ := lm_gIe hF
              refine lm_ald B hN 4 (f := (upd (s0_33.2.1 3) r4.toNatClampNeg (((s0_33.2.1 3) r4.toNatClampNeg) + (1 : Int32)))) rfl z7 dX7_mostLeft_77 ?_
              refine lm_mmax B hl.1 (by decide +kernel) (by decide +kernel) (by decide +kernel) (by decide +kernel) (by decide) (Nat.le_of_ble_eq_true rfl) dX7_mostLeft_78 ?_
              refine lv_topi (fun z8 ez8 => ?_)
              have hF := lm_nmE ez8 hF
              refine lv_istore (lv' := [(4, .int z8), (6, .int r4), (0, .ref (q0 0)), (1, .int x1_33), (2, .int x2_33), (3, .int x3_33), (5, .int x5_33)]) hx hb dX7_mostLeft_81 hl (by decide) rfl (fun ls hl => ?_)
              exact J83 _ _ _ _ _ _ _ _ _ hF hN (lv_sub hl [2, 3, 4, 5, 0, 6] rfl)
      refine lv_iload hx hb dX7_mostLeft_3 (lv_at hl 4 rfl) ?_
      refine lv_aload_n hx hb dX7_mostLeft_5 rfl (lv_at hl 0 rfl) ?_
      refine lm_get B hN (ci := 7) hiX7 0 rfl rfl 3 (by decide) (by decide +kernel) (v := .ref (q0 4)) rfl dX7_mostLeft_6 ?_
      refine lm_alen B hN 4 rfl (v := 21) rfl dX7_mostLeft_9 ?_
      refine lv_icmp_ge (tgt := 27) hx hb dX7_mostLeft_10 (by decide) (fun c9 => ?_) (fun c9 => ?_)
      · have hF := lm_itp c9 hF
        refine lv_iconst (v := 0) hx hb dX7_mostLeft_27 (by decide) ?_
        refine lv_istore (lv' := [(4, .int (0 : Int32)), (0, .ref (q0 0)), (1, .int x1_3), (2, .int x2_3), (3, .int x3_3)]) hx hb dX7_mostLeft_28 hl (by decide) rfl (fun ls hl => ?_)
        refine lv_iconst (v := 0) hx hb dX7_mostLeft_30 (by decide) ?_
        refine lv_istore (lv' := [(5, .int (0 : Int32)), (4, .int (0 : Int32)), (0, .ref (q0 0)), (1, .int x1_3), (2, .int x2_3), (3, .int x3_3)]) hx hb dX7_mostLeft_31 hl (by decide) rfl (fun ls hl => ?_)
        exact L33 5000 _ _ _ _ _ _ _ _ _ hF hN (lv_sub hl [2, 3, 4, 5, 1, 0] rfl)
      · have hF := lm_itn c9 hF
        refine lv_aload_n hx hb dX7_mostLeft_13 rfl (lv_at hl 0 rfl) ?_
        refine lm_get B hN (ci := 7) hiX7 0 rfl rfl 3 (by decide) (by decide +kernel) (v := .ref (q0 4)) rfl dX7_mostLeft_14 ?_
        refine lv_iload hx hb dX7_mostLeft_17 (lv_at hl 4 rfl) ?_
        refine lv_iconst (v := 0) hx hb dX7_mostLeft_19 (by decide) ?_
        obtain ⟨z10, hF⟩ := lm_gIe hF
        refine lm_ast B hN 4 (f := (s0_3.2.1 3)) rfl z10 (wX7 G q0 (lm_sA s0_3 3 (upd (s0_3.2.1 3) x4_3.toNatClampNeg (0 : Int32)))) (wX7_r0a3 _ _ _ _) dX7_mostLeft_20 (fun H locs hN => ?_)
        refine lv_iinc (v := (x4_3 + 1)) (lv' := [(4, .int (x4_3 + 1)), (0, .ref (q0 0)), (1, .int x1_3), (2, .int x2_3), (3, .int x3_3)]) hx hb dX7_mostLeft_21 hl (k := 4) rfl rfl (by decide) rfl (fun ls hl => ?_)
        refine lv_goto (tgt := 3) hx hb dX7_mostLeft_24 (by decide) ?_
        exact ih3 _ _ _ _ _ _ _ _ hF hN (lv_sub hl [1, 2, 3, 4, 0] rfl)
  refine lv_iconst (v := 0) hx hb dX7_mostLeft_0 (by decide) ?_
  refine lv_istore (lv' := [(4, .int (0 : Int32)), (0, .ref (q0 0)), (1, .int x1), (2, .int x2), (3, .int x3)]) hx hb dX7_mostLeft_1 hl (by decide) rfl (fun ls hl => ?_)
  exact L3 5000 _ _ _ _ _ _ _ _ hF hN (lv_sub hl [1, 2, 3, 4, 0] rfl)
def jX7_looksOf_32 (k5 : Int32 × Int32 × Int32 × lm_St × lm_St → Option (Int32 × lm_St × lm_St)) (x2_32 : Int32) (x4_32 : Int32) (y0_32 : Int32) (y1_32 : Int32) (s0_32 : lm_St) (s1_32 : lm_St) : Option (Int32 × lm_St × lm_St) := k5 (x2_32, (y1_32 ||| y0_32), (x4_32 + 1), s0_32, s1_32)
def bX7_looksOf_5 (k5 : Int32 × Int32 × Int32 × lm_St × lm_St → Option (Int32 × lm_St × lm_St)) (x2_5 : Int32) (x3_5 : Int32) (x4_5 : Int32) (s0_5 : lm_St) (s1_5 : lm_St) : Option (Int32 × lm_St × lm_St) := if (20 : Int32) < x4_5 then (some (x3_5, s0_5, s1_5)) else ((fX7_agrees s0_5 s1_5 x2_5 x4_5).bind (fun v2 => lm_un3 v2 (fun r2 t2_0 t2_1 => if r2 = 0 then (jX7_looksOf_32 k5 x2_5 x4_5 (0 : Int32) x3_5 t2_0 t2_1) else (jX7_looksOf_32 k5 x2_5 x4_5 ((1 : Int32) <<< (x4_5 &&& 31)) x3_5 t2_0 t2_1))))
def fX7_looksOf (s0 : lm_St) (s1 : lm_St) (x2 : Int32) : Option (Int32 × lm_St × lm_St) := lm_lp (fun k a => bX7_looksOf_5 k a.1 a.2.1 a.2.2.1 a.2.2.2.1 a.2.2.2.2) 5000 (x2, (0 : Int32), (0 : Int32), s0, s1)
set_option maxHeartbeats 4000000 in
set_option maxRecDepth 100000 in
theorem hX7_looksOf (l : Launch) (G : lm_G) (q0 : Nat → Nat) (q1 : Nat → Nat) {s0 : lm_St} {s1 : lm_St} {x2 : Int32} {R : Int32 × lm_St × lm_St} (hF : fX7_looksOf s0 s1 x2 = some R) : lm_C l G yX7_looksOf wsX7_looksOf 4 [.ref (q0 0), .ref (q1 0), .int x2] (wX7_X3 G q0 q1 s0 s1) (some (.int R.1)) (wX7_X3 G q0 q1 R.2.1 R.2.2) := by
  refine lm_C.of (cc := cX7_looksOf) (maxL := 5) (ret := (some .int)) (by decide) rfl (Nat.le_of_ble_eq_true rfl) ?_
  intro p e s m below meth c A ls B hN hl
  have hx := B.1.1
  have hb := B.1.2.1
  have hown := B.1.2.2.2.1
  have hts := B.1.2.2.2.2
  have hl : lv_has ls 5 [(0, .ref (q0 0)), (1, .ref (q1 0)), (2, .int x2)] := hl
  have L5 : ∀ (n : Nat) (x2_5 : Int32) (x3_5 : Int32) (x4_5 : Int32) (s0_5 : lm_St) (s1_5 : lm_St) (H : Heap) (locs : List Loc) (ls : Array Slot), lm_lp (fun k a => bX7_looksOf_5 k a.1 a.2.1 a.2.2.1 a.2.2.2.1 a.2.2.2.2) n (x2_5, x3_5, x4_5, s0_5, s1_5) = some R → lm_N G A s (wX7_X3 G q0 q1 s0_5 s1_5) H locs → lv_has ls 5 [(0, .ref (q0 0)), (1, .ref (q1 0)), (2, .int x2_5), (3, .int x3_5), (4, .int x4_5)] → W p l e (lm_rk 4) s m ([.ref (q0 0), .ref (q1 0), .int x2] : List Value).toArray below meth c H locs 0 0 (MQ below (lm_post G (wX7_X3 G q0 q1 R.2.1 R.2.2) (some (.int R.1)) A) ([.ref (q0 0), .ref (q1 0), .int x2] : List Value).toArray s 0 0 A) (F0 m 5 ls []) := by
    intro n
    induction n with
    | zero => intro x2_5 x3_5 x4_5 s0_5 s1_5 H locs ls hF; exact (lm_lpz hF).elim
    | succ n ih5 =>
      intro x2_5 x3_5 x4_5 s0_5 s1_5 H locs ls hF hN hl
      have hF : bX7_looksOf_5 (lm_lp (fun k a => bX7_looksOf_5 k a.1 a.2.1 a.2.2.1 a.2.2.2.1 a.2.2.2.2) n) x2_5 x3_5 x4_5 s0_5 s1_5 = some R := lm_lps hF
      generalize lm_lp (fun k a => bX7_looksOf_5 k a.1 a.2.1 a.2.2.1 a.2.2.2.1 a.2.2.2.2) n = k5 at hF ih5
      have J32 : ∀ (x2_32 : Int32) (x4_32 : Int32) (y0_32 : Int32) (y1_32 : Int32) (s0_32 : lm_St) (s1_32 : lm_St) (H : Heap) (locs : List Loc) (ls : Array Slot), jX7_looksOf_32 k5 x2_32 x4_32 y0_32 y1_32 s0_32 s1_32 = some R → lm_N G A s (wX7_X3 G q0 q1 s0_32 s1_32) H locs → lv_has ls 5 [(0, .ref (q0 0)), (1, .ref (q1 0)), (2, .int x2_32), (4, .int x4_32)] → W p l e (lm_rk 4) s m ([.ref (q0 0), .ref (q1 0), .int x2] : List Value).toArray below meth c H locs 0 0 (MQ below (lm_post G (wX7_X3 G q0 q1 R.2.1 R.2.2) (some (.int R.1)) A) ([.ref (q0 0), .ref (q1 0), .int x2] : List Value).toArray s 0 0 A) (F0 m 32 ls [.int y0_32, .int y1_32]) := by
        intro x2_32 x4_32 y0_32 y1_32 s0_32 s1_32 H locs ls hF hN hl
        refine lv_ior hx hb dX7_looksOf_32 ?_
        refine lv_istore_n (lv' := [(3, .int (y1_32 ||| y0_32)), (0, .ref (q0 0)), (1, .ref (q1 0)), (2, .int x2_32), (4, .int x4_32)]) hx hb dX7_looksOf_33 rfl hl (by decide) rfl (fun ls hl => ?_)
        refine lv_iinc (v := (x4_32 + 1)) (lv' := [(4, .int (x4_32 + 1)), (3, .int (y1_32 ||| y0_32)), (0, .ref (q0 0)), (1, .ref (q1 0)), (2, .int x2_32)]) hx hb dX7_looksOf_34 hl (k := 4) rfl rfl (by decide) rfl (fun ls hl => ?_)
        refine lv_goto (tgt := 5) hx hb dX7_looksOf_37 (by decide) ?_
        exact ih5 _ _ _ _ _ _ _ _ hF hN (lv_sub hl [2, 3, 4, 1, 0] rfl)
      refine lv_iload hx hb dX7_looksOf_5 (lv_at hl 4 rfl) ?_
      refine lv_bipush (v := 20) hx hb dX7_looksOf_7 (by decide) ?_
      refine lv_icmp_gt (tgt := 40) hx hb dX7_looksOf_9 (by decide) (fun c1 => ?_) (fun c1 => ?_)
      · have hF := lm_itp c1 hF
        refine lv_iload_n hx hb dX7_looksOf_40 rfl (lv_at hl 3 rfl) ?_
        cases hF
        exact lm_iret B hN dX7_looksOf_41
      · have hF := lm_itn c1 hF
        refine lv_iload_n hx hb dX7_looksOf_12 rfl (lv_at hl 3 rfl) ?_
        refine lv_aload_n hx hb dX7_looksOf_13 rfl (lv_at hl 0 rfl) ?_
        refine lv_aload_n hx hb dX7_looksOf_14 rfl (lv_at hl 1 rfl) ?_
        refine lv_iload_n hx hb dX7_looksOf_15 rfl (lv_at hl 2 rfl) ?_
        refine lv_iload hx hb dX7_looksOf_16 (lv_at hl 4 rfl) ?_
        obtain ⟨⟨r2, t2_0, t2_1⟩, hc2, hF⟩ := lm_bd hF
        have hF := lm_un3E hF
        refine lm_runA B hN (lm_hrV B hN hl.1 (lm_cutA B hN) (n := 3) (As := [.ref (q1 0), .int x2_5, .int x4_5]) (rest := [.int x3_5]) (hX7_agrees l G q0 q1 hc2) gX7_looksOf_X7_agrees rfl (by decide +kernel) rfl (by decide) (by decide) (ci := 7) (q0 := 0) rfl rfl rfl (Nat.le_of_ble_eq_true rfl) dX7_looksOf_18) (fun H locs hN => ?_)
        refine lv_if_eq (tgt := 31) hx hb dX7_looksOf_21 (by decide) (fun c3 => ?_) (fun c3 => ?_)
        · have hF := lm_itp c3 hF
          refine lv_iconst (v := 0) hx hb dX7_looksOf_31 (by decide) ?_
          exact J32 _ _ _ _ _ _ _ _ _ hF hN (lv_sub hl [0, 1, 2, 4] rfl)
        · have hF := lm_itn c3 hF
          refine lv_iconst (v := 1) hx hb dX7_looksOf_24 (by decide) ?_
          refine lv_iload hx hb dX7_looksOf_25 (lv_at hl 4 rfl) ?_
          refine lv_ishl hx hb dX7_looksOf_27 ?_
          refine lv_goto (tgt := 32) hx hb dX7_looksOf_28 (by decide) ?_
          exact J32 _ _ _ _ _ _ _ _ _ hF hN (lv_sub hl [0, 1, 2, 4] rfl)
  refine lv_iconst (v := 0) hx hb dX7_looksOf_0 (by decide) ?_
  refine lv_istore_n (lv' := [(3, .int (0 : Int32)), (0, .ref (q0 0)), (1, .ref (q1 0)), (2, .int x2)]) hx hb dX7_looksOf_1 rfl hl (by decide) rfl (fun ls hl => ?_)
  refine lv_iconst (v := 0) hx hb dX7_looksOf_2 (by decide) ?_
  refine lv_istore (lv' := [(4, .int (0 : Int32)), (3, .int (0 : Int32)), (0, .ref (q0 0)), (1, .ref (q1 0)), (2, .int x2)]) hx hb dX7_looksOf_3 hl (by decide) rfl (fun ls hl => ?_)
  exact L5 5000 _ _ _ _ _ _ _ _ hF hN (lv_sub hl [2, 3, 4, 1, 0] rfl)
def jX7_watchOf_65 (k23 : Int32 × Int32 × Int32 × Int32 × Int32 × lm_St × lm_St → Option (Int32 × lm_St × lm_St)) (x2_65 : Int32) (x3_65 : Int32) (x4_65 : Int32) (x5_65 : Int32) (x6_65 : Int32) (s0_65 : lm_St) (s1_65 : lm_St) : Option (Int32 × lm_St × lm_St) := k23 (x2_65, x3_65, x4_65, x5_65, (x6_65 + 1), s0_65, s1_65)
def bX7_watchOf_23 (k23 : Int32 × Int32 × Int32 × Int32 × Int32 × lm_St × lm_St → Option (Int32 × lm_St × lm_St)) (x2_23 : Int32) (x3_23 : Int32) (x4_23 : Int32) (x5_23 : Int32) (x6_23 : Int32) (s0_23 : lm_St) (s1_23 : lm_St) : Option (Int32 × lm_St × lm_St) := if (9 : Int32) < x6_23 then (some (x4_23, s0_23, s1_23)) else (lm_gI x2_23 7 ((fX3_sinceBehind s1_23 x2_23 x6_23).bind (fun v3 => lm_un2 v3 (fun r3 t3_0 => (fX7_mostLeft s0_23 x3_23 ((s1_23.2.1 0) x2_23.toNatClampNeg) r3).bind (fun v4 => lm_un2 v4 (fun r4 t4_0 => if x5_23 ≤ r4 then (jX7_watchOf_65 k23 x2_23 x3_23 x4_23 x5_23 x6_23 t4_0 t3_0) else (jX7_watchOf_65 k23 x2_23 x3_23 x6_23 r4 x6_23 t4_0 t3_0)))))))
def fX7_watchOf (s0 : lm_St) (s1 : lm_St) (x2 : Int32) : Option (Int32 × lm_St × lm_St) := (fX7_looksOf s0 s1 x2).bind (fun v6 => lm_un3 v6 (fun r6 t6_0 t6_1 => if r6 = 0 then (some ((-1 : Int32), t6_0, t6_1)) else (lm_lp (fun k a => bX7_watchOf_23 k a.1 a.2.1 a.2.2.1 a.2.2.2.1 a.2.2.2.2.1 a.2.2.2.2.2.1 a.2.2.2.2.2.2) 5000 (x2, r6, (0 : Int32), (22 : Int32), (0 : Int32), t6_0, t6_1))))
set_option maxHeartbeats 4000000 in
set_option maxRecDepth 100000 in
theorem hX7_watchOf (l : Launch) (G : lm_G) (q0 : Nat → Nat) (q1 : Nat → Nat) {s0 : lm_St} {s1 : lm_St} {x2 : Int32} {R : Int32 × lm_St × lm_St} (hF : fX7_watchOf s0 s1 x2 = some R) : lm_C l G yX7_watchOf wsX7_watchOf 5 [.ref (q0 0), .ref (q1 0), .int x2] (wX7_X3 G q0 q1 s0 s1) (some (.int R.1)) (wX7_X3 G q0 q1 R.2.1 R.2.2) := by
  refine lm_C.of (cc := cX7_watchOf) (maxL := 8) (ret := (some .int)) (by decide) rfl (Nat.le_of_ble_eq_true rfl) ?_
  intro p e s m below meth c A ls B hN hl
  have hx := B.1.1
  have hb := B.1.2.1
  have hown := B.1.2.2.2.1
  have hts := B.1.2.2.2.2
  have hiX3 : ∀ w ∈ wsX30, w ∈ wsX7_watchOf := by decide +kernel
  have hl : lv_has ls 8 [(0, .ref (q0 0)), (1, .ref (q1 0)), (2, .int x2)] := hl
  have L23 : ∀ (n : Nat) (x2_23 : Int32) (x3_23 : Int32) (x4_23 : Int32) (x5_23 : Int32) (x6_23 : Int32) (s0_23 : lm_St) (s1_23 : lm_St) (H : Heap) (locs : List Loc) (ls : Array Slot), lm_lp (fun k a => bX7_watchOf_23 k a.1 a.2.1 a.2.2.1 a.2.2.2.1 a.2.2.2.2.1 a.2.2.2.2.2.1 a.2.2.2.2.2.2) n (x2_23, x3_23, x4_23, x5_23, x6_23, s0_23, s1_23) = some R → lm_N G A s (wX7_X3 G q0 q1 s0_23 s1_23) H locs → lv_has ls 8 [(0, .ref (q0 0)), (1, .ref (q1 0)), (2, .int x2_23), (3, .int x3_23), (4, .int x4_23), (5, .int x5_23), (6, .int x6_23)] → W p l e (lm_rk 5) s m ([.ref (q0 0), .ref (q1 0), .int x2] : List Value).toArray below meth c H locs 0 0 (MQ below (lm_post G (wX7_X3 G q0 q1 R.2.1 R.2.2) (some (.int R.1)) A) ([.ref (q0 0), .ref (q1 0), .int x2] : List Value).toArray s 0 0 A) (F0 m 23 ls []) := by
    intro n
    induction n with
    | zero => intro x2_23 x3_23 x4_23 x5_23 x6_23 s0_23 s1_23 H locs ls hF; exact (lm_lpz hF).elim
    | succ n ih23 =>
      intro x2_23 x3_23 x4_23 x5_23 x6_23 s0_23 s1_23 H locs ls hF hN hl
      have hF : bX7_watchOf_23 (lm_lp (fun k a => bX7_watchOf_23 k a.1 a.2.1 a.2.2.1 a.2.2.2.1 a.2.2.2.2.1 a.2.2.2.2.2.1 a.2.2.2.2.2.2) n) x2_23 x3_23 x4_23 x5_23 x6_23 s0_23 s1_23 = some R := lm_lps hF
      generalize lm_lp (fun k a => bX7_watchOf_23 k a.1 a.2.1 a.2.2.1 a.2.2.2.1 a.2.2.2.2.1 a.2.2.2.2.2.1 a.2.2.2.2.2.2) n = k23 at hF ih23
      have J65 : ∀ (x2_65 : Int32) (x3_65 : Int32) (x4_65 : Int32) (x5_65 : Int32) (x6_65 : Int32) (s0_65 : lm_St) (s1_65 : lm_St) (H : Heap) (locs : List Loc) (ls : Array Slot), jX7_watchOf_65 k23 x2_65 x3_65 x4_65 x5_65 x6_65 s0_65 s1_65 = some R → lm_N G A s (wX7_X3 G q0 q1 s0_65 s1_65) H locs → lv_has ls 8 [(0, .ref (q0 0)), (1, .ref (q1 0)), (2, .int x2_65), (3, .int x3_65), (4, .int x4_65), (5, .int x5_65), (6, .int x6_65)] → W p l e (lm_rk 5) s m ([.ref (q0 0), .ref (q1 0), .int x2] : List Value).toArray below meth c H locs 0 0 (MQ below (lm_post G (wX7_X3 G q0 q1 R.2.1 R.2.2) (some (.int R.1)) A) ([.ref (q0 0), .ref (q1 0), .int x2] : List Value).toArray s 0 0 A) (F0 m 65 ls []) := by
        intro x2_65 x3_65 x4_65 x5_65 x6_65 s0_65 s1_65 H locs ls hF hN hl
        refine lv_iinc (v := (x6_65 + 1)) (lv' := [(6, .int (x6_65 + 1)), (0, .ref (q0 0)), (1, .ref (q1 0)), (2, .int x2_65), (3, .int x3_65), (4, .int x4_65), (5, .int x5_65)]) hx hb dX7_watchOf_65 hl (k := 6) rfl rfl (by decide) rfl (fun ls hl => ?_)
        refine lv_goto (tgt := 23) hx hb dX7_watchOf_68 (by decide) ?_
        exact ih23 _ _ _ _ _ _ _ _ _ _ hF hN (lv_sub hl [1, 2, 3, 4, 5, 6, 0] rfl)
      refine lv_iload hx hb dX7_watchOf_23 (lv_at hl 6 rfl) ?_
      refine lv_bipush (v := 9) hx hb dX7_watchOf_25 (by decide) ?_
      refine lv_icmp_gt (tgt := 71) hx hb dX7_watchOf_27 (by decide) (fun c1 => ?_) (fun c1 => ?_)
      · have hF := lm_itp c1 hF
        refine lv_iload hx hb dX7_watchOf_71 (lv_at hl 4 rfl) ?_
        cases hF
        exact lm_iret B hN dX7_watchOf_73
      · have hF := lm_itn c1 hF
        refine lv_aload_n hx hb dX7_watchOf_30 rfl (lv_at hl 0 rfl) ?_
        refine lv_iload_n hx hb dX7_watchOf_31 rfl (lv_at hl 3 rfl) ?_
        refine lv_aload_n hx hb dX7_watchOf_32 rfl (lv_at hl 1 rfl) ?_
        refine lm_get B hN (ci := 3) hiX3 5 rfl rfl 0 (by decide) (by decide +kernel) (v := .ref (q1 1)) rfl dX7_watchOf_33 ?_
        refine lv_iload_n hx hb dX7_watchOf_36 rfl (lv_at hl 2 rfl) ?_
        obtain ⟨z2, hF⟩ := lm_gIe hF
        refine lm_ald B hN 6 (f := (s1_23.2.1 0)) rfl z2 dX7_watchOf_37 ?_
        refine lv_aload_n hx hb dX7_watchOf_38 rfl (lv_at hl 1 rfl) ?_
        refine lv_iload_n hx hb dX7_watchOf_39 rfl (lv_at hl 2 rfl) ?_
        refine lv_iload hx hb dX7_watchOf_40 (lv_at hl 6 rfl) ?_
        obtain ⟨⟨r3, t3_0⟩, hc3, hF⟩ := lm_bd hF
        have hF := lm_un2E hF
        refine lm_run B hN (kp_wX7_X3_1 _ _ _ _ _) (lm_hrV B hN hl.1 (lm_cutP B hN (kp_wX7_X3_1 _ _ _ _ _)) (n := 2) (As := [.int x2_23, .int x6_23]) (rest := [.int ((s1_23.2.1 0) x2_23.toNatClampNeg), .int x3_23, .ref (q0 0)]) (hX3_sinceBehind l G q1 hc3) gX7_watchOf_X3_sinceBehind rfl (by decide +kernel) rfl (by decide) (by decide) (ci := 3) (q0 := 0) rfl rfl rfl (Nat.le_of_ble_eq_true rfl) dX7_watchOf_42) (wX7_X3 G q0 q1 s0_23 t3_0) (kq_wX7_X3_1 _ _ _ _ _) (fun H locs hN => ?_)
        obtain ⟨⟨r4, t4_0⟩, hc4, hF⟩ := lm_bd hF
        have hF := lm_un2E hF
        refine lm_run B hN (kp_wX7_X3_0 _ _ _ _ _) (lm_hrV B hN hl.1 (lm_cutP B hN (kp_wX7_X3_0 _ _ _ _ _)) (n := 3) (As := [.int x3_23, .int ((s1_23.2.1 0) x2_23.toNatClampNeg), .int r3]) (rest := []) (hX7_mostLeft l G q0 hc4) gX7_watchOf_X7_mostLeft rfl (by decide +kernel) rfl (by decide) (by decide) (ci := 7) (q0 := 0) rfl rfl rfl (Nat.le_of_ble_eq_true rfl) dX7_watchOf_45) (wX7_X3 G q0 q1 t4_0 t3_0) (kq_wX7_X3_0 _ _ _ _ _) (fun H locs hN => ?_)
        refine lv_istore (lv' := [(7, .int r4), (0, .ref (q0 0)), (1, .ref (q1 0)), (2, .int x2_23), (3, .int x3_23), (4, .int x4_23), (5, .int x5_23), (6, .int x6_23)]) hx hb dX7_watchOf_48 hl (by decide) rfl (fun ls hl => ?_)
        refine lv_iload hx hb dX7_watchOf_50 (lv_at hl 0 rfl) ?_
        refine lv_iload hx hb dX7_watchOf_52 (lv_at hl 6 rfl) ?_
        refine lv_icmp_ge (tgt := 65) hx hb dX7_watchOf_54 (by decide) (fun c5 => ?_) (fun c5 => ?_)
        · have hF := lm_itp c5 hF
          exact J65 _ _ _ _ _ _ _ _ _ _ hF hN (lv_sub hl [1, 2, 3, 4, 5, 6, 7] rfl)
        · have hF := lm_itn c5 hF
          refine lv_iload hx hb dX7_watchOf_57 (lv_at hl 0 rfl) ?_
          refine lv_istore (lv' := [(5, .int r4), (7, .int r4), (0, .ref (q0 0)), (1, .ref (q1 0)), (2, .int x2_23), (3, .int x3_23), (4, .int x4_23), (6, .int x6_23)]) hx hb dX7_watchOf_59 hl (by decide) rfl (fun ls hl => ?_)
          refine lv_iload hx hb dX7_watchOf_61 (lv_at hl 7 rfl) ?_
          refine lv_istore (lv' := [(4, .int x6_23), (5, .int r4), (7, .int r4), (0, .ref (q0 0)), (1, .ref (q1 0)), (2, .int x2_23), (3, .int x3_23), (6, .int x6_23)]) hx hb dX7_watchOf_63 hl (by decide) rfl (fun ls hl => ?_)
          exact J65 _ _ _ _ _ _ _ _ _ _ hF hN (lv_sub hl [3, 4, 5, 6, 0, 1, 7] rfl)
  refine lv_aload_n hx hb dX7_watchOf_0 rfl (lv_at hl 0 rfl) ?_
  refine lv_aload_n hx hb dX7_watchOf_1 rfl (lv_at hl 1 rfl) ?_
  refine lv_iload_n hx hb dX7_watchOf_2 rfl (lv_at hl 2 rfl) ?_
  obtain ⟨⟨r6, t6_0, t6_1⟩, hc6, hF⟩ := lm_bd hF
  have hF := lm_un3E hF
  refine lm_runA B hN (lm_hrV B hN hl.1 (lm_cutA B hN) (n := 2) (As := [.ref (q1 0), .int x2]) (rest := []) (hX7_looksOf l G q0 q1 hc6) gX7_watchOf_X7_looksOf rfl (by decide +kernel) rfl (by decide) (by decide) (ci := 7) (q0 := 0) rfl rfl rfl (Nat.le_of_ble_eq_true rfl) dX7_watchOf_3) (fun H locs hN => ?_)
  refine lv_istore_n (lv' := [(3, .int r6), (0, .ref (q0 0)), (1, .ref (q1 0)), (2, .int x2)]) hx hb dX7_watchOf_6 rfl hl (by decide) rfl (fun ls hl => ?_)
  refine lv_iload_n hx hb dX7_watchOf_7 rfl (lv_at hl 0 rfl) ?_
  refine lv_if_ne (tgt := 13) hx hb dX7_watchOf_8 (by decide) (fun c7 => ?_) (fun c7 => ?_)
  · have hF := lm_itn c7 hF
    refine lv_iconst (v := 0) hx hb dX7_watchOf_13 (by decide) ?_
    refine lv_istore (lv' := [(4, .int (0 : Int32)), (3, .int r6), (0, .ref (q0 0)), (1, .ref (q1 0)), (2, .int x2)]) hx hb dX7_watchOf_14 hl (by decide) rfl (fun ls hl => ?_)
    refine lv_bipush (v := 22) hx hb dX7_watchOf_16 (by decide) ?_
    refine lv_istore (lv' := [(5, .int (22 : Int32)), (4, .int (0 : Int32)), (3, .int r6), (0, .ref (q0 0)), (1, .ref (q1 0)), (2, .int x2)]) hx hb dX7_watchOf_18 hl (by decide) rfl (fun ls hl => ?_)
    refine lv_iconst (v := 0) hx hb dX7_watchOf_20 (by decide) ?_
    refine lv_istore (lv' := [(6, .int (0 : Int32)), (5, .int (22 : Int32)), (4, .int (0 : Int32)), (3, .int r6), (0, .ref (q0 0)), (1, .ref (q1 0)), (2, .int x2)]) hx hb dX7_watchOf_21 hl (by decide) rfl (fun ls hl => ?_)
    exact L23 5000 _ _ _ _ _ _ _ _ _ _ hF hN (lv_sub hl [4, 5, 6, 3, 2, 1, 0] rfl)
  · have hF := lm_itp c7 hF
    refine lv_iconst (v := -1) hx hb dX7_watchOf_11 (by decide) ?_
    cases hF
    exact lm_iret B hN dX7_watchOf_12
