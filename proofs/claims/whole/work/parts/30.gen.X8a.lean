def fX8_blank (g : Nat → lm_St) : Option (Int32 × (Nat → lm_St)) := some (((g 1).1 0), (lm_gF g 1 0 (0 : Int32)))
set_option maxHeartbeats 4000000 in
set_option maxRecDepth 100000 in
theorem hX8_blank (l : Launch) (G : lm_G) (Q : Nat → Nat → Nat) {g : Nat → lm_St} {R : Int32 × (Nat → lm_St)} (hF : fX8_blank g = some R) : lm_C l G yX8_blank wsX8_blank 1 [.ref (Q 0 0)] (wA8 G Q g) (some (.int R.1)) (wA8 G Q R.2) := by
  refine lm_C.of (cc := cX8_blank) (maxL := 2) (ret := (some .int)) (by decide) rfl (Nat.le_of_ble_eq_true rfl) ?_
  intro p e s m below meth c A ls B hN hl
  have hx := B.1.1
  have hb := B.1.2.1
  have hown := B.1.2.2.2.1
  have hts := B.1.2.2.2.2
  have hiX5 : ∀ w ∈ wsX50, w ∈ wsX8_blank := by decide +kernel
  have hiX8 : ∀ w ∈ wsX80, w ∈ wsX8_blank := by decide +kernel
  have hl : lv_has ls 2 [(0, .ref (Q 0 0))] := hl
  refine lv_aload_n hx hb dX8_blank_0 rfl (lv_at hl 0 rfl) ?_
  refine lm_get B hN (ci := 8) hiX8 0 rfl rfl 0 (by decide) (by decide +kernel) (v := .ref (Q 1 0)) rfl dX8_blank_1 ?_
  refine lm_get B hN (ci := 5) hiX5 1 rfl rfl 1 (by decide) (by decide +kernel) (v := .int ((g 1).1 0)) rfl dX8_blank_4 ?_
  refine lv_istore_n (lv' := [(1, .int ((g 1).1 0)), (0, .ref (Q 0 0))]) hx hb dX8_blank_7 rfl hl (by decide) rfl (fun ls hl => ?_)
  refine lv_aload_n hx hb dX8_blank_8 rfl (lv_at hl 1 rfl) ?_
  refine lm_get B hN (ci := 8) hiX8 0 rfl rfl 0 (by decide) (by decide +kernel) (v := .ref (Q 1 0)) rfl dX8_blank_9 ?_
  refine lv_iconst (v := 0) hx hb dX8_blank_12 (by decide) ?_
  refine lm_put B hN (ci := 5) hiX5 tyX5 tyX5_ok nmX5 1 rfl rfl 1 (by decide) (by decide +kernel) (by decide) (v := .int (0 : Int32)) rfl rfl (Nat.le_of_ble_eq_true rfl) (wA8 G Q (lm_gF g 1 0 (0 : Int32))) (wA8_r1f0 _ _ _ _) dX8_blank_13 (fun H locs hN => ?_)
  refine lv_iload_n hx hb dX8_blank_16 rfl (lv_at hl 0 rfl) ?_
  cases hF
  exact lm_iret B hN dX8_blank_17
def fX8_forget (g : Nat → lm_St) : Option (Int32 × (Nat → lm_St)) := some (((g 4).1 0), (lm_gF g 4 0 (0 : Int32)))
set_option maxHeartbeats 4000000 in
set_option maxRecDepth 100000 in
theorem hX8_forget (l : Launch) (G : lm_G) (Q : Nat → Nat → Nat) {g : Nat → lm_St} {R : Int32 × (Nat → lm_St)} (hF : fX8_forget g = some R) : lm_C l G yX8_forget wsX8_forget 1 [.ref (Q 0 0)] (wA8 G Q g) (some (.int R.1)) (wA8 G Q R.2) := by
  refine lm_C.of (cc := cX8_forget) (maxL := 2) (ret := (some .int)) (by decide) rfl (Nat.le_of_ble_eq_true rfl) ?_
  intro p e s m below meth c A ls B hN hl
  have hx := B.1.1
  have hb := B.1.2.1
  have hown := B.1.2.2.2.1
  have hts := B.1.2.2.2.2
  have hiX7 : ∀ w ∈ wsX70, w ∈ wsX8_forget := by decide +kernel
  have hiX8 : ∀ w ∈ wsX80, w ∈ wsX8_forget := by decide +kernel
  have hl : lv_has ls 2 [(0, .ref (Q 0 0))] := hl
  refine lv_aload_n hx hb dX8_forget_0 rfl (lv_at hl 0 rfl) ?_
  refine lm_get B hN (ci := 8) hiX8 0 rfl rfl 3 (by decide) (by decide +kernel) (v := .ref (Q 4 0)) rfl dX8_forget_1 ?_
  refine lm_get B hN (ci := 7) hiX7 13 rfl rfl 4 (by decide) (by decide +kernel) (v := .int ((g 4).1 0)) rfl dX8_forget_4 ?_
  refine lv_istore_n (lv' := [(1, .int ((g 4).1 0)), (0, .ref (Q 0 0))]) hx hb dX8_forget_7 rfl hl (by decide) rfl (fun ls hl => ?_)
  refine lv_aload_n hx hb dX8_forget_8 rfl (lv_at hl 1 rfl) ?_
  refine lm_get B hN (ci := 8) hiX8 0 rfl rfl 3 (by decide) (by decide +kernel) (v := .ref (Q 4 0)) rfl dX8_forget_9 ?_
  refine lv_iconst (v := 0) hx hb dX8_forget_12 (by decide) ?_
  refine lm_put B hN (ci := 7) hiX7 tyX7 tyX7_ok nmX7 13 rfl rfl 4 (by decide) (by decide +kernel) (by decide) (v := .int (0 : Int32)) rfl rfl (Nat.le_of_ble_eq_true rfl) (wA8 G Q (lm_gF g 4 0 (0 : Int32))) (wA8_r4f0 _ _ _ _) dX8_forget_13 (fun H locs hN => ?_)
  refine lv_iload_n hx hb dX8_forget_16 rfl (lv_at hl 0 rfl) ?_
  cases hF
  exact lm_iret B hN dX8_forget_17
def fX8_as (g : Nat → lm_St) (x1 : Int32) (x2 : Int32) : Option (Int32 × (Nat → lm_St)) := (fX3_has (g 2) x1).bind (fun v1 => lm_un2 v1 (fun r1 t1_0 => if r1 = 0 then (some ((-101 : Int32), (va_up g 2 t1_0))) else (if x2 < 0 then (some ((-102 : Int32), (va_up g 2 t1_0))) else (if x2 < (5 : Int32) then (lm_gI x1 7 ((fX8_isKind ((t1_0.2.1 0) x1.toNatClampNeg) x2).bind (fun r6 => if r6 = 0 then (some ((-1 : Int32), (va_up g 2 t1_0))) else (some (x1, (va_up g 2 t1_0)))))) else (some ((-102 : Int32), (va_up g 2 t1_0)))))))
set_option maxHeartbeats 4000000 in
set_option maxRecDepth 100000 in
theorem hX8_as (l : Launch) (G : lm_G) (Q : Nat → Nat → Nat) {g : Nat → lm_St} {x1 : Int32} {x2 : Int32} {R : Int32 × (Nat → lm_St)} (hF : fX8_as g x1 x2 = some R) : lm_C l G yX8_as wsX8_as 2 [.ref (Q 0 0), .int x1, .int x2] (wA8 G Q g) (some (.int R.1)) (wA8 G Q R.2) := by
  refine lm_C.of (cc := cX8_as) (maxL := 3) (ret := (some .int)) (by decide) rfl (Nat.le_of_ble_eq_true rfl) ?_
  intro p e s m below meth c A ls B hN hl
  have hx := B.1.1
  have hb := B.1.2.1
  have hown := B.1.2.2.2.1
  have hts := B.1.2.2.2.2
  have hiX3 : ∀ w ∈ wsX30, w ∈ wsX8_as := by decide +kernel
  have hiX8 : ∀ w ∈ wsX80, w ∈ wsX8_as := by decide +kernel
  have hl : lv_has ls 3 [(0, .ref (Q 0 0)), (1, .int x1), (2, .int x2)] := hl
  refine lv_aload_n hx hb dX8_as_0 rfl (lv_at hl 0 rfl) ?_
  refine lm_get B hN (ci := 8) hiX8 0 rfl rfl 1 (by decide) (by decide +kernel) (v := .ref (Q 2 0)) rfl dX8_as_1 ?_
  refine lv_iload_n hx hb dX8_as_4 rfl (lv_at hl 1 rfl) ?_
  obtain ⟨⟨r1, t1_0⟩, hc1, hF⟩ := lm_bd hF
  have hF := lm_un2E hF
  refine lm_run B hN (kp_wA8_2 _ _ _) (lm_hrV B hN hl.1 (lm_cutP B hN (kp_wA8_2 _ _ _)) (n := 1) (As := [.int x1]) (rest := []) (hX3_has l G (Q 2) hc1) gX8_as_X3_has rfl (by decide +kernel) rfl (by decide) (by decide) (ci := 3) (q0 := 0) rfl rfl rfl (Nat.le_of_ble_eq_true rfl) dX8_as_5) (wA8 G Q (va_up g 2 t1_0)) (kq_wA8_2 _ _ _ _) (fun H locs hN => ?_)
  refine lv_if_ne (tgt := 14) hx hb dX8_as_8 (by decide) (fun c2 => ?_) (fun c2 => ?_)
  · have hF := lm_itn c2 hF
    refine lv_iload_n hx hb dX8_as_14 rfl (lv_at hl 2 rfl) ?_
    refine lv_if_lt (tgt := 23) hx hb dX8_as_15 (by decide) (fun c3 => ?_) (fun c3 => ?_)
    · have hF := lm_itp c3 hF
      refine lv_bipush (v := -102) hx hb dX8_as_23 (by decide) ?_
      cases hF
      exact lm_iret B hN dX8_as_25
    · have hF := lm_itn c3 hF
      refine lv_iload_n hx hb dX8_as_18 rfl (lv_at hl 2 rfl) ?_
      refine lv_iconst (v := 5) hx hb dX8_as_19 (by decide) ?_
      refine lv_icmp_lt (tgt := 26) hx hb dX8_as_20 (by decide) (fun c4 => ?_) (fun c4 => ?_)
      · have hF := lm_itp c4 hF
        refine lv_aload_n hx hb dX8_as_26 rfl (lv_at hl 0 rfl) ?_
        refine lm_get B hN (ci := 8) hiX8 0 rfl rfl 1 (by decide) (by decide +kernel) (v := .ref (Q 2 0)) rfl dX8_as_27 ?_
        refine lm_get B hN (ci := 3) hiX3 3 rfl rfl 0 (by decide) (by decide +kernel) (v := .ref (Q 2 1)) rfl dX8_as_30 ?_
        refine lv_iload_n hx hb dX8_as_33 rfl (lv_at hl 1 rfl) ?_
        obtain ⟨z5, hF⟩ := lm_gIe hF
        refine lm_ald B hN 4 (f := (t1_0.2.1 0)) rfl z5 dX8_as_34 ?_
        refine lv_iload_n hx hb dX8_as_35 rfl (lv_at hl 2 rfl) ?_
        obtain ⟨r6, hc6, hF⟩ := lm_bd hF
        refine lm_run0 B hN (lm_hrT B hN hl.1 (lm_cut0 B hN) (n := 2) (As := [.int ((t1_0.2.1 0) x1.toNatClampNeg), .int x2]) (rest := []) (hX8_isKind l G hc6) gX8_as_X8_isKind rfl (by decide +kernel) rfl (by decide) (by decide) rfl (Nat.le_of_ble_eq_true rfl) dX8_as_36) (fun H locs hN => ?_)
        refine lv_if_eq (tgt := 46) hx hb dX8_as_39 (by decide) (fun c7 => ?_) (fun c7 => ?_)
        · have hF := lm_itp c7 hF
          refine lv_iconst (v := -1) hx hb dX8_as_46 (by decide) ?_
          cases hF
          exact lm_iret B hN dX8_as_47
        · have hF := lm_itn c7 hF
          refine lv_iload_n hx hb dX8_as_42 rfl (lv_at hl 1 rfl) ?_
          refine lv_goto (tgt := 47) hx hb dX8_as_43 (by decide) ?_
          cases hF
          exact lm_iret B hN dX8_as_47
      · have hF := lm_itn c4 hF
        refine lv_bipush (v := -102) hx hb dX8_as_23 (by decide) ?_
        cases hF
        exact lm_iret B hN dX8_as_25
  · have hF := lm_itp c2 hF
    refine lv_bipush (v := -101) hx hb dX8_as_11 (by decide) ?_
    cases hF
    exact lm_iret B hN dX8_as_13
def fX8_borrow (g : Nat → lm_St) (x1 : Int32) : Option (Int32 × (Nat → lm_St)) := if x1 < (1 : Int32) then (some ((-102 : Int32), g)) else (if x1 ≤ (50 : Int32) then ((fX3_isNone (g 2)).bind (fun v3 => lm_un2 v3 (fun r3 t3_0 => if r3 = 0 then (if ((t3_0.1 2) + x1) ≤ (99 : Int32) then (some (((t3_0.1 2) + x1), (lm_gF (va_up g 2 t3_0) 2 2 ((t3_0.1 2) + x1)))) else (some ((-104 : Int32), (va_up g 2 t3_0)))) else (some ((-103 : Int32), (va_up g 2 t3_0)))))) else (some ((-102 : Int32), g)))
set_option maxHeartbeats 4000000 in
set_option maxRecDepth 100000 in
theorem hX8_borrow (l : Launch) (G : lm_G) (Q : Nat → Nat → Nat) {g : Nat → lm_St} {x1 : Int32} {R : Int32 × (Nat → lm_St)} (hF : fX8_borrow g x1 = some R) : lm_C l G yX8_borrow wsX8_borrow 2 [.ref (Q 0 0), .int x1] (wA8 G Q g) (some (.int R.1)) (wA8 G Q R.2) := by
  refine lm_C.of (cc := cX8_borrow) (maxL := 2) (ret := (some .int)) (by decide) rfl (Nat.le_of_ble_eq_true rfl) ?_
  intro p e s m below meth c A ls B hN hl
  have hx := B.1.1
  have hb := B.1.2.1
  have hown := B.1.2.2.2.1
  have hts := B.1.2.2.2.2
  have hiX3 : ∀ w ∈ wsX30, w ∈ wsX8_borrow := by decide +kernel
  have hiX8 : ∀ w ∈ wsX80, w ∈ wsX8_borrow := by decide +kernel
  have hl : lv_has ls 2 [(0, .ref (Q 0 0)), (1, .int x1)] := hl
  refine lv_iload_n hx hb dX8_borrow_0 rfl (lv_at hl 1 rfl) ?_
  refine lv_iconst (v := 1) hx hb dX8_borrow_1 (by decide) ?_
  refine lv_icmp_lt (tgt := 11) hx hb dX8_borrow_2 (by decide) (fun c1 => ?_) (fun c1 => ?_)
  · have hF := lm_itp c1 hF
    refine lv_bipush (v := -102) hx hb dX8_borrow_11 (by decide) ?_
    cases hF
    exact lm_iret B hN dX8_borrow_13
  · have hF := lm_itn c1 hF
    refine lv_iload_n hx hb dX8_borrow_5 rfl (lv_at hl 1 rfl) ?_
    refine lv_bipush (v := 50) hx hb dX8_borrow_6 (by decide) ?_
    refine lv_icmp_le (tgt := 14) hx hb dX8_borrow_8 (by decide) (fun c2 => ?_) (fun c2 => ?_)
    · have hF := lm_itp c2 hF
      refine lv_aload_n hx hb dX8_borrow_14 rfl (lv_at hl 0 rfl) ?_
      refine lm_get B hN (ci := 8) hiX8 0 rfl rfl 1 (by decide) (by decide +kernel) (v := .ref (Q 2 0)) rfl dX8_borrow_15 ?_
      obtain ⟨⟨r3, t3_0⟩, hc3, hF⟩ := lm_bd hF
      have hF := lm_un2E hF
      refine lm_run B hN (kp_wA8_2 _ _ _) (lm_hrV B hN hl.1 (lm_cutP B hN (kp_wA8_2 _ _ _)) (n := 0) (As := []) (rest := []) (hX3_isNone l G (Q 2) hc3) gX8_borrow_X3_isNone rfl (by decide +kernel) rfl (by decide) (by decide) (ci := 3) (q0 := 0) rfl rfl rfl (Nat.le_of_ble_eq_true rfl) dX8_borrow_18) (wA8 G Q (va_up g 2 t3_0)) (kq_wA8_2 _ _ _ _) (fun H locs hN => ?_)
      refine lv_if_eq (tgt := 27) hx hb dX8_borrow_21 (by decide) (fun c4 => ?_) (fun c4 => ?_)
      · have hF := lm_itp c4 hF
        refine lv_aload_n hx hb dX8_borrow_27 rfl (lv_at hl 0 rfl) ?_
        refine lm_get B hN (ci := 8) hiX8 0 rfl rfl 1 (by decide) (by decide +kernel) (v := .ref (Q 2 0)) rfl dX8_borrow_28 ?_
        refine lm_get B hN (ci := 3) hiX3 3 rfl rfl 6 (by decide) (by decide +kernel) (v := .int (t3_0.1 2)) rfl dX8_borrow_31 ?_
        refine lv_iload_n hx hb dX8_borrow_34 rfl (lv_at hl 1 rfl) ?_
        refine lv_iadd hx hb dX8_borrow_35 ?_
        refine lv_bipush (v := 99) hx hb dX8_borrow_36 (by decide) ?_
        refine lv_icmp_le (tgt := 44) hx hb dX8_borrow_38 (by decide) (fun c5 => ?_) (fun c5 => ?_)
        · have hF := lm_itp c5 hF
          refine lv_aload_n hx hb dX8_borrow_44 rfl (lv_at hl 0 rfl) ?_
          refine lm_get B hN (ci := 8) hiX8 0 rfl rfl 1 (by decide) (by decide +kernel) (v := .ref (Q 2 0)) rfl dX8_borrow_45 ?_
          refine lv_dup hx hb dX8_borrow_48 rfl ?_
          refine lm_get B hN (ci := 3) hiX3 3 rfl rfl 6 (by decide) (by decide +kernel) (v := .int (t3_0.1 2)) rfl dX8_borrow_49 ?_
          refine lv_iload_n hx hb dX8_borrow_52 rfl (lv_at hl 1 rfl) ?_
          refine lv_iadd hx hb dX8_borrow_53 ?_
          refine lm_put B hN (ci := 3) hiX3 tyX3 tyX3_ok nmX3 3 rfl rfl 6 (by decide) (by decide +kernel) (by decide) (v := .int ((t3_0.1 2) + x1)) rfl rfl (Nat.le_of_ble_eq_true rfl) (wA8 G Q (lm_gF (va_up g 2 t3_0) 2 2 ((t3_0.1 2) + x1))) (wA8_r2f2 _ _ _ _) dX8_borrow_54 (fun H locs hN => ?_)
          refine lv_aload_n hx hb dX8_borrow_57 rfl (lv_at hl 0 rfl) ?_
          refine lm_get B hN (ci := 8) hiX8 0 rfl rfl 1 (by decide) (by decide +kernel) (v := .ref (Q 2 0)) rfl dX8_borrow_58 ?_
          refine lm_get B hN (ci := 3) hiX3 3 rfl rfl 6 (by decide) (by decide +kernel) (v := .int ((t3_0.1 2) + x1)) rfl dX8_borrow_61 ?_
          cases hF
          exact lm_iret B hN dX8_borrow_64
        · have hF := lm_itn c5 hF
          refine lv_bipush (v := -104) hx hb dX8_borrow_41 (by decide) ?_
          cases hF
          exact lm_iret B hN dX8_borrow_43
      · have hF := lm_itn c4 hF
        refine lv_bipush (v := -103) hx hb dX8_borrow_24 (by decide) ?_
        cases hF
        exact lm_iret B hN dX8_borrow_26
    · have hF := lm_itn c2 hF
      refine lv_bipush (v := -102) hx hb dX8_borrow_11 (by decide) ?_
      cases hF
      exact lm_iret B hN dX8_borrow_13
def fX8_change (g : Nat → lm_St) (x1 : Int32) (x2 : Int32) (x3 : Int32) : Option (Int32 × (Nat → lm_St)) := (fX3_has (g 2) x1).bind (fun v1 => lm_un2 v1 (fun r1 t1_0 => if r1 = 0 then (some ((-101 : Int32), (va_up g 2 t1_0))) else (if x2 < 0 then (some ((-102 : Int32), (va_up g 2 t1_0))) else (if (5 : Int32) ≤ x2 then (some ((-102 : Int32), (va_up g 2 t1_0))) else (if x3 < (1 : Int32) then (some ((-102 : Int32), (va_up g 2 t1_0))) else (if x3 ≤ (9 : Int32) then (lm_gI x1 7 (lm_gI x1 7 (lm_gI x1 7 (some (((t1_0.2.1 0) x1.toNatClampNeg), (lm_gA (lm_gA (va_up g 2 t1_0) 2 0 (upd (t1_0.2.1 0) x1.toNatClampNeg x2)) 2 1 (upd (t1_0.2.1 1) x1.toNatClampNeg x3))))))) else (some ((-102 : Int32), (va_up g 2 t1_0)))))))))
set_option maxHeartbeats 4000000 in
set_option maxRecDepth 100000 in
theorem hX8_change (l : Launch) (G : lm_G) (Q : Nat → Nat → Nat) {g : Nat → lm_St} {x1 : Int32} {x2 : Int32} {x3 : Int32} {R : Int32 × (Nat → lm_St)} (hF : fX8_change g x1 x2 x3 = some R) : lm_C l G yX8_change wsX8_change 2 [.ref (Q 0 0), .int x1, .int x2, .int x3] (wA8 G Q g) (some (.int R.1)) (wA8 G Q R.2) := by
  refine lm_C.of (cc := cX8_change) (maxL := 5) (ret := (some .int)) (by decide) rfl (Nat.le_of_ble_eq_true rfl) ?_
  intro p e s m below meth c A ls B hN hl
  have hx := B.1.1
  have hb := B.1.2.1
  have hown := B.1.2.2.2.1
  have hts := B.1.2.2.2.2
  have hiX3 : ∀ w ∈ wsX30, w ∈ wsX8_change := by decide +kernel
  have hiX8 : ∀ w ∈ wsX80, w ∈ wsX8_change := by decide +kernel
  have hl : lv_has ls 5 [(0, .ref (Q 0 0)), (1, .int x1), (2, .int x2), (3, .int x3)] := hl
  refine lv_aload_n hx hb dX8_change_0 rfl (lv_at hl 0 rfl) ?_
  refine lm_get B hN (ci := 8) hiX8 0 rfl rfl 1 (by decide) (by decide +kernel) (v := .ref (Q 2 0)) rfl dX8_change_1 ?_
  refine lv_iload_n hx hb dX8_change_4 rfl (lv_at hl 1 rfl) ?_
  obtain ⟨⟨r1, t1_0⟩, hc1, hF⟩ := lm_bd hF
  have hF := lm_un2E hF
  refine lm_run B hN (kp_wA8_2 _ _ _) (lm_hrV B hN hl.1 (lm_cutP B hN (kp_wA8_2 _ _ _)) (n := 1) (As := [.int x1]) (rest := []) (hX3_has l G (Q 2) hc1) gX8_change_X3_has rfl (by decide +kernel) rfl (by decide) (by decide) (ci := 3) (q0 := 0) rfl rfl rfl (Nat.le_of_ble_eq_true rfl) dX8_change_5) (wA8 G Q (va_up g 2 t1_0)) (kq_wA8_2 _ _ _ _) (fun H locs hN => ?_)
  refine lv_if_ne (tgt := 14) hx hb dX8_change_8 (by decide) (fun c2 => ?_) (fun c2 => ?_)
  · have hF := lm_itn c2 hF
    refine lv_iload_n hx hb dX8_change_14 rfl (lv_at hl 2 rfl) ?_
    refine lv_if_lt (tgt := 34) hx hb dX8_change_15 (by decide) (fun c3 => ?_) (fun c3 => ?_)
    · have hF := lm_itp c3 hF
      refine lv_bipush (v := -102) hx hb dX8_change_34 (by decide) ?_
      cases hF
      exact lm_iret B hN dX8_change_36
    · have hF := lm_itn c3 hF
      refine lv_iload_n hx hb dX8_change_18 rfl (lv_at hl 2 rfl) ?_
      refine lv_iconst (v := 5) hx hb dX8_change_19 (by decide) ?_
      refine lv_icmp_ge (tgt := 34) hx hb dX8_change_20 (by decide) (fun c4 => ?_) (fun c4 => ?_)
      · have hF := lm_itp c4 hF
        refine lv_bipush (v := -102) hx hb dX8_change_34 (by decide) ?_
        cases hF
        exact lm_iret B hN dX8_change_36
      · have hF := lm_itn c4 hF
        refine lv_iload_n hx hb dX8_change_23 rfl (lv_at hl 3 rfl) ?_
        refine lv_iconst (v := 1) hx hb dX8_change_24 (by decide) ?_
        refine lv_icmp_lt (tgt := 34) hx hb dX8_change_25 (by decide) (fun c5 => ?_) (fun c5 => ?_)
        · have hF := lm_itp c5 hF
          refine lv_bipush (v := -102) hx hb dX8_change_34 (by decide) ?_
          cases hF
          exact lm_iret B hN dX8_change_36
        · have hF := lm_itn c5 hF
          refine lv_iload_n hx hb dX8_change_28 rfl (lv_at hl 3 rfl) ?_
          refine lv_bipush (v := 9) hx hb dX8_change_29 (by decide) ?_
          refine lv_icmp_le (tgt := 37) hx hb dX8_change_31 (by decide) (fun c6 => ?_) (fun c6 => ?_)
          · have hF := lm_itp c6 hF
            refine lv_aload_n hx hb dX8_change_37 rfl (lv_at hl 0 rfl) ?_
            refine lm_get B hN (ci := 8) hiX8 0 rfl rfl 1 (by decide) (by decide +kernel) (v := .ref (Q 2 0)) rfl dX8_change_38 ?_
            refine lm_get B hN (ci := 3) hiX3 3 rfl rfl 0 (by decide) (by decide +kernel) (v := .ref (Q 2 1)) rfl dX8_change_41 ?_
            refine lv_iload_n hx hb dX8_change_44 rfl (lv_at hl 1 rfl) ?_
            obtain ⟨z7, hF⟩ := lm_gIe hF
            refine lm_ald B hN 4 (f := (t1_0.2.1 0)) rfl z7 dX8_change_45 ?_
            refine lv_istore (lv' := [(4, .int ((t1_0.2.1 0) x1.toNatClampNeg)), (0, .ref (Q 0 0)), (1, .int x1), (2, .int x2), (3, .int x3)]) hx hb dX8_change_46 hl (by decide) rfl (fun ls hl => ?_)
            refine lv_aload_n hx hb dX8_change_48 rfl (lv_at hl 1 rfl) ?_
            refine lm_get B hN (ci := 8) hiX8 0 rfl rfl 1 (by decide) (by decide +kernel) (v := .ref (Q 2 0)) rfl dX8_change_49 ?_
            refine lm_get B hN (ci := 3) hiX3 3 rfl rfl 0 (by decide) (by decide +kernel) (v := .ref (Q 2 1)) rfl dX8_change_52 ?_
            refine lv_iload_n hx hb dX8_change_55 rfl (lv_at hl 2 rfl) ?_
            refine lv_iload_n hx hb dX8_change_56 rfl (lv_at hl 3 rfl) ?_
            obtain ⟨z8, hF⟩ := lm_gIe hF
            refine lm_ast B hN 4 (f := (t1_0.2.1 0)) rfl z8 (wA8 G Q (lm_gA (va_up g 2 t1_0) 2 0 (upd (t1_0.2.1 0) x1.toNatClampNeg x2))) (wA8_r2a0 _ _ _ _) dX8_change_57 (fun H locs hN => ?_)
            refine lv_aload_n hx hb dX8_change_58 rfl (lv_at hl 1 rfl) ?_
            refine lm_get B hN (ci := 8) hiX8 0 rfl rfl 1 (by decide) (by decide +kernel) (v := .ref (Q 2 0)) rfl dX8_change_59 ?_
            refine lm_get B hN (ci := 3) hiX3 3 rfl rfl 1 (by decide) (by decide +kernel) (v := .ref (Q 2 2)) rfl dX8_change_62 ?_
            refine lv_iload_n hx hb dX8_change_65 rfl (lv_at hl 2 rfl) ?_
            refine lv_iload_n hx hb dX8_change_66 rfl (lv_at hl 4 rfl) ?_
            obtain ⟨z9, hF⟩ := lm_gIe hF
            refine lm_ast B hN 5 (f := (t1_0.2.1 1)) rfl z9 (wA8 G Q (lm_gA (lm_gA (va_up g 2 t1_0) 2 0 (upd (t1_0.2.1 0) x1.toNatClampNeg x2)) 2 1 (upd (t1_0.2.1 1) x1.toNatClampNeg x3))) (wA8_r2a1 _ _ _ _) dX8_change_67 (fun H locs hN => ?_)
            refine lv_iload hx hb dX8_change_68 (lv_at hl 0 rfl) ?_
            cases hF
            exact lm_iret B hN dX8_change_70
          · have hF := lm_itn c6 hF
            refine lv_bipush (v := -102) hx hb dX8_change_34 (by decide) ?_
            cases hF
            exact lm_iret B hN dX8_change_36
  · have hF := lm_itp c2 hF
    refine lv_bipush (v := -101) hx hb dX8_change_11 (by decide) ?_
    cases hF
    exact lm_iret B hN dX8_change_13
def fX8_letter (g : Nat → lm_St) (x1 : Int32) : Option (Int32 × (Nat → lm_St)) := if x1 < (1 : Int32) then (some ((-102 : Int32), g)) else (if x1 ≤ (126 : Int32) then ((fX5_add (g 1) x1).bind (fun v3 => lm_un2 v3 (fun r3 t3_0 => if r3 = 0 then (some ((-104 : Int32), (va_up g 1 t3_0))) else (some ((t3_0.1 0), (va_up g 1 t3_0)))))) else (some ((-102 : Int32), g)))
set_option maxHeartbeats 4000000 in
set_option maxRecDepth 100000 in
theorem hX8_letter (l : Launch) (G : lm_G) (Q : Nat → Nat → Nat) {g : Nat → lm_St} {x1 : Int32} {R : Int32 × (Nat → lm_St)} (hF : fX8_letter g x1 = some R) : lm_C l G yX8_letter wsX8_letter 2 [.ref (Q 0 0), .int x1] (wA8 G Q g) (some (.int R.1)) (wA8 G Q R.2) := by
  refine lm_C.of (cc := cX8_letter) (maxL := 2) (ret := (some .int)) (by decide) rfl (Nat.le_of_ble_eq_true rfl) ?_
  intro p e s m below meth c A ls B hN hl
  have hx := B.1.1
  have hb := B.1.2.1
  have hown := B.1.2.2.2.1
  have hts := B.1.2.2.2.2
  have hiX5 : ∀ w ∈ wsX50, w ∈ wsX8_letter := by decide +kernel
  have hiX8 : ∀ w ∈ wsX80, w ∈ wsX8_letter := by decide +kernel
  have hl : lv_has ls 2 [(0, .ref (Q 0 0)), (1, .int x1)] := hl
  refine lv_iload_n hx hb dX8_letter_0 rfl (lv_at hl 1 rfl) ?_
  refine lv_iconst (v := 1) hx hb dX8_letter_1 (by decide) ?_
  refine lv_icmp_lt (tgt := 11) hx hb dX8_letter_2 (by decide) (fun c1 => ?_) (fun c1 => ?_)
  · have hF := lm_itp c1 hF
    refine lv_bipush (v := -102) hx hb dX8_letter_11 (by decide) ?_
    cases hF
    exact lm_iret B hN dX8_letter_13
  · have hF := lm_itn c1 hF
    refine lv_iload_n hx hb dX8_letter_5 rfl (lv_at hl 1 rfl) ?_
    refine lv_bipush (v := 126) hx hb dX8_letter_6 (by decide) ?_
    refine lv_icmp_le (tgt := 14) hx hb dX8_letter_8 (by decide) (fun c2 => ?_) (fun c2 => ?_)
    · have hF := lm_itp c2 hF
      refine lv_aload_n hx hb dX8_letter_14 rfl (lv_at hl 0 rfl) ?_
      refine lm_get B hN (ci := 8) hiX8 0 rfl rfl 0 (by decide) (by decide +kernel) (v := .ref (Q 1 0)) rfl dX8_letter_15 ?_
      refine lv_iload_n hx hb dX8_letter_18 rfl (lv_at hl 1 rfl) ?_
      obtain ⟨⟨r3, t3_0⟩, hc3, hF⟩ := lm_bd hF
      have hF := lm_un2E hF
      refine lm_run B hN (kp_wA8_1 _ _ _) (lm_hrV B hN hl.1 (lm_cutP B hN (kp_wA8_1 _ _ _)) (n := 1) (As := [.int x1]) (rest := []) (hX5_add l G (Q 1) hc3) gX8_letter_X5_add rfl (by decide +kernel) rfl (by decide) (by decide) (ci := 5) (q0 := 0) rfl rfl rfl (Nat.le_of_ble_eq_true rfl) dX8_letter_19) (wA8 G Q (va_up g 1 t3_0)) (kq_wA8_1 _ _ _ _) (fun H locs hN => ?_)
      refine lv_if_eq (tgt := 35) hx hb dX8_letter_22 (by decide) (fun c4 => ?_) (fun c4 => ?_)
      · have hF := lm_itp c4 hF
        refine lv_bipush (v := -104) hx hb dX8_letter_35 (by decide) ?_
        cases hF
        exact lm_iret B hN dX8_letter_37
      · have hF := lm_itn c4 hF
        refine lv_aload_n hx hb dX8_letter_25 rfl (lv_at hl 0 rfl) ?_
        refine lm_get B hN (ci := 8) hiX8 0 rfl rfl 0 (by decide) (by decide +kernel) (v := .ref (Q 1 0)) rfl dX8_letter_26 ?_
        refine lm_get B hN (ci := 5) hiX5 1 rfl rfl 1 (by decide) (by decide +kernel) (v := .int (t3_0.1 0)) rfl dX8_letter_29 ?_
        refine lv_goto (tgt := 37) hx hb dX8_letter_32 (by decide) ?_
        cases hF
        exact lm_iret B hN dX8_letter_37
    · have hF := lm_itn c2 hF
      refine lv_bipush (v := -102) hx hb dX8_letter_11 (by decide) ?_
      cases hF
      exact lm_iret B hN dX8_letter_13
def fX8_redeem (g : Nat → lm_St) (x1 : Int32) : Option (Int32 × (Nat → lm_St)) := (fX3_has (g 2) x1).bind (fun v1 => lm_un2 v1 (fun r1 t1_0 => if r1 = 0 then (some ((-101 : Int32), (va_up g 2 t1_0))) else ((fX8_isIn (t1_0.1 1) x1).bind (fun r3 => if r3 = 0 then (some ((-103 : Int32), (va_up g 2 t1_0))) else (lm_gI x1 7 (if ((t1_0.1 2) + ((t1_0.2.1 1) x1.toNatClampNeg)) ≤ (99 : Int32) then (lm_gI x1 7 (some (((t1_0.1 2) + ((t1_0.2.1 1) x1.toNatClampNeg)), (lm_gF (lm_gF (va_up g 2 t1_0) 2 1 ((t1_0.1 1) &&& (((1 : Int32) <<< (x1 &&& 31)) ^^^ (-1 : Int32)))) 2 2 ((t1_0.1 2) + ((t1_0.2.1 1) x1.toNatClampNeg)))))) else (some ((-104 : Int32), (va_up g 2 t1_0)))))))))
set_option maxHeartbeats 4000000 in
set_option maxRecDepth 100000 in
theorem hX8_redeem (l : Launch) (G : lm_G) (Q : Nat → Nat → Nat) {g : Nat → lm_St} {x1 : Int32} {R : Int32 × (Nat → lm_St)} (hF : fX8_redeem g x1 = some R) : lm_C l G yX8_redeem wsX8_redeem 2 [.ref (Q 0 0), .int x1] (wA8 G Q g) (some (.int R.1)) (wA8 G Q R.2) := by
  refine lm_C.of (cc := cX8_redeem) (maxL := 2) (ret := (some .int)) (by decide) rfl (Nat.le_of_ble_eq_true rfl) ?_
  intro p e s m below meth c A ls B hN hl
  have hx := B.1.1
  have hb := B.1.2.1
  have hown := B.1.2.2.2.1
  have hts := B.1.2.2.2.2
  have hiX3 : ∀ w ∈ wsX30, w ∈ wsX8_redeem := by decide +kernel
  have hiX8 : ∀ w ∈ wsX80, w ∈ wsX8_redeem := by decide +kernel
  have hl : lv_has ls 2 [(0, .ref (Q 0 0)), (1, .int x1)] := hl
  refine lv_aload_n hx hb dX8_redeem_0 rfl (lv_at hl 0 rfl) ?_
  refine lm_get B hN (ci := 8) hiX8 0 rfl rfl 1 (by decide) (by decide +kernel) (v := .ref (Q 2 0)) rfl dX8_redeem_1 ?_
  refine lv_iload_n hx hb dX8_redeem_4 rfl (lv_at hl 1 rfl) ?_
  obtain ⟨⟨r1, t1_0⟩, hc1, hF⟩ := lm_bd hF
  have hF := lm_un2E hF
  refine lm_run B hN (kp_wA8_2 _ _ _) (lm_hrV B hN hl.1 (lm_cutP B hN (kp_wA8_2 _ _ _)) (n := 1) (As := [.int x1]) (rest := []) (hX3_has l G (Q 2) hc1) gX8_redeem_X3_has rfl (by decide +kernel) rfl (by decide) (by decide) (ci := 3) (q0 := 0) rfl rfl rfl (Nat.le_of_ble_eq_true rfl) dX8_redeem_5) (wA8 G Q (va_up g 2 t1_0)) (kq_wA8_2 _ _ _ _) (fun H locs hN => ?_)
  refine lv_if_ne (tgt := 14) hx hb dX8_redeem_8 (by decide) (fun c2 => ?_) (fun c2 => ?_)
  · have hF := lm_itn c2 hF
    refine lv_aload_n hx hb dX8_redeem_14 rfl (lv_at hl 0 rfl) ?_
    refine lm_get B hN (ci := 8) hiX8 0 rfl rfl 1 (by decide) (by decide +kernel) (v := .ref (Q 2 0)) rfl dX8_redeem_15 ?_
    refine lm_get B hN (ci := 3) hiX3 3 rfl rfl 5 (by decide) (by decide +kernel) (v := .int (t1_0.1 1)) rfl dX8_redeem_18 ?_
    refine lv_iload_n hx hb dX8_redeem_21 rfl (lv_at hl 1 rfl) ?_
    obtain ⟨r3, hc3, hF⟩ := lm_bd hF
    refine lm_run0 B hN (lm_hrT B hN hl.1 (lm_cut0 B hN) (n := 2) (As := [.int (t1_0.1 1), .int x1]) (rest := []) (hX8_isIn l G hc3) gX8_redeem_X8_isIn rfl (by decide +kernel) rfl (by decide) (by decide) rfl (Nat.le_of_ble_eq_true rfl) dX8_redeem_22) (fun H locs hN => ?_)
    refine lv_if_ne (tgt := 31) hx hb dX8_redeem_25 (by decide) (fun c4 => ?_) (fun c4 => ?_)
    · have hF := lm_itn c4 hF
      refine lv_aload_n hx hb dX8_redeem_31 rfl (lv_at hl 0 rfl) ?_
      refine lm_get B hN (ci := 8) hiX8 0 rfl rfl 1 (by decide) (by decide +kernel) (v := .ref (Q 2 0)) rfl dX8_redeem_32 ?_
      refine lm_get B hN (ci := 3) hiX3 3 rfl rfl 6 (by decide) (by decide +kernel) (v := .int (t1_0.1 2)) rfl dX8_redeem_35 ?_
      refine lv_aload_n hx hb dX8_redeem_38 rfl (lv_at hl 0 rfl) ?_
      refine lm_get B hN (ci := 8) hiX8 0 rfl rfl 1 (by decide) (by decide +kernel) (v := .ref (Q 2 0)) rfl dX8_redeem_39 ?_
      refine lm_get B hN (ci := 3) hiX3 3 rfl rfl 1 (by decide) (by decide +kernel) (v := .ref (Q 2 2)) rfl dX8_redeem_42 ?_
      refine lv_iload_n hx hb dX8_redeem_45 rfl (lv_at hl 1 rfl) ?_
      obtain ⟨z5, hF⟩ := lm_gIe hF
      refine lm_ald B hN 5 (f := (t1_0.2.1 1)) rfl z5 dX8_redeem_46 ?_
      refine lv_iadd hx hb dX8_redeem_47 ?_
      refine lv_bipush (v := 99) hx hb dX8_redeem_48 (by decide) ?_
      refine lv_icmp_le (tgt := 56) hx hb dX8_redeem_50 (by decide) (fun c6 => ?_) (fun c6 => ?_)
      · have hF := lm_itp c6 hF
        refine lv_aload_n hx hb dX8_redeem_56 rfl (lv_at hl 0 rfl) ?_
        refine lm_get B hN (ci := 8) hiX8 0 rfl rfl 1 (by decide) (by decide +kernel) (v := .ref (Q 2 0)) rfl dX8_redeem_57 ?_
        refine lv_dup hx hb dX8_redeem_60 rfl ?_
        refine lm_get B hN (ci := 3) hiX3 3 rfl rfl 5 (by decide) (by decide +kernel) (v := .int (t1_0.1 1)) rfl dX8_redeem_61 ?_
        refine lv_iconst (v := 1) hx hb dX8_redeem_64 (by decide) ?_
        refine lv_iload_n hx hb dX8_redeem_65 rfl (lv_at hl 1 rfl) ?_
        refine lv_ishl hx hb dX8_redeem_66 ?_
        refine lv_iconst (v := -1) hx hb dX8_redeem_67 (by decide) ?_
        refine lv_ixor hx hb dX8_redeem_68 ?_
        refine lv_iand hx hb dX8_redeem_69 ?_
        refine lm_put B hN (ci := 3) hiX3 tyX3 tyX3_ok nmX3 3 rfl rfl 5 (by decide) (by decide +kernel) (by decide) (v := .int ((t1_0.1 1) &&& (((1 : Int32) <<< (x1 &&& 31)) ^^^ (-1 : Int32)))) rfl rfl (Nat.le_of_ble_eq_true rfl) (wA8 G Q (lm_gF (va_up g 2 t1_0) 2 1 ((t1_0.1 1) &&& (((1 : Int32) <<< (x1 &&& 31)) ^^^ (-1 : Int32))))) (wA8_r2f1 _ _ _ _) dX8_redeem_70 (fun H locs hN => ?_)
        refine lv_aload_n hx hb dX8_redeem_73 rfl (lv_at hl 0 rfl) ?_
        refine lm_get B hN (ci := 8) hiX8 0 rfl rfl 1 (by decide) (by decide +kernel) (v := .ref (Q 2 0)) rfl dX8_redeem_74 ?_
        refine lv_dup hx hb dX8_redeem_77 rfl ?_
        refine lm_get B hN (ci := 3) hiX3 3 rfl rfl 6 (by decide) (by decide +kernel) (v := .int (t1_0.1 2)) rfl dX8_redeem_78 ?_
        refine lv_aload_n hx hb dX8_redeem_81 rfl (lv_at hl 0 rfl) ?_
        refine lm_get B hN (ci := 8) hiX8 0 rfl rfl 1 (by decide) (by decide +kernel) (v := .ref (Q 2 0)) rfl dX8_redeem_82 ?_
        refine lm_get B hN (ci := 3) hiX3 3 rfl rfl 1 (by decide) (by decide +kernel) (v := .ref (Q 2 2)) rfl dX8_redeem_85 ?_
        refine lv_iload_n hx hb dX8_redeem_88 rfl (lv_at hl 1 rfl) ?_
        obtain ⟨z7, hF⟩ := lm_gIe hF
        refine lm_ald B hN 5 (f := (t1_0.2.1 1)) rfl z7 dX8_redeem_89 ?_
        refine lv_iadd hx hb dX8_redeem_90 ?_
        refine lm_put B hN (ci := 3) hiX3 tyX3 tyX3_ok nmX3 3 rfl rfl 6 (by decide) (by decide +kernel) (by decide) (v := .int ((t1_0.1 2) + ((t1_0.2.1 1) x1.toNatClampNeg))) rfl rfl (Nat.le_of_ble_eq_true rfl) (wA8 G Q (lm_gF (lm_gF (va_up g 2 t1_0) 2 1 ((t1_0.1 1) &&& (((1 : Int32) <<< (x1 &&& 31)) ^^^ (-1 : Int32)))) 2 2 ((t1_0.1 2) + ((t1_0.2.1 1) x1.toNatClampNeg)))) (wA8_r2f2 _ _ _ _) dX8_redeem_91 (fun H locs hN => ?_)
        refine lv_aload_n hx hb dX8_redeem_94 rfl (lv_at hl 0 rfl) ?_
        refine lm_get B hN (ci := 8) hiX8 0 rfl rfl 1 (by decide) (by decide +kernel) (v := .ref (Q 2 0)) rfl dX8_redeem_95 ?_
        refine lm_get B hN (ci := 3) hiX3 3 rfl rfl 6 (by decide) (by decide +kernel) (v := .int ((t1_0.1 2) + ((t1_0.2.1 1) x1.toNatClampNeg))) rfl dX8_redeem_98 ?_
        cases hF
        exact lm_iret B hN dX8_redeem_101
      · have hF := lm_itn c6 hF
        refine lv_bipush (v := -104) hx hb dX8_redeem_53 (by decide) ?_
        cases hF
        exact lm_iret B hN dX8_redeem_55
    · have hF := lm_itp c4 hF
      refine lv_bipush (v := -103) hx hb dX8_redeem_28 (by decide) ?_
      cases hF
      exact lm_iret B hN dX8_redeem_30
  · have hF := lm_itp c2 hF
    refine lv_bipush (v := -101) hx hb dX8_redeem_11 (by decide) ?_
    cases hF
    exact lm_iret B hN dX8_redeem_13
def fX8_see (g : Nat → lm_St) (x1 : Int32) (x2 : Int32) (x3 : Int32) : Option (Int32 × (Nat → lm_St)) := (fX3_has (g 2) x1).bind (fun v1 => lm_un2 v1 (fun r1 t1_0 => if r1 = 0 then (some ((-101 : Int32), (va_up g 2 t1_0))) else (if x2 < 0 then (some ((-102 : Int32), (va_up g 2 t1_0))) else (if (9 : Int32) < x2 then (some ((-102 : Int32), (va_up g 2 t1_0))) else (if x3 < 0 then (some ((-102 : Int32), (va_up g 2 t1_0))) else (if x3 ≤ (20 : Int32) then ((fX7_add (g 4) x1 x2 x3).bind (fun v7 => lm_un2 v7 (fun r7 t7_0 => if r7 = 0 then (some ((-104 : Int32), (va_up (va_up g 2 t1_0) 4 t7_0))) else (some ((t7_0.1 0), (va_up (va_up g 2 t1_0) 4 t7_0)))))) else (some ((-102 : Int32), (va_up g 2 t1_0)))))))))
set_option maxHeartbeats 4000000 in
set_option maxRecDepth 100000 in
theorem hX8_see (l : Launch) (G : lm_G) (Q : Nat → Nat → Nat) {g : Nat → lm_St} {x1 : Int32} {x2 : Int32} {x3 : Int32} {R : Int32 × (Nat → lm_St)} (hF : fX8_see g x1 x2 x3 = some R) : lm_C l G yX8_see wsX8_see 2 [.ref (Q 0 0), .int x1, .int x2, .int x3] (wA8 G Q g) (some (.int R.1)) (wA8 G Q R.2) := by
  refine lm_C.of (cc := cX8_see) (maxL := 4) (ret := (some .int)) (by decide) rfl (Nat.le_of_ble_eq_true rfl) ?_
  intro p e s m below meth c A ls B hN hl
  have hx := B.1.1
  have hb := B.1.2.1
  have hown := B.1.2.2.2.1
  have hts := B.1.2.2.2.2
  have hiX7 : ∀ w ∈ wsX70, w ∈ wsX8_see := by decide +kernel
  have hiX8 : ∀ w ∈ wsX80, w ∈ wsX8_see := by decide +kernel
  have hl : lv_has ls 4 [(0, .ref (Q 0 0)), (1, .int x1), (2, .int x2), (3, .int x3)] := hl
  refine lv_aload_n hx hb dX8_see_0 rfl (lv_at hl 0 rfl) ?_
  refine lm_get B hN (ci := 8) hiX8 0 rfl rfl 1 (by decide) (by decide +kernel) (v := .ref (Q 2 0)) rfl dX8_see_1 ?_
  refine lv_iload_n hx hb dX8_see_4 rfl (lv_at hl 1 rfl) ?_
  obtain ⟨⟨r1, t1_0⟩, hc1, hF⟩ := lm_bd hF
  have hF := lm_un2E hF
  refine lm_run B hN (kp_wA8_2 _ _ _) (lm_hrV B hN hl.1 (lm_cutP B hN (kp_wA8_2 _ _ _)) (n := 1) (As := [.int x1]) (rest := []) (hX3_has l G (Q 2) hc1) gX8_see_X3_has rfl (by decide +kernel) rfl (by decide) (by decide) (ci := 3) (q0 := 0) rfl rfl rfl (Nat.le_of_ble_eq_true rfl) dX8_see_5) (wA8 G Q (va_up g 2 t1_0)) (kq_wA8_2 _ _ _ _) (fun H locs hN => ?_)
  refine lv_if_ne (tgt := 14) hx hb dX8_see_8 (by decide) (fun c2 => ?_) (fun c2 => ?_)
  · have hF := lm_itn c2 hF
    refine lv_iload_n hx hb dX8_see_14 rfl (lv_at hl 2 rfl) ?_
    refine lv_if_lt (tgt := 34) hx hb dX8_see_15 (by decide) (fun c3 => ?_) (fun c3 => ?_)
    · have hF := lm_itp c3 hF
      refine lv_bipush (v := -102) hx hb dX8_see_34 (by decide) ?_
      cases hF
      exact lm_iret B hN dX8_see_36
    · have hF := lm_itn c3 hF
      refine lv_iload_n hx hb dX8_see_18 rfl (lv_at hl 2 rfl) ?_
      refine lv_bipush (v := 9) hx hb dX8_see_19 (by decide) ?_
      refine lv_icmp_gt (tgt := 34) hx hb dX8_see_21 (by decide) (fun c4 => ?_) (fun c4 => ?_)
      · have hF := lm_itp c4 hF
        refine lv_bipush (v := -102) hx hb dX8_see_34 (by decide) ?_
        cases hF
        exact lm_iret B hN dX8_see_36
      · have hF := lm_itn c4 hF
        refine lv_iload_n hx hb dX8_see_24 rfl (lv_at hl 3 rfl) ?_
        refine lv_if_lt (tgt := 34) hx hb dX8_see_25 (by decide) (fun c5 => ?_) (fun c5 => ?_)
        · have hF := lm_itp c5 hF
          refine lv_bipush (v := -102) hx hb dX8_see_34 (by decide) ?_
          cases hF
          exact lm_iret B hN dX8_see_36
        · have hF := lm_itn c5 hF
          refine lv_iload_n hx hb dX8_see_28 rfl (lv_at hl 3 rfl) ?_
          refine lv_bipush (v := 20) hx hb dX8_see_29 (by decide) ?_
          refine lv_icmp_le (tgt := 37) hx hb dX8_see_31 (by decide) (fun c6 => ?_) (fun c6 => ?_)
          · have hF := lm_itp c6 hF
            refine lv_aload_n hx hb dX8_see_37 rfl (lv_at hl 0 rfl) ?_
            refine lm_get B hN (ci := 8) hiX8 0 rfl rfl 3 (by decide) (by decide +kernel) (v := .ref (Q 4 0)) rfl dX8_see_38 ?_
            refine lv_iload_n hx hb dX8_see_41 rfl (lv_at hl 1 rfl) ?_
            refine lv_iload_n hx hb dX8_see_42 rfl (lv_at hl 2 rfl) ?_
            refine lv_iload_n hx hb dX8_see_43 rfl (lv_at hl 3 rfl) ?_
            obtain ⟨⟨r7, t7_0⟩, hc7, hF⟩ := lm_bd hF
            have hF := lm_un2E hF
            refine lm_run B hN (kp_wA8_4 _ _ _) (lm_hrV B hN hl.1 (lm_cutP B hN (kp_wA8_4 _ _ _)) (n := 3) (As := [.int x1, .int x2, .int x3]) (rest := []) (hX7_add l G (Q 4) hc7) gX8_see_X7_add rfl (by decide +kernel) rfl (by decide) (by decide) (ci := 7) (q0 := 0) rfl rfl rfl (Nat.le_of_ble_eq_true rfl) dX8_see_44) (wA8 G Q (va_up (va_up g 2 t1_0) 4 t7_0)) (kq_wA8_4 _ _ _ _) (fun H locs hN => ?_)
            refine lv_if_eq (tgt := 60) hx hb dX8_see_47 (by decide) (fun c8 => ?_) (fun c8 => ?_)
            · have hF := lm_itp c8 hF
              refine lv_bipush (v := -104) hx hb dX8_see_60 (by decide) ?_
              cases hF
              exact lm_iret B hN dX8_see_62
            · have hF := lm_itn c8 hF
              refine lv_aload_n hx hb dX8_see_50 rfl (lv_at hl 0 rfl) ?_
              refine lm_get B hN (ci := 8) hiX8 0 rfl rfl 3 (by decide) (by decide +kernel) (v := .ref (Q 4 0)) rfl dX8_see_51 ?_
              refine lm_get B hN (ci := 7) hiX7 13 rfl rfl 4 (by decide) (by decide +kernel) (v := .int (t7_0.1 0)) rfl dX8_see_54 ?_
              refine lv_goto (tgt := 62) hx hb dX8_see_57 (by decide) ?_
              cases hF
              exact lm_iret B hN dX8_see_62
          · have hF := lm_itn c6 hF
            refine lv_bipush (v := -102) hx hb dX8_see_34 (by decide) ?_
            cases hF
            exact lm_iret B hN dX8_see_36
  · have hF := lm_itp c2 hF
    refine lv_bipush (v := -101) hx hb dX8_see_11 (by decide) ?_
    cases hF
    exact lm_iret B hN dX8_see_13
def fX8_image (g : Nat → lm_St) : Option (Int32 × (Nat → lm_St)) := (fX3_isNone (g 2)).bind (fun v1 => lm_un2 v1 (fun r1 t1_0 => if r1 = 0 then ((fX3_copyFrom (g 3) t1_0).bind (fun v3 => lm_un2 v3 (fun t3_0 t3_1 => (fX7_copyFrom (g 5) (g 4)).bind (fun v4 => lm_un2 v4 (fun t4_0 t4_1 => some ((t3_1.1 3), (lm_gF (va_up (va_up (va_up (va_up (va_up g 2 t1_0) 3 t3_0) 2 t3_1) 5 t4_0) 4 t4_1) 0 0 (1 : Int32)))))))) else (some ((-103 : Int32), (va_up g 2 t1_0)))))
set_option maxHeartbeats 4000000 in
set_option maxRecDepth 100000 in
theorem hX8_image (l : Launch) (G : lm_G) (Q : Nat → Nat → Nat) {g : Nat → lm_St} {R : Int32 × (Nat → lm_St)} (hF : fX8_image g = some R) : lm_C l G yX8_image wsX8_image 3 [.ref (Q 0 0)] (wA8 G Q g) (some (.int R.1)) (wA8 G Q R.2) := by
  refine lm_C.of (cc := cX8_image) (maxL := 1) (ret := (some .int)) (by decide) rfl (Nat.le_of_ble_eq_true rfl) ?_
  intro p e s m below meth c A ls B hN hl
  have hx := B.1.1
  have hb := B.1.2.1
  have hown := B.1.2.2.2.1
  have hts := B.1.2.2.2.2
  have hiX3 : ∀ w ∈ wsX30, w ∈ wsX8_image := by decide +kernel
  have hiX8 : ∀ w ∈ wsX80, w ∈ wsX8_image := by decide +kernel
  have hl : lv_has ls 1 [(0, .ref (Q 0 0))] := hl
  refine lv_aload_n hx hb dX8_image_0 rfl (lv_at hl 0 rfl) ?_
  refine lm_get B hN (ci := 8) hiX8 0 rfl rfl 1 (by decide) (by decide +kernel) (v := .ref (Q 2 0)) rfl dX8_image_1 ?_
  obtain ⟨⟨r1, t1_0⟩, hc1, hF⟩ := lm_bd hF
  have hF := lm_un2E hF
  refine lm_run B hN (kp_wA8_2 _ _ _) (lm_hrV B hN hl.1 (lm_cutP B hN (kp_wA8_2 _ _ _)) (n := 0) (As := []) (rest := []) (hX3_isNone l G (Q 2) hc1) gX8_image_X3_isNone rfl (by decide +kernel) rfl (by decide) (by decide) (ci := 3) (q0 := 0) rfl rfl rfl (Nat.le_of_ble_eq_true rfl) dX8_image_4) (wA8 G Q (va_up g 2 t1_0)) (kq_wA8_2 _ _ _ _) (fun H locs hN => ?_)
  refine lv_if_eq (tgt := 13) hx hb dX8_image_7 (by decide) (fun c2 => ?_) (fun c2 => ?_)
  · have hF := lm_itp c2 hF
    refine lv_aload_n hx hb dX8_image_13 rfl (lv_at hl 0 rfl) ?_
    refine lm_get B hN (ci := 8) hiX8 0 rfl rfl 2 (by decide) (by decide +kernel) (v := .ref (Q 3 0)) rfl dX8_image_14 ?_
    refine lv_aload_n hx hb dX8_image_17 rfl (lv_at hl 0 rfl) ?_
    refine lm_get B hN (ci := 8) hiX8 0 rfl rfl 1 (by decide) (by decide +kernel) (v := .ref (Q 2 0)) rfl dX8_image_18 ?_
    obtain ⟨⟨t3_0, t3_1⟩, hc3, hF⟩ := lm_bd hF
    have hF := lm_un2E hF
    refine lm_run B hN (kp_wA8_3_2 _ _ _) (lm_hrV B hN hl.1 (lm_cutP B hN (kp_wA8_3_2 _ _ _)) (n := 1) (As := [.ref (Q 2 0)]) (rest := []) (hX3_copyFrom l G (Q 3) (Q 2) hc3) gX8_image_X3_copyFrom rfl (by decide +kernel) rfl (by decide) (by decide) (ci := 3) (q0 := 0) rfl rfl rfl (Nat.le_of_ble_eq_true rfl) dX8_image_21) (wA8 G Q (va_up (va_up (va_up g 2 t1_0) 3 t3_0) 2 t3_1)) (kq_wA8_3_2 _ _ _ _ _) (fun H locs hN => ?_)
    refine lv_aload_n hx hb dX8_image_24 rfl (lv_at hl 0 rfl) ?_
    refine lm_get B hN (ci := 8) hiX8 0 rfl rfl 4 (by decide) (by decide +kernel) (v := .ref (Q 5 0)) rfl dX8_image_25 ?_
    refine lv_aload_n hx hb dX8_image_28 rfl (lv_at hl 0 rfl) ?_
    refine lm_get B hN (ci := 8) hiX8 0 rfl rfl 3 (by decide) (by decide +kernel) (v := .ref (Q 4 0)) rfl dX8_image_29 ?_
    obtain ⟨⟨t4_0, t4_1⟩, hc4, hF⟩ := lm_bd hF
    have hF := lm_un2E hF
    refine lm_run B hN (kp_wA8_5_4 _ _ _) (lm_hrV B hN hl.1 (lm_cutP B hN (kp_wA8_5_4 _ _ _)) (n := 1) (As := [.ref (Q 4 0)]) (rest := []) (hX7_copyFrom l G (Q 5) (Q 4) hc4) gX8_image_X7_copyFrom rfl (by decide +kernel) rfl (by decide) (by decide) (ci := 7) (q0 := 0) rfl rfl rfl (Nat.le_of_ble_eq_true rfl) dX8_image_32) (wA8 G Q (va_up (va_up (va_up (va_up (va_up g 2 t1_0) 3 t3_0) 2 t3_1) 5 t4_0) 4 t4_1)) (kq_wA8_5_4 _ _ _ _ _) (fun H locs hN => ?_)
    refine lv_aload_n hx hb dX8_image_35 rfl (lv_at hl 0 rfl) ?_
    refine lv_iconst (v := 1) hx hb dX8_image_36 (by decide) ?_
    refine lm_put B hN (ci := 8) hiX8 tyX8 tyX8_ok nmX8 0 rfl rfl 10 (by decide) (by decide +kernel) (by decide) (v := .int (1 : Int32)) rfl rfl (Nat.le_of_ble_eq_true rfl) (wA8 G Q (lm_gF (va_up (va_up (va_up (va_up (va_up g 2 t1_0) 3 t3_0) 2 t3_1) 5 t4_0) 4 t4_1) 0 0 (1 : Int32))) (wA8_r0f0 _ _ _ _) dX8_image_37 (fun H locs hN => ?_)
    refine lv_aload_n hx hb dX8_image_40 rfl (lv_at hl 0 rfl) ?_
    refine lm_get B hN (ci := 8) hiX8 0 rfl rfl 1 (by decide) (by decide +kernel) (v := .ref (Q 2 0)) rfl dX8_image_41 ?_
    refine lm_get B hN (ci := 3) hiX3 3 rfl rfl 7 (by decide) (by decide +kernel) (v := .int (t3_1.1 3)) rfl dX8_image_44 ?_
    cases hF
    exact lm_iret B hN dX8_image_47
  · have hF := lm_itn c2 hF
    refine lv_bipush (v := -103) hx hb dX8_image_10 (by decide) ?_
    cases hF
    exact lm_iret B hN dX8_image_12
def fX8_restore (g : Nat → lm_St) : Option (Int32 × (Nat → lm_St)) := if ((g 0).1 0) = 0 then (some ((-103 : Int32), g)) else ((fX3_copyFrom (g 2) (g 3)).bind (fun v2 => lm_un2 v2 (fun t2_0 t2_1 => (fX7_copyFrom (g 4) (g 5)).bind (fun v3 => lm_un2 v3 (fun t3_0 t3_1 => some ((t2_0.1 3), (va_up (va_up (va_up (va_up g 2 t2_0) 3 t2_1) 4 t3_0) 5 t3_1)))))))
set_option maxHeartbeats 4000000 in
set_option maxRecDepth 100000 in
theorem hX8_restore (l : Launch) (G : lm_G) (Q : Nat → Nat → Nat) {g : Nat → lm_St} {R : Int32 × (Nat → lm_St)} (hF : fX8_restore g = some R) : lm_C l G yX8_restore wsX8_restore 3 [.ref (Q 0 0)] (wA8 G Q g) (some (.int R.1)) (wA8 G Q R.2) := by
  refine lm_C.of (cc := cX8_restore) (maxL := 1) (ret := (some .int)) (by decide) rfl (Nat.le_of_ble_eq_true rfl) ?_
  intro p e s m below meth c A ls B hN hl
  have hx := B.1.1
  have hb := B.1.2.1
  have hown := B.1.2.2.2.1
  have hts := B.1.2.2.2.2
  have hiX3 : ∀ w ∈ wsX30, w ∈ wsX8_restore := by decide +kernel
  have hiX8 : ∀ w ∈ wsX80, w ∈ wsX8_restore := by decide +kernel
  have hl : lv_has ls 1 [(0, .ref (Q 0 0))] := hl
  refine lv_aload_n hx hb dX8_restore_0 rfl (lv_at hl 0 rfl) ?_
  refine lm_get B hN (ci := 8) hiX8 0 rfl rfl 10 (by decide) (by decide +kernel) (v := .int ((g 0).1 0)) rfl dX8_restore_1 ?_
  refine lv_if_ne (tgt := 10) hx hb dX8_restore_4 (by decide) (fun c1 => ?_) (fun c1 => ?_)
  · have hF := lm_itn c1 hF
    refine lv_aload_n hx hb dX8_restore_10 rfl (lv_at hl 0 rfl) ?_
    refine lm_get B hN (ci := 8) hiX8 0 rfl rfl 1 (by decide) (by decide +kernel) (v := .ref (Q 2 0)) rfl dX8_restore_11 ?_
    refine lv_aload_n hx hb dX8_restore_14 rfl (lv_at hl 0 rfl) ?_
    refine lm_get B hN (ci := 8) hiX8 0 rfl rfl 2 (by decide) (by decide +kernel) (v := .ref (Q 3 0)) rfl dX8_restore_15 ?_
    obtain ⟨⟨t2_0, t2_1⟩, hc2, hF⟩ := lm_bd hF
    have hF := lm_un2E hF
    refine lm_run B hN (kp_wA8_2_3 _ _ _) (lm_hrV B hN hl.1 (lm_cutP B hN (kp_wA8_2_3 _ _ _)) (n := 1) (As := [.ref (Q 3 0)]) (rest := []) (hX3_copyFrom l G (Q 2) (Q 3) hc2) gX8_restore_X3_copyFrom rfl (by decide +kernel) rfl (by decide) (by decide) (ci := 3) (q0 := 0) rfl rfl rfl (Nat.le_of_ble_eq_true rfl) dX8_restore_18) (wA8 G Q (va_up (va_up g 2 t2_0) 3 t2_1)) (kq_wA8_2_3 _ _ _ _ _) (fun H locs hN => ?_)
    refine lv_aload_n hx hb dX8_restore_21 rfl (lv_at hl 0 rfl) ?_
    refine lm_get B hN (ci := 8) hiX8 0 rfl rfl 3 (by decide) (by decide +kernel) (v := .ref (Q 4 0)) rfl dX8_restore_22 ?_
    refine lv_aload_n hx hb dX8_restore_25 rfl (lv_at hl 0 rfl) ?_
    refine lm_get B hN (ci := 8) hiX8 0 rfl rfl 4 (by decide) (by decide +kernel) (v := .ref (Q 5 0)) rfl dX8_restore_26 ?_
    obtain ⟨⟨t3_0, t3_1⟩, hc3, hF⟩ := lm_bd hF
    have hF := lm_un2E hF
    refine lm_run B hN (kp_wA8_4_5 _ _ _) (lm_hrV B hN hl.1 (lm_cutP B hN (kp_wA8_4_5 _ _ _)) (n := 1) (As := [.ref (Q 5 0)]) (rest := []) (hX7_copyFrom l G (Q 4) (Q 5) hc3) gX8_restore_X7_copyFrom rfl (by decide +kernel) rfl (by decide) (by decide) (ci := 7) (q0 := 0) rfl rfl rfl (Nat.le_of_ble_eq_true rfl) dX8_restore_29) (wA8 G Q (va_up (va_up (va_up (va_up g 2 t2_0) 3 t2_1) 4 t3_0) 5 t3_1)) (kq_wA8_4_5 _ _ _ _ _) (fun H locs hN => ?_)
    refine lv_aload_n hx hb dX8_restore_32 rfl (lv_at hl 0 rfl) ?_
    refine lm_get B hN (ci := 8) hiX8 0 rfl rfl 1 (by decide) (by decide +kernel) (v := .ref (Q 2 0)) rfl dX8_restore_33 ?_
    refine lm_get B hN (ci := 3) hiX3 3 rfl rfl 7 (by decide) (by decide +kernel) (v := .int (t2_0.1 3)) rfl dX8_restore_36 ?_
    cases hF
    exact lm_iret B hN dX8_restore_39
  · have hF := lm_itp c1 hF
    refine lv_bipush (v := -103) hx hb dX8_restore_7 (by decide) ?_
    cases hF
    exact lm_iret B hN dX8_restore_9
def fX8_day (g : Nat → lm_St) : Option (Int32 × (Nat → lm_St)) := (fX3_isNone (g 2)).bind (fun v1 => lm_un2 v1 (fun r1 t1_0 => if r1 = 0 then (if (t1_0.1 3) < (999 : Int32) then ((fX3_passDay t1_0).bind (fun t4_0 => some ((t4_0.1 3), (va_up (va_up g 2 t1_0) 2 t4_0)))) else (some ((-104 : Int32), (va_up g 2 t1_0)))) else (some ((-103 : Int32), (va_up g 2 t1_0)))))
set_option maxHeartbeats 4000000 in
set_option maxRecDepth 100000 in
theorem hX8_day (l : Launch) (G : lm_G) (Q : Nat → Nat → Nat) {g : Nat → lm_St} {R : Int32 × (Nat → lm_St)} (hF : fX8_day g = some R) : lm_C l G yX8_day wsX8_day 4 [.ref (Q 0 0)] (wA8 G Q g) (some (.int R.1)) (wA8 G Q R.2) := by
  refine lm_C.of (cc := cX8_day) (maxL := 1) (ret := (some .int)) (by decide) rfl (Nat.le_of_ble_eq_true rfl) ?_
  intro p e s m below meth c A ls B hN hl
  have hx := B.1.1
  have hb := B.1.2.1
  have hown := B.1.2.2.2.1
  have hts := B.1.2.2.2.2
  have hiX3 : ∀ w ∈ wsX30, w ∈ wsX8_day := by decide +kernel
  have hiX8 : ∀ w ∈ wsX80, w ∈ wsX8_day := by decide +kernel
  have hl : lv_has ls 1 [(0, .ref (Q 0 0))] := hl
  refine lv_aload_n hx hb dX8_day_0 rfl (lv_at hl 0 rfl) ?_
  refine lm_get B hN (ci := 8) hiX8 0 rfl rfl 1 (by decide) (by decide +kernel) (v := .ref (Q 2 0)) rfl dX8_day_1 ?_
  obtain ⟨⟨r1, t1_0⟩, hc1, hF⟩ := lm_bd hF
  have hF := lm_un2E hF
  refine lm_run B hN (kp_wA8_2 _ _ _) (lm_hrV B hN hl.1 (lm_cutP B hN (kp_wA8_2 _ _ _)) (n := 0) (As := []) (rest := []) (hX3_isNone l G (Q 2) hc1) gX8_day_X3_isNone rfl (by decide +kernel) rfl (by decide) (by decide) (ci := 3) (q0 := 0) rfl rfl rfl (Nat.le_of_ble_eq_true rfl) dX8_day_4) (wA8 G Q (va_up g 2 t1_0)) (kq_wA8_2 _ _ _ _) (fun H locs hN => ?_)
  refine lv_if_eq (tgt := 13) hx hb dX8_day_7 (by decide) (fun c2 => ?_) (fun c2 => ?_)
  · have hF := lm_itp c2 hF
    refine lv_aload_n hx hb dX8_day_13 rfl (lv_at hl 0 rfl) ?_
    refine lm_get B hN (ci := 8) hiX8 0 rfl rfl 1 (by decide) (by decide +kernel) (v := .ref (Q 2 0)) rfl dX8_day_14 ?_
    refine lm_get B hN (ci := 3) hiX3 3 rfl rfl 7 (by decide) (by decide +kernel) (v := .int (t1_0.1 3)) rfl dX8_day_17 ?_
    refine lv_sipush (v := 999) hx hb dX8_day_20 (by decide) ?_
    refine lv_icmp_lt (tgt := 29) hx hb dX8_day_23 (by decide) (fun c3 => ?_) (fun c3 => ?_)
    · have hF := lm_itp c3 hF
      refine lv_aload_n hx hb dX8_day_29 rfl (lv_at hl 0 rfl) ?_
      refine lm_get B hN (ci := 8) hiX8 0 rfl rfl 1 (by decide) (by decide +kernel) (v := .ref (Q 2 0)) rfl dX8_day_30 ?_
      obtain ⟨t4_0, hc4, hF⟩ := lm_bd hF
      refine lm_run B hN (kp_wA8_2 _ _ _) (lm_hrV B hN hl.1 (lm_cutP B hN (kp_wA8_2 _ _ _)) (n := 0) (As := []) (rest := []) (hX3_passDay l G (Q 2) hc4) gX8_day_X3_passDay rfl (by decide +kernel) rfl (by decide) (by decide) (ci := 3) (q0 := 0) rfl rfl rfl (Nat.le_of_ble_eq_true rfl) dX8_day_33) (wA8 G Q (va_up (va_up g 2 t1_0) 2 t4_0)) (kq_wA8_2 _ _ _ _) (fun H locs hN => ?_)
      refine lv_aload_n hx hb dX8_day_36 rfl (lv_at hl 0 rfl) ?_
      refine lm_get B hN (ci := 8) hiX8 0 rfl rfl 1 (by decide) (by decide +kernel) (v := .ref (Q 2 0)) rfl dX8_day_37 ?_
      refine lm_get B hN (ci := 3) hiX3 3 rfl rfl 7 (by decide) (by decide +kernel) (v := .int (t4_0.1 3)) rfl dX8_day_40 ?_
      cases hF
      exact lm_iret B hN dX8_day_43
    · have hF := lm_itn c3 hF
      refine lv_bipush (v := -104) hx hb dX8_day_26 (by decide) ?_
      cases hF
      exact lm_iret B hN dX8_day_28
  · have hF := lm_itn c2 hF
    refine lv_bipush (v := -103) hx hb dX8_day_10 (by decide) ?_
    cases hF
    exact lm_iret B hN dX8_day_12
def fX8_touch (g : Nat → lm_St) (x1 : Int32) : Option (Int32 × (Nat → lm_St)) := (fX3_has (g 2) x1).bind (fun v1 => lm_un2 v1 (fun r1 t1_0 => if r1 = 0 then (some ((-101 : Int32), (va_up g 2 t1_0))) else ((fX8_isIn (t1_0.1 1) x1).bind (fun r3 => if r3 = 0 then (if (t1_0.1 4) < (999 : Int32) then ((fX3_lookAt t1_0 x1 (0 : Int32)).bind (fun t6_0 => (fX3_missedBehind (lm_sF t6_0 4 ((t6_0.1 4) + (1 : Int32))) x1 (0 : Int32)).bind (fun v7 => lm_un2 v7 (fun r7 t7_0 => some (r7, (va_up (lm_gF (va_up (va_up g 2 t1_0) 2 t6_0) 2 4 ((t6_0.1 4) + (1 : Int32))) 2 t7_0)))))) else (some ((-104 : Int32), (va_up g 2 t1_0)))) else (some ((-103 : Int32), (va_up g 2 t1_0)))))))
set_option maxHeartbeats 4000000 in
set_option maxRecDepth 100000 in
theorem hX8_touch (l : Launch) (G : lm_G) (Q : Nat → Nat → Nat) {g : Nat → lm_St} {x1 : Int32} {R : Int32 × (Nat → lm_St)} (hF : fX8_touch g x1 = some R) : lm_C l G yX8_touch wsX8_touch 4 [.ref (Q 0 0), .int x1] (wA8 G Q g) (some (.int R.1)) (wA8 G Q R.2) := by
  refine lm_C.of (cc := cX8_touch) (maxL := 2) (ret := (some .int)) (by decide) rfl (Nat.le_of_ble_eq_true rfl) ?_
  intro p e s m below meth c A ls B hN hl
  have hx := B.1.1
  have hb := B.1.2.1
  have hown := B.1.2.2.2.1
  have hts := B.1.2.2.2.2
  have hiX3 : ∀ w ∈ wsX30, w ∈ wsX8_touch := by decide +kernel
  have hiX8 : ∀ w ∈ wsX80, w ∈ wsX8_touch := by decide +kernel
  have hl : lv_has ls 2 [(0, .ref (Q 0 0)), (1, .int x1)] := hl
  refine lv_aload_n hx hb dX8_touch_0 rfl (lv_at hl 0 rfl) ?_
  refine lm_get B hN (ci := 8) hiX8 0 rfl rfl 1 (by decide) (by decide +kernel) (v := .ref (Q 2 0)) rfl dX8_touch_1 ?_
  refine lv_iload_n hx hb dX8_touch_4 rfl (lv_at hl 1 rfl) ?_
  obtain ⟨⟨r1, t1_0⟩, hc1, hF⟩ := lm_bd hF
  have hF := lm_un2E hF
  refine lm_run B hN (kp_wA8_2 _ _ _) (lm_hrV B hN hl.1 (lm_cutP B hN (kp_wA8_2 _ _ _)) (n := 1) (As := [.int x1]) (rest := []) (hX3_has l G (Q 2) hc1) gX8_touch_X3_has rfl (by decide +kernel) rfl (by decide) (by decide) (ci := 3) (q0 := 0) rfl rfl rfl (Nat.le_of_ble_eq_true rfl) dX8_touch_5) (wA8 G Q (va_up g 2 t1_0)) (kq_wA8_2 _ _ _ _) (fun H locs hN => ?_)
  refine lv_if_ne (tgt := 14) hx hb dX8_touch_8 (by decide) (fun c2 => ?_) (fun c2 => ?_)
  · have hF := lm_itn c2 hF
    refine lv_aload_n hx hb dX8_touch_14 rfl (lv_at hl 0 rfl) ?_
    refine lm_get B hN (ci := 8) hiX8 0 rfl rfl 1 (by decide) (by decide +kernel) (v := .ref (Q 2 0)) rfl dX8_touch_15 ?_
    refine lm_get B hN (ci := 3) hiX3 3 rfl rfl 5 (by decide) (by decide +kernel) (v := .int (t1_0.1 1)) rfl dX8_touch_18 ?_
    refine lv_iload_n hx hb dX8_touch_21 rfl (lv_at hl 1 rfl) ?_
    obtain ⟨r3, hc3, hF⟩ := lm_bd hF
    refine lm_run0 B hN (lm_hrT B hN hl.1 (lm_cut0 B hN) (n := 2) (As := [.int (t1_0.1 1), .int x1]) (rest := []) (hX8_isIn l G hc3) gX8_touch_X8_isIn rfl (by decide +kernel) rfl (by decide) (by decide) rfl (Nat.le_of_ble_eq_true rfl) dX8_touch_22) (fun H locs hN => ?_)
    refine lv_if_eq (tgt := 31) hx hb dX8_touch_25 (by decide) (fun c4 => ?_) (fun c4 => ?_)
    · have hF := lm_itp c4 hF
      refine lv_aload_n hx hb dX8_touch_31 rfl (lv_at hl 0 rfl) ?_
      refine lm_get B hN (ci := 8) hiX8 0 rfl rfl 1 (by decide) (by decide +kernel) (v := .ref (Q 2 0)) rfl dX8_touch_32 ?_
      refine lm_get B hN (ci := 3) hiX3 3 rfl rfl 8 (by decide) (by decide +kernel) (v := .int (t1_0.1 4)) rfl dX8_touch_35 ?_
      refine lv_sipush (v := 999) hx hb dX8_touch_38 (by decide) ?_
      refine lv_icmp_lt (tgt := 47) hx hb dX8_touch_41 (by decide) (fun c5 => ?_) (fun c5 => ?_)
      · have hF := lm_itp c5 hF
        refine lv_aload_n hx hb dX8_touch_47 rfl (lv_at hl 0 rfl) ?_
        refine lm_get B hN (ci := 8) hiX8 0 rfl rfl 1 (by decide) (by decide +kernel) (v := .ref (Q 2 0)) rfl dX8_touch_48 ?_
        refine lv_iload_n hx hb dX8_touch_51 rfl (lv_at hl 1 rfl) ?_
        refine lv_iconst (v := 0) hx hb dX8_touch_52 (by decide) ?_
        obtain ⟨t6_0, hc6, hF⟩ := lm_bd hF
        refine lm_run B hN (kp_wA8_2 _ _ _) (lm_hrV B hN hl.1 (lm_cutP B hN (kp_wA8_2 _ _ _)) (n := 2) (As := [.int x1, .int (0 : Int32)]) (rest := []) (hX3_lookAt l G (Q 2) hc6) gX8_touch_X3_lookAt rfl (by decide +kernel) rfl (by decide) (by decide) (ci := 3) (q0 := 0) rfl rfl rfl (Nat.le_of_ble_eq_true rfl) dX8_touch_53) (wA8 G Q (va_up (va_up g 2 t1_0) 2 t6_0)) (kq_wA8_2 _ _ _ _) (fun H locs hN => ?_)
        refine lv_aload_n hx hb dX8_touch_56 rfl (lv_at hl 0 rfl) ?_
        refine lm_get B hN (ci := 8) hiX8 0 rfl rfl 1 (by decide) (by decide +kernel) (v := .ref (Q 2 0)) rfl dX8_touch_57 ?_
        refine lv_dup hx hb dX8_touch_60 rfl ?_
        refine lm_get B hN (ci := 3) hiX3 3 rfl rfl 8 (by decide) (by decide +kernel) (v := .int (t6_0.1 4)) rfl dX8_touch_61 ?_
        refine lv_iconst (v := 1) hx hb dX8_touch_64 (by decide) ?_
        refine lv_iadd hx hb dX8_touch_65 ?_
        refine lm_put B hN (ci := 3) hiX3 tyX3 tyX3_ok nmX3 3 rfl rfl 8 (by decide) (by decide +kernel) (by decide) (v := .int ((t6_0.1 4) + (1 : Int32))) rfl rfl (Nat.le_of_ble_eq_true rfl) (wA8 G Q (lm_gF (va_up (va_up g 2 t1_0) 2 t6_0) 2 4 ((t6_0.1 4) + (1 : Int32)))) (wA8_r2f4 _ _ _ _) dX8_touch_66 (fun H locs hN => ?_)
        refine lv_aload_n hx hb dX8_touch_69 rfl (lv_at hl 0 rfl) ?_
        refine lm_get B hN (ci := 8) hiX8 0 rfl rfl 1 (by decide) (by decide +kernel) (v := .ref (Q 2 0)) rfl dX8_touch_70 ?_
        refine lv_iload_n hx hb dX8_touch_73 rfl (lv_at hl 1 rfl) ?_
        refine lv_iconst (v := 0) hx hb dX8_touch_74 (by decide) ?_
        obtain ⟨⟨r7, t7_0⟩, hc7, hF⟩ := lm_bd hF
        have hF := lm_un2E hF
        refine lm_run B hN (kp_wA8_2 _ _ _) (lm_hrV B hN hl.1 (lm_cutP B hN (kp_wA8_2 _ _ _)) (n := 2) (As := [.int x1, .int (0 : Int32)]) (rest := []) (hX3_missedBehind l G (Q 2) hc7) gX8_touch_X3_missedBehind rfl (by decide +kernel) rfl (by decide) (by decide) (ci := 3) (q0 := 0) rfl rfl rfl (Nat.le_of_ble_eq_true rfl) dX8_touch_75) (wA8 G Q (va_up (lm_gF (va_up (va_up g 2 t1_0) 2 t6_0) 2 4 ((t6_0.1 4) + (1 : Int32))) 2 t7_0)) (kq_wA8_2 _ _ _ _) (fun H locs hN => ?_)
        cases hF
        exact lm_iret B hN dX8_touch_78
      · have hF := lm_itn c5 hF
        refine lv_bipush (v := -104) hx hb dX8_touch_44 (by decide) ?_
        cases hF
        exact lm_iret B hN dX8_touch_46
    · have hF := lm_itn c4 hF
      refine lv_bipush (v := -103) hx hb dX8_touch_28 (by decide) ?_
      cases hF
      exact lm_iret B hN dX8_touch_30
  · have hF := lm_itp c2 hF
    refine lv_bipush (v := -101) hx hb dX8_touch_11 (by decide) ?_
    cases hF
    exact lm_iret B hN dX8_touch_13
