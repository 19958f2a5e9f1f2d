set_option maxHeartbeats 4000000 in
set_option maxRecDepth 100000 in
theorem iX9 (l : Launch) (G : lm_G) (h0 : Nat) : lm_CI l G yX9_init wsX9_init 2 17 1183 h0 [(h0, .inr (9, [.null, .int 0, .int 0, .int 0, .int 0, .int 0, .int 0, .int 0, .null, .null, .null, .null, .null, .null, .null, .null, .int 0, .int 0, .null, .int 0, .null, .int 0, .int 0, .int 0, .int 0, .int 0, .int 0, .null, .null, .null, .null, .null, .null, .long 0]))] (fun w => ∃ qa : Nat → Nat, qa 0 = h0 ∧ w = wX9 G qa (lm_sF lm_z 11 (-1))) := by
  refine lm_CI.of (cc := cX9_init) (maxL := 1) (ret := none) (by decide) rfl (Nat.le_of_ble_eq_true rfl) rfl ?_
  intro p e s m below meth c A ls B hN hin0 hl
  have hx := B.1.1
  have hb := B.1.2.1
  have hl : lv_has ls 1 [(0, .ref h0)] := hl
  have hiX9 : ∀ w ∈ wsX90, w ∈ wsX9_init := by decide +kernel
  refine lv_aload_n hx hb dX9_init_0 rfl (lv_at hl 0 rfl) ?_
  refine lm_obj B hl.1 (by decide +kernel) (by decide +kernel) (by decide +kernel) (by decide) (by decide) (Nat.le_of_ble_eq_true rfl) dX9_init_1 ?_
  refine lv_aload_n hx hb dX9_init_4 rfl (lv_at hl 0 rfl) ?_
  refine lv_bipush (v := 32) hx hb dX9_init_5 (by decide) ?_
  refine lm_newa B hN (by decide +kernel) 32 (by decide +kernel) (by decide +kernel) (by decide +kernel) (by decide +kernel) (by decide +kernel) dX9_init_7 (fun a1 H hN => ?_)
  rw [List.cons_append, List.nil_append] at hN
  refine lm_putF B hN hin0 hiX9 tyX9 tyX9_ok nmX9 rfl 0 rfl rfl 0 (by decide) (by decide +kernel) rfl rfl (v := .ref a1) rfl rfl (Nat.le_of_ble_eq_true rfl) _ rfl dX9_init_9 (fun H locs hN => ?_)
  rw [List.set_cons_zero] at hN
  refine lv_aload_n hx hb dX9_init_12 rfl (lv_at hl 0 rfl) ?_
  refine lv_bipush (v := 7) hx hb dX9_init_13 (by decide) ?_
  refine lm_newa B hN (by decide +kernel) 7 (by decide +kernel) (by decide +kernel) (by decide +kernel) (by decide +kernel) (by decide +kernel) dX9_init_15 (fun a2 H hN => ?_)
  rw [List.cons_append] at hN
  refine lm_putF B hN hin0 hiX9 tyX9 tyX9_ok nmX9 rfl 0 rfl rfl 8 (by decide) (by decide +kernel) rfl rfl (v := .ref a2) rfl rfl (Nat.le_of_ble_eq_true rfl) _ rfl dX9_init_17 (fun H locs hN => ?_)
  rw [List.set_cons_zero] at hN
  refine lv_aload_n hx hb dX9_init_20 rfl (lv_at hl 0 rfl) ?_
  refine lv_bipush (v := 7) hx hb dX9_init_21 (by decide) ?_
  refine lm_newa B hN (by decide +kernel) 7 (by decide +kernel) (by decide +kernel) (by decide +kernel) (by decide +kernel) (by decide +kernel) dX9_init_23 (fun a3 H hN => ?_)
  rw [List.cons_append] at hN
  refine lm_putF B hN hin0 hiX9 tyX9 tyX9_ok nmX9 rfl 0 rfl rfl 9 (by decide) (by decide +kernel) rfl rfl (v := .ref a3) rfl rfl (Nat.le_of_ble_eq_true rfl) _ rfl dX9_init_25 (fun H locs hN => ?_)
  rw [List.set_cons_zero] at hN
  refine lv_aload_n hx hb dX9_init_28 rfl (lv_at hl 0 rfl) ?_
  refine lv_bipush (v := 7) hx hb dX9_init_29 (by decide) ?_
  refine lm_newa B hN (by decide +kernel) 7 (by decide +kernel) (by decide +kernel) (by decide +kernel) (by decide +kernel) (by decide +kernel) dX9_init_31 (fun a4 H hN => ?_)
  rw [List.cons_append] at hN
  refine lm_putF B hN hin0 hiX9 tyX9 tyX9_ok nmX9 rfl 0 rfl rfl 10 (by decide) (by decide +kernel) rfl rfl (v := .ref a4) rfl rfl (Nat.le_of_ble_eq_true rfl) _ rfl dX9_init_33 (fun H locs hN => ?_)
  rw [List.set_cons_zero] at hN
  refine lv_aload_n hx hb dX9_init_36 rfl (lv_at hl 0 rfl) ?_
  refine lv_bipush (v := 7) hx hb dX9_init_37 (by decide) ?_
  refine lm_newa B hN (by decide +kernel) 7 (by decide +kernel) (by decide +kernel) (by decide +kernel) (by decide +kernel) (by decide +kernel) dX9_init_39 (fun a5 H hN => ?_)
  rw [List.cons_append] at hN
  refine lm_putF B hN hin0 hiX9 tyX9 tyX9_ok nmX9 rfl 0 rfl rfl 11 (by decide) (by decide +kernel) rfl rfl (v := .ref a5) rfl rfl (Nat.le_of_ble_eq_true rfl) _ rfl dX9_init_41 (fun H locs hN => ?_)
  rw [List.set_cons_zero] at hN
  refine lv_aload_n hx hb dX9_init_44 rfl (lv_at hl 0 rfl) ?_
  refine lv_bipush (v := 7) hx hb dX9_init_45 (by decide) ?_
  refine lm_newa B hN (by decide +kernel) 7 (by decide +kernel) (by decide +kernel) (by decide +kernel) (by decide +kernel) (by decide +kernel) dX9_init_47 (fun a6 H hN => ?_)
  rw [List.cons_append] at hN
  refine lm_putF B hN hin0 hiX9 tyX9 tyX9_ok nmX9 rfl 0 rfl rfl 12 (by decide) (by decide +kernel) rfl rfl (v := .ref a6) rfl rfl (Nat.le_of_ble_eq_true rfl) _ rfl dX9_init_49 (fun H locs hN => ?_)
  rw [List.set_cons_zero] at hN
  refine lv_aload_n hx hb dX9_init_52 rfl (lv_at hl 0 rfl) ?_
  refine lv_bipush (v := 7) hx hb dX9_init_53 (by decide) ?_
  refine lm_newa B hN (by decide +kernel) 7 (by decide +kernel) (by decide +kernel) (by decide +kernel) (by decide +kernel) (by decide +kernel) dX9_init_55 (fun a7 H hN => ?_)
  rw [List.cons_append] at hN
  refine lm_putF B hN hin0 hiX9 tyX9 tyX9_ok nmX9 rfl 0 rfl rfl 13 (by decide) (by decide +kernel) rfl rfl (v := .ref a7) rfl rfl (Nat.le_of_ble_eq_true rfl) _ rfl dX9_init_57 (fun H locs hN => ?_)
  rw [List.set_cons_zero] at hN
  refine lv_aload_n hx hb dX9_init_60 rfl (lv_at hl 0 rfl) ?_
  refine lv_bipush (v := 7) hx hb dX9_init_61 (by decide) ?_
  refine lm_newa B hN (by decide +kernel) 7 (by decide +kernel) (by decide +kernel) (by decide +kernel) (by decide +kernel) (by decide +kernel) dX9_init_63 (fun a8 H hN => ?_)
  rw [List.cons_append] at hN
  refine lm_putF B hN hin0 hiX9 tyX9 tyX9_ok nmX9 rfl 0 rfl rfl 14 (by decide) (by decide +kernel) rfl rfl (v := .ref a8) rfl rfl (Nat.le_of_ble_eq_true rfl) _ rfl dX9_init_65 (fun H locs hN => ?_)
  rw [List.set_cons_zero] at hN
  refine lv_aload_n hx hb dX9_init_68 rfl (lv_at hl 0 rfl) ?_
  refine lv_bipush (v := 7) hx hb dX9_init_69 (by decide) ?_
  refine lm_newa B hN (by decide +kernel) 7 (by decide +kernel) (by decide +kernel) (by decide +kernel) (by decide +kernel) (by decide +kernel) dX9_init_71 (fun a9 H hN => ?_)
  rw [List.cons_append] at hN
  refine lm_putF B hN hin0 hiX9 tyX9 tyX9_ok nmX9 rfl 0 rfl rfl 15 (by decide) (by decide +kernel) rfl rfl (v := .ref a9) rfl rfl (Nat.le_of_ble_eq_true rfl) _ rfl dX9_init_73 (fun H locs hN => ?_)
  rw [List.set_cons_zero] at hN
  refine lv_aload_n hx hb dX9_init_76 rfl (lv_at hl 0 rfl) ?_
  refine lv_sipush (v := 1024) hx hb dX9_init_77 (by decide) ?_
  refine lm_newa B hN (by decide +kernel) 1024 (by decide +kernel) (by decide +kernel) (by decide +kernel) (by decide +kernel) (by decide +kernel) dX9_init_80 (fun a10 H hN => ?_)
  rw [List.cons_append] at hN
  refine lm_putF B hN hin0 hiX9 tyX9 tyX9_ok nmX9 rfl 0 rfl rfl 18 (by decide) (by decide +kernel) rfl rfl (v := .ref a10) rfl rfl (Nat.le_of_ble_eq_true rfl) _ rfl dX9_init_82 (fun H locs hN => ?_)
  rw [List.set_cons_zero] at hN
  refine lv_aload_n hx hb dX9_init_85 rfl (lv_at hl 0 rfl) ?_
  refine lv_bipush (v := 18) hx hb dX9_init_86 (by decide) ?_
  refine lm_newa B hN (by decide +kernel) 18 (by decide +kernel) (by decide +kernel) (by decide +kernel) (by decide +kernel) (by decide +kernel) dX9_init_88 (fun a11 H hN => ?_)
  rw [List.cons_append] at hN
  refine lm_putF B hN hin0 hiX9 tyX9 tyX9_ok nmX9 rfl 0 rfl rfl 20 (by decide) (by decide +kernel) rfl rfl (v := .ref a11) rfl rfl (Nat.le_of_ble_eq_true rfl) _ rfl dX9_init_90 (fun H locs hN => ?_)
  rw [List.set_cons_zero] at hN
  refine lv_aload_n hx hb dX9_init_93 rfl (lv_at hl 0 rfl) ?_
  refine lv_bipush (v := 7) hx hb dX9_init_94 (by decide) ?_
  refine lm_newa B hN (by decide +kernel) 7 (by decide +kernel) (by decide +kernel) (by decide +kernel) (by decide +kernel) (by decide +kernel) dX9_init_96 (fun a12 H hN => ?_)
  rw [List.cons_append] at hN
  refine lm_putF B hN hin0 hiX9 tyX9 tyX9_ok nmX9 rfl 0 rfl rfl 27 (by decide) (by decide +kernel) rfl rfl (v := .ref a12) rfl rfl (Nat.le_of_ble_eq_true rfl) _ rfl dX9_init_98 (fun H locs hN => ?_)
  rw [List.set_cons_zero] at hN
  refine lv_aload_n hx hb dX9_init_101 rfl (lv_at hl 0 rfl) ?_
  refine lv_bipush (v := 7) hx hb dX9_init_102 (by decide) ?_
  refine lm_newa B hN (by decide +kernel) 7 (by decide +kernel) (by decide +kernel) (by decide +kernel) (by decide +kernel) (by decide +kernel) dX9_init_104 (fun a13 H hN => ?_)
  rw [List.cons_append] at hN
  refine lm_putF B hN hin0 hiX9 tyX9 tyX9_ok nmX9 rfl 0 rfl rfl 28 (by decide) (by decide +kernel) rfl rfl (v := .ref a13) rfl rfl (Nat.le_of_ble_eq_true rfl) _ rfl dX9_init_106 (fun H locs hN => ?_)
  rw [List.set_cons_zero] at hN
  refine lv_aload_n hx hb dX9_init_109 rfl (lv_at hl 0 rfl) ?_
  refine lv_bipush (v := 7) hx hb dX9_init_110 (by decide) ?_
  refine lm_newa B hN (by decide +kernel) 7 (by decide +kernel) (by decide +kernel) (by decide +kernel) (by decide +kernel) (by decide +kernel) dX9_init_112 (fun a14 H hN => ?_)
  rw [List.cons_append] at hN
  refine lm_putF B hN hin0 hiX9 tyX9 tyX9_ok nmX9 rfl 0 rfl rfl 29 (by decide) (by decide +kernel) rfl rfl (v := .ref a14) rfl rfl (Nat.le_of_ble_eq_true rfl) _ rfl dX9_init_114 (fun H locs hN => ?_)
  rw [List.set_cons_zero] at hN
  refine lv_aload_n hx hb dX9_init_117 rfl (lv_at hl 0 rfl) ?_
  refine lv_bipush (v := 7) hx hb dX9_init_118 (by decide) ?_
  refine lm_newa B hN (by decide +kernel) 7 (by decide +kernel) (by decide +kernel) (by decide +kernel) (by decide +kernel) (by decide +kernel) dX9_init_120 (fun a15 H hN => ?_)
  rw [List.cons_append] at hN
  refine lm_putF B hN hin0 hiX9 tyX9 tyX9_ok nmX9 rfl 0 rfl rfl 30 (by decide) (by decide +kernel) rfl rfl (v := .ref a15) rfl rfl (Nat.le_of_ble_eq_true rfl) _ rfl dX9_init_122 (fun H locs hN => ?_)
  rw [List.set_cons_zero] at hN
  refine lv_aload_n hx hb dX9_init_125 rfl (lv_at hl 0 rfl) ?_
  refine lv_bipush (v := 7) hx hb dX9_init_126 (by decide) ?_
  refine lm_newa B hN (by decide +kernel) 7 (by decide +kernel) (by decide +kernel) (by decide +kernel) (by decide +kernel) (by decide +kernel) dX9_init_128 (fun a16 H hN => ?_)
  rw [List.cons_append] at hN
  refine lm_putF B hN hin0 hiX9 tyX9 tyX9_ok nmX9 rfl 0 rfl rfl 31 (by decide) (by decide +kernel) rfl rfl (v := .ref a16) rfl rfl (Nat.le_of_ble_eq_true rfl) _ rfl dX9_init_130 (fun H locs hN => ?_)
  rw [List.set_cons_zero] at hN
  refine lv_aload_n hx hb dX9_init_133 rfl (lv_at hl 0 rfl) ?_
  refine lv_bipush (v := 18) hx hb dX9_init_134 (by decide) ?_
  refine lm_newa B hN (by decide +kernel) 18 (by decide +kernel) (by decide +kernel) (by decide +kernel) (by decide +kernel) (by decide +kernel) dX9_init_136 (fun a17 H hN => ?_)
  rw [List.cons_append] at hN
  refine lm_putF B hN hin0 hiX9 tyX9 tyX9_ok nmX9 rfl 0 rfl rfl 32 (by decide) (by decide +kernel) rfl rfl (v := .ref a17) rfl rfl (Nat.le_of_ble_eq_true rfl) _ rfl dX9_init_138 (fun H locs hN => ?_)
  rw [List.set_cons_zero] at hN
  refine lv_aload_n hx hb dX9_init_141 rfl (lv_at hl 0 rfl) ?_
  refine lv_iconst (v := -1) hx hb dX9_init_142 (by decide) ?_
  refine lm_put B hN (ci := 9) hiX9 tyX9 tyX9_ok nmX9 0 rfl rfl 22 (by decide) (by decide +kernel) (by decide) (v := .int (-1)) rfl rfl (Nat.le_of_ble_eq_true rfl) _ rfl dX9_init_143 (fun H locs hN => ?_)
  rw [List.set_cons_zero] at hN
  exact lm_vretI B hN ⟨(fun k => match k with | 1 => a1 | 2 => a2 | 3 => a3 | 4 => a4 | 5 => a5 | 6 => a6 | 7 => a7 | 8 => a8 | 9 => a9 | 10 => a10 | 11 => a11 | 12 => a12 | 13 => a13 | 14 => a14 | 15 => a15 | 16 => a16 | 17 => a17 | _ => h0), rfl, rfl⟩ dX9_init_146
