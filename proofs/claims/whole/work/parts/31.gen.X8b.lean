def fX8_count (g : Nat → lm_St) (x1 : Int32) : Option (Int32 × (Nat → lm_St)) := if x1 = 0 then (some (((g 2).1 0), g)) else (if x1 = 1 then ((fJ6_bitCount_0f7a4 ((g 2).1 1)).bind (fun r2 => some (r2, g))) else (if x1 = 2 then (some (((g 2).1 2), g)) else (if x1 = 3 then (some (((g 2).1 3), g)) else (if x1 = 4 then ((fX3_worthOf (g 2) (((g 2).1 1) ^^^ (-1 : Int32))).bind (fun v3 => lm_un2 v3 (fun r3 t3_0 => some (r3, (va_up g 2 t3_0))))) else (if x1 = 5 then ((fX3_missedOf (g 2) (((g 2).1 1) ^^^ (-1 : Int32)) (0 : Int32)).bind (fun v4 => lm_un2 v4 (fun r4 t4_0 => some (r4, (va_up g 2 t4_0))))) else (if x1 = 6 then (some (((g 2).1 4), g)) else (if x1 = 7 then ((fX3_worthOf (g 2) ((g 2).1 1)).bind (fun v5 => lm_un2 v5 (fun r5 t5_0 => some (r5, (va_up g 2 t5_0))))) else (if x1 = 8 then (some (((g 4).1 0), g)) else (if x1 = 9 then (some (((g 1).1 0), g)) else (if x1 = 10 then (some (((g 0).1 1), g)) else (if x1 = 11 then (some (((g 0).1 2), g)) else (some ((-102 : Int32), g)))))))))))))
set_option maxHeartbeats 4000000 in
set_option maxRecDepth 100000 in
theorem hX8_count (l : Launch) (G : lm_G) (Q : Nat → Nat → Nat) {g : Nat → lm_St} {x1 : Int32} {R : Int32 × (Nat → lm_St)} (hF : fX8_count g x1 = some R) : lm_C l G yX8_count wsX8_count 5 [.ref (Q 0 0), .int x1] (wA8 G Q g) (some (.int R.1)) (wA8 G Q R.2) := by
  refine lm_C.of (cc := cX8_count) (maxL := 2) (ret := (some .int)) (by decide) rfl (Nat.le_of_ble_eq_true rfl) ?_
  intro p e s m below meth c A ls B hN hl
  have hx := B.1.1
  have hb := B.1.2.1
  have hown := B.1.2.2.2.1
  have hts := B.1.2.2.2.2
  have hiX3 : ∀ w ∈ wsX30, w ∈ wsX8_count := by decide +kernel
  have hiX5 : ∀ w ∈ wsX50, w ∈ wsX8_count := by decide +kernel
  have hiX7 : ∀ w ∈ wsX70, w ∈ wsX8_count := by decide +kernel
  have hiX8 : ∀ w ∈ wsX80, w ∈ wsX8_count := by decide +kernel
  have hl : lv_has ls 2 [(0, .ref (Q 0 0)), (1, .int x1)] := hl
  refine lv_iload_n hx hb dX8_count_0 rfl (lv_at hl 1 rfl) ?_
  by_cases c1_0 : x1 = 0
  · have hF := lm_itp c1_0 hF
    refine lv_tableIn (tgt := 64) hx hb dX8_count_1 (by rw [c1_0]; decide) (by rw [c1_0]; decide) (by rw [c1_0]; rfl) (by decide) ?_
    refine lv_aload_n hx hb dX8_count_64 rfl (lv_at hl 0 rfl) ?_
    refine lm_get B hN (ci := 8) hiX8 0 rfl rfl 1 (by decide) (by decide +kernel) (v := .ref (Q 2 0)) rfl dX8_count_65 ?_
    refine lm_get B hN (ci := 3) hiX3 3 rfl rfl 4 (by decide) (by decide +kernel) (v := .int ((g 2).1 0)) rfl dX8_count_68 ?_
    cases hF
    exact lm_iret B hN dX8_count_71
  have hF := lm_itn c1_0 hF
  by_cases c1_1 : x1 = 1
  · have hF := lm_itp c1_1 hF
    refine lv_tableIn (tgt := 72) hx hb dX8_count_1 (by rw [c1_1]; decide) (by rw [c1_1]; decide) (by rw [c1_1]; rfl) (by decide) ?_
    refine lv_aload_n hx hb dX8_count_72 rfl (lv_at hl 0 rfl) ?_
    refine lm_get B hN (ci := 8) hiX8 0 rfl rfl 1 (by decide) (by decide +kernel) (v := .ref (Q 2 0)) rfl dX8_count_73 ?_
    refine lm_get B hN (ci := 3) hiX3 3 rfl rfl 5 (by decide) (by decide +kernel) (v := .int ((g 2).1 1)) rfl dX8_count_76 ?_
    obtain ⟨r2, hc2, hF⟩ := lm_bd hF
    refine lm_run0 B hN (lm_hrT B hN hl.1 (lm_cut0 B hN) (n := 1) (As := [.int ((g 2).1 1)]) (rest := []) (hJ6_bitCount_0f7a4 l G hc2) gX8_count_J6_bitCount_0f7a4 rfl (by decide +kernel) rfl (by decide) (by decide) rfl (Nat.le_of_ble_eq_true rfl) dX8_count_79) (fun H locs hN => ?_)
    cases hF
    exact lm_iret B hN dX8_count_82
  have hF := lm_itn c1_1 hF
  by_cases c1_2 : x1 = 2
  · have hF := lm_itp c1_2 hF
    refine lv_tableIn (tgt := 83) hx hb dX8_count_1 (by rw [c1_2]; decide) (by rw [c1_2]; decide) (by rw [c1_2]; rfl) (by decide) ?_
    refine lv_aload_n hx hb dX8_count_83 rfl (lv_at hl 0 rfl) ?_
    refine lm_get B hN (ci := 8) hiX8 0 rfl rfl 1 (by decide) (by decide +kernel) (v := .ref (Q 2 0)) rfl dX8_count_84 ?_
    refine lm_get B hN (ci := 3) hiX3 3 rfl rfl 6 (by decide) (by decide +kernel) (v := .int ((g 2).1 2)) rfl dX8_count_87 ?_
    cases hF
    exact lm_iret B hN dX8_count_90
  have hF := lm_itn c1_2 hF
  by_cases c1_3 : x1 = 3
  · have hF := lm_itp c1_3 hF
    refine lv_tableIn (tgt := 91) hx hb dX8_count_1 (by rw [c1_3]; decide) (by rw [c1_3]; decide) (by rw [c1_3]; rfl) (by decide) ?_
    refine lv_aload_n hx hb dX8_count_91 rfl (lv_at hl 0 rfl) ?_
    refine lm_get B hN (ci := 8) hiX8 0 rfl rfl 1 (by decide) (by decide +kernel) (v := .ref (Q 2 0)) rfl dX8_count_92 ?_
    refine lm_get B hN (ci := 3) hiX3 3 rfl rfl 7 (by decide) (by decide +kernel) (v := .int ((g 2).1 3)) rfl dX8_count_95 ?_
    cases hF
    exact lm_iret B hN dX8_count_98
  have hF := lm_itn c1_3 hF
  by_cases c1_4 : x1 = 4
  · have hF := lm_itp c1_4 hF
    refine lv_tableIn (tgt := 99) hx hb dX8_count_1 (by rw [c1_4]; decide) (by rw [c1_4]; decide) (by rw [c1_4]; rfl) (by decide) ?_
    refine lv_aload_n hx hb dX8_count_99 rfl (lv_at hl 0 rfl) ?_
    refine lm_get B hN (ci := 8) hiX8 0 rfl rfl 1 (by decide) (by decide +kernel) (v := .ref (Q 2 0)) rfl dX8_count_100 ?_
    refine lv_aload_n hx hb dX8_count_103 rfl (lv_at hl 0 rfl) ?_
    refine lm_get B hN (ci := 8) hiX8 0 rfl rfl 1 (by decide) (by decide +kernel) (v := .ref (Q 2 0)) rfl dX8_count_104 ?_
    refine lm_get B hN (ci := 3) hiX3 3 rfl rfl 5 (by decide) (by decide +kernel) (v := .int ((g 2).1 1)) rfl dX8_count_107 ?_
    refine lv_iconst (v := -1) hx hb dX8_count_110 (by decide) ?_
    refine lv_ixor hx hb dX8_count_111 ?_
    obtain ⟨⟨r3, t3_0⟩, hc3, hF⟩ := lm_bd hF
    have hF := lm_un2E hF
    refine lm_run B hN (kp_wA8_2 _ _ _) (lm_hrV B hN hl.1 (lm_cutP B hN (kp_wA8_2 _ _ _)) (n := 1) (As := [.int (((g 2).1 1) ^^^ (-1 : Int32))]) (rest := []) (hX3_worthOf l G (Q 2) hc3) gX8_count_X3_worthOf rfl (by decide +kernel) rfl (by decide) (by decide) (ci := 3) (q0 := 0) rfl rfl rfl (Nat.le_of_ble_eq_true rfl) dX8_count_112) (wA8 G Q (va_up g 2 t3_0)) (kq_wA8_2 _ _ _ _) (fun H locs hN => ?_)
    cases hF
    exact lm_iret B hN dX8_count_115
  have hF := lm_itn c1_4 hF
  by_cases c1_5 : x1 = 5
  · have hF := lm_itp c1_5 hF
    refine lv_tableIn (tgt := 116) hx hb dX8_count_1 (by rw [c1_5]; decide) (by rw [c1_5]; decide) (by rw [c1_5]; rfl) (by decide) ?_
    refine lv_aload_n hx hb dX8_count_116 rfl (lv_at hl 0 rfl) ?_
    refine lm_get B hN (ci := 8) hiX8 0 rfl rfl 1 (by decide) (by decide +kernel) (v := .ref (Q 2 0)) rfl dX8_count_117 ?_
    refine lv_aload_n hx hb dX8_count_120 rfl (lv_at hl 0 rfl) ?_
    refine lm_get B hN (ci := 8) hiX8 0 rfl rfl 1 (by decide) (by decide +kernel) (v := .ref (Q 2 0)) rfl dX8_count_121 ?_
    refine lm_get B hN (ci := 3) hiX3 3 rfl rfl 5 (by decide) (by decide +kernel) (v := .int ((g 2).1 1)) rfl dX8_count_124 ?_
    refine lv_iconst (v := -1) hx hb dX8_count_127 (by decide) ?_
    refine lv_ixor hx hb dX8_count_128 ?_
    refine lv_iconst (v := 0) hx hb dX8_count_129 (by decide) ?_
    obtain ⟨⟨r4, t4_0⟩, hc4, hF⟩ := lm_bd hF
    have hF := lm_un2E hF
    refine lm_run B hN (kp_wA8_2 _ _ _) (lm_hrV B hN hl.1 (lm_cutP B hN (kp_wA8_2 _ _ _)) (n := 2) (As := [.int (((g 2).1 1) ^^^ (-1 : Int32)), .int (0 : Int32)]) (rest := []) (hX3_missedOf l G (Q 2) hc4) gX8_count_X3_missedOf rfl (by decide +kernel) rfl (by decide) (by decide) (ci := 3) (q0 := 0) rfl rfl rfl (Nat.le_of_ble_eq_true rfl) dX8_count_130) (wA8 G Q (va_up g 2 t4_0)) (kq_wA8_2 _ _ _ _) (fun H locs hN => ?_)
    cases hF
    exact lm_iret B hN dX8_count_133
  have hF := lm_itn c1_5 hF
  by_cases c1_6 : x1 = 6
  · have hF := lm_itp c1_6 hF
    refine lv_tableIn (tgt := 134) hx hb dX8_count_1 (by rw [c1_6]; decide) (by rw [c1_6]; decide) (by rw [c1_6]; rfl) (by decide) ?_
    refine lv_aload_n hx hb dX8_count_134 rfl (lv_at hl 0 rfl) ?_
    refine lm_get B hN (ci := 8) hiX8 0 rfl rfl 1 (by decide) (by decide +kernel) (v := .ref (Q 2 0)) rfl dX8_count_135 ?_
    refine lm_get B hN (ci := 3) hiX3 3 rfl rfl 8 (by decide) (by decide +kernel) (v := .int ((g 2).1 4)) rfl dX8_count_138 ?_
    cases hF
    exact lm_iret B hN dX8_count_141
  have hF := lm_itn c1_6 hF
  by_cases c1_7 : x1 = 7
  · have hF := lm_itp c1_7 hF
    refine lv_tableIn (tgt := 142) hx hb dX8_count_1 (by rw [c1_7]; decide) (by rw [c1_7]; decide) (by rw [c1_7]; rfl) (by decide) ?_
    refine lv_aload_n hx hb dX8_count_142 rfl (lv_at hl 0 rfl) ?_
    refine lm_get B hN (ci := 8) hiX8 0 rfl rfl 1 (by decide) (by decide +kernel) (v := .ref (Q 2 0)) rfl dX8_count_143 ?_
    refine lv_aload_n hx hb dX8_count_146 rfl (lv_at hl 0 rfl) ?_
    refine lm_get B hN (ci := 8) hiX8 0 rfl rfl 1 (by decide) (by decide +kernel) (v := .ref (Q 2 0)) rfl dX8_count_147 ?_
    refine lm_get B hN (ci := 3) hiX3 3 rfl rfl 5 (by decide) (by decide +kernel) (v := .int ((g 2).1 1)) rfl dX8_count_150 ?_
    obtain ⟨⟨r5, t5_0⟩, hc5, hF⟩ := lm_bd hF
    have hF := lm_un2E hF
    refine lm_run B hN (kp_wA8_2 _ _ _) (lm_hrV B hN hl.1 (lm_cutP B hN (kp_wA8_2 _ _ _)) (n := 1) (As := [.int ((g 2).1 1)]) (rest := []) (hX3_worthOf l G (Q 2) hc5) gX8_count_X3_worthOf rfl (by decide +kernel) rfl (by decide) (by decide) (ci := 3) (q0 := 0) rfl rfl rfl (Nat.le_of_ble_eq_true rfl) dX8_count_153) (wA8 G Q (va_up g 2 t5_0)) (kq_wA8_2 _ _ _ _) (fun H locs hN => ?_)
    cases hF
    exact lm_iret B hN dX8_count_156
  have hF := lm_itn c1_7 hF
  by_cases c1_8 : x1 = 8
  · have hF := lm_itp c1_8 hF
    refine lv_tableIn (tgt := 157) hx hb dX8_count_1 (by rw [c1_8]; decide) (by rw [c1_8]; decide) (by rw [c1_8]; rfl) (by decide) ?_
    refine lv_aload_n hx hb dX8_count_157 rfl (lv_at hl 0 rfl) ?_
    refine lm_get B hN (ci := 8) hiX8 0 rfl rfl 3 (by decide) (by decide +kernel) (v := .ref (Q 4 0)) rfl dX8_count_158 ?_
    refine lm_get B hN (ci := 7) hiX7 13 rfl rfl 4 (by decide) (by decide +kernel) (v := .int ((g 4).1 0)) rfl dX8_count_161 ?_
    cases hF
    exact lm_iret B hN dX8_count_164
  have hF := lm_itn c1_8 hF
  by_cases c1_9 : x1 = 9
  · have hF := lm_itp c1_9 hF
    refine lv_tableIn (tgt := 165) hx hb dX8_count_1 (by rw [c1_9]; decide) (by rw [c1_9]; decide) (by rw [c1_9]; rfl) (by decide) ?_
    refine lv_aload_n hx hb dX8_count_165 rfl (lv_at hl 0 rfl) ?_
    refine lm_get B hN (ci := 8) hiX8 0 rfl rfl 0 (by decide) (by decide +kernel) (v := .ref (Q 1 0)) rfl dX8_count_166 ?_
    refine lm_get B hN (ci := 5) hiX5 1 rfl rfl 1 (by decide) (by decide +kernel) (v := .int ((g 1).1 0)) rfl dX8_count_169 ?_
    cases hF
    exact lm_iret B hN dX8_count_172
  have hF := lm_itn c1_9 hF
  by_cases c1_10 : x1 = 10
  · have hF := lm_itp c1_10 hF
    refine lv_tableIn (tgt := 173) hx hb dX8_count_1 (by rw [c1_10]; decide) (by rw [c1_10]; decide) (by rw [c1_10]; rfl) (by decide) ?_
    refine lv_aload_n hx hb dX8_count_173 rfl (lv_at hl 0 rfl) ?_
    refine lm_get B hN (ci := 8) hiX8 0 rfl rfl 11 (by decide) (by decide +kernel) (v := .int ((g 0).1 1)) rfl dX8_count_174 ?_
    cases hF
    exact lm_iret B hN dX8_count_177
  have hF := lm_itn c1_10 hF
  by_cases c1_11 : x1 = 11
  · have hF := lm_itp c1_11 hF
    refine lv_tableIn (tgt := 178) hx hb dX8_count_1 (by rw [c1_11]; decide) (by rw [c1_11]; decide) (by rw [c1_11]; rfl) (by decide) ?_
    refine lv_aload_n hx hb dX8_count_178 rfl (lv_at hl 0 rfl) ?_
    refine lm_get B hN (ci := 8) hiX8 0 rfl rfl 12 (by decide) (by decide +kernel) (v := .int ((g 0).1 2)) rfl dX8_count_179 ?_
    cases hF
    exact lm_iret B hN dX8_count_182
  have hF := lm_itn c1_11 hF
  have ic1_0 := lm_ti (n := 0) (by decide) c1_0
  have ic1_1 := lm_ti (n := 1) (by decide) c1_1
  have ic1_2 := lm_ti (n := 2) (by decide) c1_2
  have ic1_3 := lm_ti (n := 3) (by decide) c1_3
  have ic1_4 := lm_ti (n := 4) (by decide) c1_4
  have ic1_5 := lm_ti (n := 5) (by decide) c1_5
  have ic1_6 := lm_ti (n := 6) (by decide) c1_6
  have ic1_7 := lm_ti (n := 7) (by decide) c1_7
  have ic1_8 := lm_ti (n := 8) (by decide) c1_8
  have ic1_9 := lm_ti (n := 9) (by decide) c1_9
  have ic1_10 := lm_ti (n := 10) (by decide) c1_10
  have ic1_11 := lm_ti (n := 11) (by decide) c1_11
  refine lv_tableOut (tgt := 183) hx hb dX8_count_1 (by omega) (by decide) ?_
  refine lv_bipush (v := -102) hx hb dX8_count_183 (by decide) ?_
  cases hF
  exact lm_iret B hN dX8_count_185
def fX8_next (g : Nat → lm_St) (x1 : Int32) : Option (Int32 × (Nat → lm_St)) := if x1 < 0 then (some ((-102 : Int32), g)) else (if x1 ≤ (20 : Int32) then ((fX3_isNone (g 2)).bind (fun v3 => lm_un2 v3 (fun r3 t3_0 => if r3 = 0 then ((fX3_wouldTake t3_0 x1).bind (fun v5 => lm_un2 v5 (fun r5 t5_0 => some (r5, (va_up (va_up g 2 t3_0) 2 t5_0))))) else (some ((-103 : Int32), (va_up g 2 t3_0)))))) else (some ((-102 : Int32), g)))
set_option maxHeartbeats 4000000 in
set_option maxRecDepth 100000 in
theorem hX8_next (l : Launch) (G : lm_G) (Q : Nat → Nat → Nat) {g : Nat → lm_St} {x1 : Int32} {R : Int32 × (Nat → lm_St)} (hF : fX8_next g x1 = some R) : lm_C l G yX8_next wsX8_next 5 [.ref (Q 0 0), .int x1] (wA8 G Q g) (some (.int R.1)) (wA8 G Q R.2) := by
  refine lm_C.of (cc := cX8_next) (maxL := 2) (ret := (some .int)) (by decide) rfl (Nat.le_of_ble_eq_true rfl) ?_
  intro p e s m below meth c A ls B hN hl
  have hx := B.1.1
  have hb := B.1.2.1
  have hown := B.1.2.2.2.1
  have hts := B.1.2.2.2.2
  have hiX8 : ∀ w ∈ wsX80, w ∈ wsX8_next := by decide +kernel
  have hl : lv_has ls 2 [(0, .ref (Q 0 0)), (1, .int x1)] := hl
  refine lv_iload_n hx hb dX8_next_0 rfl (lv_at hl 1 rfl) ?_
  refine lv_if_lt (tgt := 10) hx hb dX8_next_1 (by decide) (fun c1 => ?_) (fun c1 => ?_)
  · have hF := lm_itp c1 hF
    refine lv_bipush (v := -102) hx hb dX8_next_10 (by decide) ?_
    cases hF
    exact lm_iret B hN dX8_next_12
  · have hF := lm_itn c1 hF
    refine lv_iload_n hx hb dX8_next_4 rfl (lv_at hl 1 rfl) ?_
    refine lv_bipush (v := 20) hx hb dX8_next_5 (by decide) ?_
    refine lv_icmp_le (tgt := 13) hx hb dX8_next_7 (by decide) (fun c2 => ?_) (fun c2 => ?_)
    · have hF := lm_itp c2 hF
      refine lv_aload_n hx hb dX8_next_13 rfl (lv_at hl 0 rfl) ?_
      refine lm_get B hN (ci := 8) hiX8 0 rfl rfl 1 (by decide) (by decide +kernel) (v := .ref (Q 2 0)) rfl dX8_next_14 ?_
      obtain ⟨⟨r3, t3_0⟩, hc3, hF⟩ := lm_bd hF
      have hF := lm_un2E hF
      refine lm_run B hN (kp_wA8_2 _ _ _) (lm_hrV B hN hl.1 (lm_cutP B hN (kp_wA8_2 _ _ _)) (n := 0) (As := []) (rest := []) (hX3_isNone l G (Q 2) hc3) gX8_next_X3_isNone rfl (by decide +kernel) rfl (by decide) (by decide) (ci := 3) (q0 := 0) rfl rfl rfl (Nat.le_of_ble_eq_true rfl) dX8_next_17) (wA8 G Q (va_up g 2 t3_0)) (kq_wA8_2 _ _ _ _) (fun H locs hN => ?_)
      refine lv_if_eq (tgt := 28) hx hb dX8_next_20 (by decide) (fun c4 => ?_) (fun c4 => ?_)
      · have hF := lm_itp c4 hF
        refine lv_aload_n hx hb dX8_next_28 rfl (lv_at hl 0 rfl) ?_
        refine lm_get B hN (ci := 8) hiX8 0 rfl rfl 1 (by decide) (by decide +kernel) (v := .ref (Q 2 0)) rfl dX8_next_29 ?_
        refine lv_iload_n hx hb dX8_next_32 rfl (lv_at hl 1 rfl) ?_
        obtain ⟨⟨r5, t5_0⟩, hc5, hF⟩ := lm_bd hF
        have hF := lm_un2E hF
        refine lm_run B hN (kp_wA8_2 _ _ _) (lm_hrV B hN hl.1 (lm_cutP B hN (kp_wA8_2 _ _ _)) (n := 1) (As := [.int x1]) (rest := []) (hX3_wouldTake l G (Q 2) hc5) gX8_next_X3_wouldTake rfl (by decide +kernel) rfl (by decide) (by decide) (ci := 3) (q0 := 0) rfl rfl rfl (Nat.le_of_ble_eq_true rfl) dX8_next_33) (wA8 G Q (va_up (va_up g 2 t3_0) 2 t5_0)) (kq_wA8_2 _ _ _ _) (fun H locs hN => ?_)
        cases hF
        exact lm_iret B hN dX8_next_36
      · have hF := lm_itn c4 hF
        refine lv_bipush (v := -103) hx hb dX8_next_23 (by decide) ?_
        refine lv_goto (tgt := 36) hx hb dX8_next_25 (by decide) ?_
        cases hF
        exact lm_iret B hN dX8_next_36
    · have hF := lm_itn c2 hF
      refine lv_bipush (v := -102) hx hb dX8_next_10 (by decide) ?_
      cases hF
      exact lm_iret B hN dX8_next_12
def fX8_sale (g : Nat → lm_St) : Option (Int32 × (Nat → lm_St)) := (fX3_isNone (g 2)).bind (fun v1 => lm_un2 v1 (fun r1 t1_0 => if r1 = 0 then (if ((g 0).1 2) < (16 : Int32) then ((fX0_mostOf (g 11) t1_0).bind (fun v4 => lm_un3 v4 (fun r4 t4_0 t4_1 => some (r4, (va_up (va_up (lm_gF (va_up g 2 t1_0) 0 2 (((g 0).1 2) + (1 : Int32))) 11 t4_0) 2 t4_1))))) else (some ((-103 : Int32), (va_up g 2 t1_0)))) else (some ((-103 : Int32), (va_up g 2 t1_0)))))
set_option maxHeartbeats 4000000 in
set_option maxRecDepth 100000 in
theorem hX8_sale (l : Launch) (G : lm_G) (Q : Nat → Nat → Nat) {g : Nat → lm_St} {R : Int32 × (Nat → lm_St)} (hF : fX8_sale g = some R) : lm_C l G yX8_sale wsX8_sale 5 [.ref (Q 0 0)] (wA8 G Q g) (some (.int R.1)) (wA8 G Q R.2) := by
  refine lm_C.of (cc := cX8_sale) (maxL := 1) (ret := (some .int)) (by decide) rfl (Nat.le_of_ble_eq_true rfl) ?_
  intro p e s m below meth c A ls B hN hl
  have hx := B.1.1
  have hb := B.1.2.1
  have hown := B.1.2.2.2.1
  have hts := B.1.2.2.2.2
  have hiX8 : ∀ w ∈ wsX80, w ∈ wsX8_sale := by decide +kernel
  have hl : lv_has ls 1 [(0, .ref (Q 0 0))] := hl
  refine lv_aload_n hx hb dX8_sale_0 rfl (lv_at hl 0 rfl) ?_
  refine lm_get B hN (ci := 8) hiX8 0 rfl rfl 1 (by decide) (by decide +kernel) (v := .ref (Q 2 0)) rfl dX8_sale_1 ?_
  obtain ⟨⟨r1, t1_0⟩, hc1, hF⟩ := lm_bd hF
  have hF := lm_un2E hF
  refine lm_run B hN (kp_wA8_2 _ _ _) (lm_hrV B hN hl.1 (lm_cutP B hN (kp_wA8_2 _ _ _)) (n := 0) (As := []) (rest := []) (hX3_isNone l G (Q 2) hc1) gX8_sale_X3_isNone rfl (by decide +kernel) rfl (by decide) (by decide) (ci := 3) (q0 := 0) rfl rfl rfl (Nat.le_of_ble_eq_true rfl) dX8_sale_4) (wA8 G Q (va_up g 2 t1_0)) (kq_wA8_2 _ _ _ _) (fun H locs hN => ?_)
  refine lv_if_ne (tgt := 19) hx hb dX8_sale_7 (by decide) (fun c2 => ?_) (fun c2 => ?_)
  · have hF := lm_itn c2 hF
    refine lv_bipush (v := -103) hx hb dX8_sale_19 (by decide) ?_
    cases hF
    exact lm_iret B hN dX8_sale_21
  · have hF := lm_itp c2 hF
    refine lv_aload_n hx hb dX8_sale_10 rfl (lv_at hl 0 rfl) ?_
    refine lm_get B hN (ci := 8) hiX8 0 rfl rfl 12 (by decide) (by decide +kernel) (v := .int ((g 0).1 2)) rfl dX8_sale_11 ?_
    refine lv_bipush (v := 16) hx hb dX8_sale_14 (by decide) ?_
    refine lv_icmp_lt (tgt := 22) hx hb dX8_sale_16 (by decide) (fun c3 => ?_) (fun c3 => ?_)
    · have hF := lm_itp c3 hF
      refine lv_aload_n hx hb dX8_sale_22 rfl (lv_at hl 0 rfl) ?_
      refine lv_dup hx hb dX8_sale_23 rfl ?_
      refine lm_get B hN (ci := 8) hiX8 0 rfl rfl 12 (by decide) (by decide +kernel) (v := .int ((g 0).1 2)) rfl dX8_sale_24 ?_
      refine lv_iconst (v := 1) hx hb dX8_sale_27 (by decide) ?_
      refine lv_iadd hx hb dX8_sale_28 ?_
      refine lm_put B hN (ci := 8) hiX8 tyX8 tyX8_ok nmX8 0 rfl rfl 12 (by decide) (by decide +kernel) (by decide) (v := .int (((g 0).1 2) + (1 : Int32))) rfl rfl (Nat.le_of_ble_eq_true rfl) (wA8 G Q (lm_gF (va_up g 2 t1_0) 0 2 (((g 0).1 2) + (1 : Int32)))) (wA8_r0f2 _ _ _ _) dX8_sale_29 (fun H locs hN => ?_)
      refine lv_aload_n hx hb dX8_sale_32 rfl (lv_at hl 0 rfl) ?_
      refine lm_get B hN (ci := 8) hiX8 0 rfl rfl 8 (by decide) (by decide +kernel) (v := .ref (Q 11 0)) rfl dX8_sale_33 ?_
      refine lv_aload_n hx hb dX8_sale_36 rfl (lv_at hl 0 rfl) ?_
      refine lm_get B hN (ci := 8) hiX8 0 rfl rfl 1 (by decide) (by decide +kernel) (v := .ref (Q 2 0)) rfl dX8_sale_37 ?_
      obtain ⟨⟨r4, t4_0, t4_1⟩, hc4, hF⟩ := lm_bd hF
      have hF := lm_un3E hF
      refine lm_run B hN (kp_wA8_11_2 _ _ _) (lm_hrV B hN hl.1 (lm_cutP B hN (kp_wA8_11_2 _ _ _)) (n := 1) (As := [.ref (Q 2 0)]) (rest := []) (hX0_mostOf l G (Q 11) (Q 2) hc4) gX8_sale_X0_mostOf rfl (by decide +kernel) rfl (by decide) (by decide) (ci := 0) (q0 := 0) rfl rfl rfl (Nat.le_of_ble_eq_true rfl) dX8_sale_40) (wA8 G Q (va_up (va_up (lm_gF (va_up g 2 t1_0) 0 2 (((g 0).1 2) + (1 : Int32))) 11 t4_0) 2 t4_1)) (kq_wA8_11_2 _ _ _ _ _) (fun H locs hN => ?_)
      cases hF
      exact lm_iret B hN dX8_sale_43
    · have hF := lm_itn c3 hF
      refine lv_bipush (v := -103) hx hb dX8_sale_19 (by decide) ?_
      cases hF
      exact lm_iret B hN dX8_sale_21
def jX8_take_22 (y0_22 : Int32) (g_22 : Nat → lm_St) : Option (Int32 × (Nat → lm_St)) := if y0_22 = (-1 : Int32) then (some ((-103 : Int32), g_22)) else ((fX3_haveAway (g_22 2) y0_22).bind (fun t2_0 => some (y0_22, (va_up g_22 2 t2_0))))
def fX8_take (g : Nat → lm_St) : Option (Int32 × (Nat → lm_St)) := (fX3_isNone (g 2)).bind (fun v3 => lm_un2 v3 (fun r3 t3_0 => if r3 = 0 then ((fX3_wouldTake t3_0 (0 : Int32)).bind (fun v5 => lm_un2 v5 (fun r5 t5_0 => jX8_take_22 r5 (va_up (va_up g 2 t3_0) 2 t5_0)))) else (jX8_take_22 (-1 : Int32) (va_up g 2 t3_0))))
set_option maxHeartbeats 4000000 in
set_option maxRecDepth 100000 in
theorem hX8_take (l : Launch) (G : lm_G) (Q : Nat → Nat → Nat) {g : Nat → lm_St} {R : Int32 × (Nat → lm_St)} (hF : fX8_take g = some R) : lm_C l G yX8_take wsX8_take 5 [.ref (Q 0 0)] (wA8 G Q g) (some (.int R.1)) (wA8 G Q R.2) := by
  refine lm_C.of (cc := cX8_take) (maxL := 2) (ret := (some .int)) (by decide) rfl (Nat.le_of_ble_eq_true rfl) ?_
  intro p e s m below meth c A ls B hN hl
  have hx := B.1.1
  have hb := B.1.2.1
  have hown := B.1.2.2.2.1
  have hts := B.1.2.2.2.2
  have hiX8 : ∀ w ∈ wsX80, w ∈ wsX8_take := by decide +kernel
  have hl : lv_has ls 2 [(0, .ref (Q 0 0))] := hl
  have J22 : ∀ (y0_22 : Int32) (g_22 : Nat → lm_St) (H : Heap) (locs : List Loc) (ls : Array Slot), jX8_take_22 y0_22 g_22 = some R → lm_N G A s (wA8 G Q g_22) H locs → lv_has ls 2 [(0, .ref (Q 0 0))] → W p l e (lm_rk 5) s m ([.ref (Q 0 0)] : List Value).toArray below meth c H locs 0 0 (MQ below (lm_post G (wA8 G Q R.2) (some (.int R.1)) A) ([.ref (Q 0 0)] : List Value).toArray s 0 0 A) (F0 m 22 ls [.int y0_22]) := by
    intro y0_22 g_22 H locs ls hF hN hl
    refine lv_istore_n (lv' := [(1, .int y0_22), (0, .ref (Q 0 0))]) hx hb dX8_take_22 rfl hl (by decide) rfl (fun ls hl => ?_)
    refine lv_iload_n hx hb dX8_take_23 rfl (lv_at hl 0 rfl) ?_
    refine lv_iconst (v := -1) hx hb dX8_take_24 (by decide) ?_
    refine lv_icmp_ne (tgt := 31) hx hb dX8_take_25 (by decide) (fun c1 => ?_) (fun c1 => ?_)
    · have hF := lm_itn c1 hF
      refine lv_aload_n hx hb dX8_take_31 rfl (lv_at hl 1 rfl) ?_
      refine lm_get B hN (ci := 8) hiX8 0 rfl rfl 1 (by decide) (by decide +kernel) (v := .ref (Q 2 0)) rfl dX8_take_32 ?_
      refine lv_iload_n hx hb dX8_take_35 rfl (lv_at hl 0 rfl) ?_
      obtain ⟨t2_0, hc2, hF⟩ := lm_bd hF
      refine lm_run B hN (kp_wA8_2 _ _ _) (lm_hrV B hN hl.1 (lm_cutP B hN (kp_wA8_2 _ _ _)) (n := 1) (As := [.int y0_22]) (rest := []) (hX3_haveAway l G (Q 2) hc2) gX8_take_X3_haveAway rfl (by decide +kernel) rfl (by decide) (by decide) (ci := 3) (q0 := 0) rfl rfl rfl (Nat.le_of_ble_eq_true rfl) dX8_take_36) (wA8 G Q (va_up g_22 2 t2_0)) (kq_wA8_2 _ _ _ _) (fun H locs hN => ?_)
      refine lv_iload_n hx hb dX8_take_39 rfl (lv_at hl 0 rfl) ?_
      cases hF
      exact lm_iret B hN dX8_take_40
    · have hF := lm_itp c1 hF
      refine lv_bipush (v := -103) hx hb dX8_take_28 (by decide) ?_
      cases hF
      exact lm_iret B hN dX8_take_30
  refine lv_aload_n hx hb dX8_take_0 rfl (lv_at hl 0 rfl) ?_
  refine lm_get B hN (ci := 8) hiX8 0 rfl rfl 1 (by decide) (by decide +kernel) (v := .ref (Q 2 0)) rfl dX8_take_1 ?_
  obtain ⟨⟨r3, t3_0⟩, hc3, hF⟩ := lm_bd hF
  have hF := lm_un2E hF
  refine lm_run B hN (kp_wA8_2 _ _ _) (lm_hrV B hN hl.1 (lm_cutP B hN (kp_wA8_2 _ _ _)) (n := 0) (As := []) (rest := []) (hX3_isNone l G (Q 2) hc3) gX8_take_X3_isNone rfl (by decide +kernel) rfl (by decide) (by decide) (ci := 3) (q0 := 0) rfl rfl rfl (Nat.le_of_ble_eq_true rfl) dX8_take_4) (wA8 G Q (va_up g 2 t3_0)) (kq_wA8_2 _ _ _ _) (fun H locs hN => ?_)
  refine lv_if_eq (tgt := 14) hx hb dX8_take_7 (by decide) (fun c4 => ?_) (fun c4 => ?_)
  · have hF := lm_itp c4 hF
    refine lv_aload_n hx hb dX8_take_14 rfl (lv_at hl 0 rfl) ?_
    refine lm_get B hN (ci := 8) hiX8 0 rfl rfl 1 (by decide) (by decide +kernel) (v := .ref (Q 2 0)) rfl dX8_take_15 ?_
    refine lv_iconst (v := 0) hx hb dX8_take_18 (by decide) ?_
    obtain ⟨⟨r5, t5_0⟩, hc5, hF⟩ := lm_bd hF
    have hF := lm_un2E hF
    refine lm_run B hN (kp_wA8_2 _ _ _) (lm_hrV B hN hl.1 (lm_cutP B hN (kp_wA8_2 _ _ _)) (n := 1) (As := [.int (0 : Int32)]) (rest := []) (hX3_wouldTake l G (Q 2) hc5) gX8_take_X3_wouldTake rfl (by decide +kernel) rfl (by decide) (by decide) (ci := 3) (q0 := 0) rfl rfl rfl (Nat.le_of_ble_eq_true rfl) dX8_take_19) (wA8 G Q (va_up (va_up g 2 t3_0) 2 t5_0)) (kq_wA8_2 _ _ _ _) (fun H locs hN => ?_)
    exact J22 _ _ _ _ _ hF hN (lv_sub hl [0] rfl)
  · have hF := lm_itn c4 hF
    refine lv_iconst (v := -1) hx hb dX8_take_10 (by decide) ?_
    refine lv_goto (tgt := 22) hx hb dX8_take_11 (by decide) ?_
    exact J22 _ _ _ _ _ hF hN (lv_sub hl [0] rfl)
def fX8_makeUp (g : Nat → lm_St) (x1 : Int32) : Option (Int32 × (Nat → lm_St)) := if x1 < 0 then (some ((-102 : Int32), g)) else (if x1 ≤ (2 : Int32) then ((fX3_isNone (g 2)).bind (fun v3 => lm_un2 v3 (fun r3 t3_0 => if r3 = 0 then ((fX4_search (g 8) t3_0).bind (fun v5 => lm_un2 v5 (fun t5_0 t5_1 => if x1 = 0 then (some ((t5_0.1 0), (va_up (va_up (va_up g 2 t3_0) 8 t5_0) 2 t5_1))) else (if x1 = (1 : Int32) then (some ((t5_0.1 1), (va_up (va_up (va_up g 2 t3_0) 8 t5_0) 2 t5_1))) else (some ((t5_0.1 2), (va_up (va_up (va_up g 2 t3_0) 8 t5_0) 2 t5_1))))))) else (some ((-103 : Int32), (va_up g 2 t3_0)))))) else (some ((-102 : Int32), g)))
set_option maxHeartbeats 4000000 in
set_option maxRecDepth 100000 in
theorem hX8_makeUp (l : Launch) (G : lm_G) (Q : Nat → Nat → Nat) {g : Nat → lm_St} {x1 : Int32} {R : Int32 × (Nat → lm_St)} (hF : fX8_makeUp g x1 = some R) : lm_C l G yX8_makeUp wsX8_makeUp 6 [.ref (Q 0 0), .int x1] (wA8 G Q g) (some (.int R.1)) (wA8 G Q R.2) := by
  refine lm_C.of (cc := cX8_makeUp) (maxL := 2) (ret := (some .int)) (by decide) rfl (Nat.le_of_ble_eq_true rfl) ?_
  intro p e s m below meth c A ls B hN hl
  have hx := B.1.1
  have hb := B.1.2.1
  have hown := B.1.2.2.2.1
  have hts := B.1.2.2.2.2
  have hiX4 : ∀ w ∈ wsX40, w ∈ wsX8_makeUp := by decide +kernel
  have hiX8 : ∀ w ∈ wsX80, w ∈ wsX8_makeUp := by decide +kernel
  have hl : lv_has ls 2 [(0, .ref (Q 0 0)), (1, .int x1)] := hl
  refine lv_iload_n hx hb dX8_makeUp_0 rfl (lv_at hl 1 rfl) ?_
  refine lv_if_lt (tgt := 9) hx hb dX8_makeUp_1 (by decide) (fun c1 => ?_) (fun c1 => ?_)
  · have hF := lm_itp c1 hF
    refine lv_bipush (v := -102) hx hb dX8_makeUp_9 (by decide) ?_
    cases hF
    exact lm_iret B hN dX8_makeUp_11
  · have hF := lm_itn c1 hF
    refine lv_iload_n hx hb dX8_makeUp_4 rfl (lv_at hl 1 rfl) ?_
    refine lv_iconst (v := 2) hx hb dX8_makeUp_5 (by decide) ?_
    refine lv_icmp_le (tgt := 12) hx hb dX8_makeUp_6 (by decide) (fun c2 => ?_) (fun c2 => ?_)
    · have hF := lm_itp c2 hF
      refine lv_aload_n hx hb dX8_makeUp_12 rfl (lv_at hl 0 rfl) ?_
      refine lm_get B hN (ci := 8) hiX8 0 rfl rfl 1 (by decide) (by decide +kernel) (v := .ref (Q 2 0)) rfl dX8_makeUp_13 ?_
      obtain ⟨⟨r3, t3_0⟩, hc3, hF⟩ := lm_bd hF
      have hF := lm_un2E hF
      refine lm_run B hN (kp_wA8_2 _ _ _) (lm_hrV B hN hl.1 (lm_cutP B hN (kp_wA8_2 _ _ _)) (n := 0) (As := []) (rest := []) (hX3_isNone l G (Q 2) hc3) gX8_makeUp_X3_isNone rfl (by decide +kernel) rfl (by decide) (by decide) (ci := 3) (q0 := 0) rfl rfl rfl (Nat.le_of_ble_eq_true rfl) dX8_makeUp_16) (wA8 G Q (va_up g 2 t3_0)) (kq_wA8_2 _ _ _ _) (fun H locs hN => ?_)
      refine lv_if_eq (tgt := 25) hx hb dX8_makeUp_19 (by decide) (fun c4 => ?_) (fun c4 => ?_)
      · have hF := lm_itp c4 hF
        refine lv_aload_n hx hb dX8_makeUp_25 rfl (lv_at hl 0 rfl) ?_
        refine lm_get B hN (ci := 8) hiX8 0 rfl rfl 6 (by decide) (by decide +kernel) (v := .ref (Q 8 0)) rfl dX8_makeUp_26 ?_
        refine lv_aload_n hx hb dX8_makeUp_29 rfl (lv_at hl 0 rfl) ?_
        refine lm_get B hN (ci := 8) hiX8 0 rfl rfl 1 (by decide) (by decide +kernel) (v := .ref (Q 2 0)) rfl dX8_makeUp_30 ?_
        obtain ⟨⟨t5_0, t5_1⟩, hc5, hF⟩ := lm_bd hF
        have hF := lm_un2E hF
        refine lm_run B hN (kp_wA8_8_2 _ _ _) (lm_hrV B hN hl.1 (lm_cutP B hN (kp_wA8_8_2 _ _ _)) (n := 1) (As := [.ref (Q 2 0)]) (rest := []) (hX4_search l G (Q 8) (Q 2) hc5) gX8_makeUp_X4_search rfl (by decide +kernel) rfl (by decide) (by decide) (ci := 4) (q0 := 0) rfl rfl rfl (Nat.le_of_ble_eq_true rfl) dX8_makeUp_33) (wA8 G Q (va_up (va_up (va_up g 2 t3_0) 8 t5_0) 2 t5_1)) (kq_wA8_8_2 _ _ _ _ _) (fun H locs hN => ?_)
        refine lv_iload_n hx hb dX8_makeUp_36 rfl (lv_at hl 1 rfl) ?_
        refine lv_if_ne (tgt := 48) hx hb dX8_makeUp_37 (by decide) (fun c6 => ?_) (fun c6 => ?_)
        · have hF := lm_itn c6 hF
          refine lv_iload_n hx hb dX8_makeUp_48 rfl (lv_at hl 1 rfl) ?_
          refine lv_iconst (v := 1) hx hb dX8_makeUp_49 (by decide) ?_
          refine lv_icmp_ne (tgt := 63) hx hb dX8_makeUp_50 (by decide) (fun c7 => ?_) (fun c7 => ?_)
          · have hF := lm_itn c7 hF
            refine lv_aload_n hx hb dX8_makeUp_63 rfl (lv_at hl 0 rfl) ?_
            refine lm_get B hN (ci := 8) hiX8 0 rfl rfl 6 (by decide) (by decide +kernel) (v := .ref (Q 8 0)) rfl dX8_makeUp_64 ?_
            refine lm_get B hN (ci := 4) hiX4 31 rfl rfl 2 (by decide) (by decide +kernel) (v := .int (t5_0.1 2)) rfl dX8_makeUp_67 ?_
            cases hF
            exact lm_iret B hN dX8_makeUp_70
          · have hF := lm_itp c7 hF
            refine lv_aload_n hx hb dX8_makeUp_53 rfl (lv_at hl 0 rfl) ?_
            refine lm_get B hN (ci := 8) hiX8 0 rfl rfl 6 (by decide) (by decide +kernel) (v := .ref (Q 8 0)) rfl dX8_makeUp_54 ?_
            refine lm_get B hN (ci := 4) hiX4 31 rfl rfl 1 (by decide) (by decide +kernel) (v := .int (t5_0.1 1)) rfl dX8_makeUp_57 ?_
            refine lv_goto (tgt := 70) hx hb dX8_makeUp_60 (by decide) ?_
            cases hF
            exact lm_iret B hN dX8_makeUp_70
        · have hF := lm_itp c6 hF
          refine lv_aload_n hx hb dX8_makeUp_40 rfl (lv_at hl 0 rfl) ?_
          refine lm_get B hN (ci := 8) hiX8 0 rfl rfl 6 (by decide) (by decide +kernel) (v := .ref (Q 8 0)) rfl dX8_makeUp_41 ?_
          refine lm_get B hN (ci := 4) hiX4 31 rfl rfl 0 (by decide) (by decide +kernel) (v := .int (t5_0.1 0)) rfl dX8_makeUp_44 ?_
          cases hF
          exact lm_iret B hN dX8_makeUp_47
      · have hF := lm_itn c4 hF
        refine lv_bipush (v := -103) hx hb dX8_makeUp_22 (by decide) ?_
        cases hF
        exact lm_iret B hN dX8_makeUp_24
    · have hF := lm_itn c2 hF
      refine lv_bipush (v := -102) hx hb dX8_makeUp_9 (by decide) ?_
      cases hF
      exact lm_iret B hN dX8_makeUp_11
def fX8_thing (g : Nat → lm_St) (x1 : Int32) (x2 : Int32) : Option (Int32 × (Nat → lm_St)) := (fX3_has (g 2) x1).bind (fun v1 => lm_un2 v1 (fun r1 t1_0 => if r1 = 0 then (some ((-101 : Int32), (va_up g 2 t1_0))) else (if x2 = 0 then (lm_gI x1 7 (some (((t1_0.2.1 0) x1.toNatClampNeg), (va_up g 2 t1_0)))) else (if x2 = 1 then (lm_gI x1 7 (some (((t1_0.2.1 1) x1.toNatClampNeg), (va_up g 2 t1_0)))) else (if x2 = 2 then (lm_gI x1 7 (some (((t1_0.2.1 2) x1.toNatClampNeg), (va_up g 2 t1_0)))) else (if x2 = 3 then (lm_gI x1 7 (some (((t1_0.2.1 3) x1.toNatClampNeg), (va_up g 2 t1_0)))) else (if x2 = 4 then ((fX3_missedBehind t1_0 x1 (0 : Int32)).bind (fun v8 => lm_un2 v8 (fun r8 t8_0 => some (r8, (va_up (va_up g 2 t1_0) 2 t8_0))))) else (if x2 = 5 then ((fX8_isIn (t1_0.1 1) x1).bind (fun r9 => if r9 = 0 then (some ((0 : Int32), (va_up g 2 t1_0))) else (some ((1 : Int32), (va_up g 2 t1_0))))) else (if x2 = 6 then ((fX7_looksOf (g 4) t1_0 x1).bind (fun v11 => lm_un3 v11 (fun r11 t11_0 t11_1 => some (r11, (va_up (va_up (va_up g 2 t1_0) 4 t11_0) 2 t11_1))))) else (if x2 = 7 then ((fX7_watchOf (g 4) t1_0 x1).bind (fun v12 => lm_un3 v12 (fun r12 t12_0 t12_1 => some (r12, (va_up (va_up (va_up g 2 t1_0) 4 t12_0) 2 t12_1))))) else (if x2 = 8 then ((fX0_buyerOf (g 11) t1_0 x1).bind (fun v13 => lm_un3 v13 (fun r13 t13_0 t13_1 => some (r13, (va_up (va_up (va_up g 2 t1_0) 11 t13_0) 2 t13_1))))) else (some ((-102 : Int32), (va_up g 2 t1_0))))))))))))))
set_option maxHeartbeats 4000000 in
set_option maxRecDepth 100000 in
theorem hX8_thing (l : Launch) (G : lm_G) (Q : Nat → Nat → Nat) {g : Nat → lm_St} {x1 : Int32} {x2 : Int32} {R : Int32 × (Nat → lm_St)} (hF : fX8_thing g x1 x2 = some R) : lm_C l G yX8_thing wsX8_thing 6 [.ref (Q 0 0), .int x1, .int x2] (wA8 G Q g) (some (.int R.1)) (wA8 G Q R.2) := by
  refine lm_C.of (cc := cX8_thing) (maxL := 3) (ret := (some .int)) (by decide) rfl (Nat.le_of_ble_eq_true rfl) ?_
  intro p e s m below meth c A ls B hN hl
  have hx := B.1.1
  have hb := B.1.2.1
  have hown := B.1.2.2.2.1
  have hts := B.1.2.2.2.2
  have hiX3 : ∀ w ∈ wsX30, w ∈ wsX8_thing := by decide +kernel
  have hiX8 : ∀ w ∈ wsX80, w ∈ wsX8_thing := by decide +kernel
  have hl : lv_has ls 3 [(0, .ref (Q 0 0)), (1, .int x1), (2, .int x2)] := hl
  refine lv_aload_n hx hb dX8_thing_0 rfl (lv_at hl 0 rfl) ?_
  refine lm_get B hN (ci := 8) hiX8 0 rfl rfl 1 (by decide) (by decide +kernel) (v := .ref (Q 2 0)) rfl dX8_thing_1 ?_
  refine lv_iload_n hx hb dX8_thing_4 rfl (lv_at hl 1 rfl) ?_
  obtain ⟨⟨r1, t1_0⟩, hc1, hF⟩ := lm_bd hF
  have hF := lm_un2E hF
  refine lm_run B hN (kp_wA8_2 _ _ _) (lm_hrV B hN hl.1 (lm_cutP B hN (kp_wA8_2 _ _ _)) (n := 1) (As := [.int x1]) (rest := []) (hX3_has l G (Q 2) hc1) gX8_thing_X3_has rfl (by decide +kernel) rfl (by decide) (by decide) (ci := 3) (q0 := 0) rfl rfl rfl (Nat.le_of_ble_eq_true rfl) dX8_thing_5) (wA8 G Q (va_up g 2 t1_0)) (kq_wA8_2 _ _ _ _) (fun H locs hN => ?_)
  refine lv_if_ne (tgt := 14) hx hb dX8_thing_8 (by decide) (fun c2 => ?_) (fun c2 => ?_)
  · have hF := lm_itn c2 hF
    refine lv_iload_n hx hb dX8_thing_14 rfl (lv_at hl 2 rfl) ?_
    by_cases c3_0 : x2 = 0
    · have hF := lm_itp c3_0 hF
      refine lv_tableIn (tgt := 64) hx hb dX8_thing_15 (by rw [c3_0]; decide) (by rw [c3_0]; decide) (by rw [c3_0]; rfl) (by decide) ?_
      refine lv_aload_n hx hb dX8_thing_64 rfl (lv_at hl 0 rfl) ?_
      refine lm_get B hN (ci := 8) hiX8 0 rfl rfl 1 (by decide) (by decide +kernel) (v := .ref (Q 2 0)) rfl dX8_thing_65 ?_
      refine lm_get B hN (ci := 3) hiX3 3 rfl rfl 0 (by decide) (by decide +kernel) (v := .ref (Q 2 1)) rfl dX8_thing_68 ?_
      refine lv_iload_n hx hb dX8_thing_71 rfl (lv_at hl 1 rfl) ?_
      obtain ⟨z4, hF⟩ := lm_gIe hF
      refine lm_ald B hN 4 (f := (t1_0.2.1 0)) rfl z4 dX8_thing_72 ?_
      cases hF
      exact lm_iret B hN dX8_thing_73
    have hF := lm_itn c3_0 hF
    by_cases c3_1 : x2 = 1
    · have hF := lm_itp c3_1 hF
      refine lv_tableIn (tgt := 74) hx hb dX8_thing_15 (by rw [c3_1]; decide) (by rw [c3_1]; decide) (by rw [c3_1]; rfl) (by decide) ?_
      refine lv_aload_n hx hb dX8_thing_74 rfl (lv_at hl 0 rfl) ?_
      refine lm_get B hN (ci := 8) hiX8 0 rfl rfl 1 (by decide) (by decide +kernel) (v := .ref (Q 2 0)) rfl dX8_thing_75 ?_
      refine lm_get B hN (ci := 3) hiX3 3 rfl rfl 1 (by decide) (by decide +kernel) (v := .ref (Q 2 2)) rfl dX8_thing_78 ?_
      refine lv_iload_n hx hb dX8_thing_81 rfl (lv_at hl 1 rfl) ?_
      obtain ⟨z5, hF⟩ := lm_gIe hF
      refine lm_ald B hN 5 (f := (t1_0.2.1 1)) rfl z5 dX8_thing_82 ?_
      cases hF
      exact lm_iret B hN dX8_thing_83
    have hF := lm_itn c3_1 hF
    by_cases c3_2 : x2 = 2
    · have hF := lm_itp c3_2 hF
      refine lv_tableIn (tgt := 84) hx hb dX8_thing_15 (by rw [c3_2]; decide) (by rw [c3_2]; decide) (by rw [c3_2]; rfl) (by decide) ?_
      refine lv_aload_n hx hb dX8_thing_84 rfl (lv_at hl 0 rfl) ?_
      refine lm_get B hN (ci := 8) hiX8 0 rfl rfl 1 (by decide) (by decide +kernel) (v := .ref (Q 2 0)) rfl dX8_thing_85 ?_
      refine lm_get B hN (ci := 3) hiX3 3 rfl rfl 2 (by decide) (by decide +kernel) (v := .ref (Q 2 3)) rfl dX8_thing_88 ?_
      refine lv_iload_n hx hb dX8_thing_91 rfl (lv_at hl 1 rfl) ?_
      obtain ⟨z6, hF⟩ := lm_gIe hF
      refine lm_ald B hN 6 (f := (t1_0.2.1 2)) rfl z6 dX8_thing_92 ?_
      cases hF
      exact lm_iret B hN dX8_thing_93
    have hF := lm_itn c3_2 hF
    by_cases c3_3 : x2 = 3
    · have hF := lm_itp c3_3 hF
      refine lv_tableIn (tgt := 94) hx hb dX8_thing_15 (by rw [c3_3]; decide) (by rw [c3_3]; decide) (by rw [c3_3]; rfl) (by decide) ?_
      refine lv_aload_n hx hb dX8_thing_94 rfl (lv_at hl 0 rfl) ?_
      refine lm_get B hN (ci := 8) hiX8 0 rfl rfl 1 (by decide) (by decide +kernel) (v := .ref (Q 2 0)) rfl dX8_thing_95 ?_
      refine lm_get B hN (ci := 3) hiX3 3 rfl rfl 3 (by decide) (by decide +kernel) (v := .ref (Q 2 4)) rfl dX8_thing_98 ?_
      refine lv_iload_n hx hb dX8_thing_101 rfl (lv_at hl 1 rfl) ?_
      obtain ⟨z7, hF⟩ := lm_gIe hF
      refine lm_ald B hN 7 (f := (t1_0.2.1 3)) rfl z7 dX8_thing_102 ?_
      cases hF
      exact lm_iret B hN dX8_thing_103
    have hF := lm_itn c3_3 hF
    by_cases c3_4 : x2 = 4
    · have hF := lm_itp c3_4 hF
      refine lv_tableIn (tgt := 104) hx hb dX8_thing_15 (by rw [c3_4]; decide) (by rw [c3_4]; decide) (by rw [c3_4]; rfl) (by decide) ?_
      refine lv_aload_n hx hb dX8_thing_104 rfl (lv_at hl 0 rfl) ?_
      refine lm_get B hN (ci := 8) hiX8 0 rfl rfl 1 (by decide) (by decide +kernel) (v := .ref (Q 2 0)) rfl dX8_thing_105 ?_
      refine lv_iload_n hx hb dX8_thing_108 rfl (lv_at hl 1 rfl) ?_
      refine lv_iconst (v := 0) hx hb dX8_thing_109 (by decide) ?_
      obtain ⟨⟨r8, t8_0⟩, hc8, hF⟩ := lm_bd hF
      have hF := lm_un2E hF
      refine lm_run B hN (kp_wA8_2 _ _ _) (lm_hrV B hN hl.1 (lm_cutP B hN (kp_wA8_2 _ _ _)) (n := 2) (As := [.int x1, .int (0 : Int32)]) (rest := []) (hX3_missedBehind l G (Q 2) hc8) gX8_thing_X3_missedBehind rfl (by decide +kernel) rfl (by decide) (by decide) (ci := 3) (q0 := 0) rfl rfl rfl (Nat.le_of_ble_eq_true rfl) dX8_thing_110) (wA8 G Q (va_up (va_up g 2 t1_0) 2 t8_0)) (kq_wA8_2 _ _ _ _) (fun H locs hN => ?_)
      cases hF
      exact lm_iret B hN dX8_thing_113
    have hF := lm_itn c3_4 hF
    by_cases c3_5 : x2 = 5
    · have hF := lm_itp c3_5 hF
      refine lv_tableIn (tgt := 114) hx hb dX8_thing_15 (by rw [c3_5]; decide) (by rw [c3_5]; decide) (by rw [c3_5]; rfl) (by decide) ?_
      refine lv_aload_n hx hb dX8_thing_114 rfl (lv_at hl 0 rfl) ?_
      refine lm_get B hN (ci := 8) hiX8 0 rfl rfl 1 (by decide) (by decide +kernel) (v := .ref (Q 2 0)) rfl dX8_thing_115 ?_
      refine lm_get B hN (ci := 3) hiX3 3 rfl rfl 5 (by decide) (by decide +kernel) (v := .int (t1_0.1 1)) rfl dX8_thing_118 ?_
      refine lv_iload_n hx hb dX8_thing_121 rfl (lv_at hl 1 rfl) ?_
      obtain ⟨r9, hc9, hF⟩ := lm_bd hF
      refine lm_run0 B hN (lm_hrT B hN hl.1 (lm_cut0 B hN) (n := 2) (As := [.int (t1_0.1 1), .int x1]) (rest := []) (hX8_isIn l G hc9) gX8_thing_X8_isIn rfl (by decide +kernel) rfl (by decide) (by decide) rfl (Nat.le_of_ble_eq_true rfl) dX8_thing_122) (fun H locs hN => ?_)
      refine lv_if_eq (tgt := 132) hx hb dX8_thing_125 (by decide) (fun c10 => ?_) (fun c10 => ?_)
      · have hF := lm_itp c10 hF
        refine lv_iconst (v := 0) hx hb dX8_thing_132 (by decide) ?_
        cases hF
        exact lm_iret B hN dX8_thing_133
      · have hF := lm_itn c10 hF
        refine lv_iconst (v := 1) hx hb dX8_thing_128 (by decide) ?_
        refine lv_goto (tgt := 133) hx hb dX8_thing_129 (by decide) ?_
        cases hF
        exact lm_iret B hN dX8_thing_133
    have hF := lm_itn c3_5 hF
    by_cases c3_6 : x2 = 6
    · have hF := lm_itp c3_6 hF
      refine lv_tableIn (tgt := 134) hx hb dX8_thing_15 (by rw [c3_6]; decide) (by rw [c3_6]; decide) (by rw [c3_6]; rfl) (by decide) ?_
      refine lv_aload_n hx hb dX8_thing_134 rfl (lv_at hl 0 rfl) ?_
      refine lm_get B hN (ci := 8) hiX8 0 rfl rfl 3 (by decide) (by decide +kernel) (v := .ref (Q 4 0)) rfl dX8_thing_135 ?_
      refine lv_aload_n hx hb dX8_thing_138 rfl (lv_at hl 0 rfl) ?_
      refine lm_get B hN (ci := 8) hiX8 0 rfl rfl 1 (by decide) (by decide +kernel) (v := .ref (Q 2 0)) rfl dX8_thing_139 ?_
      refine lv_iload_n hx hb dX8_thing_142 rfl (lv_at hl 1 rfl) ?_
      obtain ⟨⟨r11, t11_0, t11_1⟩, hc11, hF⟩ := lm_bd hF
      have hF := lm_un3E hF
      refine lm_run B hN (kp_wA8_4_2 _ _ _) (lm_hrV B hN hl.1 (lm_cutP B hN (kp_wA8_4_2 _ _ _)) (n := 2) (As := [.ref (Q 2 0), .int x1]) (rest := []) (hX7_looksOf l G (Q 4) (Q 2) hc11) gX8_thing_X7_looksOf rfl (by decide +kernel) rfl (by decide) (by decide) (ci := 7) (q0 := 0) rfl rfl rfl (Nat.le_of_ble_eq_true rfl) dX8_thing_143) (wA8 G Q (va_up (va_up (va_up g 2 t1_0) 4 t11_0) 2 t11_1)) (kq_wA8_4_2 _ _ _ _ _) (fun H locs hN => ?_)
      cases hF
      exact lm_iret B hN dX8_thing_146
    have hF := lm_itn c3_6 hF
    by_cases c3_7 : x2 = 7
    · have hF := lm_itp c3_7 hF
      refine lv_tableIn (tgt := 147) hx hb dX8_thing_15 (by rw [c3_7]; decide) (by rw [c3_7]; decide) (by rw [c3_7]; rfl) (by decide) ?_
      refine lv_aload_n hx hb dX8_thing_147 rfl (lv_at hl 0 rfl) ?_
      refine lm_get B hN (ci := 8) hiX8 0 rfl rfl 3 (by decide) (by decide +kernel) (v := .ref (Q 4 0)) rfl dX8_thing_148 ?_
      refine lv_aload_n hx hb dX8_thing_151 rfl (lv_at hl 0 rfl) ?_
      refine lm_get B hN (ci := 8) hiX8 0 rfl rfl 1 (by decide) (by decide +kernel) (v := .ref (Q 2 0)) rfl dX8_thing_152 ?_
      refine lv_iload_n hx hb dX8_thing_155 rfl (lv_at hl 1 rfl) ?_
      obtain ⟨⟨r12, t12_0, t12_1⟩, hc12, hF⟩ := lm_bd hF
      have hF := lm_un3E hF
      refine lm_run B hN (kp_wA8_4_2 _ _ _) (lm_hrV B hN hl.1 (lm_cutP B hN (kp_wA8_4_2 _ _ _)) (n := 2) (As := [.ref (Q 2 0), .int x1]) (rest := []) (hX7_watchOf l G (Q 4) (Q 2) hc12) gX8_thing_X7_watchOf rfl (by decide +kernel) rfl (by decide) (by decide) (ci := 7) (q0 := 0) rfl rfl rfl (Nat.le_of_ble_eq_true rfl) dX8_thing_156) (wA8 G Q (va_up (va_up (va_up g 2 t1_0) 4 t12_0) 2 t12_1)) (kq_wA8_4_2 _ _ _ _ _) (fun H locs hN => ?_)
      cases hF
      exact lm_iret B hN dX8_thing_159
    have hF := lm_itn c3_7 hF
    by_cases c3_8 : x2 = 8
    · have hF := lm_itp c3_8 hF
      refine lv_tableIn (tgt := 160) hx hb dX8_thing_15 (by rw [c3_8]; decide) (by rw [c3_8]; decide) (by rw [c3_8]; rfl) (by decide) ?_
      refine lv_aload_n hx hb dX8_thing_160 rfl (lv_at hl 0 rfl) ?_
      refine lm_get B hN (ci := 8) hiX8 0 rfl rfl 8 (by decide) (by decide +kernel) (v := .ref (Q 11 0)) rfl dX8_thing_161 ?_
      refine lv_aload_n hx hb dX8_thing_164 rfl (lv_at hl 0 rfl) ?_
      refine lm_get B hN (ci := 8) hiX8 0 rfl rfl 1 (by decide) (by decide +kernel) (v := .ref (Q 2 0)) rfl dX8_thing_165 ?_
      refine lv_iload_n hx hb dX8_thing_168 rfl (lv_at hl 1 rfl) ?_
      obtain ⟨⟨r13, t13_0, t13_1⟩, hc13, hF⟩ := lm_bd hF
      have hF := lm_un3E hF
      refine lm_run B hN (kp_wA8_11_2 _ _ _) (lm_hrV B hN hl.1 (lm_cutP B hN (kp_wA8_11_2 _ _ _)) (n := 2) (As := [.ref (Q 2 0), .int x1]) (rest := []) (hX0_buyerOf l G (Q 11) (Q 2) hc13) gX8_thing_X0_buyerOf rfl (by decide +kernel) rfl (by decide) (by decide) (ci := 0) (q0 := 0) rfl rfl rfl (Nat.le_of_ble_eq_true rfl) dX8_thing_169) (wA8 G Q (va_up (va_up (va_up g 2 t1_0) 11 t13_0) 2 t13_1)) (kq_wA8_11_2 _ _ _ _ _) (fun H locs hN => ?_)
      cases hF
      exact lm_iret B hN dX8_thing_172
    have hF := lm_itn c3_8 hF
    have ic3_0 := lm_ti (n := 0) (by decide) c3_0
    have ic3_1 := lm_ti (n := 1) (by decide) c3_1
    have ic3_2 := lm_ti (n := 2) (by decide) c3_2
    have ic3_3 := lm_ti (n := 3) (by decide) c3_3
    have ic3_4 := lm_ti (n := 4) (by decide) c3_4
    have ic3_5 := lm_ti (n := 5) (by decide) c3_5
    have ic3_6 := lm_ti (n := 6) (by decide) c3_6
    have ic3_7 := lm_ti (n := 7) (by decide) c3_7
    have ic3_8 := lm_ti (n := 8) (by decide) c3_8
    refine lv_tableOut (tgt := 173) hx hb dX8_thing_15 (by omega) (by decide) ?_
    refine lv_bipush (v := -102) hx hb dX8_thing_173 (by decide) ?_
    cases hF
    exact lm_iret B hN dX8_thing_175
  · have hF := lm_itp c2 hF
    refine lv_bipush (v := -101) hx hb dX8_thing_11 (by decide) ?_
    cases hF
    exact lm_iret B hN dX8_thing_13
def fX8_months (g : Nat → lm_St) (x1 : Int32) (x2 : Int32) (x3 : Int32) : Option (Int32 × (Nat → lm_St)) := if x1 < (1 : Int32) then (some ((-102 : Int32), g)) else (if (60 : Int32) < x1 then (some ((-102 : Int32), g)) else (if x2 < 0 then (some ((-102 : Int32), g)) else (if x3 < 0 then (some ((-102 : Int32), g)) else (if x3 ≤ (2 : Int32) then ((fX3_isNone (g 2)).bind (fun v6 => lm_un2 v6 (fun r6 t6_0 => if r6 = 0 then ((fX1_goThrough (g 12) (g 13) t6_0 x1 x2).bind (fun v8 => lm_un3 v8 (fun t8_0 t8_1 t8_2 => if x3 = 0 then (some ((t8_0.1 0), (va_up (va_up (va_up (va_up g 2 t6_0) 12 t8_0) 13 t8_1) 2 t8_2))) else (if x3 = (1 : Int32) then (some ((t8_0.1 1), (va_up (va_up (va_up (va_up g 2 t6_0) 12 t8_0) 13 t8_1) 2 t8_2))) else (some ((t8_0.1 2), (va_up (va_up (va_up (va_up g 2 t6_0) 12 t8_0) 13 t8_1) 2 t8_2))))))) else (some ((-103 : Int32), (va_up g 2 t6_0)))))) else (some ((-102 : Int32), g))))))
set_option maxHeartbeats 4000000 in
set_option maxRecDepth 100000 in
theorem hX8_months (l : Launch) (G : lm_G) (Q : Nat → Nat → Nat) {g : Nat → lm_St} {x1 : Int32} {x2 : Int32} {x3 : Int32} {R : Int32 × (Nat → lm_St)} (hF : fX8_months g x1 x2 x3 = some R) : lm_C l G yX8_months wsX8_months 7 [.ref (Q 0 0), .int x1, .int x2, .int x3] (wA8 G Q g) (some (.int R.1)) (wA8 G Q R.2) := by
  refine lm_C.of (cc := cX8_months) (maxL := 4) (ret := (some .int)) (by decide) rfl (Nat.le_of_ble_eq_true rfl) ?_
  intro p e s m below meth c A ls B hN hl
  have hx := B.1.1
  have hb := B.1.2.1
  have hown := B.1.2.2.2.1
  have hts := B.1.2.2.2.2
  have hiX1 : ∀ w ∈ wsX10, w ∈ wsX8_months := by decide +kernel
  have hiX8 : ∀ w ∈ wsX80, w ∈ wsX8_months := by decide +kernel
  have hl : lv_has ls 4 [(0, .ref (Q 0 0)), (1, .int x1), (2, .int x2), (3, .int x3)] := hl
  refine lv_iload_n hx hb dX8_months_0 rfl (lv_at hl 1 rfl) ?_
  refine lv_iconst (v := 1) hx hb dX8_months_1 (by decide) ?_
  refine lv_icmp_lt (tgt := 24) hx hb dX8_months_2 (by decide) (fun c1 => ?_) (fun c1 => ?_)
  · have hF := lm_itp c1 hF
    refine lv_bipush (v := -102) hx hb dX8_months_24 (by decide) ?_
    cases hF
    exact lm_iret B hN dX8_months_26
  · have hF := lm_itn c1 hF
    refine lv_iload_n hx hb dX8_months_5 rfl (lv_at hl 1 rfl) ?_
    refine lv_bipush (v := 60) hx hb dX8_months_6 (by decide) ?_
    refine lv_icmp_gt (tgt := 24) hx hb dX8_months_8 (by decide) (fun c2 => ?_) (fun c2 => ?_)
    · have hF := lm_itp c2 hF
      refine lv_bipush (v := -102) hx hb dX8_months_24 (by decide) ?_
      cases hF
      exact lm_iret B hN dX8_months_26
    · have hF := lm_itn c2 hF
      refine lv_iload_n hx hb dX8_months_11 rfl (lv_at hl 2 rfl) ?_
      refine lv_if_lt (tgt := 24) hx hb dX8_months_12 (by decide) (fun c3 => ?_) (fun c3 => ?_)
      · have hF := lm_itp c3 hF
        refine lv_bipush (v := -102) hx hb dX8_months_24 (by decide) ?_
        cases hF
        exact lm_iret B hN dX8_months_26
      · have hF := lm_itn c3 hF
        refine lv_iload_n hx hb dX8_months_15 rfl (lv_at hl 3 rfl) ?_
        refine lv_if_lt (tgt := 24) hx hb dX8_months_16 (by decide) (fun c4 => ?_) (fun c4 => ?_)
        · have hF := lm_itp c4 hF
          refine lv_bipush (v := -102) hx hb dX8_months_24 (by decide) ?_
          cases hF
          exact lm_iret B hN dX8_months_26
        · have hF := lm_itn c4 hF
          refine lv_iload_n hx hb dX8_months_19 rfl (lv_at hl 3 rfl) ?_
          refine lv_iconst (v := 2) hx hb dX8_months_20 (by decide) ?_
          refine lv_icmp_le (tgt := 27) hx hb dX8_months_21 (by decide) (fun c5 => ?_) (fun c5 => ?_)
          · have hF := lm_itp c5 hF
            refine lv_aload_n hx hb dX8_months_27 rfl (lv_at hl 0 rfl) ?_
            refine lm_get B hN (ci := 8) hiX8 0 rfl rfl 1 (by decide) (by decide +kernel) (v := .ref (Q 2 0)) rfl dX8_months_28 ?_
            obtain ⟨⟨r6, t6_0⟩, hc6, hF⟩ := lm_bd hF
            have hF := lm_un2E hF
            refine lm_run B hN (kp_wA8_2 _ _ _) (lm_hrV B hN hl.1 (lm_cutP B hN (kp_wA8_2 _ _ _)) (n := 0) (As := []) (rest := []) (hX3_isNone l G (Q 2) hc6) gX8_months_X3_isNone rfl (by decide +kernel) rfl (by decide) (by decide) (ci := 3) (q0 := 0) rfl rfl rfl (Nat.le_of_ble_eq_true rfl) dX8_months_31) (wA8 G Q (va_up g 2 t6_0)) (kq_wA8_2 _ _ _ _) (fun H locs hN => ?_)
            refine lv_if_eq (tgt := 40) hx hb dX8_months_34 (by decide) (fun c7 => ?_) (fun c7 => ?_)
            · have hF := lm_itp c7 hF
              refine lv_aload_n hx hb dX8_months_40 rfl (lv_at hl 0 rfl) ?_
              refine lm_get B hN (ci := 8) hiX8 0 rfl rfl 9 (by decide) (by decide +kernel) (v := .ref (Q 12 0)) rfl dX8_months_41 ?_
              refine lv_aload_n hx hb dX8_months_44 rfl (lv_at hl 0 rfl) ?_
              refine lm_get B hN (ci := 8) hiX8 0 rfl rfl 1 (by decide) (by decide +kernel) (v := .ref (Q 2 0)) rfl dX8_months_45 ?_
              refine lv_iload_n hx hb dX8_months_48 rfl (lv_at hl 1 rfl) ?_
              refine lv_iload_n hx hb dX8_months_49 rfl (lv_at hl 2 rfl) ?_
              obtain ⟨⟨t8_0, t8_1, t8_2⟩, hc8, hF⟩ := lm_bd hF
              have hF := lm_un3E hF
              refine lm_run B hN (kp_wA8_12_13_2t _ _ _) (lm_hrV B hN hl.1 (lm_cutP B hN (kp_wA8_12_13_2t _ _ _)) (n := 3) (As := [.ref (Q 2 0), .int x1, .int x2]) (rest := []) (hX1_goThrough l G (Q 12) (Q 13) (Q 2) hc8) gX8_months_X1_goThrough rfl (by decide +kernel) rfl (by decide) (by decide) (ci := 1) (q0 := 0) rfl rfl rfl (Nat.le_of_ble_eq_true rfl) dX8_months_50) (wA8 G Q (va_up (va_up (va_up (va_up g 2 t6_0) 12 t8_0) 13 t8_1) 2 t8_2)) (kq_wA8_12_13_2t _ _ _ _ _ _) (fun H locs hN => ?_)
              refine lv_iload_n hx hb dX8_months_53 rfl (lv_at hl 3 rfl) ?_
              refine lv_if_ne (tgt := 65) hx hb dX8_months_54 (by decide) (fun c9 => ?_) (fun c9 => ?_)
              · have hF := lm_itn c9 hF
                refine lv_iload_n hx hb dX8_months_65 rfl (lv_at hl 3 rfl) ?_
                refine lv_iconst (v := 1) hx hb dX8_months_66 (by decide) ?_
                refine lv_icmp_ne (tgt := 80) hx hb dX8_months_67 (by decide) (fun c10 => ?_) (fun c10 => ?_)
                · have hF := lm_itn c10 hF
                  refine lv_aload_n hx hb dX8_months_80 rfl (lv_at hl 0 rfl) ?_
                  refine lm_get B hN (ci := 8) hiX8 0 rfl rfl 9 (by decide) (by decide +kernel) (v := .ref (Q 12 0)) rfl dX8_months_81 ?_
                  refine lm_get B hN (ci := 1) hiX1 41 rfl rfl 3 (by decide) (by decide +kernel) (v := .int (t8_0.1 2)) rfl dX8_months_84 ?_
                  cases hF
                  exact lm_iret B hN dX8_months_87
                · have hF := lm_itp c10 hF
                  refine lv_aload_n hx hb dX8_months_70 rfl (lv_at hl 0 rfl) ?_
                  refine lm_get B hN (ci := 8) hiX8 0 rfl rfl 9 (by decide) (by decide +kernel) (v := .ref (Q 12 0)) rfl dX8_months_71 ?_
                  refine lm_get B hN (ci := 1) hiX1 41 rfl rfl 2 (by decide) (by decide +kernel) (v := .int (t8_0.1 1)) rfl dX8_months_74 ?_
                  refine lv_goto (tgt := 87) hx hb dX8_months_77 (by decide) ?_
                  cases hF
                  exact lm_iret B hN dX8_months_87
              · have hF := lm_itp c9 hF
                refine lv_aload_n hx hb dX8_months_57 rfl (lv_at hl 0 rfl) ?_
                refine lm_get B hN (ci := 8) hiX8 0 rfl rfl 9 (by decide) (by decide +kernel) (v := .ref (Q 12 0)) rfl dX8_months_58 ?_
                refine lm_get B hN (ci := 1) hiX1 41 rfl rfl 1 (by decide) (by decide +kernel) (v := .int (t8_0.1 0)) rfl dX8_months_61 ?_
                cases hF
                exact lm_iret B hN dX8_months_64
            · have hF := lm_itn c7 hF
              refine lv_bipush (v := -103) hx hb dX8_months_37 (by decide) ?_
              cases hF
              exact lm_iret B hN dX8_months_39
          · have hF := lm_itn c5 hF
            refine lv_bipush (v := -102) hx hb dX8_months_24 (by decide) ?_
            cases hF
            exact lm_iret B hN dX8_months_26
def fX8_fault (g : Nat → lm_St) : Option (Int32 × (Nat → lm_St)) := (fX5_firstFault (g 1)).bind (fun v1 => lm_un2 v1 (fun r1 t1_0 => some (r1, (va_up g 1 t1_0))))
set_option maxHeartbeats 4000000 in
set_option maxRecDepth 100000 in
theorem hX8_fault (l : Launch) (G : lm_G) (Q : Nat → Nat → Nat) {g : Nat → lm_St} {R : Int32 × (Nat → lm_St)} (hF : fX8_fault g = some R) : lm_C l G yX8_fault wsX8_fault 10 [.ref (Q 0 0)] (wA8 G Q g) (some (.int R.1)) (wA8 G Q R.2) := by
  refine lm_C.of (cc := cX8_fault) (maxL := 1) (ret := (some .int)) (by decide) rfl (Nat.le_of_ble_eq_true rfl) ?_
  intro p e s m below meth c A ls B hN hl
  have hx := B.1.1
  have hb := B.1.2.1
  have hown := B.1.2.2.2.1
  have hts := B.1.2.2.2.2
  have hiX8 : ∀ w ∈ wsX80, w ∈ wsX8_fault := by decide +kernel
  have hl : lv_has ls 1 [(0, .ref (Q 0 0))] := hl
  refine lv_aload_n hx hb dX8_fault_0 rfl (lv_at hl 0 rfl) ?_
  refine lm_get B hN (ci := 8) hiX8 0 rfl rfl 0 (by decide) (by decide +kernel) (v := .ref (Q 1 0)) rfl dX8_fault_1 ?_
  obtain ⟨⟨r1, t1_0⟩, hc1, hF⟩ := lm_bd hF
  have hF := lm_un2E hF
  refine lm_run B hN (kp_wA8_1 _ _ _) (lm_hrV B hN hl.1 (lm_cutP B hN (kp_wA8_1 _ _ _)) (n := 0) (As := []) (rest := []) (hX5_firstFault l G (Q 1) hc1) gX8_fault_X5_firstFault rfl (by decide +kernel) rfl (by decide) (by decide) (ci := 5) (q0 := 0) rfl rfl rfl (Nat.le_of_ble_eq_true rfl) dX8_fault_4) (wA8 G Q (va_up g 1 t1_0)) (kq_wA8_1 _ _ _ _) (fun H locs hN => ?_)
  cases hF
  exact lm_iret B hN dX8_fault_7
def fX8_house (g : Nat → lm_St) : Option (Int32 × (Nat → lm_St)) := (fX5_isHouse (g 1)).bind (fun v1 => lm_un2 v1 (fun r1 t1_0 => if r1 = 0 then (some ((-103 : Int32), (va_up g 1 t1_0))) else ((fX5_readInto t1_0 (g 2)).bind (fun v3 => lm_un2 v3 (fun t3_0 t3_1 => some ((t3_1.1 0), (lm_gF (lm_gF (lm_gF (lm_gF (va_up (va_up (va_up g 1 t1_0) 1 t3_0) 2 t3_1) 1 0 (0 : Int32)) 4 0 (0 : Int32)) 0 0 (0 : Int32)) 0 1 (((g 0).1 1) + (1 : Int32)))))))))
set_option maxHeartbeats 4000000 in
set_option maxRecDepth 100000 in
theorem hX8_house (l : Launch) (G : lm_G) (Q : Nat → Nat → Nat) {g : Nat → lm_St} {R : Int32 × (Nat → lm_St)} (hF : fX8_house g = some R) : lm_C l G yX8_house wsX8_house 11 [.ref (Q 0 0)] (wA8 G Q g) (some (.int R.1)) (wA8 G Q R.2) := by
  refine lm_C.of (cc := cX8_house) (maxL := 1) (ret := (some .int)) (by decide) rfl (Nat.le_of_ble_eq_true rfl) ?_
  intro p e s m below meth c A ls B hN hl
  have hx := B.1.1
  have hb := B.1.2.1
  have hown := B.1.2.2.2.1
  have hts := B.1.2.2.2.2
  have hiX3 : ∀ w ∈ wsX30, w ∈ wsX8_house := by decide +kernel
  have hiX5 : ∀ w ∈ wsX50, w ∈ wsX8_house := by decide +kernel
  have hiX7 : ∀ w ∈ wsX70, w ∈ wsX8_house := by decide +kernel
  have hiX8 : ∀ w ∈ wsX80, w ∈ wsX8_house := by decide +kernel
  have hl : lv_has ls 1 [(0, .ref (Q 0 0))] := hl
  refine lv_aload_n hx hb dX8_house_0 rfl (lv_at hl 0 rfl) ?_
  refine lm_get B hN (ci := 8) hiX8 0 rfl rfl 0 (by decide) (by decide +kernel) (v := .ref (Q 1 0)) rfl dX8_house_1 ?_
  obtain ⟨⟨r1, t1_0⟩, hc1, hF⟩ := lm_bd hF
  have hF := lm_un2E hF
  refine lm_run B hN (kp_wA8_1 _ _ _) (lm_hrV B hN hl.1 (lm_cutP B hN (kp_wA8_1 _ _ _)) (n := 0) (As := []) (rest := []) (hX5_isHouse l G (Q 1) hc1) gX8_house_X5_isHouse rfl (by decide +kernel) rfl (by decide) (by decide) (ci := 5) (q0 := 0) rfl rfl rfl (Nat.le_of_ble_eq_true rfl) dX8_house_4) (wA8 G Q (va_up g 1 t1_0)) (kq_wA8_1 _ _ _ _) (fun H locs hN => ?_)
  refine lv_if_ne (tgt := 13) hx hb dX8_house_7 (by decide) (fun c2 => ?_) (fun c2 => ?_)
  · have hF := lm_itn c2 hF
    refine lv_aload_n hx hb dX8_house_13 rfl (lv_at hl 0 rfl) ?_
    refine lm_get B hN (ci := 8) hiX8 0 rfl rfl 0 (by decide) (by decide +kernel) (v := .ref (Q 1 0)) rfl dX8_house_14 ?_
    refine lv_aload_n hx hb dX8_house_17 rfl (lv_at hl 0 rfl) ?_
    refine lm_get B hN (ci := 8) hiX8 0 rfl rfl 1 (by decide) (by decide +kernel) (v := .ref (Q 2 0)) rfl dX8_house_18 ?_
    obtain ⟨⟨t3_0, t3_1⟩, hc3, hF⟩ := lm_bd hF
    have hF := lm_un2E hF
    refine lm_run B hN (kp_wA8_1_2 _ _ _) (lm_hrV B hN hl.1 (lm_cutP B hN (kp_wA8_1_2 _ _ _)) (n := 1) (As := [.ref (Q 2 0)]) (rest := []) (hX5_readInto l G (Q 1) (Q 2) hc3) gX8_house_X5_readInto rfl (by decide +kernel) rfl (by decide) (by decide) (ci := 5) (q0 := 0) rfl rfl rfl (Nat.le_of_ble_eq_true rfl) dX8_house_21) (wA8 G Q (va_up (va_up (va_up g 1 t1_0) 1 t3_0) 2 t3_1)) (kq_wA8_1_2 _ _ _ _ _) (fun H locs hN => ?_)
    refine lv_aload_n hx hb dX8_house_24 rfl (lv_at hl 0 rfl) ?_
    refine lm_get B hN (ci := 8) hiX8 0 rfl rfl 0 (by decide) (by decide +kernel) (v := .ref (Q 1 0)) rfl dX8_house_25 ?_
    refine lv_iconst (v := 0) hx hb dX8_house_28 (by decide) ?_
    refine lm_put B hN (ci := 5) hiX5 tyX5 tyX5_ok nmX5 1 rfl rfl 1 (by decide) (by decide +kernel) (by decide) (v := .int (0 : Int32)) rfl rfl (Nat.le_of_ble_eq_true rfl) (wA8 G Q (lm_gF (va_up (va_up (va_up g 1 t1_0) 1 t3_0) 2 t3_1) 1 0 (0 : Int32))) (wA8_r1f0 _ _ _ _) dX8_house_29 (fun H locs hN => ?_)
    refine lv_aload_n hx hb dX8_house_32 rfl (lv_at hl 0 rfl) ?_
    refine lm_get B hN (ci := 8) hiX8 0 rfl rfl 3 (by decide) (by decide +kernel) (v := .ref (Q 4 0)) rfl dX8_house_33 ?_
    refine lv_iconst (v := 0) hx hb dX8_house_36 (by decide) ?_
    refine lm_put B hN (ci := 7) hiX7 tyX7 tyX7_ok nmX7 13 rfl rfl 4 (by decide) (by decide +kernel) (by decide) (v := .int (0 : Int32)) rfl rfl (Nat.le_of_ble_eq_true rfl) (wA8 G Q (lm_gF (lm_gF (va_up (va_up (va_up g 1 t1_0) 1 t3_0) 2 t3_1) 1 0 (0 : Int32)) 4 0 (0 : Int32))) (wA8_r4f0 _ _ _ _) dX8_house_37 (fun H locs hN => ?_)
    refine lv_aload_n hx hb dX8_house_40 rfl (lv_at hl 0 rfl) ?_
    refine lv_iconst (v := 0) hx hb dX8_house_41 (by decide) ?_
    refine lm_put B hN (ci := 8) hiX8 tyX8 tyX8_ok nmX8 0 rfl rfl 10 (by decide) (by decide +kernel) (by decide) (v := .int (0 : Int32)) rfl rfl (Nat.le_of_ble_eq_true rfl) (wA8 G Q (lm_gF (lm_gF (lm_gF (va_up (va_up (va_up g 1 t1_0) 1 t3_0) 2 t3_1) 1 0 (0 : Int32)) 4 0 (0 : Int32)) 0 0 (0 : Int32))) (wA8_r0f0 _ _ _ _) dX8_house_42 (fun H locs hN => ?_)
    refine lv_aload_n hx hb dX8_house_45 rfl (lv_at hl 0 rfl) ?_
    refine lv_dup hx hb dX8_house_46 rfl ?_
    refine lm_get B hN (ci := 8) hiX8 0 rfl rfl 11 (by decide) (by decide +kernel) (v := .int ((g 0).1 1)) rfl dX8_house_47 ?_
    refine lv_iconst (v := 1) hx hb dX8_house_50 (by decide) ?_
    refine lv_iadd hx hb dX8_house_51 ?_
    refine lm_put B hN (ci := 8) hiX8 tyX8 tyX8_ok nmX8 0 rfl rfl 11 (by decide) (by decide +kernel) (by decide) (v := .int (((g 0).1 1) + (1 : Int32))) rfl rfl (Nat.le_of_ble_eq_true rfl) (wA8 G Q (lm_gF (lm_gF (lm_gF (lm_gF (va_up (va_up (va_up g 1 t1_0) 1 t3_0) 2 t3_1) 1 0 (0 : Int32)) 4 0 (0 : Int32)) 0 0 (0 : Int32)) 0 1 (((g 0).1 1) + (1 : Int32)))) (wA8_r0f1 _ _ _ _) dX8_house_52 (fun H locs hN => ?_)
    refine lv_aload_n hx hb dX8_house_55 rfl (lv_at hl 0 rfl) ?_
    refine lm_get B hN (ci := 8) hiX8 0 rfl rfl 1 (by decide) (by decide +kernel) (v := .ref (Q 2 0)) rfl dX8_house_56 ?_
    refine lm_get B hN (ci := 3) hiX3 3 rfl rfl 4 (by decide) (by decide +kernel) (v := .int (t3_1.1 0)) rfl dX8_house_59 ?_
    cases hF
    exact lm_iret B hN dX8_house_62
  · have hF := lm_itp c2 hF
    refine lv_bipush (v := -103) hx hb dX8_house_10 (by decide) ?_
    cases hF
    exact lm_iret B hN dX8_house_12
def bX8_digest_264 (k264 : Int64 × Int32 × (Nat → lm_St) → Option (Int64 × (Nat → lm_St))) (x1_264 : Int64) (x3_264 : Int32) (g_264 : Nat → lm_St) : Option (Int64 × (Nat → lm_St)) := if (11 : Int32) < x3_264 then (some (x1_264, g_264)) else ((fX8_count g_264 x3_264).bind (fun v2 => lm_un2 v2 (fun r2 g2 => k264 ((((31 : Int64) * x1_264) + r2.toInt64), (x3_264 + 1), g2))))
def bX8_digest_228 (k228 : Int64 × Int32 × (Nat → lm_St) → Option (Int64 × (Nat → lm_St))) (x1_228 : Int64) (x3_228 : Int32) (g_228 : Nat → lm_St) : Option (Int64 × (Nat → lm_St)) := if ((g_228 1).1 0) ≤ x3_228 then (lm_lp (fun k a => bX8_digest_264 k a.1 a.2.1 a.2.2) 5000 (x1_228, (0 : Int32), g_228)) else (lm_gI x3_228 32 (k228 ((((31 : Int64) * x1_228) + (((g_228 1).2.1 0) x3_228.toNatClampNeg).toInt64), (x3_228 + 1), g_228)))
def jX8_digest_226 (x1_226 : Int64) (g_226 : Nat → lm_St) : Option (Int64 × (Nat → lm_St)) := lm_lp (fun k a => bX8_digest_228 k a.1 a.2.1 a.2.2) 5000 (x1_226, (0 : Int32), g_226)
def bX8_digest_20 (k6 : Int64 × Int32 × (Nat → lm_St) → Option (Int64 × (Nat → lm_St))) (k20 : Int64 × Int32 × Int32 × (Nat → lm_St) → Option (Int64 × (Nat → lm_St))) (x1_20 : Int64) (x3_20 : Int32) (x4_20 : Int32) (g_20 : Nat → lm_St) : Option (Int64 × (Nat → lm_St)) := if (7 : Int32) < x4_20 then (k6 (x1_20, (x3_20 + 1), g_20)) else ((fX8_thing g_20 x3_20 x4_20).bind (fun v6 => lm_un2 v6 (fun r6 g6 => k20 ((((31 : Int64) * x1_20) + r6.toInt64), x3_20, (x4_20 + 1), g6))))
def bX8_digest_6 (k6 : Int64 × Int32 × (Nat → lm_St) → Option (Int64 × (Nat → lm_St))) (x1_6 : Int64) (x3_6 : Int32) (g_6 : Nat → lm_St) : Option (Int64 × (Nat → lm_St)) := if ((g_6 2).1 0) ≤ x3_6 then ((fX3_isNone (g_6 2)).bind (fun v8 => lm_un2 v8 (fun r8 t8_0 => if r8 = 0 then ((fX6_search (g_6 6) (g_6 7) t8_0 (2 : Int32)).bind (fun v10 => lm_un3 v10 (fun t10_0 t10_1 t10_2 => (fX4_search (g_6 8) t10_2).bind (fun v11 => lm_un2 v11 (fun t11_0 t11_1 => (fX3_wouldTake t11_1 (0 : Int32)).bind (fun v12 => lm_un2 v12 (fun r12 t12_0 => (fX3_wouldTake t12_0 (5 : Int32)).bind (fun v13 => lm_un2 v13 (fun r13 t13_0 => (fX6_touchedOn t10_0 (0 : Int32)).bind (fun v14 => lm_un2 v14 (fun r14 t14_0 => (fX6_touchedOn t14_0 (1 : Int32)).bind (fun v15 => lm_un2 v15 (fun r15 t15_0 => jX8_digest_226 (((31 : Int64) * (((31 : Int64) * (((31 : Int64) * (((31 : Int64) * (((31 : Int64) * (((31 : Int64) * (((31 : Int64) * (((31 : Int64) * (((31 : Int64) * x1_6) + r12.toInt64)) + r13.toInt64)) + (t10_0.1 1).toInt64)) + (t10_0.1 2).toInt64)) + r14.toInt64)) + r15.toInt64)) + (t11_0.1 0).toInt64)) + (t11_0.1 1).toInt64)) + (t11_0.1 2).toInt64) (va_up (va_up (va_up (va_up (va_up (va_up (va_up (va_up (va_up (va_up g_6 2 t8_0) 6 t10_0) 7 t10_1) 2 t10_2) 8 t11_0) 2 t11_1) 2 t12_0) 2 t13_0) 6 t14_0) 6 t15_0)))))))))))))) else (jX8_digest_226 x1_6 (va_up g_6 2 t8_0))))) else (lm_lp (fun k a => bX8_digest_20 k6 k a.1 a.2.1 a.2.2.1 a.2.2.2) 5000 (x1_6, x3_6, (0 : Int32), g_6))
def fX8_digest (g : Nat → lm_St) : Option (Int64 × (Nat → lm_St)) := lm_lp (fun k a => bX8_digest_6 k a.1 a.2.1 a.2.2) 5000 ((1259 : Int64), (0 : Int32), g)
set_option maxHeartbeats 4000000 in
set_option maxRecDepth 100000 in
theorem hX8_digest (l : Launch) (G : lm_G) (Q : Nat → Nat → Nat) {g : Nat → lm_St} {R : Int64 × (Nat → lm_St)} (hF : fX8_digest g = some R) : lm_C l G yX8_digest wsX8_digest 62 [.ref (Q 0 0)] (wA8 G Q g) (some (.long R.1)) (wA8 G Q R.2) := by
  refine lm_C.of (cc := cX8_digest) (maxL := 5) (ret := (some .long)) (by decide) rfl (Nat.le_of_ble_eq_true rfl) ?_
  intro p e s m below meth c A ls B hN hl
  have hx := B.1.1
  have hb := B.1.2.1
  have hown := B.1.2.2.2.1
  have hts := B.1.2.2.2.2
  have hiX3 : ∀ w ∈ wsX30, w ∈ wsX8_digest := by decide +kernel
  have hiX4 : ∀ w ∈ wsX40, w ∈ wsX8_digest := by decide +kernel
  have hiX5 : ∀ w ∈ wsX50, w ∈ wsX8_digest := by decide +kernel
  have hiX6 : ∀ w ∈ wsX60, w ∈ wsX8_digest := by decide +kernel
  have hiX8 : ∀ w ∈ wsX80, w ∈ wsX8_digest := by decide +kernel
  have hl : lv_has ls 5 [(0, .ref (Q 0 0))] := hl
  have L6 : ∀ (n : Nat) (x1_6 : Int64) (x3_6 : Int32) (g_6 : Nat → lm_St) (H : Heap) (locs : List Loc) (ls : Array Slot), lm_lp (fun k a => bX8_digest_6 k a.1 a.2.1 a.2.2) n (x1_6, x3_6, g_6) = some R → lm_N G A s (wA8 G Q g_6) H locs → lv_has ls 5 [(0, .ref (Q 0 0)), (1, .long x1_6), (3, .int x3_6)] → W p l e (lm_rk 62) s m ([.ref (Q 0 0)] : List Value).toArray below meth c H locs 0 0 (MQ below (lm_post G (wA8 G Q R.2) (some (.long R.1)) A) ([.ref (Q 0 0)] : List Value).toArray s 0 0 A) (F0 m 6 ls []) := by
    intro n
    induction n with
    | zero => intro x1_6 x3_6 g_6 H locs ls hF; exact (lm_lpz hF).elim
    | succ n ih6 =>
      intro x1_6 x3_6 g_6 H locs ls hF hN hl
      have hF : bX8_digest_6 (lm_lp (fun k a => bX8_digest_6 k a.1 a.2.1 a.2.2) n) x1_6 x3_6 g_6 = some R := lm_lps hF
      generalize lm_lp (fun k a => bX8_digest_6 k a.1 a.2.1 a.2.2) n = k6 at hF ih6
      have J226 : ∀ (x1_226 : Int64) (g_226 : Nat → lm_St) (H : Heap) (locs : List Loc) (ls : Array Slot), jX8_digest_226 x1_226 g_226 = some R → lm_N G A s (wA8 G Q g_226) H locs → lv_has ls 5 [(0, .ref (Q 0 0)), (1, .long x1_226)] → W p l e (lm_rk 62) s m ([.ref (Q 0 0)] : List Value).toArray below meth c H locs 0 0 (MQ below (lm_post G (wA8 G Q R.2) (some (.long R.1)) A) ([.ref (Q 0 0)] : List Value).toArray s 0 0 A) (F0 m 226 ls []) := by
        intro x1_226 g_226 H locs ls hF hN hl
        have L228 : ∀ (n : Nat) (x1_228 : Int64) (x3_228 : Int32) (g_228 : Nat → lm_St) (H : Heap) (locs : List Loc) (ls : Array Slot), lm_lp (fun k a => bX8_digest_228 k a.1 a.2.1 a.2.2) n (x1_228, x3_228, g_228) = some R → lm_N G A s (wA8 G Q g_228) H locs → lv_has ls 5 [(0, .ref (Q 0 0)), (1, .long x1_228), (3, .int x3_228)] → W p l e (lm_rk 62) s m ([.ref (Q 0 0)] : List Value).toArray below meth c H locs 0 0 (MQ below (lm_post G (wA8 G Q R.2) (some (.long R.1)) A) ([.ref (Q 0 0)] : List Value).toArray s 0 0 A) (F0 m 228 ls []) := by
          intro n
          induction n with
          | zero => intro x1_228 x3_228 g_228 H locs ls hF; exact (lm_lpz hF).elim
          | succ n ih228 =>
            intro x1_228 x3_228 g_228 H locs ls hF hN hl
            have hF : bX8_digest_228 (lm_lp (fun k a => bX8_digest_228 k a.1 a.2.1 a.2.2) n) x1_228 x3_228 g_228 = some R := lm_lps hF
            generalize lm_lp (fun k a => bX8_digest_228 k a.1 a.2.1 a.2.2) n = k228 at hF ih228
            have L264 : ∀ (n : Nat) (x1_264 : Int64) (x3_264 : Int32) (g_264 : Nat → lm_St) (H : Heap) (locs : List Loc) (ls : Array Slot), lm_lp (fun k a => bX8_digest_264 k a.1 a.2.1 a.2.2) n (x1_264, x3_264, g_264) = some R → lm_N G A s (wA8 G Q g_264) H locs → lv_has ls 5 [(0, .ref (Q 0 0)), (1, .long x1_264), (3, .int x3_264)] → W p l e (lm_rk 62) s m ([.ref (Q 0 0)] : List Value).toArray below meth c H locs 0 0 (MQ below (lm_post G (wA8 G Q R.2) (some (.long R.1)) A) ([.ref (Q 0 0)] : List Value).toArray s 0 0 A) (F0 m 264 ls []) := by
              intro n
              induction n with
              | zero => intro x1_264 x3_264 g_264 H locs ls hF; exact (lm_lpz hF).elim
              | succ n ih264 =>
                intro x1_264 x3_264 g_264 H locs ls hF hN hl
                have hF : bX8_digest_264 (lm_lp (fun k a => bX8_digest_264 k a.1 a.2.1 a.2.2) n) x1_264 x3_264 g_264 = some R := lm_lps hF
                generalize lm_lp (fun k a => bX8_digest_264 k a.1 a.2.1 a.2.2) n = k264 at hF ih264
                refine lv_iload_n hx hb dX8_digest_264 rfl (lv_at hl 2 rfl) ?_
                refine lv_bipush (v := 11) hx hb dX8_digest_265 (by decide) ?_
                refine lv_icmp_gt (tgt := 289) hx hb dX8_digest_267 (by decide) (fun c1 => ?_) (fun c1 => ?_)
                · have hF := lm_itp c1 hF
                  refine lv_lload_n hx hb dX8_digest_289 rfl (lv_at hl 1 rfl) ?_
                  cases hF
                  exact lm_lret B hN dX8_digest_290
                · have hF := lm_itn c1 hF
                  refine lv_ldc2 (v := 31) hx hb hown (hts (.constantLong RX8 241 (31)) (by decide +kernel)) dX8_digest_270 ?_
                  refine lv_lload_n hx hb dX8_digest_273 rfl (lv_at hl 1 rfl) ?_
                  refine lv_lmul hx hb dX8_digest_274 ?_
                  refine lv_aload_n hx hb dX8_digest_275 rfl (lv_at hl 0 rfl) ?_
                  refine lv_iload_n hx hb dX8_digest_276 rfl (lv_at hl 2 rfl) ?_
                  obtain ⟨⟨r2, g2⟩, hc2, hF⟩ := lm_bd hF
                  have hF := lm_un2E hF
                  refine lm_runA B hN (lm_hrV B hN hl.1 (lm_cutA B hN) (n := 1) (As := [.int x3_264]) (rest := [.long ((31 : Int64) * x1_264)]) (hX8_count l G Q hc2) gX8_digest_X8_count rfl (by decide +kernel) rfl (by decide) (by decide) (ci := 8) (q0 := 0) rfl rfl rfl (Nat.le_of_ble_eq_true rfl) dX8_digest_277) (fun H locs hN => ?_)
                  refine lv_i2l hx hb dX8_digest_280 rfl ?_
                  refine lv_ladd hx hb dX8_digest_281 ?_
                  refine lv_lstore_n (lv' := [(1, .long (((31 : Int64) * x1_264) + r2.toInt64)), (0, .ref (Q 0 0)), (3, .int x3_264)]) hx hb dX8_digest_282 rfl hl (by decide) rfl (fun ls hl => ?_)
                  refine lv_iinc (v := (x3_264 + 1)) (lv' := [(3, .int (x3_264 + 1)), (1, .long (((31 : Int64) * x1_264) + r2.toInt64)), (0, .ref (Q 0 0))]) hx hb dX8_digest_283 hl (k := 2) rfl rfl (by decide) rfl (fun ls hl => ?_)
                  refine lv_goto (tgt := 264) hx hb dX8_digest_286 (by decide) ?_
                  exact ih264 _ _ _ _ _ _ hF hN (lv_sub hl [2, 1, 0] rfl)
            refine lv_iload_n hx hb dX8_digest_228 rfl (lv_at hl 2 rfl) ?_
            refine lv_aload_n hx hb dX8_digest_229 rfl (lv_at hl 0 rfl) ?_
            refine lm_get B hN (ci := 8) hiX8 0 rfl rfl 0 (by decide) (by decide +kernel) (v := .ref (Q 1 0)) rfl dX8_digest_230 ?_
            refine lm_get B hN (ci := 5) hiX5 1 rfl rfl 1 (by decide) (by decide +kernel) (v := .int ((g_228 1).1 0)) rfl dX8_digest_233 ?_
            refine lv_icmp_ge (tgt := 262) hx hb dX8_digest_236 (by decide) (fun c3 => ?_) (fun c3 => ?_)
            · have hF := lm_itp c3 hF
              refine lv_iconst (v := 0) hx hb dX8_digest_262 (by decide) ?_
              refine lv_istore_n (lv' := [(3, .int (0 : Int32)), (0, .ref (Q 0 0)), (1, .long x1_228)]) hx hb dX8_digest_263 rfl hl (by decide) rfl (fun ls hl => ?_)
              exact L264 5000 _ _ _ _ _ _ hF hN (lv_sub hl [1, 2, 0] rfl)
            · have hF := lm_itn c3 hF
              refine lv_ldc2 (v := 31) hx hb hown (hts (.constantLong RX8 241 (31)) (by decide +kernel)) dX8_digest_239 ?_
              refine lv_lload_n hx hb dX8_digest_242 rfl (lv_at hl 1 rfl) ?_
              refine lv_lmul hx hb dX8_digest_243 ?_
              refine lv_aload_n hx hb dX8_digest_244 rfl (lv_at hl 0 rfl) ?_
              refine lm_get B hN (ci := 8) hiX8 0 rfl rfl 0 (by decide) (by decide +kernel) (v := .ref (Q 1 0)) rfl dX8_digest_245 ?_
              refine lm_get B hN (ci := 5) hiX5 1 rfl rfl 0 (by decide) (by decide +kernel) (v := .ref (Q 1 1)) rfl dX8_digest_248 ?_
              refine lv_iload_n hx hb dX8_digest_251 rfl (lv_at hl 2 rfl) ?_
              obtain ⟨z4, hF⟩ := lm_gIe hF
              refine lm_ald B hN 2 (f := ((g_228 1).2.1 0)) rfl z4 dX8_digest_252 ?_
              refine lv_i2l hx hb dX8_digest_253 rfl ?_
              refine lv_ladd hx hb dX8_digest_254 ?_
              refine lv_lstore_n (lv' := [(1, .long (((31 : Int64) * x1_228) + (((g_228 1).2.1 0) x3_228.toNatClampNeg).toInt64)), (0, .ref (Q 0 0)), (3, .int x3_228)]) hx hb dX8_digest_255 rfl hl (by decide) rfl (fun ls hl => ?_)
              refine lv_iinc (v := (x3_228 + 1)) (lv' := [(3, .int (x3_228 + 1)), (1, .long (((31 : Int64) * x1_228) + (((g_228 1).2.1 0) x3_228.toNatClampNeg).toInt64)), (0, .ref (Q 0 0))]) hx hb dX8_digest_256 hl (k := 2) rfl rfl (by decide) rfl (fun ls hl => ?_)
              refine lv_goto (tgt := 228) hx hb dX8_digest_259 (by decide) ?_
              exact ih228 _ _ _ _ _ _ hF hN (lv_sub hl [2, 1, 0] rfl)
        refine lv_iconst (v := 0) hx hb dX8_digest_226 (by decide) ?_
        refine lv_istore_n (lv' := [(3, .int (0 : Int32)), (0, .ref (Q 0 0)), (1, .long x1_226)]) hx hb dX8_digest_227 rfl hl (by decide) rfl (fun ls hl => ?_)
        exact L228 5000 _ _ _ _ _ _ hF hN (lv_sub hl [1, 2, 0] rfl)
      have L20 : ∀ (n : Nat) (x1_20 : Int64) (x3_20 : Int32) (x4_20 : Int32) (g_20 : Nat → lm_St) (H : Heap) (locs : List Loc) (ls : Array Slot), lm_lp (fun k a => bX8_digest_20 k6 k a.1 a.2.1 a.2.2.1 a.2.2.2) n (x1_20, x3_20, x4_20, g_20) = some R → lm_N G A s (wA8 G Q g_20) H locs → lv_has ls 5 [(0, .ref (Q 0 0)), (1, .long x1_20), (3, .int x3_20), (4, .int x4_20)] → W p l e (lm_rk 62) s m ([.ref (Q 0 0)] : List Value).toArray below meth c H locs 0 0 (MQ below (lm_post G (wA8 G Q R.2) (some (.long R.1)) A) ([.ref (Q 0 0)] : List Value).toArray s 0 0 A) (F0 m 20 ls []) := by
        intro n
        induction n with
        | zero => intro x1_20 x3_20 x4_20 g_20 H locs ls hF; exact (lm_lpz hF).elim
        | succ n ih20 =>
          intro x1_20 x3_20 x4_20 g_20 H locs ls hF hN hl
          have hF : bX8_digest_20 k6 (lm_lp (fun k a => bX8_digest_20 k6 k a.1 a.2.1 a.2.2.1 a.2.2.2) n) x1_20 x3_20 x4_20 g_20 = some R := lm_lps hF
          generalize lm_lp (fun k a => bX8_digest_20 k6 k a.1 a.2.1 a.2.2.1 a.2.2.2) n = k20 at hF ih20
          refine lv_iload hx hb dX8_digest_20 (lv_at hl 3 rfl) ?_
          refine lv_bipush (v := 7) hx hb dX8_digest_22 (by decide) ?_
          refine lv_icmp_gt (tgt := 48) hx hb dX8_digest_24 (by decide) (fun c5 => ?_) (fun c5 => ?_)
          · have hF := lm_itp c5 hF
            refine lv_iinc (v := (x3_20 + 1)) (lv' := [(3, .int (x3_20 + 1)), (0, .ref (Q 0 0)), (1, .long x1_20), (4, .int x4_20)]) hx hb dX8_digest_48 hl (k := 2) rfl rfl (by decide) rfl (fun ls hl => ?_)
            refine lv_goto (tgt := 6) hx hb dX8_digest_51 (by decide) ?_
            exact ih6 _ _ _ _ _ _ hF hN (lv_sub hl [1, 2, 0] rfl)
          · have hF := lm_itn c5 hF
            refine lv_ldc2 (v := 31) hx hb hown (hts (.constantLong RX8 241 (31)) (by decide +kernel)) dX8_digest_27 ?_
            refine lv_lload_n hx hb dX8_digest_30 rfl (lv_at hl 1 rfl) ?_
            refine lv_lmul hx hb dX8_digest_31 ?_
            refine lv_aload_n hx hb dX8_digest_32 rfl (lv_at hl 0 rfl) ?_
            refine lv_iload_n hx hb dX8_digest_33 rfl (lv_at hl 2 rfl) ?_
            refine lv_iload hx hb dX8_digest_34 (lv_at hl 3 rfl) ?_
            obtain ⟨⟨r6, g6⟩, hc6, hF⟩ := lm_bd hF
            have hF := lm_un2E hF
            refine lm_runA B hN (lm_hrV B hN hl.1 (lm_cutA B hN) (n := 2) (As := [.int x3_20, .int x4_20]) (rest := [.long ((31 : Int64) * x1_20)]) (hX8_thing l G Q hc6) gX8_digest_X8_thing rfl (by decide +kernel) rfl (by decide) (by decide) (ci := 8) (q0 := 0) rfl rfl rfl (Nat.le_of_ble_eq_true rfl) dX8_digest_36) (fun H locs hN => ?_)
            refine lv_i2l hx hb dX8_digest_39 rfl ?_
            refine lv_ladd hx hb dX8_digest_40 ?_
            refine lv_lstore_n (lv' := [(1, .long (((31 : Int64) * x1_20) + r6.toInt64)), (0, .ref (Q 0 0)), (3, .int x3_20), (4, .int x4_20)]) hx hb dX8_digest_41 rfl hl (by decide) rfl (fun ls hl => ?_)
            refine lv_iinc (v := (x4_20 + 1)) (lv' := [(4, .int (x4_20 + 1)), (1, .long (((31 : Int64) * x1_20) + r6.toInt64)), (0, .ref (Q 0 0)), (3, .int x3_20)]) hx hb dX8_digest_42 hl (k := 3) rfl rfl (by decide) rfl (fun ls hl => ?_)
            refine lv_goto (tgt := 20) hx hb dX8_digest_45 (by decide) ?_
            exact ih20 _ _ _ _ _ _ _ hF hN (lv_sub hl [2, 1, 3, 0] rfl)
      refine lv_iload_n hx hb dX8_digest_6 rfl (lv_at hl 2 rfl) ?_
      refine lv_aload_n hx hb dX8_digest_7 rfl (lv_at hl 0 rfl) ?_
      refine lm_get B hN (ci := 8) hiX8 0 rfl rfl 1 (by decide) (by decide +kernel) (v := .ref (Q 2 0)) rfl dX8_digest_8 ?_
      refine lm_get B hN (ci := 3) hiX3 3 rfl rfl 4 (by decide) (by decide +kernel) (v := .int ((g_6 2).1 0)) rfl dX8_digest_11 ?_
      refine lv_icmp_ge (tgt := 54) hx hb dX8_digest_14 (by decide) (fun c7 => ?_) (fun c7 => ?_)
      · have hF := lm_itp c7 hF
        refine lv_aload_n hx hb dX8_digest_54 rfl (lv_at hl 0 rfl) ?_
        refine lm_get B hN (ci := 8) hiX8 0 rfl rfl 1 (by decide) (by decide +kernel) (v := .ref (Q 2 0)) rfl dX8_digest_55 ?_
        obtain ⟨⟨r8, t8_0⟩, hc8, hF⟩ := lm_bd hF
        have hF := lm_un2E hF
        refine lm_run B hN (kp_wA8_2 _ _ _) (lm_hrV B hN hl.1 (lm_cutP B hN (kp_wA8_2 _ _ _)) (n := 0) (As := []) (rest := []) (hX3_isNone l G (Q 2) hc8) gX8_digest_X3_isNone rfl (by decide +kernel) rfl (by decide) (by decide) (ci := 3) (q0 := 0) rfl rfl rfl (Nat.le_of_ble_eq_true rfl) dX8_digest_58) (wA8 G Q (va_up g_6 2 t8_0)) (kq_wA8_2 _ _ _ _) (fun H locs hN => ?_)
        refine lv_if_ne (tgt := 226) hx hb dX8_digest_61 (by decide) (fun c9 => ?_) (fun c9 => ?_)
        · have hF := lm_itn c9 hF
          exact J226 _ _ _ _ _ hF hN (lv_sub hl [0, 1] rfl)
        · have hF := lm_itp c9 hF
          refine lv_aload_n hx hb dX8_digest_64 rfl (lv_at hl 0 rfl) ?_
          refine lm_get B hN (ci := 8) hiX8 0 rfl rfl 5 (by decide) (by decide +kernel) (v := .ref (Q 6 0)) rfl dX8_digest_65 ?_
          refine lv_aload_n hx hb dX8_digest_68 rfl (lv_at hl 0 rfl) ?_
          refine lm_get B hN (ci := 8) hiX8 0 rfl rfl 1 (by decide) (by decide +kernel) (v := .ref (Q 2 0)) rfl dX8_digest_69 ?_
          refine lv_iconst (v := 2) hx hb dX8_digest_72 (by decide) ?_
          obtain ⟨⟨t10_0, t10_1, t10_2⟩, hc10, hF⟩ := lm_bd hF
          have hF := lm_un3E hF
          refine lm_run B hN (kp_wA8_6_7_2t _ _ _) (lm_hrV B hN hl.1 (lm_cutP B hN (kp_wA8_6_7_2t _ _ _)) (n := 2) (As := [.ref (Q 2 0), .int (2 : Int32)]) (rest := []) (hX6_search l G (Q 6) (Q 7) (Q 2) hc10) gX8_digest_X6_search rfl (by decide +kernel) rfl (by decide) (by decide) (ci := 6) (q0 := 0) rfl rfl rfl (Nat.le_of_ble_eq_true rfl) dX8_digest_73) (wA8 G Q (va_up (va_up (va_up (va_up g_6 2 t8_0) 6 t10_0) 7 t10_1) 2 t10_2)) (kq_wA8_6_7_2t _ _ _ _ _ _) (fun H locs hN => ?_)
          refine lv_aload_n hx hb dX8_digest_76 rfl (lv_at hl 0 rfl) ?_
          refine lm_get B hN (ci := 8) hiX8 0 rfl rfl 6 (by decide) (by decide +kernel) (v := .ref (Q 8 0)) rfl dX8_digest_77 ?_
          refine lv_aload_n hx hb dX8_digest_80 rfl (lv_at hl 0 rfl) ?_
          refine lm_get B hN (ci := 8) hiX8 0 rfl rfl 1 (by decide) (by decide +kernel) (v := .ref (Q 2 0)) rfl dX8_digest_81 ?_
          obtain ⟨⟨t11_0, t11_1⟩, hc11, hF⟩ := lm_bd hF
          have hF := lm_un2E hF
          refine lm_run B hN (kp_wA8_8_2 _ _ _) (lm_hrV B hN hl.1 (lm_cutP B hN (kp_wA8_8_2 _ _ _)) (n := 1) (As := [.ref (Q 2 0)]) (rest := []) (hX4_search l G (Q 8) (Q 2) hc11) gX8_digest_X4_search rfl (by decide +kernel) rfl (by decide) (by decide) (ci := 4) (q0 := 0) rfl rfl rfl (Nat.le_of_ble_eq_true rfl) dX8_digest_84) (wA8 G Q (va_up (va_up (va_up (va_up (va_up (va_up g_6 2 t8_0) 6 t10_0) 7 t10_1) 2 t10_2) 8 t11_0) 2 t11_1)) (kq_wA8_8_2 _ _ _ _ _) (fun H locs hN => ?_)
          refine lv_ldc2 (v := 31) hx hb hown (hts (.constantLong RX8 241 (31)) (by decide +kernel)) dX8_digest_87 ?_
          refine lv_lload_n hx hb dX8_digest_90 rfl (lv_at hl 1 rfl) ?_
          refine lv_lmul hx hb dX8_digest_91 ?_
          refine lv_aload_n hx hb dX8_digest_92 rfl (lv_at hl 0 rfl) ?_
          refine lm_get B hN (ci := 8) hiX8 0 rfl rfl 1 (by decide) (by decide +kernel) (v := .ref (Q 2 0)) rfl dX8_digest_93 ?_
          refine lv_iconst (v := 0) hx hb dX8_digest_96 (by decide) ?_
          obtain ⟨⟨r12, t12_0⟩, hc12, hF⟩ := lm_bd hF
          have hF := lm_un2E hF
          refine lm_run B hN (kp_wA8_2 _ _ _) (lm_hrV B hN hl.1 (lm_cutP B hN (kp_wA8_2 _ _ _)) (n := 1) (As := [.int (0 : Int32)]) (rest := [.long ((31 : Int64) * x1_6)]) (hX3_wouldTake l G (Q 2) hc12) gX8_digest_X3_wouldTake rfl (by decide +kernel) rfl (by decide) (by decide) (ci := 3) (q0 := 0) rfl rfl rfl (Nat.le_of_ble_eq_true rfl) dX8_digest_97) (wA8 G Q (va_up (va_up (va_up (va_up (va_up (va_up (va_up g_6 2 t8_0) 6 t10_0) 7 t10_1) 2 t10_2) 8 t11_0) 2 t11_1) 2 t12_0)) (kq_wA8_2 _ _ _ _) (fun H locs hN => ?_)
          refine lv_i2l hx hb dX8_digest_100 rfl ?_
          refine lv_ladd hx hb dX8_digest_101 ?_
          refine lv_lstore_n (lv' := [(1, .long (((31 : Int64) * x1_6) + r12.toInt64)), (0, .ref (Q 0 0)), (3, .int x3_6)]) hx hb dX8_digest_102 rfl hl (by decide) rfl (fun ls hl => ?_)
          refine lv_ldc2 (v := 31) hx hb hown (hts (.constantLong RX8 241 (31)) (by decide +kernel)) dX8_digest_103 ?_
          refine lv_lload_n hx hb dX8_digest_106 rfl (lv_at hl 0 rfl) ?_
          refine lv_lmul hx hb dX8_digest_107 ?_
          refine lv_aload_n hx hb dX8_digest_108 rfl (lv_at hl 1 rfl) ?_
          refine lm_get B hN (ci := 8) hiX8 0 rfl rfl 1 (by decide) (by decide +kernel) (v := .ref (Q 2 0)) rfl dX8_digest_109 ?_
          refine lv_iconst (v := 5) hx hb dX8_digest_112 (by decide) ?_
          obtain ⟨⟨r13, t13_0⟩, hc13, hF⟩ := lm_bd hF
          have hF := lm_un2E hF
          refine lm_run B hN (kp_wA8_2 _ _ _) (lm_hrV B hN hl.1 (lm_cutP B hN (kp_wA8_2 _ _ _)) (n := 1) (As := [.int (5 : Int32)]) (rest := [.long ((31 : Int64) * (((31 : Int64) * x1_6) + r12.toInt64))]) (hX3_wouldTake l G (Q 2) hc13) gX8_digest_X3_wouldTake rfl (by decide +kernel) rfl (by decide) (by decide) (ci := 3) (q0 := 0) rfl rfl rfl (Nat.le_of_ble_eq_true rfl) dX8_digest_113) (wA8 G Q (va_up (va_up (va_up (va_up (va_up (va_up (va_up (va_up g_6 2 t8_0) 6 t10_0) 7 t10_1) 2 t10_2) 8 t11_0) 2 t11_1) 2 t12_0) 2 t13_0)) (kq_wA8_2 _ _ _ _) (fun H locs hN => ?_)
          refine lv_i2l hx hb dX8_digest_116 rfl ?_
          refine lv_ladd hx hb dX8_digest_117 ?_
          refine lv_lstore_n (lv' := [(1, .long (((31 : Int64) * (((31 : Int64) * x1_6) + r12.toInt64)) + r13.toInt64)), (0, .ref (Q 0 0)), (3, .int x3_6)]) hx hb dX8_digest_118 rfl hl (by decide) rfl (fun ls hl => ?_)
          refine lv_ldc2 (v := 31) hx hb hown (hts (.constantLong RX8 241 (31)) (by decide +kernel)) dX8_digest_119 ?_
          refine lv_lload_n hx hb dX8_digest_122 rfl (lv_at hl 0 rfl) ?_
          refine lv_lmul hx hb dX8_digest_123 ?_
          refine lv_aload_n hx hb dX8_digest_124 rfl (lv_at hl 1 rfl) ?_
          refine lm_get B hN (ci := 8) hiX8 0 rfl rfl 5 (by decide) (by decide +kernel) (v := .ref (Q 6 0)) rfl dX8_digest_125 ?_
          refine lm_get B hN (ci := 6) hiX6 23 rfl rfl 4 (by decide) (by decide +kernel) (v := .int (t10_0.1 1)) rfl dX8_digest_128 ?_
          refine lv_i2l hx hb dX8_digest_131 rfl ?_
          refine lv_ladd hx hb dX8_digest_132 ?_
          refine lv_lstore_n (lv' := [(1, .long (((31 : Int64) * (((31 : Int64) * (((31 : Int64) * x1_6) + r12.toInt64)) + r13.toInt64)) + (t10_0.1 1).toInt64)), (0, .ref (Q 0 0)), (3, .int x3_6)]) hx hb dX8_digest_133 rfl hl (by decide) rfl (fun ls hl => ?_)
          refine lv_ldc2 (v := 31) hx hb hown (hts (.constantLong RX8 241 (31)) (by decide +kernel)) dX8_digest_134 ?_
          refine lv_lload_n hx hb dX8_digest_137 rfl (lv_at hl 0 rfl) ?_
          refine lv_lmul hx hb dX8_digest_138 ?_
          refine lv_aload_n hx hb dX8_digest_139 rfl (lv_at hl 1 rfl) ?_
          refine lm_get B hN (ci := 8) hiX8 0 rfl rfl 5 (by decide) (by decide +kernel) (v := .ref (Q 6 0)) rfl dX8_digest_140 ?_
          refine lm_get B hN (ci := 6) hiX6 23 rfl rfl 5 (by decide) (by decide +kernel) (v := .int (t10_0.1 2)) rfl dX8_digest_143 ?_
          refine lv_i2l hx hb dX8_digest_146 rfl ?_
          refine lv_ladd hx hb dX8_digest_147 ?_
          refine lv_lstore_n (lv' := [(1, .long (((31 : Int64) * (((31 : Int64) * (((31 : Int64) * (((31 : Int64) * x1_6) + r12.toInt64)) + r13.toInt64)) + (t10_0.1 1).toInt64)) + (t10_0.1 2).toInt64)), (0, .ref (Q 0 0)), (3, .int x3_6)]) hx hb dX8_digest_148 rfl hl (by decide) rfl (fun ls hl => ?_)
          refine lv_ldc2 (v := 31) hx hb hown (hts (.constantLong RX8 241 (31)) (by decide +kernel)) dX8_digest_149 ?_
          refine lv_lload_n hx hb dX8_digest_152 rfl (lv_at hl 0 rfl) ?_
          refine lv_lmul hx hb dX8_digest_153 ?_
          refine lv_aload_n hx hb dX8_digest_154 rfl (lv_at hl 1 rfl) ?_
          refine lm_get B hN (ci := 8) hiX8 0 rfl rfl 5 (by decide) (by decide +kernel) (v := .ref (Q 6 0)) rfl dX8_digest_155 ?_
          refine lv_iconst (v := 0) hx hb dX8_digest_158 (by decide) ?_
          obtain ⟨⟨r14, t14_0⟩, hc14, hF⟩ := lm_bd hF
          have hF := lm_un2E hF
          refine lm_run B hN (kp_wA8_6 _ _ _) (lm_hrV B hN hl.1 (lm_cutP B hN (kp_wA8_6 _ _ _)) (n := 1) (As := [.int (0 : Int32)]) (rest := [.long ((31 : Int64) * (((31 : Int64) * (((31 : Int64) * (((31 : Int64) * (((31 : Int64) * x1_6) + r12.toInt64)) + r13.toInt64)) + (t10_0.1 1).toInt64)) + (t10_0.1 2).toInt64))]) (hX6_touchedOn l G (Q 6) (fun _ => (Q 7 0)) hc14) gX8_digest_X6_touchedOn rfl (by decide +kernel) rfl (by decide) (by decide) (ci := 6) (q0 := 0) rfl rfl rfl (Nat.le_of_ble_eq_true rfl) dX8_digest_159) (wA8 G Q (va_up (va_up (va_up (va_up (va_up (va_up (va_up (va_up (va_up g_6 2 t8_0) 6 t10_0) 7 t10_1) 2 t10_2) 8 t11_0) 2 t11_1) 2 t12_0) 2 t13_0) 6 t14_0)) (kq_wA8_6 _ _ _ _) (fun H locs hN => ?_)
          refine lv_i2l hx hb dX8_digest_162 rfl ?_
          refine lv_ladd hx hb dX8_digest_163 ?_
          refine lv_lstore_n (lv' := [(1, .long (((31 : Int64) * (((31 : Int64) * (((31 : Int64) * (((31 : Int64) * (((31 : Int64) * x1_6) + r12.toInt64)) + r13.toInt64)) + (t10_0.1 1).toInt64)) + (t10_0.1 2).toInt64)) + r14.toInt64)), (0, .ref (Q 0 0)), (3, .int x3_6)]) hx hb dX8_digest_164 rfl hl (by decide) rfl (fun ls hl => ?_)
          refine lv_ldc2 (v := 31) hx hb hown (hts (.constantLong RX8 241 (31)) (by decide +kernel)) dX8_digest_165 ?_
          refine lv_lload_n hx hb dX8_digest_168 rfl (lv_at hl 0 rfl) ?_
          refine lv_lmul hx hb dX8_digest_169 ?_
          refine lv_aload_n hx hb dX8_digest_170 rfl (lv_at hl 1 rfl) ?_
          refine lm_get B hN (ci := 8) hiX8 0 rfl rfl 5 (by decide) (by decide +kernel) (v := .ref (Q 6 0)) rfl dX8_digest_171 ?_
          refine lv_iconst (v := 1) hx hb dX8_digest_174 (by decide) ?_
          obtain ⟨⟨r15, t15_0⟩, hc15, hF⟩ := lm_bd hF
          have hF := lm_un2E hF
          refine lm_run B hN (kp_wA8_6 _ _ _) (lm_hrV B hN hl.1 (lm_cutP B hN (kp_wA8_6 _ _ _)) (n := 1) (As := [.int (1 : Int32)]) (rest := [.long ((31 : Int64) * (((31 : Int64) * (((31 : Int64) * (((31 : Int64) * (((31 : Int64) * (((31 : Int64) * x1_6) + r12.toInt64)) + r13.toInt64)) + (t10_0.1 1).toInt64)) + (t10_0.1 2).toInt64)) + r14.toInt64))]) (hX6_touchedOn l G (Q 6) (fun _ => (Q 7 0)) hc15) gX8_digest_X6_touchedOn rfl (by decide +kernel) rfl (by decide) (by decide) (ci := 6) (q0 := 0) rfl rfl rfl (Nat.le_of_ble_eq_true rfl) dX8_digest_175) (wA8 G Q (va_up (va_up (va_up (va_up (va_up (va_up (va_up (va_up (va_up (va_up g_6 2 t8_0) 6 t10_0) 7 t10_1) 2 t10_2) 8 t11_0) 2 t11_1) 2 t12_0) 2 t13_0) 6 t14_0) 6 t15_0)) (kq_wA8_6 _ _ _ _) (fun H locs hN => ?_)
          refine lv_i2l hx hb dX8_digest_178 rfl ?_
          refine lv_ladd hx hb dX8_digest_179 ?_
          refine lv_lstore_n (lv' := [(1, .long (((31 : Int64) * (((31 : Int64) * (((31 : Int64) * (((31 : Int64) * (((31 : Int64) * (((31 : Int64) * x1_6) + r12.toInt64)) + r13.toInt64)) + (t10_0.1 1).toInt64)) + (t10_0.1 2).toInt64)) + r14.toInt64)) + r15.toInt64)), (0, .ref (Q 0 0)), (3, .int x3_6)]) hx hb dX8_digest_180 rfl hl (by decide) rfl (fun ls hl => ?_)
          refine lv_ldc2 (v := 31) hx hb hown (hts (.constantLong RX8 241 (31)) (by decide +kernel)) dX8_digest_181 ?_
          refine lv_lload_n hx hb dX8_digest_184 rfl (lv_at hl 0 rfl) ?_
          refine lv_lmul hx hb dX8_digest_185 ?_
          refine lv_aload_n hx hb dX8_digest_186 rfl (lv_at hl 1 rfl) ?_
          refine lm_get B hN (ci := 8) hiX8 0 rfl rfl 6 (by decide) (by decide +kernel) (v := .ref (Q 8 0)) rfl dX8_digest_187 ?_
          refine lm_get B hN (ci := 4) hiX4 31 rfl rfl 0 (by decide) (by decide +kernel) (v := .int (t11_0.1 0)) rfl dX8_digest_190 ?_
          refine lv_i2l hx hb dX8_digest_193 rfl ?_
          refine lv_ladd hx hb dX8_digest_194 ?_
          refine lv_lstore_n (lv' := [(1, .long (((31 : Int64) * (((31 : Int64) * (((31 : Int64) * (((31 : Int64) * (((31 : Int64) * (((31 : Int64) * (((31 : Int64) * x1_6) + r12.toInt64)) + r13.toInt64)) + (t10_0.1 1).toInt64)) + (t10_0.1 2).toInt64)) + r14.toInt64)) + r15.toInt64)) + (t11_0.1 0).toInt64)), (0, .ref (Q 0 0)), (3, .int x3_6)]) hx hb dX8_digest_195 rfl hl (by decide) rfl (fun ls hl => ?_)
          refine lv_ldc2 (v := 31) hx hb hown (hts (.constantLong RX8 241 (31)) (by decide +kernel)) dX8_digest_196 ?_
          refine lv_lload_n hx hb dX8_digest_199 rfl (lv_at hl 0 rfl) ?_
          refine lv_lmul hx hb dX8_digest_200 ?_
          refine lv_aload_n hx hb dX8_digest_201 rfl (lv_at hl 1 rfl) ?_
          refine lm_get B hN (ci := 8) hiX8 0 rfl rfl 6 (by decide) (by decide +kernel) (v := .ref (Q 8 0)) rfl dX8_digest_202 ?_
          refine lm_get B hN (ci := 4) hiX4 31 rfl rfl 1 (by decide) (by decide +kernel) (v := .int (t11_0.1 1)) rfl dX8_digest_205 ?_
          refine lv_i2l hx hb dX8_digest_208 rfl ?_
          refine lv_ladd hx hb dX8_digest_209 ?_
          refine lv_lstore_n (lv' := [(1, .long (((31 : Int64) * (((31 : Int64) * (((31 : Int64) * (((31 : Int64) * (((31 : Int64) * (((31 : Int64) * (((31 : Int64) * (((31 : Int64) * x1_6) + r12.toInt64)) + r13.toInt64)) + (t10_0.1 1).toInt64)) + (t10_0.1 2).toInt64)) + r14.toInt64)) + r15.toInt64)) + (t11_0.1 0).toInt64)) + (t11_0.1 1).toInt64)), (0, .ref (Q 0 0)), (3, .int x3_6)]) hx hb dX8_digest_210 rfl hl (by decide) rfl (fun ls hl => ?_)
          refine lv_ldc2 (v := 31) hx hb hown (hts (.constantLong RX8 241 (31)) (by decide +kernel)) dX8_digest_211 ?_
          refine lv_lload_n hx hb dX8_digest_214 rfl (lv_at hl 0 rfl) ?_
          refine lv_lmul hx hb dX8_digest_215 ?_
          refine lv_aload_n hx hb dX8_digest_216 rfl (lv_at hl 1 rfl) ?_
          refine lm_get B hN (ci := 8) hiX8 0 rfl rfl 6 (by decide) (by decide +kernel) (v := .ref (Q 8 0)) rfl dX8_digest_217 ?_
          refine lm_get B hN (ci := 4) hiX4 31 rfl rfl 2 (by decide) (by decide +kernel) (v := .int (t11_0.1 2)) rfl dX8_digest_220 ?_
          refine lv_i2l hx hb dX8_digest_223 rfl ?_
          refine lv_ladd hx hb dX8_digest_224 ?_
          refine lv_lstore_n (lv' := [(1, .long (((31 : Int64) * (((31 : Int64) * (((31 : Int64) * (((31 : Int64) * (((31 : Int64) * (((31 : Int64) * (((31 : Int64) * (((31 : Int64) * (((31 : Int64) * x1_6) + r12.toInt64)) + r13.toInt64)) + (t10_0.1 1).toInt64)) + (t10_0.1 2).toInt64)) + r14.toInt64)) + r15.toInt64)) + (t11_0.1 0).toInt64)) + (t11_0.1 1).toInt64)) + (t11_0.1 2).toInt64)), (0, .ref (Q 0 0)), (3, .int x3_6)]) hx hb dX8_digest_225 rfl hl (by decide) rfl (fun ls hl => ?_)
          exact J226 _ _ _ _ _ hF hN (lv_sub hl [1, 0] rfl)
      · have hF := lm_itn c7 hF
        refine lv_iconst (v := 0) hx hb dX8_digest_17 (by decide) ?_
        refine lv_istore (lv' := [(4, .int (0 : Int32)), (0, .ref (Q 0 0)), (1, .long x1_6), (3, .int x3_6)]) hx hb dX8_digest_18 hl (by decide) rfl (fun ls hl => ?_)
        exact L20 5000 _ _ _ _ _ _ _ hF hN (lv_sub hl [1, 2, 3, 0] rfl)
  refine lv_ldc2 (v := 1259) hx hb hown (hts (.constantLong RX8 239 (1259)) (by decide +kernel)) dX8_digest_0 ?_
  refine lv_lstore_n (lv' := [(1, .long (1259 : Int64)), (0, .ref (Q 0 0))]) hx hb dX8_digest_3 rfl hl (by decide) rfl (fun ls hl => ?_)
  refine lv_iconst (v := 0) hx hb dX8_digest_4 (by decide) ?_
  refine lv_istore_n (lv' := [(3, .int (0 : Int32)), (1, .long (1259 : Int64)), (0, .ref (Q 0 0))]) hx hb dX8_digest_5 rfl hl (by decide) rfl (fun ls hl => ?_)
  exact L6 5000 _ _ _ _ _ _ hF hN (lv_sub hl [2, 1, 0] rfl)
def jX8_odds_92 (x4_92 : Int32) (x5_92 : Int32) (y0_92 : Int32) (g_92 : Nat → lm_St) : Option (Int32 × (Nat → lm_St)) := (fX8_inLowestTerms y0_92 x4_92 x5_92).bind (fun r1 => some (r1, g_92))
def fX8_odds (g : Nat → lm_St) (x1 : Int32) (x2 : Int32) (x3 : Int32) : Option (Int32 × (Nat → lm_St)) := (fX3_has (g 2) x1).bind (fun v2 => lm_un2 v2 (fun r2 t2_0 => if r2 = 0 then (some ((-101 : Int32), (va_up g 2 t2_0))) else (if x2 < (1 : Int32) then (some ((-102 : Int32), (va_up g 2 t2_0))) else (if (3 : Int32) < x2 then (some ((-102 : Int32), (va_up g 2 t2_0))) else (if x3 < 0 then (some ((-102 : Int32), (va_up g 2 t2_0))) else (if x3 ≤ (1 : Int32) then ((fX8_isIn (t2_0.1 1) x1).bind (fun r8 => if r8 = 0 then ((fX2_waysTo (g 9) (g 10) t2_0 x1 x2).bind (fun v10 => lm_un4 v10 (fun r10 t10_0 t10_1 t10_2 => (fX3_left t10_2).bind (fun v11 => lm_un2 v11 (fun r11 t11_0 => (fX8_power r11 x2).bind (fun r12 => if x3 = 0 then (jX8_odds_92 r10 r12 r10 (va_up (va_up (va_up (va_up (va_up g 2 t2_0) 9 t10_0) 10 t10_1) 2 t10_2) 2 t11_0)) else (jX8_odds_92 r10 r12 r12 (va_up (va_up (va_up (va_up (va_up g 2 t2_0) 9 t10_0) 10 t10_1) 2 t10_2) 2 t11_0)))))))) else (some ((-103 : Int32), (va_up g 2 t2_0))))) else (some ((-102 : Int32), (va_up g 2 t2_0)))))))))
set_option maxHeartbeats 4000000 in
set_option maxRecDepth 100000 in
theorem hX8_odds (l : Launch) (G : lm_G) (Q : Nat → Nat → Nat) {g : Nat → lm_St} {x1 : Int32} {x2 : Int32} {x3 : Int32} {R : Int32 × (Nat → lm_St)} (hF : fX8_odds g x1 x2 x3 = some R) : lm_C l G yX8_odds wsX8_odds 62 [.ref (Q 0 0), .int x1, .int x2, .int x3] (wA8 G Q g) (some (.int R.1)) (wA8 G Q R.2) := by
  refine lm_C.of (cc := cX8_odds) (maxL := 6) (ret := (some .int)) (by decide) rfl (Nat.le_of_ble_eq_true rfl) ?_
  intro p e s m below meth c A ls B hN hl
  have hx := B.1.1
  have hb := B.1.2.1
  have hown := B.1.2.2.2.1
  have hts := B.1.2.2.2.2
  have hiX3 : ∀ w ∈ wsX30, w ∈ wsX8_odds := by decide +kernel
  have hiX8 : ∀ w ∈ wsX80, w ∈ wsX8_odds := by decide +kernel
  have hl : lv_has ls 6 [(0, .ref (Q 0 0)), (1, .int x1), (2, .int x2), (3, .int x3)] := hl
  have J92 : ∀ (x4_92 : Int32) (x5_92 : Int32) (y0_92 : Int32) (g_92 : Nat → lm_St) (H : Heap) (locs : List Loc) (ls : Array Slot), jX8_odds_92 x4_92 x5_92 y0_92 g_92 = some R → lm_N G A s (wA8 G Q g_92) H locs → lv_has ls 6 [(4, .int x4_92), (5, .int x5_92)] → W p l e (lm_rk 62) s m ([.ref (Q 0 0), .int x1, .int x2, .int x3] : List Value).toArray below meth c H locs 0 0 (MQ below (lm_post G (wA8 G Q R.2) (some (.int R.1)) A) ([.ref (Q 0 0), .int x1, .int x2, .int x3] : List Value).toArray s 0 0 A) (F0 m 92 ls [.int y0_92]) := by
    intro x4_92 x5_92 y0_92 g_92 H locs ls hF hN hl
    refine lv_iload hx hb dX8_odds_92 (lv_at hl 0 rfl) ?_
    refine lv_iload hx hb dX8_odds_94 (lv_at hl 1 rfl) ?_
    obtain ⟨r1, hc1, hF⟩ := lm_bd hF
    refine lm_run0 B hN (lm_hrT B hN hl.1 (lm_cut0 B hN) (n := 3) (As := [.int y0_92, .int x4_92, .int x5_92]) (rest := []) (hX8_inLowestTerms l G hc1) gX8_odds_X8_inLowestTerms rfl (by decide +kernel) rfl (by decide) (by decide) rfl (Nat.le_of_ble_eq_true rfl) dX8_odds_96) (fun H locs hN => ?_)
    cases hF
    exact lm_iret B hN dX8_odds_99
  refine lv_aload_n hx hb dX8_odds_0 rfl (lv_at hl 0 rfl) ?_
  refine lm_get B hN (ci := 8) hiX8 0 rfl rfl 1 (by decide) (by decide +kernel) (v := .ref (Q 2 0)) rfl dX8_odds_1 ?_
  refine lv_iload_n hx hb dX8_odds_4 rfl (lv_at hl 1 rfl) ?_
  obtain ⟨⟨r2, t2_0⟩, hc2, hF⟩ := lm_bd hF
  have hF := lm_un2E hF
  refine lm_run B hN (kp_wA8_2 _ _ _) (lm_hrV B hN hl.1 (lm_cutP B hN (kp_wA8_2 _ _ _)) (n := 1) (As := [.int x1]) (rest := []) (hX3_has l G (Q 2) hc2) gX8_odds_X3_has rfl (by decide +kernel) rfl (by decide) (by decide) (ci := 3) (q0 := 0) rfl rfl rfl (Nat.le_of_ble_eq_true rfl) dX8_odds_5) (wA8 G Q (va_up g 2 t2_0)) (kq_wA8_2 _ _ _ _) (fun H locs hN => ?_)
  refine lv_if_ne (tgt := 14) hx hb dX8_odds_8 (by decide) (fun c3 => ?_) (fun c3 => ?_)
  · have hF := lm_itn c3 hF
    refine lv_iload_n hx hb dX8_odds_14 rfl (lv_at hl 2 rfl) ?_
    refine lv_iconst (v := 1) hx hb dX8_odds_15 (by decide) ?_
    refine lv_icmp_lt (tgt := 33) hx hb dX8_odds_16 (by decide) (fun c4 => ?_) (fun c4 => ?_)
    · have hF := lm_itp c4 hF
      refine lv_bipush (v := -102) hx hb dX8_odds_33 (by decide) ?_
      cases hF
      exact lm_iret B hN dX8_odds_35
    · have hF := lm_itn c4 hF
      refine lv_iload_n hx hb dX8_odds_19 rfl (lv_at hl 2 rfl) ?_
      refine lv_iconst (v := 3) hx hb dX8_odds_20 (by decide) ?_
      refine lv_icmp_gt (tgt := 33) hx hb dX8_odds_21 (by decide) (fun c5 => ?_) (fun c5 => ?_)
      · have hF := lm_itp c5 hF
        refine lv_bipush (v := -102) hx hb dX8_odds_33 (by decide) ?_
        cases hF
        exact lm_iret B hN dX8_odds_35
      · have hF := lm_itn c5 hF
        refine lv_iload_n hx hb dX8_odds_24 rfl (lv_at hl 3 rfl) ?_
        refine lv_if_lt (tgt := 33) hx hb dX8_odds_25 (by decide) (fun c6 => ?_) (fun c6 => ?_)
        · have hF := lm_itp c6 hF
          refine lv_bipush (v := -102) hx hb dX8_odds_33 (by decide) ?_
          cases hF
          exact lm_iret B hN dX8_odds_35
        · have hF := lm_itn c6 hF
          refine lv_iload_n hx hb dX8_odds_28 rfl (lv_at hl 3 rfl) ?_
          refine lv_iconst (v := 1) hx hb dX8_odds_29 (by decide) ?_
          refine lv_icmp_le (tgt := 36) hx hb dX8_odds_30 (by decide) (fun c7 => ?_) (fun c7 => ?_)
          · have hF := lm_itp c7 hF
            refine lv_aload_n hx hb dX8_odds_36 rfl (lv_at hl 0 rfl) ?_
            refine lm_get B hN (ci := 8) hiX8 0 rfl rfl 1 (by decide) (by decide +kernel) (v := .ref (Q 2 0)) rfl dX8_odds_37 ?_
            refine lm_get B hN (ci := 3) hiX3 3 rfl rfl 5 (by decide) (by decide +kernel) (v := .int (t2_0.1 1)) rfl dX8_odds_40 ?_
            refine lv_iload_n hx hb dX8_odds_43 rfl (lv_at hl 1 rfl) ?_
            obtain ⟨r8, hc8, hF⟩ := lm_bd hF
            refine lm_run0 B hN (lm_hrT B hN hl.1 (lm_cut0 B hN) (n := 2) (As := [.int (t2_0.1 1), .int x1]) (rest := []) (hX8_isIn l G hc8) gX8_odds_X8_isIn rfl (by decide +kernel) rfl (by decide) (by decide) rfl (Nat.le_of_ble_eq_true rfl) dX8_odds_44) (fun H locs hN => ?_)
            refine lv_if_eq (tgt := 53) hx hb dX8_odds_47 (by decide) (fun c9 => ?_) (fun c9 => ?_)
            · have hF := lm_itp c9 hF
              refine lv_aload_n hx hb dX8_odds_53 rfl (lv_at hl 0 rfl) ?_
              refine lm_get B hN (ci := 8) hiX8 0 rfl rfl 7 (by decide) (by decide +kernel) (v := .ref (Q 9 0)) rfl dX8_odds_54 ?_
              refine lv_aload_n hx hb dX8_odds_57 rfl (lv_at hl 0 rfl) ?_
              refine lm_get B hN (ci := 8) hiX8 0 rfl rfl 1 (by decide) (by decide +kernel) (v := .ref (Q 2 0)) rfl dX8_odds_58 ?_
              refine lv_iload_n hx hb dX8_odds_61 rfl (lv_at hl 1 rfl) ?_
              refine lv_iload_n hx hb dX8_odds_62 rfl (lv_at hl 2 rfl) ?_
              obtain ⟨⟨r10, t10_0, t10_1, t10_2⟩, hc10, hF⟩ := lm_bd hF
              have hF := lm_un4E hF
              refine lm_run B hN (kp_wA8_9_10_2t _ _ _) (lm_hrV B hN hl.1 (lm_cutP B hN (kp_wA8_9_10_2t _ _ _)) (n := 3) (As := [.ref (Q 2 0), .int x1, .int x2]) (rest := []) (hX2_waysTo l G (Q 9) (Q 10) (Q 2) hc10) gX8_odds_X2_waysTo rfl (by decide +kernel) rfl (by decide) (by decide) (ci := 2) (q0 := 0) rfl rfl rfl (Nat.le_of_ble_eq_true rfl) dX8_odds_63) (wA8 G Q (va_up (va_up (va_up (va_up g 2 t2_0) 9 t10_0) 10 t10_1) 2 t10_2)) (kq_wA8_9_10_2t _ _ _ _ _ _) (fun H locs hN => ?_)
              refine lv_istore (lv' := [(4, .int r10), (0, .ref (Q 0 0)), (1, .int x1), (2, .int x2), (3, .int x3)]) hx hb dX8_odds_66 hl (by decide) rfl (fun ls hl => ?_)
              refine lv_aload_n hx hb dX8_odds_68 rfl (lv_at hl 1 rfl) ?_
              refine lm_get B hN (ci := 8) hiX8 0 rfl rfl 1 (by decide) (by decide +kernel) (v := .ref (Q 2 0)) rfl dX8_odds_69 ?_
              obtain ⟨⟨r11, t11_0⟩, hc11, hF⟩ := lm_bd hF
              have hF := lm_un2E hF
              refine lm_run B hN (kp_wA8_2 _ _ _) (lm_hrV B hN hl.1 (lm_cutP B hN (kp_wA8_2 _ _ _)) (n := 0) (As := []) (rest := []) (hX3_left l G (Q 2) hc11) gX8_odds_X3_left rfl (by decide +kernel) rfl (by decide) (by decide) (ci := 3) (q0 := 0) rfl rfl rfl (Nat.le_of_ble_eq_true rfl) dX8_odds_72) (wA8 G Q (va_up (va_up (va_up (va_up (va_up g 2 t2_0) 9 t10_0) 10 t10_1) 2 t10_2) 2 t11_0)) (kq_wA8_2 _ _ _ _) (fun H locs hN => ?_)
              refine lv_iload_n hx hb dX8_odds_75 rfl (lv_at hl 3 rfl) ?_
              obtain ⟨r12, hc12, hF⟩ := lm_bd hF
              refine lm_run0 B hN (lm_hrT B hN hl.1 (lm_cut0 B hN) (n := 2) (As := [.int r11, .int x2]) (rest := []) (hX8_power l G hc12) gX8_odds_X8_power rfl (by decide +kernel) rfl (by decide) (by decide) rfl (Nat.le_of_ble_eq_true rfl) dX8_odds_76) (fun H locs hN => ?_)
              refine lv_istore (lv' := [(5, .int r12), (4, .int r10), (0, .ref (Q 0 0)), (1, .int x1), (2, .int x2), (3, .int x3)]) hx hb dX8_odds_79 hl (by decide) rfl (fun ls hl => ?_)
              refine lv_iload_n hx hb dX8_odds_81 rfl (lv_at hl 5 rfl) ?_
              refine lv_if_ne (tgt := 90) hx hb dX8_odds_82 (by decide) (fun c13 => ?_) (fun c13 => ?_)
              · have hF := lm_itn c13 hF
                refine lv_iload hx hb dX8_odds_90 (lv_at hl 0 rfl) ?_
                exact J92 _ _ _ _ _ _ _ hF hN (lv_sub hl [1, 0] rfl)
              · have hF := lm_itp c13 hF
                refine lv_iload hx hb dX8_odds_85 (lv_at hl 1 rfl) ?_
                refine lv_goto (tgt := 92) hx hb dX8_odds_87 (by decide) ?_
                exact J92 _ _ _ _ _ _ _ hF hN (lv_sub hl [1, 0] rfl)
            · have hF := lm_itn c9 hF
              refine lv_bipush (v := -103) hx hb dX8_odds_50 (by decide) ?_
              cases hF
              exact lm_iret B hN dX8_odds_52
          · have hF := lm_itn c7 hF
            refine lv_bipush (v := -102) hx hb dX8_odds_33 (by decide) ?_
            cases hF
            exact lm_iret B hN dX8_odds_35
  · have hF := lm_itp c3 hF
    refine lv_bipush (v := -101) hx hb dX8_odds_11 (by decide) ?_
    cases hF
    exact lm_iret B hN dX8_odds_13
def fX8_siege (g : Nat → lm_St) (x1 : Int32) (x2 : Int32) : Option (Int32 × (Nat → lm_St)) := if x1 < (1 : Int32) then (some ((-102 : Int32), g)) else (if (4 : Int32) < x1 then (some ((-102 : Int32), g)) else ((fX8_isSiegeAnswer x2).bind (fun r3 => if r3 = 0 then (some ((-102 : Int32), g)) else ((fX3_isNone (g 2)).bind (fun v5 => lm_un2 v5 (fun r5 t5_0 => if r5 = 0 then ((fX6_search (g 6) (g 7) t5_0 x1).bind (fun v7 => lm_un3 v7 (fun t7_0 t7_1 t7_2 => if x2 = 0 then (some ((t7_0.1 1), (va_up (va_up (va_up (va_up g 2 t5_0) 6 t7_0) 7 t7_1) 2 t7_2))) else (if x2 = (1 : Int32) then (some ((t7_0.1 2), (va_up (va_up (va_up (va_up g 2 t5_0) 6 t7_0) 7 t7_1) 2 t7_2))) else ((fX6_touchedOn t7_0 (x2 - (10 : Int32))).bind (fun v10 => lm_un2 v10 (fun r10 t10_0 => some (r10, (va_up (va_up (va_up (va_up (va_up g 2 t5_0) 6 t7_0) 7 t7_1) 2 t7_2) 6 t10_0))))))))) else (some ((-103 : Int32), (va_up g 2 t5_0)))))))))
set_option maxHeartbeats 4000000 in
set_option maxRecDepth 100000 in
theorem hX8_siege (l : Launch) (G : lm_G) (Q : Nat → Nat → Nat) {g : Nat → lm_St} {x1 : Int32} {x2 : Int32} {R : Int32 × (Nat → lm_St)} (hF : fX8_siege g x1 x2 = some R) : lm_C l G yX8_siege wsX8_siege 62 [.ref (Q 0 0), .int x1, .int x2] (wA8 G Q g) (some (.int R.1)) (wA8 G Q R.2) := by
  refine lm_C.of (cc := cX8_siege) (maxL := 3) (ret := (some .int)) (by decide) rfl (Nat.le_of_ble_eq_true rfl) ?_
  intro p e s m below meth c A ls B hN hl
  have hx := B.1.1
  have hb := B.1.2.1
  have hown := B.1.2.2.2.1
  have hts := B.1.2.2.2.2
  have hiX6 : ∀ w ∈ wsX60, w ∈ wsX8_siege := by decide +kernel
  have hiX8 : ∀ w ∈ wsX80, w ∈ wsX8_siege := by decide +kernel
  have hl : lv_has ls 3 [(0, .ref (Q 0 0)), (1, .int x1), (2, .int x2)] := hl
  refine lv_iload_n hx hb dX8_siege_0 rfl (lv_at hl 1 rfl) ?_
  refine lv_iconst (v := 1) hx hb dX8_siege_1 (by decide) ?_
  refine lv_icmp_lt (tgt := 17) hx hb dX8_siege_2 (by decide) (fun c1 => ?_) (fun c1 => ?_)
  · have hF := lm_itp c1 hF
    refine lv_bipush (v := -102) hx hb dX8_siege_17 (by decide) ?_
    cases hF
    exact lm_iret B hN dX8_siege_19
  · have hF := lm_itn c1 hF
    refine lv_iload_n hx hb dX8_siege_5 rfl (lv_at hl 1 rfl) ?_
    refine lv_iconst (v := 4) hx hb dX8_siege_6 (by decide) ?_
    refine lv_icmp_gt (tgt := 17) hx hb dX8_siege_7 (by decide) (fun c2 => ?_) (fun c2 => ?_)
    · have hF := lm_itp c2 hF
      refine lv_bipush (v := -102) hx hb dX8_siege_17 (by decide) ?_
      cases hF
      exact lm_iret B hN dX8_siege_19
    · have hF := lm_itn c2 hF
      refine lv_iload_n hx hb dX8_siege_10 rfl (lv_at hl 2 rfl) ?_
      obtain ⟨r3, hc3, hF⟩ := lm_bd hF
      refine lm_run0 B hN (lm_hrT B hN hl.1 (lm_cut0 B hN) (n := 1) (As := [.int x2]) (rest := []) (hX8_isSiegeAnswer l G hc3) gX8_siege_X8_isSiegeAnswer rfl (by decide +kernel) rfl (by decide) (by decide) rfl (Nat.le_of_ble_eq_true rfl) dX8_siege_11) (fun H locs hN => ?_)
      refine lv_if_ne (tgt := 20) hx hb dX8_siege_14 (by decide) (fun c4 => ?_) (fun c4 => ?_)
      · have hF := lm_itn c4 hF
        refine lv_aload_n hx hb dX8_siege_20 rfl (lv_at hl 0 rfl) ?_
        refine lm_get B hN (ci := 8) hiX8 0 rfl rfl 1 (by decide) (by decide +kernel) (v := .ref (Q 2 0)) rfl dX8_siege_21 ?_
        obtain ⟨⟨r5, t5_0⟩, hc5, hF⟩ := lm_bd hF
        have hF := lm_un2E hF
        refine lm_run B hN (kp_wA8_2 _ _ _) (lm_hrV B hN hl.1 (lm_cutP B hN (kp_wA8_2 _ _ _)) (n := 0) (As := []) (rest := []) (hX3_isNone l G (Q 2) hc5) gX8_siege_X3_isNone rfl (by decide +kernel) rfl (by decide) (by decide) (ci := 3) (q0 := 0) rfl rfl rfl (Nat.le_of_ble_eq_true rfl) dX8_siege_24) (wA8 G Q (va_up g 2 t5_0)) (kq_wA8_2 _ _ _ _) (fun H locs hN => ?_)
        refine lv_if_eq (tgt := 33) hx hb dX8_siege_27 (by decide) (fun c6 => ?_) (fun c6 => ?_)
        · have hF := lm_itp c6 hF
          refine lv_aload_n hx hb dX8_siege_33 rfl (lv_at hl 0 rfl) ?_
          refine lm_get B hN (ci := 8) hiX8 0 rfl rfl 5 (by decide) (by decide +kernel) (v := .ref (Q 6 0)) rfl dX8_siege_34 ?_
          refine lv_aload_n hx hb dX8_siege_37 rfl (lv_at hl 0 rfl) ?_
          refine lm_get B hN (ci := 8) hiX8 0 rfl rfl 1 (by decide) (by decide +kernel) (v := .ref (Q 2 0)) rfl dX8_siege_38 ?_
          refine lv_iload_n hx hb dX8_siege_41 rfl (lv_at hl 1 rfl) ?_
          obtain ⟨⟨t7_0, t7_1, t7_2⟩, hc7, hF⟩ := lm_bd hF
          have hF := lm_un3E hF
          refine lm_run B hN (kp_wA8_6_7_2t _ _ _) (lm_hrV B hN hl.1 (lm_cutP B hN (kp_wA8_6_7_2t _ _ _)) (n := 2) (As := [.ref (Q 2 0), .int x1]) (rest := []) (hX6_search l G (Q 6) (Q 7) (Q 2) hc7) gX8_siege_X6_search rfl (by decide +kernel) rfl (by decide) (by decide) (ci := 6) (q0 := 0) rfl rfl rfl (Nat.le_of_ble_eq_true rfl) dX8_siege_42) (wA8 G Q (va_up (va_up (va_up (va_up g 2 t5_0) 6 t7_0) 7 t7_1) 2 t7_2)) (kq_wA8_6_7_2t _ _ _ _ _ _) (fun H locs hN => ?_)
          refine lv_iload_n hx hb dX8_siege_45 rfl (lv_at hl 2 rfl) ?_
          refine lv_if_ne (tgt := 57) hx hb dX8_siege_46 (by decide) (fun c8 => ?_) (fun c8 => ?_)
          · have hF := lm_itn c8 hF
            refine lv_iload_n hx hb dX8_siege_57 rfl (lv_at hl 2 rfl) ?_
            refine lv_iconst (v := 1) hx hb dX8_siege_58 (by decide) ?_
            refine lv_icmp_ne (tgt := 72) hx hb dX8_siege_59 (by decide) (fun c9 => ?_) (fun c9 => ?_)
            · have hF := lm_itn c9 hF
              refine lv_aload_n hx hb dX8_siege_72 rfl (lv_at hl 0 rfl) ?_
              refine lm_get B hN (ci := 8) hiX8 0 rfl rfl 5 (by decide) (by decide +kernel) (v := .ref (Q 6 0)) rfl dX8_siege_73 ?_
              refine lv_iload_n hx hb dX8_siege_76 rfl (lv_at hl 2 rfl) ?_
              refine lv_bipush (v := 10) hx hb dX8_siege_77 (by decide) ?_
              refine lv_isub hx hb dX8_siege_79 ?_
              obtain ⟨⟨r10, t10_0⟩, hc10, hF⟩ := lm_bd hF
              have hF := lm_un2E hF
              refine lm_run B hN (kp_wA8_6 _ _ _) (lm_hrV B hN hl.1 (lm_cutP B hN (kp_wA8_6 _ _ _)) (n := 1) (As := [.int (x2 - (10 : Int32))]) (rest := []) (hX6_touchedOn l G (Q 6) (fun _ => (Q 7 0)) hc10) gX8_siege_X6_touchedOn rfl (by decide +kernel) rfl (by decide) (by decide) (ci := 6) (q0 := 0) rfl rfl rfl (Nat.le_of_ble_eq_true rfl) dX8_siege_80) (wA8 G Q (va_up (va_up (va_up (va_up (va_up g 2 t5_0) 6 t7_0) 7 t7_1) 2 t7_2) 6 t10_0)) (kq_wA8_6 _ _ _ _) (fun H locs hN => ?_)
              cases hF
              exact lm_iret B hN dX8_siege_83
            · have hF := lm_itp c9 hF
              refine lv_aload_n hx hb dX8_siege_62 rfl (lv_at hl 0 rfl) ?_
              refine lm_get B hN (ci := 8) hiX8 0 rfl rfl 5 (by decide) (by decide +kernel) (v := .ref (Q 6 0)) rfl dX8_siege_63 ?_
              refine lm_get B hN (ci := 6) hiX6 23 rfl rfl 5 (by decide) (by decide +kernel) (v := .int (t7_0.1 2)) rfl dX8_siege_66 ?_
              refine lv_goto (tgt := 83) hx hb dX8_siege_69 (by decide) ?_
              cases hF
              exact lm_iret B hN dX8_siege_83
          · have hF := lm_itp c8 hF
            refine lv_aload_n hx hb dX8_siege_49 rfl (lv_at hl 0 rfl) ?_
            refine lm_get B hN (ci := 8) hiX8 0 rfl rfl 5 (by decide) (by decide +kernel) (v := .ref (Q 6 0)) rfl dX8_siege_50 ?_
            refine lm_get B hN (ci := 6) hiX6 23 rfl rfl 4 (by decide) (by decide +kernel) (v := .int (t7_0.1 1)) rfl dX8_siege_53 ?_
            cases hF
            exact lm_iret B hN dX8_siege_56
        · have hF := lm_itn c6 hF
          refine lv_bipush (v := -103) hx hb dX8_siege_30 (by decide) ?_
          cases hF
          exact lm_iret B hN dX8_siege_32
      · have hF := lm_itp c4 hF
        refine lv_bipush (v := -102) hx hb dX8_siege_17 (by decide) ?_
        cases hF
        exact lm_iret B hN dX8_siege_19
