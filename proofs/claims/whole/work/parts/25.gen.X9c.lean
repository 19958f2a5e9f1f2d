def fX9_countOf (s0 : lm_St) (x1 : Int32) : Option (Int32 × lm_St) := (fX9_begin s0).bind (fun t1_0 => if x1 = 0 then (some ((t1_0.1 2), t1_0)) else (if x1 = 1 then ((fX9_takenMany t1_0).bind (fun v3 => lm_un2 v3 (fun r3 t3_0 => some (r3, t3_0)))) else (if x1 = 2 then (some ((t1_0.1 3), t1_0)) else (if x1 = 3 then (some ((t1_0.1 4), t1_0)) else (if x1 = 4 then ((fX9_takenSet t1_0).bind (fun v4 => lm_un2 v4 (fun r4 t4_0 => (fX9_worthOf t4_0 ((((1 : Int32) <<< ((t1_0.1 2) &&& 31)) - (1 : Int32)) - r4)).bind (fun v5 => lm_un2 v5 (fun r5 t5_0 => some (r5, t5_0)))))) else (if x1 = 5 then ((fX9_missedLeft t1_0).bind (fun v6 => lm_un2 v6 (fun r6 t6_0 => some (r6, t6_0)))) else (if x1 = 6 then (some ((t1_0.1 5), t1_0)) else (if x1 = 7 then ((fX9_takenSet t1_0).bind (fun v7 => lm_un2 v7 (fun r7 t7_0 => (fX9_worthOf t7_0 r7).bind (fun v8 => lm_un2 v8 (fun r8 t8_0 => some (r8, t8_0)))))) else (if x1 = 8 then (some ((t1_0.1 9), t1_0)) else (if x1 = 9 then (some ((t1_0.1 0), t1_0)) else (if x1 = 10 then (some ((t1_0.1 6), t1_0)) else (if x1 = 11 then (some ((t1_0.1 8), t1_0)) else (some ((-102 : Int32), t1_0))))))))))))))
set_option maxHeartbeats 4000000 in
set_option maxRecDepth 100000 in
theorem hX9_countOf (l : Launch) (G : lm_G) (q0 : Nat → Nat) {s0 : lm_St} {x1 : Int32} {R : Int32 × lm_St} (hF : fX9_countOf s0 x1 = some R) : lm_C l G yX9_countOf wsX9_countOf 4 [.ref (q0 0), .int x1] (wX9 G q0 s0) (some (.int R.1)) (wX9 G q0 R.2) := by
  refine lm_C.of (cc := cX9_countOf) (maxL := 2) (ret := (some .int)) (by decide) rfl (Nat.le_of_ble_eq_true rfl) ?_
  intro p e s m below meth c A ls B hN hl
  have hx := B.1.1
  have hb := B.1.2.1
  have hown := B.1.2.2.2.1
  have hts := B.1.2.2.2.2
  have hiX9 : ∀ w ∈ wsX90, w ∈ wsX9_countOf := by decide +kernel
  have hl : lv_has ls 2 [(0, .ref (q0 0)), (1, .int x1)] := hl
  refine lv_aload_n hx hb dX9_countOf_0 rfl (lv_at hl 0 rfl) ?_
  obtain ⟨t1_0, hc1, hF⟩ := lm_bd hF
  refine lm_runA B hN (lm_hrV B hN hl.1 (lm_cutA B hN) (n := 0) (As := []) (rest := []) (hX9_begin l G q0 hc1) gX9_countOf_X9_begin rfl (by decide +kernel) rfl (by decide) (by decide) (ci := 9) (q0 := 0) rfl rfl rfl (Nat.le_of_ble_eq_true rfl) dX9_countOf_1) (fun H locs hN => ?_)
  refine lv_iload_n hx hb dX9_countOf_4 rfl (lv_at hl 1 rfl) ?_
  by_cases c2_0 : x1 = 0
  · have hF := lm_itp c2_0 hF
    refine lv_tableIn (tgt := 68) hx hb dX9_countOf_5 (by rw [c2_0]; decide) (by rw [c2_0]; decide) (by rw [c2_0]; rfl) (by decide) ?_
    refine lv_aload_n hx hb dX9_countOf_68 rfl (lv_at hl 0 rfl) ?_
    refine lm_get B hN (ci := 9) hiX9 0 rfl rfl 3 (by decide) (by decide +kernel) (v := .int (t1_0.1 2)) rfl dX9_countOf_69 ?_
    cases hF
    exact lm_iret B hN dX9_countOf_72
  have hF := lm_itn c2_0 hF
  by_cases c2_1 : x1 = 1
  · have hF := lm_itp c2_1 hF
    refine lv_tableIn (tgt := 73) hx hb dX9_countOf_5 (by rw [c2_1]; decide) (by rw [c2_1]; decide) (by rw [c2_1]; rfl) (by decide) ?_
    refine lv_aload_n hx hb dX9_countOf_73 rfl (lv_at hl 0 rfl) ?_
    obtain ⟨⟨r3, t3_0⟩, hc3, hF⟩ := lm_bd hF
    have hF := lm_un2E hF
    refine lm_runA B hN (lm_hrV B hN hl.1 (lm_cutA B hN) (n := 0) (As := []) (rest := []) (hX9_takenMany l G q0 hc3) gX9_countOf_X9_takenMany rfl (by decide +kernel) rfl (by decide) (by decide) (ci := 9) (q0 := 0) rfl rfl rfl (Nat.le_of_ble_eq_true rfl) dX9_countOf_74) (fun H locs hN => ?_)
    cases hF
    exact lm_iret B hN dX9_countOf_77
  have hF := lm_itn c2_1 hF
  by_cases c2_2 : x1 = 2
  · have hF := lm_itp c2_2 hF
    refine lv_tableIn (tgt := 78) hx hb dX9_countOf_5 (by rw [c2_2]; decide) (by rw [c2_2]; decide) (by rw [c2_2]; rfl) (by decide) ?_
    refine lv_aload_n hx hb dX9_countOf_78 rfl (lv_at hl 0 rfl) ?_
    refine lm_get B hN (ci := 9) hiX9 0 rfl rfl 4 (by decide) (by decide +kernel) (v := .int (t1_0.1 3)) rfl dX9_countOf_79 ?_
    cases hF
    exact lm_iret B hN dX9_countOf_82
  have hF := lm_itn c2_2 hF
  by_cases c2_3 : x1 = 3
  · have hF := lm_itp c2_3 hF
    refine lv_tableIn (tgt := 83) hx hb dX9_countOf_5 (by rw [c2_3]; decide) (by rw [c2_3]; decide) (by rw [c2_3]; rfl) (by decide) ?_
    refine lv_aload_n hx hb dX9_countOf_83 rfl (lv_at hl 0 rfl) ?_
    refine lm_get B hN (ci := 9) hiX9 0 rfl rfl 5 (by decide) (by decide +kernel) (v := .int (t1_0.1 4)) rfl dX9_countOf_84 ?_
    cases hF
    exact lm_iret B hN dX9_countOf_87
  have hF := lm_itn c2_3 hF
  by_cases c2_4 : x1 = 4
  · have hF := lm_itp c2_4 hF
    refine lv_tableIn (tgt := 88) hx hb dX9_countOf_5 (by rw [c2_4]; decide) (by rw [c2_4]; decide) (by rw [c2_4]; rfl) (by decide) ?_
    refine lv_aload_n hx hb dX9_countOf_88 rfl (lv_at hl 0 rfl) ?_
    refine lv_iconst (v := 1) hx hb dX9_countOf_89 (by decide) ?_
    refine lv_aload_n hx hb dX9_countOf_90 rfl (lv_at hl 0 rfl) ?_
    refine lm_get B hN (ci := 9) hiX9 0 rfl rfl 3 (by decide) (by decide +kernel) (v := .int (t1_0.1 2)) rfl dX9_countOf_91 ?_
    refine lv_ishl hx hb dX9_countOf_94 ?_
    refine lv_iconst (v := 1) hx hb dX9_countOf_95 (by decide) ?_
    refine lv_isub hx hb dX9_countOf_96 ?_
    refine lv_aload_n hx hb dX9_countOf_97 rfl (lv_at hl 0 rfl) ?_
    obtain ⟨⟨r4, t4_0⟩, hc4, hF⟩ := lm_bd hF
    have hF := lm_un2E hF
    refine lm_runA B hN (lm_hrV B hN hl.1 (lm_cutA B hN) (n := 0) (As := []) (rest := [.int (((1 : Int32) <<< ((t1_0.1 2) &&& 31)) - (1 : Int32)), .ref (q0 0)]) (hX9_takenSet l G q0 hc4) gX9_countOf_X9_takenSet rfl (by decide +kernel) rfl (by decide) (by decide) (ci := 9) (q0 := 0) rfl rfl rfl (Nat.le_of_ble_eq_true rfl) dX9_countOf_98) (fun H locs hN => ?_)
    refine lv_isub hx hb dX9_countOf_101 ?_
    obtain ⟨⟨r5, t5_0⟩, hc5, hF⟩ := lm_bd hF
    have hF := lm_un2E hF
    refine lm_runA B hN (lm_hrV B hN hl.1 (lm_cutA B hN) (n := 1) (As := [.int ((((1 : Int32) <<< ((t1_0.1 2) &&& 31)) - (1 : Int32)) - r4)]) (rest := []) (hX9_worthOf l G q0 hc5) gX9_countOf_X9_worthOf rfl (by decide +kernel) rfl (by decide) (by decide) (ci := 9) (q0 := 0) rfl rfl rfl (Nat.le_of_ble_eq_true rfl) dX9_countOf_102) (fun H locs hN => ?_)
    cases hF
    exact lm_iret B hN dX9_countOf_105
  have hF := lm_itn c2_4 hF
  by_cases c2_5 : x1 = 5
  · have hF := lm_itp c2_5 hF
    refine lv_tableIn (tgt := 106) hx hb dX9_countOf_5 (by rw [c2_5]; decide) (by rw [c2_5]; decide) (by rw [c2_5]; rfl) (by decide) ?_
    refine lv_aload_n hx hb dX9_countOf_106 rfl (lv_at hl 0 rfl) ?_
    obtain ⟨⟨r6, t6_0⟩, hc6, hF⟩ := lm_bd hF
    have hF := lm_un2E hF
    refine lm_runA B hN (lm_hrV B hN hl.1 (lm_cutA B hN) (n := 0) (As := []) (rest := []) (hX9_missedLeft l G q0 hc6) gX9_countOf_X9_missedLeft rfl (by decide +kernel) rfl (by decide) (by decide) (ci := 9) (q0 := 0) rfl rfl rfl (Nat.le_of_ble_eq_true rfl) dX9_countOf_107) (fun H locs hN => ?_)
    cases hF
    exact lm_iret B hN dX9_countOf_110
  have hF := lm_itn c2_5 hF
  by_cases c2_6 : x1 = 6
  · have hF := lm_itp c2_6 hF
    refine lv_tableIn (tgt := 111) hx hb dX9_countOf_5 (by rw [c2_6]; decide) (by rw [c2_6]; decide) (by rw [c2_6]; rfl) (by decide) ?_
    refine lv_aload_n hx hb dX9_countOf_111 rfl (lv_at hl 0 rfl) ?_
    refine lm_get B hN (ci := 9) hiX9 0 rfl rfl 6 (by decide) (by decide +kernel) (v := .int (t1_0.1 5)) rfl dX9_countOf_112 ?_
    cases hF
    exact lm_iret B hN dX9_countOf_115
  have hF := lm_itn c2_6 hF
  by_cases c2_7 : x1 = 7
  · have hF := lm_itp c2_7 hF
    refine lv_tableIn (tgt := 116) hx hb dX9_countOf_5 (by rw [c2_7]; decide) (by rw [c2_7]; decide) (by rw [c2_7]; rfl) (by decide) ?_
    refine lv_aload_n hx hb dX9_countOf_116 rfl (lv_at hl 0 rfl) ?_
    refine lv_aload_n hx hb dX9_countOf_117 rfl (lv_at hl 0 rfl) ?_
    obtain ⟨⟨r7, t7_0⟩, hc7, hF⟩ := lm_bd hF
    have hF := lm_un2E hF
    refine lm_runA B hN (lm_hrV B hN hl.1 (lm_cutA B hN) (n := 0) (As := []) (rest := [.ref (q0 0)]) (hX9_takenSet l G q0 hc7) gX9_countOf_X9_takenSet rfl (by decide +kernel) rfl (by decide) (by decide) (ci := 9) (q0 := 0) rfl rfl rfl (Nat.le_of_ble_eq_true rfl) dX9_countOf_118) (fun H locs hN => ?_)
    obtain ⟨⟨r8, t8_0⟩, hc8, hF⟩ := lm_bd hF
    have hF := lm_un2E hF
    refine lm_runA B hN (lm_hrV B hN hl.1 (lm_cutA B hN) (n := 1) (As := [.int r7]) (rest := []) (hX9_worthOf l G q0 hc8) gX9_countOf_X9_worthOf rfl (by decide +kernel) rfl (by decide) (by decide) (ci := 9) (q0 := 0) rfl rfl rfl (Nat.le_of_ble_eq_true rfl) dX9_countOf_121) (fun H locs hN => ?_)
    cases hF
    exact lm_iret B hN dX9_countOf_124
  have hF := lm_itn c2_7 hF
  by_cases c2_8 : x1 = 8
  · have hF := lm_itp c2_8 hF
    refine lv_tableIn (tgt := 125) hx hb dX9_countOf_5 (by rw [c2_8]; decide) (by rw [c2_8]; decide) (by rw [c2_8]; rfl) (by decide) ?_
    refine lv_aload_n hx hb dX9_countOf_125 rfl (lv_at hl 0 rfl) ?_
    refine lm_get B hN (ci := 9) hiX9 0 rfl rfl 19 (by decide) (by decide +kernel) (v := .int (t1_0.1 9)) rfl dX9_countOf_126 ?_
    cases hF
    exact lm_iret B hN dX9_countOf_129
  have hF := lm_itn c2_8 hF
  by_cases c2_9 : x1 = 9
  · have hF := lm_itp c2_9 hF
    refine lv_tableIn (tgt := 130) hx hb dX9_countOf_5 (by rw [c2_9]; decide) (by rw [c2_9]; decide) (by rw [c2_9]; rfl) (by decide) ?_
    refine lv_aload_n hx hb dX9_countOf_130 rfl (lv_at hl 0 rfl) ?_
    refine lm_get B hN (ci := 9) hiX9 0 rfl rfl 1 (by decide) (by decide +kernel) (v := .int (t1_0.1 0)) rfl dX9_countOf_131 ?_
    cases hF
    exact lm_iret B hN dX9_countOf_134
  have hF := lm_itn c2_9 hF
  by_cases c2_10 : x1 = 10
  · have hF := lm_itp c2_10 hF
    refine lv_tableIn (tgt := 135) hx hb dX9_countOf_5 (by rw [c2_10]; decide) (by rw [c2_10]; decide) (by rw [c2_10]; rfl) (by decide) ?_
    refine lv_aload_n hx hb dX9_countOf_135 rfl (lv_at hl 0 rfl) ?_
    refine lm_get B hN (ci := 9) hiX9 0 rfl rfl 7 (by decide) (by decide +kernel) (v := .int (t1_0.1 6)) rfl dX9_countOf_136 ?_
    cases hF
    exact lm_iret B hN dX9_countOf_139
  have hF := lm_itn c2_10 hF
  by_cases c2_11 : x1 = 11
  · have hF := lm_itp c2_11 hF
    refine lv_tableIn (tgt := 140) hx hb dX9_countOf_5 (by rw [c2_11]; decide) (by rw [c2_11]; decide) (by rw [c2_11]; rfl) (by decide) ?_
    refine lv_aload_n hx hb dX9_countOf_140 rfl (lv_at hl 0 rfl) ?_
    refine lm_get B hN (ci := 9) hiX9 0 rfl rfl 17 (by decide) (by decide +kernel) (v := .int (t1_0.1 8)) rfl dX9_countOf_141 ?_
    cases hF
    exact lm_iret B hN dX9_countOf_144
  have hF := lm_itn c2_11 hF
  have ic2_0 := lm_ti (n := 0) (by decide) c2_0
  have ic2_1 := lm_ti (n := 1) (by decide) c2_1
  have ic2_2 := lm_ti (n := 2) (by decide) c2_2
  have ic2_3 := lm_ti (n := 3) (by decide) c2_3
  have ic2_4 := lm_ti (n := 4) (by decide) c2_4
  have ic2_5 := lm_ti (n := 5) (by decide) c2_5
  have ic2_6 := lm_ti (n := 6) (by decide) c2_6
  have ic2_7 := lm_ti (n := 7) (by decide) c2_7
  have ic2_8 := lm_ti (n := 8) (by decide) c2_8
  have ic2_9 := lm_ti (n := 9) (by decide) c2_9
  have ic2_10 := lm_ti (n := 10) (by decide) c2_10
  have ic2_11 := lm_ti (n := 11) (by decide) c2_11
  refine lv_tableOut (tgt := 145) hx hb dX9_countOf_5 (by omega) (by decide) ?_
  refine lv_bipush (v := -102) hx hb dX9_countOf_145 (by decide) ?_
  cases hF
  exact lm_iret B hN dX9_countOf_147
def fX9_fault (s0 : lm_St) : Option (Int32 × lm_St) := (fX9_faultOf s0).bind (fun v1 => lm_un2 v1 (fun r1 t1_0 => some (r1, t1_0)))
set_option maxHeartbeats 4000000 in
set_option maxRecDepth 100000 in
theorem hX9_fault (l : Launch) (G : lm_G) (q0 : Nat → Nat) {s0 : lm_St} {R : Int32 × lm_St} (hF : fX9_fault s0 = some R) : lm_C l G yX9_fault wsX9_fault 4 [.ref (q0 0)] (wX9 G q0 s0) (some (.int R.1)) (wX9 G q0 R.2) := by
  refine lm_C.of (cc := cX9_fault) (maxL := 1) (ret := (some .int)) (by decide) rfl (Nat.le_of_ble_eq_true rfl) ?_
  intro p e s m below meth c A ls B hN hl
  have hx := B.1.1
  have hb := B.1.2.1
  have hown := B.1.2.2.2.1
  have hts := B.1.2.2.2.2
  have hl : lv_has ls 1 [(0, .ref (q0 0))] := hl
  refine lv_aload_n hx hb dX9_fault_0 rfl (lv_at hl 0 rfl) ?_
  obtain ⟨⟨r1, t1_0⟩, hc1, hF⟩ := lm_bd hF
  have hF := lm_un2E hF
  refine lm_runA B hN (lm_hrV B hN hl.1 (lm_cutA B hN) (n := 0) (As := []) (rest := []) (hX9_faultOf l G q0 hc1) gX9_fault_X9_faultOf rfl (by decide +kernel) rfl (by decide) (by decide) (ci := 9) (q0 := 0) rfl rfl rfl (Nat.le_of_ble_eq_true rfl) dX9_fault_1) (fun H locs hN => ?_)
  cases hF
  exact lm_iret B hN dX9_fault_4
def bX9_house_48 (k48 : Int32 × lm_St → Option (Int32 × lm_St)) (x1_48 : Int32) (s0_48 : lm_St) : Option (Int32 × lm_St) := if (s0_48.1 2) ≤ x1_48 then (lm_gI ((s0_48.1 1) + (1 : Int32)) 32 (lm_gI ((s0_48.1 1) + (2 : Int32)) 32 (some ((s0_48.1 2), (lm_sF (lm_sF (lm_sF (lm_sF (lm_sF (lm_sF s0_48 3 ((((10 : Int32) * (((s0_48.2.1 0) ((s0_48.1 1) + (1 : Int32)).toNatClampNeg) - (48 : Int32))) + ((s0_48.2.1 0) ((s0_48.1 1) + (2 : Int32)).toNatClampNeg)) - (48 : Int32))) 4 (0 : Int32)) 5 (0 : Int32)) 9 (0 : Int32)) 6 ((s0_48.1 6) + (1 : Int32))) 0 (0 : Int32)))))) else (lm_gI ((4 : Int32) * x1_48) 32 ((fX9_kindBy ((s0_48.2.1 0) ((4 : Int32) * x1_48).toNatClampNeg)).bind (fun r5 => lm_gI x1_48 7 (lm_gI (((4 : Int32) * x1_48) + (1 : Int32)) 32 (lm_gI x1_48 7 (lm_gI (((4 : Int32) * x1_48) + (2 : Int32)) 32 (lm_gI x1_48 7 (lm_gI x1_48 7 (lm_gI x1_48 7 (k48 ((x1_48 + 1), (lm_sA (lm_sA (lm_sA (lm_sA (lm_sA s0_48 1 (upd (s0_48.2.1 1) x1_48.toNatClampNeg r5)) 2 (upd (s0_48.2.1 2) x1_48.toNatClampNeg (((s0_48.2.1 0) (((4 : Int32) * x1_48) + (1 : Int32)).toNatClampNeg) - (48 : Int32)))) 3 (upd (s0_48.2.1 3) x1_48.toNatClampNeg (((s0_48.2.1 0) (((4 : Int32) * x1_48) + (2 : Int32)).toNatClampNeg) - (48 : Int32)))) 4 (upd (s0_48.2.1 4) x1_48.toNatClampNeg (0 : Int32))) 5 (upd (s0_48.2.1 5) x1_48.toNatClampNeg (0 : Int32))))))))))))))
def fX9_house (s0 : lm_St) : Option (Int32 × lm_St) := (fX9_faultOf s0).bind (fun v13 => lm_un2 v13 (fun r13 t13_0 => if r13 < (t13_0.1 0) then (some ((-103 : Int32), t13_0)) else (if (t13_0.1 1) = 0 then (some ((-103 : Int32), t13_0)) else (if (t13_0.1 0) = ((t13_0.1 1) + (3 : Int32)) then (lm_lp (fun k a => bX9_house_48 k a.1 a.2) 5000 ((0 : Int32), (lm_sF t13_0 2 (((t13_0.1 1) + (1 : Int32)) / (4 : Int32))))) else (some ((-103 : Int32), t13_0))))))
set_option maxHeartbeats 4000000 in
set_option maxRecDepth 100000 in
theorem hX9_house (l : Launch) (G : lm_G) (q0 : Nat → Nat) {s0 : lm_St} {R : Int32 × lm_St} (hF : fX9_house s0 = some R) : lm_C l G yX9_house wsX9_house 4 [.ref (q0 0)] (wX9 G q0 s0) (some (.int R.1)) (wX9 G q0 R.2) := by
  refine lm_C.of (cc := cX9_house) (maxL := 2) (ret := (some .int)) (by decide) rfl (Nat.le_of_ble_eq_true rfl) ?_
  intro p e s m below meth c A ls B hN hl
  have hx := B.1.1
  have hb := B.1.2.1
  have hown := B.1.2.2.2.1
  have hts := B.1.2.2.2.2
  have hiX9 : ∀ w ∈ wsX90, w ∈ wsX9_house := by decide +kernel
  have hl : lv_has ls 2 [(0, .ref (q0 0))] := hl
  have L48 : ∀ (n : Nat) (x1_48 : Int32) (s0_48 : lm_St) (H : Heap) (locs : List Loc) (ls : Array Slot), lm_lp (fun k a => bX9_house_48 k a.1 a.2) n (x1_48, s0_48) = some R → lm_N G A s (wX9 G q0 s0_48) H locs → lv_has ls 2 [(0, .ref (q0 0)), (1, .int x1_48)] → W p l e (lm_rk 4) s m ([.ref (q0 0)] : List Value).toArray below meth c H locs 0 0 (MQ below (lm_post G (wX9 G q0 R.2) (some (.int R.1)) A) ([.ref (q0 0)] : List Value).toArray s 0 0 A) (F0 m 48 ls []) := by
    intro n
    induction n with
    | zero => intro x1_48 s0_48 H locs ls hF; exact (lm_lpz hF).elim
    | succ n ih48 =>
      intro x1_48 s0_48 H locs ls hF hN hl
      have hF : bX9_house_48 (lm_lp (fun k a => bX9_house_48 k a.1 a.2) n) x1_48 s0_48 = some R := lm_lps hF
      generalize lm_lp (fun k a => bX9_house_48 k a.1 a.2) n = k48 at hF ih48
      refine lv_iload_n hx hb dX9_house_48 rfl (lv_at hl 1 rfl) ?_
      refine lv_aload_n hx hb dX9_house_49 rfl (lv_at hl 0 rfl) ?_
      refine lm_get B hN (ci := 9) hiX9 0 rfl rfl 3 (by decide) (by decide +kernel) (v := .int (s0_48.1 2)) rfl dX9_house_50 ?_
      refine lv_icmp_ge (tgt := 131) hx hb dX9_house_53 (by decide) (fun c1 => ?_) (fun c1 => ?_)
      · have hF := lm_itp c1 hF
        refine lv_aload_n hx hb dX9_house_131 rfl (lv_at hl 0 rfl) ?_
        refine lv_bipush (v := 10) hx hb dX9_house_132 (by decide) ?_
        refine lv_aload_n hx hb dX9_house_134 rfl (lv_at hl 0 rfl) ?_
        refine lm_get B hN (ci := 9) hiX9 0 rfl rfl 0 (by decide) (by decide +kernel) (v := .ref (q0 1)) rfl dX9_house_135 ?_
        refine lv_aload_n hx hb dX9_house_138 rfl (lv_at hl 0 rfl) ?_
        refine lm_get B hN (ci := 9) hiX9 0 rfl rfl 2 (by decide) (by decide +kernel) (v := .int (s0_48.1 1)) rfl dX9_house_139 ?_
        refine lv_iconst (v := 1) hx hb dX9_house_142 (by decide) ?_
        refine lv_iadd hx hb dX9_house_143 ?_
        obtain ⟨z2, hF⟩ := lm_gIe hF
        refine lm_ald B hN 1 (f := (s0_48.2.1 0)) rfl z2 dX9_house_144 ?_
        refine lv_bipush (v := 48) hx hb dX9_house_145 (by decide) ?_
        refine lv_isub hx hb dX9_house_147 ?_
        refine lv_imul hx hb dX9_house_148 ?_
        refine lv_aload_n hx hb dX9_house_149 rfl (lv_at hl 0 rfl) ?_
        refine lm_get B hN (ci := 9) hiX9 0 rfl rfl 0 (by decide) (by decide +kernel) (v := .ref (q0 1)) rfl dX9_house_150 ?_
        refine lv_aload_n hx hb dX9_house_153 rfl (lv_at hl 0 rfl) ?_
        refine lm_get B hN (ci := 9) hiX9 0 rfl rfl 2 (by decide) (by decide +kernel) (v := .int (s0_48.1 1)) rfl dX9_house_154 ?_
        refine lv_iconst (v := 2) hx hb dX9_house_157 (by decide) ?_
        refine lv_iadd hx hb dX9_house_158 ?_
        obtain ⟨z3, hF⟩ := lm_gIe hF
        refine lm_ald B hN 1 (f := (s0_48.2.1 0)) rfl z3 dX9_house_159 ?_
        refine lv_iadd hx hb dX9_house_160 ?_
        refine lv_bipush (v := 48) hx hb dX9_house_161 (by decide) ?_
        refine lv_isub hx hb dX9_house_163 ?_
        refine lm_put B hN (ci := 9) hiX9 tyX9 tyX9_ok nmX9 0 rfl rfl 4 (by decide) (by decide +kernel) (by decide) (v := .int ((((10 : Int32) * (((s0_48.2.1 0) ((s0_48.1 1) + (1 : Int32)).toNatClampNeg) - (48 : Int32))) + ((s0_48.2.1 0) ((s0_48.1 1) + (2 : Int32)).toNatClampNeg)) - (48 : Int32))) rfl rfl (Nat.le_of_ble_eq_true rfl) (wX9 G q0 (lm_sF s0_48 3 ((((10 : Int32) * (((s0_48.2.1 0) ((s0_48.1 1) + (1 : Int32)).toNatClampNeg) - (48 : Int32))) + ((s0_48.2.1 0) ((s0_48.1 1) + (2 : Int32)).toNatClampNeg)) - (48 : Int32)))) (wX9_r0f3 _ _ _ _) dX9_house_164 (fun H locs hN => ?_)
        refine lv_aload_n hx hb dX9_house_167 rfl (lv_at hl 0 rfl) ?_
        refine lv_iconst (v := 0) hx hb dX9_house_168 (by decide) ?_
        refine lm_put B hN (ci := 9) hiX9 tyX9 tyX9_ok nmX9 0 rfl rfl 5 (by decide) (by decide +kernel) (by decide) (v := .int (0 : Int32)) rfl rfl (Nat.le_of_ble_eq_true rfl) (wX9 G q0 (lm_sF (lm_sF s0_48 3 ((((10 : Int32) * (((s0_48.2.1 0) ((s0_48.1 1) + (1 : Int32)).toNatClampNeg) - (48 : Int32))) + ((s0_48.2.1 0) ((s0_48.1 1) + (2 : Int32)).toNatClampNeg)) - (48 : Int32))) 4 (0 : Int32))) (wX9_r0f4 _ _ _ _) dX9_house_169 (fun H locs hN => ?_)
        refine lv_aload_n hx hb dX9_house_172 rfl (lv_at hl 0 rfl) ?_
        refine lv_iconst (v := 0) hx hb dX9_house_173 (by decide) ?_
        refine lm_put B hN (ci := 9) hiX9 tyX9 tyX9_ok nmX9 0 rfl rfl 6 (by decide) (by decide +kernel) (by decide) (v := .int (0 : Int32)) rfl rfl (Nat.le_of_ble_eq_true rfl) (wX9 G q0 (lm_sF (lm_sF (lm_sF s0_48 3 ((((10 : Int32) * (((s0_48.2.1 0) ((s0_48.1 1) + (1 : Int32)).toNatClampNeg) - (48 : Int32))) + ((s0_48.2.1 0) ((s0_48.1 1) + (2 : Int32)).toNatClampNeg)) - (48 : Int32))) 4 (0 : Int32)) 5 (0 : Int32))) (wX9_r0f5 _ _ _ _) dX9_house_174 (fun H locs hN => ?_)
        refine lv_aload_n hx hb dX9_house_177 rfl (lv_at hl 0 rfl) ?_
        refine lv_iconst (v := 0) hx hb dX9_house_178 (by decide) ?_
        refine lm_put B hN (ci := 9) hiX9 tyX9 tyX9_ok nmX9 0 rfl rfl 19 (by decide) (by decide +kernel) (by decide) (v := .int (0 : Int32)) rfl rfl (Nat.le_of_ble_eq_true rfl) (wX9 G q0 (lm_sF (lm_sF (lm_sF (lm_sF s0_48 3 ((((10 : Int32) * (((s0_48.2.1 0) ((s0_48.1 1) + (1 : Int32)).toNatClampNeg) - (48 : Int32))) + ((s0_48.2.1 0) ((s0_48.1 1) + (2 : Int32)).toNatClampNeg)) - (48 : Int32))) 4 (0 : Int32)) 5 (0 : Int32)) 9 (0 : Int32))) (wX9_r0f9 _ _ _ _) dX9_house_179 (fun H locs hN => ?_)
        refine lv_aload_n hx hb dX9_house_182 rfl (lv_at hl 0 rfl) ?_
        refine lv_dup hx hb dX9_house_183 rfl ?_
        refine lm_get B hN (ci := 9) hiX9 0 rfl rfl 7 (by decide) (by decide +kernel) (v := .int (s0_48.1 6)) rfl dX9_house_184 ?_
        refine lv_iconst (v := 1) hx hb dX9_house_187 (by decide) ?_
        refine lv_iadd hx hb dX9_house_188 ?_
        refine lm_put B hN (ci := 9) hiX9 tyX9 tyX9_ok nmX9 0 rfl rfl 7 (by decide) (by decide +kernel) (by decide) (v := .int ((s0_48.1 6) + (1 : Int32))) rfl rfl (Nat.le_of_ble_eq_true rfl) (wX9 G q0 (lm_sF (lm_sF (lm_sF (lm_sF (lm_sF s0_48 3 ((((10 : Int32) * (((s0_48.2.1 0) ((s0_48.1 1) + (1 : Int32)).toNatClampNeg) - (48 : Int32))) + ((s0_48.2.1 0) ((s0_48.1 1) + (2 : Int32)).toNatClampNeg)) - (48 : Int32))) 4 (0 : Int32)) 5 (0 : Int32)) 9 (0 : Int32)) 6 ((s0_48.1 6) + (1 : Int32)))) (wX9_r0f6 _ _ _ _) dX9_house_189 (fun H locs hN => ?_)
        refine lv_aload_n hx hb dX9_house_192 rfl (lv_at hl 0 rfl) ?_
        refine lv_iconst (v := 0) hx hb dX9_house_193 (by decide) ?_
        refine lm_put B hN (ci := 9) hiX9 tyX9 tyX9_ok nmX9 0 rfl rfl 1 (by decide) (by decide +kernel) (by decide) (v := .int (0 : Int32)) rfl rfl (Nat.le_of_ble_eq_true rfl) (wX9 G q0 (lm_sF (lm_sF (lm_sF (lm_sF (lm_sF (lm_sF s0_48 3 ((((10 : Int32) * (((s0_48.2.1 0) ((s0_48.1 1) + (1 : Int32)).toNatClampNeg) - (48 : Int32))) + ((s0_48.2.1 0) ((s0_48.1 1) + (2 : Int32)).toNatClampNeg)) - (48 : Int32))) 4 (0 : Int32)) 5 (0 : Int32)) 9 (0 : Int32)) 6 ((s0_48.1 6) + (1 : Int32))) 0 (0 : Int32))) (wX9_r0f0 _ _ _ _) dX9_house_194 (fun H locs hN => ?_)
        refine lv_aload_n hx hb dX9_house_197 rfl (lv_at hl 0 rfl) ?_
        refine lm_get B hN (ci := 9) hiX9 0 rfl rfl 3 (by decide) (by decide +kernel) (v := .int (s0_48.1 2)) rfl dX9_house_198 ?_
        cases hF
        exact lm_iret B hN dX9_house_201
      · have hF := lm_itn c1 hF
        refine lv_aload_n hx hb dX9_house_56 rfl (lv_at hl 0 rfl) ?_
        refine lm_get B hN (ci := 9) hiX9 0 rfl rfl 8 (by decide) (by decide +kernel) (v := .ref (q0 2)) rfl dX9_house_57 ?_
        refine lv_iload_n hx hb dX9_house_60 rfl (lv_at hl 1 rfl) ?_
        refine lv_aload_n hx hb dX9_house_61 rfl (lv_at hl 0 rfl) ?_
        refine lm_get B hN (ci := 9) hiX9 0 rfl rfl 0 (by decide) (by decide +kernel) (v := .ref (q0 1)) rfl dX9_house_62 ?_
        refine lv_iconst (v := 4) hx hb dX9_house_65 (by decide) ?_
        refine lv_iload_n hx hb dX9_house_66 rfl (lv_at hl 1 rfl) ?_
        refine lv_imul hx hb dX9_house_67 ?_
        obtain ⟨z4, hF⟩ := lm_gIe hF
        refine lm_ald B hN 1 (f := (s0_48.2.1 0)) rfl z4 dX9_house_68 ?_
        obtain ⟨r5, hc5, hF⟩ := lm_bd hF
        refine lm_run0 B hN (lm_hrT B hN hl.1 (lm_cut0 B hN) (n := 1) (As := [.int ((s0_48.2.1 0) ((4 : Int32) * x1_48).toNatClampNeg)]) (rest := [.int x1_48, .ref (q0 2)]) (hX9_kindBy l G hc5) gX9_house_X9_kindBy rfl (by decide +kernel) rfl (by decide) (by decide) rfl (Nat.le_of_ble_eq_true rfl) dX9_house_69) (fun H locs hN => ?_)
        obtain ⟨z6, hF⟩ := lm_gIe hF
        refine lm_ast B hN 2 (f := (s0_48.2.1 1)) rfl z6 (wX9 G q0 (lm_sA s0_48 1 (upd (s0_48.2.1 1) x1_48.toNatClampNeg r5))) (wX9_r0a1 _ _ _ _) dX9_house_72 (fun H locs hN => ?_)
        refine lv_aload_n hx hb dX9_house_73 rfl (lv_at hl 0 rfl) ?_
        refine lm_get B hN (ci := 9) hiX9 0 rfl rfl 9 (by decide) (by decide +kernel) (v := .ref (q0 3)) rfl dX9_house_74 ?_
        refine lv_iload_n hx hb dX9_house_77 rfl (lv_at hl 1 rfl) ?_
        refine lv_aload_n hx hb dX9_house_78 rfl (lv_at hl 0 rfl) ?_
        refine lm_get B hN (ci := 9) hiX9 0 rfl rfl 0 (by decide) (by decide +kernel) (v := .ref (q0 1)) rfl dX9_house_79 ?_
        refine lv_iconst (v := 4) hx hb dX9_house_82 (by decide) ?_
        refine lv_iload_n hx hb dX9_house_83 rfl (lv_at hl 1 rfl) ?_
        refine lv_imul hx hb dX9_house_84 ?_
        refine lv_iconst (v := 1) hx hb dX9_house_85 (by decide) ?_
        refine lv_iadd hx hb dX9_house_86 ?_
        obtain ⟨z7, hF⟩ := lm_gIe hF
        refine lm_ald B hN 1 (f := (s0_48.2.1 0)) rfl z7 dX9_house_87 ?_
        refine lv_bipush (v := 48) hx hb dX9_house_88 (by decide) ?_
        refine lv_isub hx hb dX9_house_90 ?_
        obtain ⟨z8, hF⟩ := lm_gIe hF
        refine lm_ast B hN 3 (f := (s0_48.2.1 2)) rfl z8 (wX9 G q0 (lm_sA (lm_sA s0_48 1 (upd (s0_48.2.1 1) x1_48.toNatClampNeg r5)) 2 (upd (s0_48.2.1 2) x1_48.toNatClampNeg (((s0_48.2.1 0) (((4 : Int32) * x1_48) + (1 : Int32)).toNatClampNeg) - (48 : Int32))))) (wX9_r0a2 _ _ _ _) dX9_house_91 (fun H locs hN => ?_)
        refine lv_aload_n hx hb dX9_house_92 rfl (lv_at hl 0 rfl) ?_
        refine lm_get B hN (ci := 9) hiX9 0 rfl rfl 10 (by decide) (by decide +kernel) (v := .ref (q0 4)) rfl dX9_house_93 ?_
        refine lv_iload_n hx hb dX9_house_96 rfl (lv_at hl 1 rfl) ?_
        refine lv_aload_n hx hb dX9_house_97 rfl (lv_at hl 0 rfl) ?_
        refine lm_get B hN (ci := 9) hiX9 0 rfl rfl 0 (by decide) (by decide +kernel) (v := .ref (q0 1)) rfl dX9_house_98 ?_
        refine lv_iconst (v := 4) hx hb dX9_house_101 (by decide) ?_
        refine lv_iload_n hx hb dX9_house_102 rfl (lv_at hl 1 rfl) ?_
        refine lv_imul hx hb dX9_house_103 ?_
        refine lv_iconst (v := 2) hx hb dX9_house_104 (by decide) ?_
        refine lv_iadd hx hb dX9_house_105 ?_
        obtain ⟨z9, hF⟩ := lm_gIe hF
        refine lm_ald B hN 1 (f := (s0_48.2.1 0)) rfl z9 dX9_house_106 ?_
        refine lv_bipush (v := 48) hx hb dX9_house_107 (by decide) ?_
        refine lv_isub hx hb dX9_house_109 ?_
        obtain ⟨z10, hF⟩ := lm_gIe hF
        refine lm_ast B hN 4 (f := (s0_48.2.1 3)) rfl z10 (wX9 G q0 (lm_sA (lm_sA (lm_sA s0_48 1 (upd (s0_48.2.1 1) x1_48.toNatClampNeg r5)) 2 (upd (s0_48.2.1 2) x1_48.toNatClampNeg (((s0_48.2.1 0) (((4 : Int32) * x1_48) + (1 : Int32)).toNatClampNeg) - (48 : Int32)))) 3 (upd (s0_48.2.1 3) x1_48.toNatClampNeg (((s0_48.2.1 0) (((4 : Int32) * x1_48) + (2 : Int32)).toNatClampNeg) - (48 : Int32))))) (wX9_r0a3 _ _ _ _) dX9_house_110 (fun H locs hN => ?_)
        refine lv_aload_n hx hb dX9_house_111 rfl (lv_at hl 0 rfl) ?_
        refine lm_get B hN (ci := 9) hiX9 0 rfl rfl 11 (by decide) (by decide +kernel) (v := .ref (q0 5)) rfl dX9_house_112 ?_
        refine lv_iload_n hx hb dX9_house_115 rfl (lv_at hl 1 rfl) ?_
        refine lv_iconst (v := 0) hx hb dX9_house_116 (by decide) ?_
        obtain ⟨z11, hF⟩ := lm_gIe hF
        refine lm_ast B hN 5 (f := (s0_48.2.1 4)) rfl z11 (wX9 G q0 (lm_sA (lm_sA (lm_sA (lm_sA s0_48 1 (upd (s0_48.2.1 1) x1_48.toNatClampNeg r5)) 2 (upd (s0_48.2.1 2) x1_48.toNatClampNeg (((s0_48.2.1 0) (((4 : Int32) * x1_48) + (1 : Int32)).toNatClampNeg) - (48 : Int32)))) 3 (upd (s0_48.2.1 3) x1_48.toNatClampNeg (((s0_48.2.1 0) (((4 : Int32) * x1_48) + (2 : Int32)).toNatClampNeg) - (48 : Int32)))) 4 (upd (s0_48.2.1 4) x1_48.toNatClampNeg (0 : Int32)))) (wX9_r0a4 _ _ _ _) dX9_house_117 (fun H locs hN => ?_)
        refine lv_aload_n hx hb dX9_house_118 rfl (lv_at hl 0 rfl) ?_
        refine lm_get B hN (ci := 9) hiX9 0 rfl rfl 12 (by decide) (by decide +kernel) (v := .ref (q0 6)) rfl dX9_house_119 ?_
        refine lv_iload_n hx hb dX9_house_122 rfl (lv_at hl 1 rfl) ?_
        refine lv_iconst (v := 0) hx hb dX9_house_123 (by decide) ?_
        obtain ⟨z12, hF⟩ := lm_gIe hF
        refine lm_ast B hN 6 (f := (s0_48.2.1 5)) rfl z12 (wX9 G q0 (lm_sA (lm_sA (lm_sA (lm_sA (lm_sA s0_48 1 (upd (s0_48.2.1 1) x1_48.toNatClampNeg r5)) 2 (upd (s0_48.2.1 2) x1_48.toNatClampNeg (((s0_48.2.1 0) (((4 : Int32) * x1_48) + (1 : Int32)).toNatClampNeg) - (48 : Int32)))) 3 (upd (s0_48.2.1 3) x1_48.toNatClampNeg (((s0_48.2.1 0) (((4 : Int32) * x1_48) + (2 : Int32)).toNatClampNeg) - (48 : Int32)))) 4 (upd (s0_48.2.1 4) x1_48.toNatClampNeg (0 : Int32))) 5 (upd (s0_48.2.1 5) x1_48.toNatClampNeg (0 : Int32)))) (wX9_r0a5 _ _ _ _) dX9_house_124 (fun H locs hN => ?_)
        refine lv_iinc (v := (x1_48 + 1)) (lv' := [(1, .int (x1_48 + 1)), (0, .ref (q0 0))]) hx hb dX9_house_125 hl (k := 1) rfl rfl (by decide) rfl (fun ls hl => ?_)
        refine lv_goto (tgt := 48) hx hb dX9_house_128 (by decide) ?_
        exact ih48 _ _ _ _ _ hF hN (lv_sub hl [1, 0] rfl)
  refine lv_aload_n hx hb dX9_house_0 rfl (lv_at hl 0 rfl) ?_
  obtain ⟨⟨r13, t13_0⟩, hc13, hF⟩ := lm_bd hF
  have hF := lm_un2E hF
  refine lm_runA B hN (lm_hrV B hN hl.1 (lm_cutA B hN) (n := 0) (As := []) (rest := []) (hX9_faultOf l G q0 hc13) gX9_house_X9_faultOf rfl (by decide +kernel) rfl (by decide) (by decide) (ci := 9) (q0 := 0) rfl rfl rfl (Nat.le_of_ble_eq_true rfl) dX9_house_1) (fun H locs hN => ?_)
  refine lv_aload_n hx hb dX9_house_4 rfl (lv_at hl 0 rfl) ?_
  refine lm_get B hN (ci := 9) hiX9 0 rfl rfl 1 (by decide) (by decide +kernel) (v := .int (t13_0.1 0)) rfl dX9_house_5 ?_
  refine lv_icmp_lt (tgt := 31) hx hb dX9_house_8 (by decide) (fun c14 => ?_) (fun c14 => ?_)
  · have hF := lm_itp c14 hF
    refine lv_bipush (v := -103) hx hb dX9_house_31 (by decide) ?_
    cases hF
    exact lm_iret B hN dX9_house_33
  · have hF := lm_itn c14 hF
    refine lv_aload_n hx hb dX9_house_11 rfl (lv_at hl 0 rfl) ?_
    refine lm_get B hN (ci := 9) hiX9 0 rfl rfl 2 (by decide) (by decide +kernel) (v := .int (t13_0.1 1)) rfl dX9_house_12 ?_
    refine lv_if_eq (tgt := 31) hx hb dX9_house_15 (by decide) (fun c15 => ?_) (fun c15 => ?_)
    · have hF := lm_itp c15 hF
      refine lv_bipush (v := -103) hx hb dX9_house_31 (by decide) ?_
      cases hF
      exact lm_iret B hN dX9_house_33
    · have hF := lm_itn c15 hF
      refine lv_aload_n hx hb dX9_house_18 rfl (lv_at hl 0 rfl) ?_
      refine lm_get B hN (ci := 9) hiX9 0 rfl rfl 1 (by decide) (by decide +kernel) (v := .int (t13_0.1 0)) rfl dX9_house_19 ?_
      refine lv_aload_n hx hb dX9_house_22 rfl (lv_at hl 0 rfl) ?_
      refine lm_get B hN (ci := 9) hiX9 0 rfl rfl 2 (by decide) (by decide +kernel) (v := .int (t13_0.1 1)) rfl dX9_house_23 ?_
      refine lv_iconst (v := 3) hx hb dX9_house_26 (by decide) ?_
      refine lv_iadd hx hb dX9_house_27 ?_
      refine lv_icmp_eq (tgt := 34) hx hb dX9_house_28 (by decide) (fun c16 => ?_) (fun c16 => ?_)
      · have hF := lm_itp c16 hF
        refine lv_aload_n hx hb dX9_house_34 rfl (lv_at hl 0 rfl) ?_
        refine lv_aload_n hx hb dX9_house_35 rfl (lv_at hl 0 rfl) ?_
        refine lm_get B hN (ci := 9) hiX9 0 rfl rfl 2 (by decide) (by decide +kernel) (v := .int (t13_0.1 1)) rfl dX9_house_36 ?_
        refine lv_iconst (v := 1) hx hb dX9_house_39 (by decide) ?_
        refine lv_iadd hx hb dX9_house_40 ?_
        refine lv_iconst (v := 4) hx hb dX9_house_41 (by decide) ?_
        refine lv_idiv hx hb dX9_house_42 (by decide) ?_
        refine lm_put B hN (ci := 9) hiX9 tyX9 tyX9_ok nmX9 0 rfl rfl 3 (by decide) (by decide +kernel) (by decide) (v := .int (((t13_0.1 1) + (1 : Int32)) / (4 : Int32))) rfl rfl (Nat.le_of_ble_eq_true rfl) (wX9 G q0 (lm_sF t13_0 2 (((t13_0.1 1) + (1 : Int32)) / (4 : Int32)))) (wX9_r0f2 _ _ _ _) dX9_house_43 (fun H locs hN => ?_)
        refine lv_iconst (v := 0) hx hb dX9_house_46 (by decide) ?_
        refine lv_istore_n (lv' := [(1, .int (0 : Int32)), (0, .ref (q0 0))]) hx hb dX9_house_47 rfl hl (by decide) rfl (fun ls hl => ?_)
        exact L48 5000 _ _ _ _ _ hF hN (lv_sub hl [1, 0] rfl)
      · have hF := lm_itn c16 hF
        refine lv_bipush (v := -103) hx hb dX9_house_31 (by decide) ?_
        cases hF
        exact lm_iret B hN dX9_house_33
def jX9_makeUpOf_77 (k12 : Int32 × Int32 × Int32 × Int32 × lm_St → Option (Int32 × lm_St)) (x1_77 : Int32) (x2_77 : Int32) (x3_77 : Int32) (x4_77 : Int32) (s0_77 : lm_St) : Option (Int32 × lm_St) := k12 (x1_77, x2_77, x3_77, (x4_77 + 1), s0_77)
def bX9_makeUpOf_12 (k12 : Int32 × Int32 × Int32 × Int32 × lm_St → Option (Int32 × lm_St)) (x1_12 : Int32) (x2_12 : Int32) (x3_12 : Int32) (x4_12 : Int32) (s0_12 : lm_St) : Option (Int32 × lm_St) := if ((1 : Int32) <<< ((s0_12.1 2) &&& 31)) ≤ x4_12 then (if x2_12 = (-1 : Int32) then (some (x2_12, s0_12)) else (if x1_12 = (2 : Int32) then (some (x2_12, s0_12)) else (if x1_12 = 0 then (some ((x3_12 / (1000 : Int32)), s0_12)) else (some ((x3_12 - x3_12 / (1000 : Int32) * (1000 : Int32)), s0_12))))) else ((fX9_missedOf s0_12 x4_12).bind (fun v5 => lm_un2 v5 (fun r5 t5_0 => (fX9_worthOf t5_0 x4_12).bind (fun v6 => lm_un2 v6 (fun r6 t6_0 => (fX9_takenSet t6_0).bind (fun v7 => lm_un2 v7 (fun r7 t7_0 => if (x4_12 &&& r7) = 0 then ((fX9_worthOf t7_0 x4_12).bind (fun v9 => lm_un2 v9 (fun r9 t9_0 => if r9 < (t9_0.1 3) then (jX9_makeUpOf_77 k12 x1_12 x2_12 x3_12 x4_12 t9_0) else (if x3_12 ≤ (((1000 : Int32) * r5) + r6) then (jX9_makeUpOf_77 k12 x1_12 x2_12 x3_12 x4_12 t9_0) else (jX9_makeUpOf_77 k12 x1_12 x4_12 (((1000 : Int32) * r5) + r6) x4_12 t9_0))))) else (jX9_makeUpOf_77 k12 x1_12 x2_12 x3_12 x4_12 t7_0))))))))
def fX9_makeUpOf (s0 : lm_St) (x1 : Int32) : Option (Int32 × lm_St) := (fX9_begin s0).bind (fun t12_0 => lm_lp (fun k a => bX9_makeUpOf_12 k a.1 a.2.1 a.2.2.1 a.2.2.2.1 a.2.2.2.2) 5000 (x1, (-1 : Int32), (1000000 : Int32), (0 : Int32), t12_0))
set_option maxHeartbeats 4000000 in
set_option maxRecDepth 100000 in
theorem hX9_makeUpOf (l : Launch) (G : lm_G) (q0 : Nat → Nat) {s0 : lm_St} {x1 : Int32} {R : Int32 × lm_St} (hF : fX9_makeUpOf s0 x1 = some R) : lm_C l G yX9_makeUpOf wsX9_makeUpOf 4 [.ref (q0 0), .int x1] (wX9 G q0 s0) (some (.int R.1)) (wX9 G q0 R.2) := by
  refine lm_C.of (cc := cX9_makeUpOf) (maxL := 6) (ret := (some .int)) (by decide) rfl (Nat.le_of_ble_eq_true rfl) ?_
  intro p e s m below meth c A ls B hN hl
  have hx := B.1.1
  have hb := B.1.2.1
  have hown := B.1.2.2.2.1
  have hts := B.1.2.2.2.2
  have hiX9 : ∀ w ∈ wsX90, w ∈ wsX9_makeUpOf := by decide +kernel
  have hl : lv_has ls 6 [(0, .ref (q0 0)), (1, .int x1)] := hl
  have L12 : ∀ (n : Nat) (x1_12 : Int32) (x2_12 : Int32) (x3_12 : Int32) (x4_12 : Int32) (s0_12 : lm_St) (H : Heap) (locs : List Loc) (ls : Array Slot), lm_lp (fun k a => bX9_makeUpOf_12 k a.1 a.2.1 a.2.2.1 a.2.2.2.1 a.2.2.2.2) n (x1_12, x2_12, x3_12, x4_12, s0_12) = some R → lm_N G A s (wX9 G q0 s0_12) H locs → lv_has ls 6 [(0, .ref (q0 0)), (1, .int x1_12), (2, .int x2_12), (3, .int x3_12), (4, .int x4_12)] → W p l e (lm_rk 4) s m ([.ref (q0 0), .int x1] : List Value).toArray below meth c H locs 0 0 (MQ below (lm_post G (wX9 G q0 R.2) (some (.int R.1)) A) ([.ref (q0 0), .int x1] : List Value).toArray s 0 0 A) (F0 m 12 ls []) := by
    intro n
    induction n with
    | zero => intro x1_12 x2_12 x3_12 x4_12 s0_12 H locs ls hF; exact (lm_lpz hF).elim
    | succ n ih12 =>
      intro x1_12 x2_12 x3_12 x4_12 s0_12 H locs ls hF hN hl
      have hF : bX9_makeUpOf_12 (lm_lp (fun k a => bX9_makeUpOf_12 k a.1 a.2.1 a.2.2.1 a.2.2.2.1 a.2.2.2.2) n) x1_12 x2_12 x3_12 x4_12 s0_12 = some R := lm_lps hF
      generalize lm_lp (fun k a => bX9_makeUpOf_12 k a.1 a.2.1 a.2.2.1 a.2.2.2.1 a.2.2.2.2) n = k12 at hF ih12
      have J77 : ∀ (x1_77 : Int32) (x2_77 : Int32) (x3_77 : Int32) (x4_77 : Int32) (s0_77 : lm_St) (H : Heap) (locs : List Loc) (ls : Array Slot), jX9_makeUpOf_77 k12 x1_77 x2_77 x3_77 x4_77 s0_77 = some R → lm_N G A s (wX9 G q0 s0_77) H locs → lv_has ls 6 [(0, .ref (q0 0)), (1, .int x1_77), (2, .int x2_77), (3, .int x3_77), (4, .int x4_77)] → W p l e (lm_rk 4) s m ([.ref (q0 0), .int x1] : List Value).toArray below meth c H locs 0 0 (MQ below (lm_post G (wX9 G q0 R.2) (some (.int R.1)) A) ([.ref (q0 0), .int x1] : List Value).toArray s 0 0 A) (F0 m 77 ls []) := by
        intro x1_77 x2_77 x3_77 x4_77 s0_77 H locs ls hF hN hl
        refine lv_iinc (v := (x4_77 + 1)) (lv' := [(4, .int (x4_77 + 1)), (0, .ref (q0 0)), (1, .int x1_77), (2, .int x2_77), (3, .int x3_77)]) hx hb dX9_makeUpOf_77 hl (k := 4) rfl rfl (by decide) rfl (fun ls hl => ?_)
        refine lv_goto (tgt := 12) hx hb dX9_makeUpOf_80 (by decide) ?_
        exact ih12 _ _ _ _ _ _ _ _ hF hN (lv_sub hl [1, 2, 3, 4, 0] rfl)
      refine lv_iload hx hb dX9_makeUpOf_12 (lv_at hl 4 rfl) ?_
      refine lv_iconst (v := 1) hx hb dX9_makeUpOf_14 (by decide) ?_
      refine lv_aload_n hx hb dX9_makeUpOf_15 rfl (lv_at hl 0 rfl) ?_
      refine lm_get B hN (ci := 9) hiX9 0 rfl rfl 3 (by decide) (by decide +kernel) (v := .int (s0_12.1 2)) rfl dX9_makeUpOf_16 ?_
      refine lv_ishl hx hb dX9_makeUpOf_19 ?_
      refine lv_icmp_ge (tgt := 83) hx hb dX9_makeUpOf_20 (by decide) (fun c1 => ?_) (fun c1 => ?_)
      · have hF := lm_itp c1 hF
        refine lv_iload_n hx hb dX9_makeUpOf_83 rfl (lv_at hl 2 rfl) ?_
        refine lv_iconst (v := -1) hx hb dX9_makeUpOf_84 (by decide) ?_
        refine lv_icmp_eq (tgt := 93) hx hb dX9_makeUpOf_85 (by decide) (fun c2 => ?_) (fun c2 => ?_)
        · have hF := lm_itp c2 hF
          refine lv_iload_n hx hb dX9_makeUpOf_93 rfl (lv_at hl 2 rfl) ?_
          cases hF
          exact lm_iret B hN dX9_makeUpOf_94
        · have hF := lm_itn c2 hF
          refine lv_iload_n hx hb dX9_makeUpOf_88 rfl (lv_at hl 1 rfl) ?_
          refine lv_iconst (v := 2) hx hb dX9_makeUpOf_89 (by decide) ?_
          refine lv_icmp_ne (tgt := 95) hx hb dX9_makeUpOf_90 (by decide) (fun c3 => ?_) (fun c3 => ?_)
          · have hF := lm_itn c3 hF
            refine lv_iload_n hx hb dX9_makeUpOf_95 rfl (lv_at hl 1 rfl) ?_
            refine lv_if_ne (tgt := 107) hx hb dX9_makeUpOf_96 (by decide) (fun c4 => ?_) (fun c4 => ?_)
            · have hF := lm_itn c4 hF
              refine lv_iload_n hx hb dX9_makeUpOf_107 rfl (lv_at hl 3 rfl) ?_
              refine lv_sipush (v := 1000) hx hb dX9_makeUpOf_108 (by decide) ?_
              refine lv_irem hx hb dX9_makeUpOf_111 (by decide) ?_
              cases hF
              exact lm_iret B hN dX9_makeUpOf_112
            · have hF := lm_itp c4 hF
              refine lv_iload_n hx hb dX9_makeUpOf_99 rfl (lv_at hl 3 rfl) ?_
              refine lv_sipush (v := 1000) hx hb dX9_makeUpOf_100 (by decide) ?_
              refine lv_idiv hx hb dX9_makeUpOf_103 (by decide) ?_
              refine lv_goto (tgt := 112) hx hb dX9_makeUpOf_104 (by decide) ?_
              cases hF
              exact lm_iret B hN dX9_makeUpOf_112
          · have hF := lm_itp c3 hF
            refine lv_iload_n hx hb dX9_makeUpOf_93 rfl (lv_at hl 2 rfl) ?_
            cases hF
            exact lm_iret B hN dX9_makeUpOf_94
      · have hF := lm_itn c1 hF
        refine lv_sipush (v := 1000) hx hb dX9_makeUpOf_23 (by decide) ?_
        refine lv_aload_n hx hb dX9_makeUpOf_26 rfl (lv_at hl 0 rfl) ?_
        refine lv_iload hx hb dX9_makeUpOf_27 (lv_at hl 4 rfl) ?_
        obtain ⟨⟨r5, t5_0⟩, hc5, hF⟩ := lm_bd hF
        have hF := lm_un2E hF
        refine lm_runA B hN (lm_hrV B hN hl.1 (lm_cutA B hN) (n := 1) (As := [.int x4_12]) (rest := [.int (1000 : Int32)]) (hX9_missedOf l G q0 hc5) gX9_makeUpOf_X9_missedOf rfl (by decide +kernel) rfl (by decide) (by decide) (ci := 9) (q0 := 0) rfl rfl rfl (Nat.le_of_ble_eq_true rfl) dX9_makeUpOf_29) (fun H locs hN => ?_)
        refine lv_imul hx hb dX9_makeUpOf_32 ?_
        refine lv_aload_n hx hb dX9_makeUpOf_33 rfl (lv_at hl 0 rfl) ?_
        refine lv_iload hx hb dX9_makeUpOf_34 (lv_at hl 4 rfl) ?_
        obtain ⟨⟨r6, t6_0⟩, hc6, hF⟩ := lm_bd hF
        have hF := lm_un2E hF
        refine lm_runA B hN (lm_hrV B hN hl.1 (lm_cutA B hN) (n := 1) (As := [.int x4_12]) (rest := [.int ((1000 : Int32) * r5)]) (hX9_worthOf l G q0 hc6) gX9_makeUpOf_X9_worthOf rfl (by decide +kernel) rfl (by decide) (by decide) (ci := 9) (q0 := 0) rfl rfl rfl (Nat.le_of_ble_eq_true rfl) dX9_makeUpOf_36) (fun H locs hN => ?_)
        refine lv_iadd hx hb dX9_makeUpOf_39 ?_
        refine lv_istore (lv' := [(5, .int (((1000 : Int32) * r5) + r6)), (0, .ref (q0 0)), (1, .int x1_12), (2, .int x2_12), (3, .int x3_12), (4, .int x4_12)]) hx hb dX9_makeUpOf_40 hl (by decide) rfl (fun ls hl => ?_)
        refine lv_iload hx hb dX9_makeUpOf_42 (lv_at hl 5 rfl) ?_
        refine lv_aload_n hx hb dX9_makeUpOf_44 rfl (lv_at hl 1 rfl) ?_
        obtain ⟨⟨r7, t7_0⟩, hc7, hF⟩ := lm_bd hF
        have hF := lm_un2E hF
        refine lm_runA B hN (lm_hrV B hN hl.1 (lm_cutA B hN) (n := 0) (As := []) (rest := [.int x4_12]) (hX9_takenSet l G q0 hc7) gX9_makeUpOf_X9_takenSet rfl (by decide +kernel) rfl (by decide) (by decide) (ci := 9) (q0 := 0) rfl rfl rfl (Nat.le_of_ble_eq_true rfl) dX9_makeUpOf_45) (fun H locs hN => ?_)
        refine lv_iand hx hb dX9_makeUpOf_48 ?_
        refine lv_if_ne (tgt := 77) hx hb dX9_makeUpOf_49 (by decide) (fun c8 => ?_) (fun c8 => ?_)
        · have hF := lm_itn c8 hF
          exact J77 _ _ _ _ _ _ _ _ hF hN (lv_sub hl [1, 2, 3, 4, 5] rfl)
        · have hF := lm_itp c8 hF
          refine lv_aload_n hx hb dX9_makeUpOf_52 rfl (lv_at hl 1 rfl) ?_
          refine lv_iload hx hb dX9_makeUpOf_53 (lv_at hl 5 rfl) ?_
          obtain ⟨⟨r9, t9_0⟩, hc9, hF⟩ := lm_bd hF
          have hF := lm_un2E hF
          refine lm_runA B hN (lm_hrV B hN hl.1 (lm_cutA B hN) (n := 1) (As := [.int x4_12]) (rest := []) (hX9_worthOf l G q0 hc9) gX9_makeUpOf_X9_worthOf rfl (by decide +kernel) rfl (by decide) (by decide) (ci := 9) (q0 := 0) rfl rfl rfl (Nat.le_of_ble_eq_true rfl) dX9_makeUpOf_55) (fun H locs hN => ?_)
          refine lv_aload_n hx hb dX9_makeUpOf_58 rfl (lv_at hl 1 rfl) ?_
          refine lm_get B hN (ci := 9) hiX9 0 rfl rfl 4 (by decide) (by decide +kernel) (v := .int (t9_0.1 3)) rfl dX9_makeUpOf_59 ?_
          refine lv_icmp_lt (tgt := 77) hx hb dX9_makeUpOf_62 (by decide) (fun c10 => ?_) (fun c10 => ?_)
          · have hF := lm_itp c10 hF
            exact J77 _ _ _ _ _ _ _ _ hF hN (lv_sub hl [1, 2, 3, 4, 5] rfl)
          · have hF := lm_itn c10 hF
            refine lv_iload hx hb dX9_makeUpOf_65 (lv_at hl 0 rfl) ?_
            refine lv_iload_n hx hb dX9_makeUpOf_67 rfl (lv_at hl 4 rfl) ?_
            refine lv_icmp_ge (tgt := 77) hx hb dX9_makeUpOf_68 (by decide) (fun c11 => ?_) (fun c11 => ?_)
            · have hF := lm_itp c11 hF
              exact J77 _ _ _ _ _ _ _ _ hF hN (lv_sub hl [1, 2, 3, 4, 5] rfl)
            · have hF := lm_itn c11 hF
              refine lv_iload hx hb dX9_makeUpOf_71 (lv_at hl 5 rfl) ?_
              refine lv_istore_n (lv' := [(2, .int x4_12), (5, .int (((1000 : Int32) * r5) + r6)), (0, .ref (q0 0)), (1, .int x1_12), (3, .int x3_12), (4, .int x4_12)]) hx hb dX9_makeUpOf_73 rfl hl (by decide) rfl (fun ls hl => ?_)
              refine lv_iload hx hb dX9_makeUpOf_74 (lv_at hl 1 rfl) ?_
              refine lv_istore_n (lv' := [(3, .int (((1000 : Int32) * r5) + r6)), (2, .int x4_12), (5, .int (((1000 : Int32) * r5) + r6)), (0, .ref (q0 0)), (1, .int x1_12), (4, .int x4_12)]) hx hb dX9_makeUpOf_76 rfl hl (by decide) rfl (fun ls hl => ?_)
              exact J77 _ _ _ _ _ _ _ _ hF hN (lv_sub hl [3, 4, 1, 0, 5] rfl)
  refine lv_aload_n hx hb dX9_makeUpOf_0 rfl (lv_at hl 0 rfl) ?_
  obtain ⟨t12_0, hc12, hF⟩ := lm_bd hF
  refine lm_runA B hN (lm_hrV B hN hl.1 (lm_cutA B hN) (n := 0) (As := []) (rest := []) (hX9_begin l G q0 hc12) gX9_makeUpOf_X9_begin rfl (by decide +kernel) rfl (by decide) (by decide) (ci := 9) (q0 := 0) rfl rfl rfl (Nat.le_of_ble_eq_true rfl) dX9_makeUpOf_1) (fun H locs hN => ?_)
  refine lv_iconst (v := -1) hx hb dX9_makeUpOf_4 (by decide) ?_
  refine lv_istore_n (lv' := [(2, .int (-1 : Int32)), (0, .ref (q0 0)), (1, .int x1)]) hx hb dX9_makeUpOf_5 rfl hl (by decide) rfl (fun ls hl => ?_)
  refine lv_ldc (v := 1000000) hx hb hown (hts (.constant RX9 177 (1000000)) (by decide +kernel)) dX9_makeUpOf_6 ?_
  refine lv_istore_n (lv' := [(3, .int (1000000 : Int32)), (2, .int (-1 : Int32)), (0, .ref (q0 0)), (1, .int x1)]) hx hb dX9_makeUpOf_8 rfl hl (by decide) rfl (fun ls hl => ?_)
  refine lv_iconst (v := 0) hx hb dX9_makeUpOf_9 (by decide) ?_
  refine lv_istore (lv' := [(4, .int (0 : Int32)), (3, .int (1000000 : Int32)), (2, .int (-1 : Int32)), (0, .ref (q0 0)), (1, .int x1)]) hx hb dX9_makeUpOf_10 hl (by decide) rfl (fun ls hl => ?_)
  exact L12 5000 _ _ _ _ _ _ _ _ hF hN (lv_sub hl [3, 4, 2, 1, 0] rfl)
def bX9_nextOf_6 (k6 : Int32 × Int32 × lm_St → Option (Int32 × lm_St)) (x1_6 : Int32) (x2_6 : Int32) (s0_6 : lm_St) : Option (Int32 × lm_St) := if x1_6 ≤ x2_6 then ((fX9_nextThen s0_6).bind (fun v2 => lm_un2 v2 (fun r2 t2_0 => some (r2, t2_0)))) else ((fX9_dayThen s0_6).bind (fun t3_0 => k6 (x1_6, (x2_6 + 1), t3_0)))
def fX9_nextOf (s0 : lm_St) (x1 : Int32) : Option (Int32 × lm_St) := (fX9_begin s0).bind (fun t4_0 => lm_lp (fun k a => bX9_nextOf_6 k a.1 a.2.1 a.2.2) 5000 (x1, (0 : Int32), t4_0))
set_option maxHeartbeats 4000000 in
set_option maxRecDepth 100000 in
theorem hX9_nextOf (l : Launch) (G : lm_G) (q0 : Nat → Nat) {s0 : lm_St} {x1 : Int32} {R : Int32 × lm_St} (hF : fX9_nextOf s0 x1 = some R) : lm_C l G yX9_nextOf wsX9_nextOf 4 [.ref (q0 0), .int x1] (wX9 G q0 s0) (some (.int R.1)) (wX9 G q0 R.2) := by
  refine lm_C.of (cc := cX9_nextOf) (maxL := 3) (ret := (some .int)) (by decide) rfl (Nat.le_of_ble_eq_true rfl) ?_
  intro p e s m below meth c A ls B hN hl
  have hx := B.1.1
  have hb := B.1.2.1
  have hown := B.1.2.2.2.1
  have hts := B.1.2.2.2.2
  have hl : lv_has ls 3 [(0, .ref (q0 0)), (1, .int x1)] := hl
  have L6 : ∀ (n : Nat) (x1_6 : Int32) (x2_6 : Int32) (s0_6 : lm_St) (H : Heap) (locs : List Loc) (ls : Array Slot), lm_lp (fun k a => bX9_nextOf_6 k a.1 a.2.1 a.2.2) n (x1_6, x2_6, s0_6) = some R → lm_N G A s (wX9 G q0 s0_6) H locs → lv_has ls 3 [(0, .ref (q0 0)), (1, .int x1_6), (2, .int x2_6)] → W p l e (lm_rk 4) s m ([.ref (q0 0), .int x1] : List Value).toArray below meth c H locs 0 0 (MQ below (lm_post G (wX9 G q0 R.2) (some (.int R.1)) A) ([.ref (q0 0), .int x1] : List Value).toArray s 0 0 A) (F0 m 6 ls []) := by
    intro n
    induction n with
    | zero => intro x1_6 x2_6 s0_6 H locs ls hF; exact (lm_lpz hF).elim
    | succ n ih6 =>
      intro x1_6 x2_6 s0_6 H locs ls hF hN hl
      have hF : bX9_nextOf_6 (lm_lp (fun k a => bX9_nextOf_6 k a.1 a.2.1 a.2.2) n) x1_6 x2_6 s0_6 = some R := lm_lps hF
      generalize lm_lp (fun k a => bX9_nextOf_6 k a.1 a.2.1 a.2.2) n = k6 at hF ih6
      refine lv_iload_n hx hb dX9_nextOf_6 rfl (lv_at hl 2 rfl) ?_
      refine lv_iload_n hx hb dX9_nextOf_7 rfl (lv_at hl 1 rfl) ?_
      refine lv_icmp_ge (tgt := 21) hx hb dX9_nextOf_8 (by decide) (fun c1 => ?_) (fun c1 => ?_)
      · have hF := lm_itp c1 hF
        refine lv_aload_n hx hb dX9_nextOf_21 rfl (lv_at hl 0 rfl) ?_
        obtain ⟨⟨r2, t2_0⟩, hc2, hF⟩ := lm_bd hF
        have hF := lm_un2E hF
        refine lm_runA B hN (lm_hrV B hN hl.1 (lm_cutA B hN) (n := 0) (As := []) (rest := []) (hX9_nextThen l G q0 hc2) gX9_nextOf_X9_nextThen rfl (by decide +kernel) rfl (by decide) (by decide) (ci := 9) (q0 := 0) rfl rfl rfl (Nat.le_of_ble_eq_true rfl) dX9_nextOf_22) (fun H locs hN => ?_)
        cases hF
        exact lm_iret B hN dX9_nextOf_25
      · have hF := lm_itn c1 hF
        refine lv_aload_n hx hb dX9_nextOf_11 rfl (lv_at hl 0 rfl) ?_
        obtain ⟨t3_0, hc3, hF⟩ := lm_bd hF
        refine lm_runA B hN (lm_hrV B hN hl.1 (lm_cutA B hN) (n := 0) (As := []) (rest := []) (hX9_dayThen l G q0 hc3) gX9_nextOf_X9_dayThen rfl (by decide +kernel) rfl (by decide) (by decide) (ci := 9) (q0 := 0) rfl rfl rfl (Nat.le_of_ble_eq_true rfl) dX9_nextOf_12) (fun H locs hN => ?_)
        refine lv_iinc (v := (x2_6 + 1)) (lv' := [(2, .int (x2_6 + 1)), (0, .ref (q0 0)), (1, .int x1_6)]) hx hb dX9_nextOf_15 hl (k := 2) rfl rfl (by decide) rfl (fun ls hl => ?_)
        refine lv_goto (tgt := 6) hx hb dX9_nextOf_18 (by decide) ?_
        exact ih6 _ _ _ _ _ _ hF hN (lv_sub hl [1, 2, 0] rfl)
  refine lv_aload_n hx hb dX9_nextOf_0 rfl (lv_at hl 0 rfl) ?_
  obtain ⟨t4_0, hc4, hF⟩ := lm_bd hF
  refine lm_runA B hN (lm_hrV B hN hl.1 (lm_cutA B hN) (n := 0) (As := []) (rest := []) (hX9_begin l G q0 hc4) gX9_nextOf_X9_begin rfl (by decide +kernel) rfl (by decide) (by decide) (ci := 9) (q0 := 0) rfl rfl rfl (Nat.le_of_ble_eq_true rfl) dX9_nextOf_1) (fun H locs hN => ?_)
  refine lv_iconst (v := 0) hx hb dX9_nextOf_4 (by decide) ?_
  refine lv_istore_n (lv' := [(2, .int (0 : Int32)), (0, .ref (q0 0)), (1, .int x1)]) hx hb dX9_nextOf_5 rfl hl (by decide) rfl (fun ls hl => ?_)
  exact L6 5000 _ _ _ _ _ _ hF hN (lv_sub hl [1, 2, 0] rfl)
def bX9_oddsOf_149 (k149 : Int32 × Int32 × Int32 × Int32 × Int32 × lm_St → Option (Int32 × lm_St)) (x3_149 : Int32) (x4_149 : Int32) (x5_149 : Int32) (x6_149 : Int32) (x7_149 : Int32) (s0_149 : lm_St) : Option (Int32 × lm_St) := if x7_149 ≤ 0 then (if x3_149 = 0 then (lm_gZ x6_149 (some ((x4_149 / x6_149), s0_149))) else (lm_gZ x6_149 (some ((x5_149 / x6_149), s0_149)))) else (lm_gZ x7_149 (k149 (x3_149, x4_149, x5_149, x7_149, (x6_149 - x6_149 / x7_149 * x7_149), s0_149)))
def jX9_oddsOf_132 (k9 : Int32 × Int32 × Int32 × Int32 × Int32 × Int32 × lm_St → Option (Int32 × lm_St)) (x1_132 : Int32) (x2_132 : Int32) (x3_132 : Int32) (x5_132 : Int32) (x6_132 : Int32) (y0_132 : Int32) (y1_132 : Int32) (s0_132 : lm_St) : Option (Int32 × lm_St) := k9 (x1_132, x2_132, x3_132, (y1_132 + y0_132), x5_132, (x6_132 + 1), s0_132)
def jX9_oddsOf_131 (k9 : Int32 × Int32 × Int32 × Int32 × Int32 × Int32 × lm_St → Option (Int32 × lm_St)) (x1_131 : Int32) (x2_131 : Int32) (x3_131 : Int32) (x5_131 : Int32) (x6_131 : Int32) (y0_131 : Int32) (s0_131 : lm_St) : Option (Int32 × lm_St) := jX9_oddsOf_132 k9 x1_131 x2_131 x3_131 x5_131 x6_131 (0 : Int32) y0_131 s0_131
def jX9_oddsOf_109 (k9 : Int32 × Int32 × Int32 × Int32 × Int32 × Int32 × lm_St → Option (Int32 × lm_St)) (x1_109 : Int32) (x2_109 : Int32) (x3_109 : Int32) (x4_109 : Int32) (x6_109 : Int32) (x7_109 : Int32) (y0_109 : Int32) (y1_109 : Int32) (s0_109 : lm_St) : Option (Int32 × lm_St) := if x7_109 = 0 then (jX9_oddsOf_131 k9 x1_109 x2_109 x3_109 (y1_109 + y0_109) x6_109 x4_109 s0_109) else ((fX9_nextThen s0_109).bind (fun v7 => lm_un2 v7 (fun r7 t7_0 => if r7 = x1_109 then (jX9_oddsOf_132 k9 x1_109 x2_109 x3_109 (y1_109 + y0_109) x6_109 (1 : Int32) x4_109 t7_0) else (jX9_oddsOf_131 k9 x1_109 x2_109 x3_109 (y1_109 + y0_109) x6_109 x4_109 t7_0))))
def jX9_oddsOf_97 (k9 : Int32 × Int32 × Int32 × Int32 × Int32 × Int32 × lm_St → Option (Int32 × lm_St)) (x1_97 : Int32) (x2_97 : Int32) (x3_97 : Int32) (x4_97 : Int32) (x5_97 : Int32) (x6_97 : Int32) (x7_97 : Int32) (s0_97 : lm_St) : Option (Int32 × lm_St) := if x7_97 = 0 then (jX9_oddsOf_109 k9 x1_97 x2_97 x3_97 x4_97 x6_97 x7_97 (0 : Int32) x5_97 s0_97) else (jX9_oddsOf_109 k9 x1_97 x2_97 x3_97 x4_97 x6_97 x7_97 (1 : Int32) x5_97 s0_97)
def jX9_oddsOf_91 (k9 : Int32 × Int32 × Int32 × Int32 × Int32 × Int32 × lm_St → Option (Int32 × lm_St)) (k29 : Int32 × Int32 × Int32 × Int32 × Int32 × Int32 × Int32 × Int32 × lm_St → Option (Int32 × lm_St)) (x1_91 : Int32) (x2_91 : Int32) (x3_91 : Int32) (x4_91 : Int32) (x5_91 : Int32) (x6_91 : Int32) (x7_91 : Int32) (x8_91 : Int32) (s0_91 : lm_St) : Option (Int32 × lm_St) := k29 (x1_91, x2_91, x3_91, x4_91, x5_91, x6_91, x7_91, (x8_91 + 1), s0_91)
def jX9_oddsOf_74 (k9 : Int32 × Int32 × Int32 × Int32 × Int32 × Int32 × lm_St → Option (Int32 × lm_St)) (k29 : Int32 × Int32 × Int32 × Int32 × Int32 × Int32 × Int32 × Int32 × lm_St → Option (Int32 × lm_St)) (x1_74 : Int32) (x2_74 : Int32) (x3_74 : Int32) (x4_74 : Int32) (x5_74 : Int32) (x6_74 : Int32) (x8_74 : Int32) (x9_74 : Int32) (y0_74 : Int32) (s0_74 : lm_St) : Option (Int32 × lm_St) := if y0_74 = 0 then (jX9_oddsOf_91 k9 k29 x1_74 x2_74 x3_74 x4_74 x5_74 x6_74 y0_74 x8_74 s0_74) else ((fX9_touchThen s0_74 x9_74).bind (fun t11_0 => (fX9_dayThen t11_0).bind (fun t12_0 => jX9_oddsOf_91 k9 k29 x1_74 x2_74 x3_74 x4_74 x5_74 x6_74 y0_74 x8_74 t12_0)))
def jX9_oddsOf_73 (k9 : Int32 × Int32 × Int32 × Int32 × Int32 × Int32 × lm_St → Option (Int32 × lm_St)) (k29 : Int32 × Int32 × Int32 × Int32 × Int32 × Int32 × Int32 × Int32 × lm_St → Option (Int32 × lm_St)) (x1_73 : Int32) (x2_73 : Int32) (x3_73 : Int32) (x4_73 : Int32) (x5_73 : Int32) (x6_73 : Int32) (x8_73 : Int32) (x9_73 : Int32) (s0_73 : lm_St) : Option (Int32 × lm_St) := jX9_oddsOf_74 k9 k29 x1_73 x2_73 x3_73 x4_73 x5_73 x6_73 x8_73 x9_73 (0 : Int32) s0_73
def bX9_oddsOf_29 (k9 : Int32 × Int32 × Int32 × Int32 × Int32 × Int32 × lm_St → Option (Int32 × lm_St)) (k29 : Int32 × Int32 × Int32 × Int32 × Int32 × Int32 × Int32 × Int32 × lm_St → Option (Int32 × lm_St)) (x1_29 : Int32) (x2_29 : Int32) (x3_29 : Int32) (x4_29 : Int32) (x5_29 : Int32) (x6_29 : Int32) (x7_29 : Int32) (x8_29 : Int32) (s0_29 : lm_St) : Option (Int32 × lm_St) := if x2_29 ≤ x8_29 then (jX9_oddsOf_97 k9 x1_29 x2_29 x3_29 x4_29 x5_29 x6_29 x7_29 s0_29) else (if x7_29 = 0 then (jX9_oddsOf_97 k9 x1_29 x2_29 x3_29 x4_29 x5_29 x6_29 x7_29 s0_29) else ((fX9_figure x6_29 x2_29 x8_29).bind (fun r15 => if (s0_29.1 2) ≤ r15 then (jX9_oddsOf_73 k9 k29 x1_29 x2_29 x3_29 x4_29 x5_29 x6_29 x8_29 r15 s0_29) else (lm_gI r15 7 (if ((s0_29.2.1 8) r15.toNatClampNeg) = 0 then (jX9_oddsOf_74 k9 k29 x1_29 x2_29 x3_29 x4_29 x5_29 x6_29 x8_29 r15 (1 : Int32) s0_29) else (jX9_oddsOf_73 k9 k29 x1_29 x2_29 x3_29 x4_29 x5_29 x6_29 x8_29 r15 s0_29))))))
def bX9_oddsOf_9 (k9 : Int32 × Int32 × Int32 × Int32 × Int32 × Int32 × lm_St → Option (Int32 × lm_St)) (x1_9 : Int32) (x2_9 : Int32) (x3_9 : Int32) (x4_9 : Int32) (x5_9 : Int32) (x6_9 : Int32) (s0_9 : lm_St) : Option (Int32 × lm_St) := if ((1 : Int32) <<< (((3 : Int32) * x2_9) &&& 31)) ≤ x6_9 then (lm_lp (fun k a => bX9_oddsOf_149 k a.1 a.2.1 a.2.2.1 a.2.2.2.1 a.2.2.2.2.1 a.2.2.2.2.2) 5000 (x3_9, x4_9, x5_9, x5_9, x4_9, s0_9)) else ((fX9_begin s0_9).bind (fun t20_0 => lm_lp (fun k a => bX9_oddsOf_29 k9 k a.1 a.2.1 a.2.2.1 a.2.2.2.1 a.2.2.2.2.1 a.2.2.2.2.2.1 a.2.2.2.2.2.2.1 a.2.2.2.2.2.2.2.1 a.2.2.2.2.2.2.2.2) 5000 (x1_9, x2_9, x3_9, x4_9, x5_9, x6_9, (1 : Int32), (0 : Int32), t20_0)))
def fX9_oddsOf (s0 : lm_St) (x1 : Int32) (x2 : Int32) (x3 : Int32) : Option (Int32 × lm_St) := lm_lp (fun k a => bX9_oddsOf_9 k a.1 a.2.1 a.2.2.1 a.2.2.2.1 a.2.2.2.2.1 a.2.2.2.2.2.1 a.2.2.2.2.2.2) 5000 (x1, x2, x3, (0 : Int32), (0 : Int32), (0 : Int32), s0)
set_option maxHeartbeats 4000000 in
set_option maxRecDepth 100000 in
theorem hX9_oddsOf (l : Launch) (G : lm_G) (q0 : Nat → Nat) {s0 : lm_St} {x1 : Int32} {x2 : Int32} {x3 : Int32} {R : Int32 × lm_St} (hF : fX9_oddsOf s0 x1 x2 x3 = some R) : lm_C l G yX9_oddsOf wsX9_oddsOf 4 [.ref (q0 0), .int x1, .int x2, .int x3] (wX9 G q0 s0) (some (.int R.1)) (wX9 G q0 R.2) := by
  refine lm_C.of (cc := cX9_oddsOf) (maxL := 10) (ret := (some .int)) (by decide) rfl (Nat.le_of_ble_eq_true rfl) ?_
  intro p e s m below meth c A ls B hN hl
  have hx := B.1.1
  have hb := B.1.2.1
  have hown := B.1.2.2.2.1
  have hts := B.1.2.2.2.2
  have hiX9 : ∀ w ∈ wsX90, w ∈ wsX9_oddsOf := by decide +kernel
  have hl : lv_has ls 10 [(0, .ref (q0 0)), (1, .int x1), (2, .int x2), (3, .int x3)] := hl
  have L9 : ∀ (n : Nat) (x1_9 : Int32) (x2_9 : Int32) (x3_9 : Int32) (x4_9 : Int32) (x5_9 : Int32) (x6_9 : Int32) (s0_9 : lm_St) (H : Heap) (locs : List Loc) (ls : Array Slot), lm_lp (fun k a => bX9_oddsOf_9 k a.1 a.2.1 a.2.2.1 a.2.2.2.1 a.2.2.2.2.1 a.2.2.2.2.2.1 a.2.2.2.2.2.2) n (x1_9, x2_9, x3_9, x4_9, x5_9, x6_9, s0_9) = some R → lm_N G A s (wX9 G q0 s0_9) H locs → lv_has ls 10 [(0, .ref (q0 0)), (1, .int x1_9), (2, .int x2_9), (3, .int x3_9), (4, .int x4_9), (5, .int x5_9), (6, .int x6_9)] → W p l e (lm_rk 4) s m ([.ref (q0 0), .int x1, .int x2, .int x3] : List Value).toArray below meth c H locs 0 0 (MQ below (lm_post G (wX9 G q0 R.2) (some (.int R.1)) A) ([.ref (q0 0), .int x1, .int x2, .int x3] : List Value).toArray s 0 0 A) (F0 m 9 ls []) := by
    intro n
    induction n with
    | zero => intro x1_9 x2_9 x3_9 x4_9 x5_9 x6_9 s0_9 H locs ls hF; exact (lm_lpz hF).elim
    | succ n ih9 =>
      intro x1_9 x2_9 x3_9 x4_9 x5_9 x6_9 s0_9 H locs ls hF hN hl
      have hF : bX9_oddsOf_9 (lm_lp (fun k a => bX9_oddsOf_9 k a.1 a.2.1 a.2.2.1 a.2.2.2.1 a.2.2.2.2.1 a.2.2.2.2.2.1 a.2.2.2.2.2.2) n) x1_9 x2_9 x3_9 x4_9 x5_9 x6_9 s0_9 = some R := lm_lps hF
      generalize lm_lp (fun k a => bX9_oddsOf_9 k a.1 a.2.1 a.2.2.1 a.2.2.2.1 a.2.2.2.2.1 a.2.2.2.2.2.1 a.2.2.2.2.2.2) n = k9 at hF ih9
      have L149 : ∀ (n : Nat) (x3_149 : Int32) (x4_149 : Int32) (x5_149 : Int32) (x6_149 : Int32) (x7_149 : Int32) (s0_149 : lm_St) (H : Heap) (locs : List Loc) (ls : Array Slot), lm_lp (fun k a => bX9_oddsOf_149 k a.1 a.2.1 a.2.2.1 a.2.2.2.1 a.2.2.2.2.1 a.2.2.2.2.2) n (x3_149, x4_149, x5_149, x6_149, x7_149, s0_149) = some R → lm_N G A s (wX9 G q0 s0_149) H locs → lv_has ls 10 [(3, .int x3_149), (4, .int x4_149), (5, .int x5_149), (6, .int x6_149), (7, .int x7_149)] → W p l e (lm_rk 4) s m ([.ref (q0 0), .int x1, .int x2, .int x3] : List Value).toArray below meth c H locs 0 0 (MQ below (lm_post G (wX9 G q0 R.2) (some (.int R.1)) A) ([.ref (q0 0), .int x1, .int x2, .int x3] : List Value).toArray s 0 0 A) (F0 m 149 ls []) := by
        intro n
        induction n with
        | zero => intro x3_149 x4_149 x5_149 x6_149 x7_149 s0_149 H locs ls hF; exact (lm_lpz hF).elim
        | succ n ih149 =>
          intro x3_149 x4_149 x5_149 x6_149 x7_149 s0_149 H locs ls hF hN hl
          have hF : bX9_oddsOf_149 (lm_lp (fun k a => bX9_oddsOf_149 k a.1 a.2.1 a.2.2.1 a.2.2.2.1 a.2.2.2.2.1 a.2.2.2.2.2) n) x3_149 x4_149 x5_149 x6_149 x7_149 s0_149 = some R := lm_lps hF
          generalize lm_lp (fun k a => bX9_oddsOf_149 k a.1 a.2.1 a.2.2.1 a.2.2.2.1 a.2.2.2.2.1 a.2.2.2.2.2) n = k149 at hF ih149
          refine lv_iload hx hb dX9_oddsOf_149 (lv_at hl 4 rfl) ?_
          refine lv_if_le (tgt := 172) hx hb dX9_oddsOf_151 (by decide) (fun c1 => ?_) (fun c1 => ?_)
          · have hF := lm_itp c1 hF
            refine lv_iload_n hx hb dX9_oddsOf_172 rfl (lv_at hl 0 rfl) ?_
            refine lv_if_ne (tgt := 184) hx hb dX9_oddsOf_173 (by decide) (fun c2 => ?_) (fun c2 => ?_)
            · have hF := lm_itn c2 hF
              refine lv_iload hx hb dX9_oddsOf_184 (lv_at hl 2 rfl) ?_
              refine lv_iload hx hb dX9_oddsOf_186 (lv_at hl 3 rfl) ?_
              obtain ⟨z3, hF⟩ := lm_gZe hF
              refine lv_idiv hx hb dX9_oddsOf_188 z3 ?_
              cases hF
              exact lm_iret B hN dX9_oddsOf_189
            · have hF := lm_itp c2 hF
              refine lv_iload hx hb dX9_oddsOf_176 (lv_at hl 1 rfl) ?_
              refine lv_iload hx hb dX9_oddsOf_178 (lv_at hl 3 rfl) ?_
              obtain ⟨z4, hF⟩ := lm_gZe hF
              refine lv_idiv hx hb dX9_oddsOf_180 z4 ?_
              refine lv_goto (tgt := 189) hx hb dX9_oddsOf_181 (by decide) ?_
              cases hF
              exact lm_iret B hN dX9_oddsOf_189
          · have hF := lm_itn c1 hF
            refine lv_iload hx hb dX9_oddsOf_154 (lv_at hl 3 rfl) ?_
            refine lv_iload hx hb dX9_oddsOf_156 (lv_at hl 4 rfl) ?_
            obtain ⟨z5, hF⟩ := lm_gZe hF
            refine lv_irem hx hb dX9_oddsOf_158 z5 ?_
            refine lv_istore (lv' := [(8, .int (x6_149 - x6_149 / x7_149 * x7_149)), (3, .int x3_149), (4, .int x4_149), (5, .int x5_149), (6, .int x6_149), (7, .int x7_149)]) hx hb dX9_oddsOf_159 hl (by decide) rfl (fun ls hl => ?_)
            refine lv_iload hx hb dX9_oddsOf_161 (lv_at hl 5 rfl) ?_
            refine lv_istore (lv' := [(6, .int x7_149), (8, .int (x6_149 - x6_149 / x7_149 * x7_149)), (3, .int x3_149), (4, .int x4_149), (5, .int x5_149), (7, .int x7_149)]) hx hb dX9_oddsOf_163 hl (by decide) rfl (fun ls hl => ?_)
            refine lv_iload hx hb dX9_oddsOf_165 (lv_at hl 1 rfl) ?_
            refine lv_istore (lv' := [(7, .int (x6_149 - x6_149 / x7_149 * x7_149)), (6, .int x7_149), (8, .int (x6_149 - x6_149 / x7_149 * x7_149)), (3, .int x3_149), (4, .int x4_149), (5, .int x5_149)]) hx hb dX9_oddsOf_167 hl (by decide) rfl (fun ls hl => ?_)
            refine lv_goto (tgt := 149) hx hb dX9_oddsOf_169 (by decide) ?_
            exact ih149 _ _ _ _ _ _ _ _ _ hF hN (lv_sub hl [3, 4, 5, 1, 0] rfl)
      have L29 : ∀ (n : Nat) (x1_29 : Int32) (x2_29 : Int32) (x3_29 : Int32) (x4_29 : Int32) (x5_29 : Int32) (x6_29 : Int32) (x7_29 : Int32) (x8_29 : Int32) (s0_29 : lm_St) (H : Heap) (locs : List Loc) (ls : Array Slot), lm_lp (fun k a => bX9_oddsOf_29 k9 k a.1 a.2.1 a.2.2.1 a.2.2.2.1 a.2.2.2.2.1 a.2.2.2.2.2.1 a.2.2.2.2.2.2.1 a.2.2.2.2.2.2.2.1 a.2.2.2.2.2.2.2.2) n (x1_29, x2_29, x3_29, x4_29, x5_29, x6_29, x7_29, x8_29, s0_29) = some R → lm_N G A s (wX9 G q0 s0_29) H locs → lv_has ls 10 [(0, .ref (q0 0)), (1, .int x1_29), (2, .int x2_29), (3, .int x3_29), (4, .int x4_29), (5, .int x5_29), (6, .int x6_29), (7, .int x7_29), (8, .int x8_29)] → W p l e (lm_rk 4) s m ([.ref (q0 0), .int x1, .int x2, .int x3] : List Value).toArray below meth c H locs 0 0 (MQ below (lm_post G (wX9 G q0 R.2) (some (.int R.1)) A) ([.ref (q0 0), .int x1, .int x2, .int x3] : List Value).toArray s 0 0 A) (F0 m 29 ls []) := by
        intro n
        induction n with
        | zero => intro x1_29 x2_29 x3_29 x4_29 x5_29 x6_29 x7_29 x8_29 s0_29 H locs ls hF; exact (lm_lpz hF).elim
        | succ n ih29 =>
          intro x1_29 x2_29 x3_29 x4_29 x5_29 x6_29 x7_29 x8_29 s0_29 H locs ls hF hN hl
          have hF : bX9_oddsOf_29 k9 (lm_lp (fun k a => bX9_oddsOf_29 k9 k a.1 a.2.1 a.2.2.1 a.2.2.2.1 a.2.2.2.2.1 a.2.2.2.2.2.1 a.2.2.2.2.2.2.1 a.2.2.2.2.2.2.2.1 a.2.2.2.2.2.2.2.2) n) x1_29 x2_29 x3_29 x4_29 x5_29 x6_29 x7_29 x8_29 s0_29 = some R := lm_lps hF
          generalize lm_lp (fun k a => bX9_oddsOf_29 k9 k a.1 a.2.1 a.2.2.1 a.2.2.2.1 a.2.2.2.2.1 a.2.2.2.2.2.1 a.2.2.2.2.2.2.1 a.2.2.2.2.2.2.2.1 a.2.2.2.2.2.2.2.2) n = k29 at hF ih29
          have J97 : ∀ (x1_97 : Int32) (x2_97 : Int32) (x3_97 : Int32) (x4_97 : Int32) (x5_97 : Int32) (x6_97 : Int32) (x7_97 : Int32) (s0_97 : lm_St) (H : Heap) (locs : List Loc) (ls : Array Slot), jX9_oddsOf_97 k9 x1_97 x2_97 x3_97 x4_97 x5_97 x6_97 x7_97 s0_97 = some R → lm_N G A s (wX9 G q0 s0_97) H locs → lv_has ls 10 [(0, .ref (q0 0)), (1, .int x1_97), (2, .int x2_97), (3, .int x3_97), (4, .int x4_97), (5, .int x5_97), (6, .int x6_97), (7, .int x7_97)] → W p l e (lm_rk 4) s m ([.ref (q0 0), .int x1, .int x2, .int x3] : List Value).toArray below meth c H locs 0 0 (MQ below (lm_post G (wX9 G q0 R.2) (some (.int R.1)) A) ([.ref (q0 0), .int x1, .int x2, .int x3] : List Value).toArray s 0 0 A) (F0 m 97 ls []) := by
            intro x1_97 x2_97 x3_97 x4_97 x5_97 x6_97 x7_97 s0_97 H locs ls hF hN hl
            have J109 : ∀ (x1_109 : Int32) (x2_109 : Int32) (x3_109 : Int32) (x4_109 : Int32) (x6_109 : Int32) (x7_109 : Int32) (y0_109 : Int32) (y1_109 : Int32) (s0_109 : lm_St) (H : Heap) (locs : List Loc) (ls : Array Slot), jX9_oddsOf_109 k9 x1_109 x2_109 x3_109 x4_109 x6_109 x7_109 y0_109 y1_109 s0_109 = some R → lm_N G A s (wX9 G q0 s0_109) H locs → lv_has ls 10 [(0, .ref (q0 0)), (1, .int x1_109), (2, .int x2_109), (3, .int x3_109), (4, .int x4_109), (6, .int x6_109), (7, .int x7_109)] → W p l e (lm_rk 4) s m ([.ref (q0 0), .int x1, .int x2, .int x3] : List Value).toArray below meth c H locs 0 0 (MQ below (lm_post G (wX9 G q0 R.2) (some (.int R.1)) A) ([.ref (q0 0), .int x1, .int x2, .int x3] : List Value).toArray s 0 0 A) (F0 m 109 ls [.int y0_109, .int y1_109]) := by
              intro x1_109 x2_109 x3_109 x4_109 x6_109 x7_109 y0_109 y1_109 s0_109 H locs ls hF hN hl
              have J132 : ∀ (x1_132 : Int32) (x2_132 : Int32) (x3_132 : Int32) (x5_132 : Int32) (x6_132 : Int32) (y0_132 : Int32) (y1_132 : Int32) (s0_132 : lm_St) (H : Heap) (locs : List Loc) (ls : Array Slot), jX9_oddsOf_132 k9 x1_132 x2_132 x3_132 x5_132 x6_132 y0_132 y1_132 s0_132 = some R → lm_N G A s (wX9 G q0 s0_132) H locs → lv_has ls 10 [(0, .ref (q0 0)), (1, .int x1_132), (2, .int x2_132), (3, .int x3_132), (5, .int x5_132), (6, .int x6_132)] → W p l e (lm_rk 4) s m ([.ref (q0 0), .int x1, .int x2, .int x3] : List Value).toArray below meth c H locs 0 0 (MQ below (lm_post G (wX9 G q0 R.2) (some (.int R.1)) A) ([.ref (q0 0), .int x1, .int x2, .int x3] : List Value).toArray s 0 0 A) (F0 m 132 ls [.int y0_132, .int y1_132]) := by
                intro x1_132 x2_132 x3_132 x5_132 x6_132 y0_132 y1_132 s0_132 H locs ls hF hN hl
                refine lv_iadd hx hb dX9_oddsOf_132 ?_
                refine lv_istore (lv' := [(4, .int (y1_132 + y0_132)), (0, .ref (q0 0)), (1, .int x1_132), (2, .int x2_132), (3, .int x3_132), (5, .int x5_132), (6, .int x6_132)]) hx hb dX9_oddsOf_133 hl (by decide) rfl (fun ls hl => ?_)
                refine lv_iinc (v := (x6_132 + 1)) (lv' := [(6, .int (x6_132 + 1)), (4, .int (y1_132 + y0_132)), (0, .ref (q0 0)), (1, .int x1_132), (2, .int x2_132), (3, .int x3_132), (5, .int x5_132)]) hx hb dX9_oddsOf_135 hl (k := 6) rfl rfl (by decide) rfl (fun ls hl => ?_)
                refine lv_goto (tgt := 9) hx hb dX9_oddsOf_138 (by decide) ?_
                exact ih9 _ _ _ _ _ _ _ _ _ _ hF hN (lv_sub hl [2, 3, 4, 5, 1, 6, 0] rfl)
              have J131 : ∀ (x1_131 : Int32) (x2_131 : Int32) (x3_131 : Int32) (x5_131 : Int32) (x6_131 : Int32) (y0_131 : Int32) (s0_131 : lm_St) (H : Heap) (locs : List Loc) (ls : Array Slot), jX9_oddsOf_131 k9 x1_131 x2_131 x3_131 x5_131 x6_131 y0_131 s0_131 = some R → lm_N G A s (wX9 G q0 s0_131) H locs → lv_has ls 10 [(0, .ref (q0 0)), (1, .int x1_131), (2, .int x2_131), (3, .int x3_131), (5, .int x5_131), (6, .int x6_131)] → W p l e (lm_rk 4) s m ([.ref (q0 0), .int x1, .int x2, .int x3] : List Value).toArray below meth c H locs 0 0 (MQ below (lm_post G (wX9 G q0 R.2) (some (.int R.1)) A) ([.ref (q0 0), .int x1, .int x2, .int x3] : List Value).toArray s 0 0 A) (F0 m 131 ls [.int y0_131]) := by
                intro x1_131 x2_131 x3_131 x5_131 x6_131 y0_131 s0_131 H locs ls hF hN hl
                refine lv_iconst (v := 0) hx hb dX9_oddsOf_131 (by decide) ?_
                exact J132 _ _ _ _ _ _ _ _ _ _ _ hF hN (lv_sub hl [0, 1, 2, 3, 4, 5] rfl)
              refine lv_iadd hx hb dX9_oddsOf_109 ?_
              refine lv_istore (lv' := [(5, .int (y1_109 + y0_109)), (0, .ref (q0 0)), (1, .int x1_109), (2, .int x2_109), (3, .int x3_109), (4, .int x4_109), (6, .int x6_109), (7, .int x7_109)]) hx hb dX9_oddsOf_110 hl (by decide) rfl (fun ls hl => ?_)
              refine lv_iload hx hb dX9_oddsOf_112 (lv_at hl 5 rfl) ?_
              refine lv_iload hx hb dX9_oddsOf_114 (lv_at hl 7 rfl) ?_
              refine lv_if_eq (tgt := 131) hx hb dX9_oddsOf_116 (by decide) (fun c6 => ?_) (fun c6 => ?_)
              · have hF := lm_itp c6 hF
                exact J131 _ _ _ _ _ _ _ _ _ _ hF hN (lv_sub hl [1, 2, 3, 4, 0, 6] rfl)
              · have hF := lm_itn c6 hF
                refine lv_aload_n hx hb dX9_oddsOf_119 rfl (lv_at hl 1 rfl) ?_
                obtain ⟨⟨r7, t7_0⟩, hc7, hF⟩ := lm_bd hF
                have hF := lm_un2E hF
                refine lm_runA B hN (lm_hrV B hN hl.1 (lm_cutA B hN) (n := 0) (As := []) (rest := [.int x4_109]) (hX9_nextThen l G q0 hc7) gX9_oddsOf_X9_nextThen rfl (by decide +kernel) rfl (by decide) (by decide) (ci := 9) (q0 := 0) rfl rfl rfl (Nat.le_of_ble_eq_true rfl) dX9_oddsOf_120) (fun H locs hN => ?_)
                refine lv_iload_n hx hb dX9_oddsOf_123 rfl (lv_at hl 2 rfl) ?_
                refine lv_icmp_ne (tgt := 131) hx hb dX9_oddsOf_124 (by decide) (fun c8 => ?_) (fun c8 => ?_)
                · have hF := lm_itn c8 hF
                  exact J131 _ _ _ _ _ _ _ _ _ _ hF hN (lv_sub hl [1, 2, 3, 4, 0, 6] rfl)
                · have hF := lm_itp c8 hF
                  refine lv_iconst (v := 1) hx hb dX9_oddsOf_127 (by decide) ?_
                  refine lv_goto (tgt := 132) hx hb dX9_oddsOf_128 (by decide) ?_
                  exact J132 _ _ _ _ _ _ _ _ _ _ _ hF hN (lv_sub hl [1, 2, 3, 4, 0, 6] rfl)
            refine lv_iload hx hb dX9_oddsOf_97 (lv_at hl 5 rfl) ?_
            refine lv_iload hx hb dX9_oddsOf_99 (lv_at hl 7 rfl) ?_
            refine lv_if_eq (tgt := 108) hx hb dX9_oddsOf_101 (by decide) (fun c9 => ?_) (fun c9 => ?_)
            · have hF := lm_itp c9 hF
              refine lv_iconst (v := 0) hx hb dX9_oddsOf_108 (by decide) ?_
              exact J109 _ _ _ _ _ _ _ _ _ _ _ _ hF hN (lv_sub hl [0, 1, 2, 3, 4, 6, 7] rfl)
            · have hF := lm_itn c9 hF
              refine lv_iconst (v := 1) hx hb dX9_oddsOf_104 (by decide) ?_
              refine lv_goto (tgt := 109) hx hb dX9_oddsOf_105 (by decide) ?_
              exact J109 _ _ _ _ _ _ _ _ _ _ _ _ hF hN (lv_sub hl [0, 1, 2, 3, 4, 6, 7] rfl)
          have J74 : ∀ (x1_74 : Int32) (x2_74 : Int32) (x3_74 : Int32) (x4_74 : Int32) (x5_74 : Int32) (x6_74 : Int32) (x8_74 : Int32) (x9_74 : Int32) (y0_74 : Int32) (s0_74 : lm_St) (H : Heap) (locs : List Loc) (ls : Array Slot), jX9_oddsOf_74 k9 k29 x1_74 x2_74 x3_74 x4_74 x5_74 x6_74 x8_74 x9_74 y0_74 s0_74 = some R → lm_N G A s (wX9 G q0 s0_74) H locs → lv_has ls 10 [(0, .ref (q0 0)), (1, .int x1_74), (2, .int x2_74), (3, .int x3_74), (4, .int x4_74), (5, .int x5_74), (6, .int x6_74), (8, .int x8_74), (9, .int x9_74)] → W p l e (lm_rk 4) s m ([.ref (q0 0), .int x1, .int x2, .int x3] : List Value).toArray below meth c H locs 0 0 (MQ below (lm_post G (wX9 G q0 R.2) (some (.int R.1)) A) ([.ref (q0 0), .int x1, .int x2, .int x3] : List Value).toArray s 0 0 A) (F0 m 74 ls [.int y0_74]) := by
            intro x1_74 x2_74 x3_74 x4_74 x5_74 x6_74 x8_74 x9_74 y0_74 s0_74 H locs ls hF hN hl
            have J91 : ∀ (x1_91 : Int32) (x2_91 : Int32) (x3_91 : Int32) (x4_91 : Int32) (x5_91 : Int32) (x6_91 : Int32) (x7_91 : Int32) (x8_91 : Int32) (s0_91 : lm_St) (H : Heap) (locs : List Loc) (ls : Array Slot), jX9_oddsOf_91 k9 k29 x1_91 x2_91 x3_91 x4_91 x5_91 x6_91 x7_91 x8_91 s0_91 = some R → lm_N G A s (wX9 G q0 s0_91) H locs → lv_has ls 10 [(0, .ref (q0 0)), (1, .int x1_91), (2, .int x2_91), (3, .int x3_91), (4, .int x4_91), (5, .int x5_91), (6, .int x6_91), (7, .int x7_91), (8, .int x8_91)] → W p l e (lm_rk 4) s m ([.ref (q0 0), .int x1, .int x2, .int x3] : List Value).toArray below meth c H locs 0 0 (MQ below (lm_post G (wX9 G q0 R.2) (some (.int R.1)) A) ([.ref (q0 0), .int x1, .int x2, .int x3] : List Value).toArray s 0 0 A) (F0 m 91 ls []) := by
              intro x1_91 x2_91 x3_91 x4_91 x5_91 x6_91 x7_91 x8_91 s0_91 H locs ls hF hN hl
              refine lv_iinc (v := (x8_91 + 1)) (lv' := [(8, .int (x8_91 + 1)), (0, .ref (q0 0)), (1, .int x1_91), (2, .int x2_91), (3, .int x3_91), (4, .int x4_91), (5, .int x5_91), (6, .int x6_91), (7, .int x7_91)]) hx hb dX9_oddsOf_91 hl (k := 8) rfl rfl (by decide) rfl (fun ls hl => ?_)
              refine lv_goto (tgt := 29) hx hb dX9_oddsOf_94 (by decide) ?_
              exact ih29 _ _ _ _ _ _ _ _ _ _ _ _ hF hN (lv_sub hl [1, 2, 3, 4, 5, 6, 7, 8, 0] rfl)
            refine lv_istore (lv' := [(7, .int y0_74), (0, .ref (q0 0)), (1, .int x1_74), (2, .int x2_74), (3, .int x3_74), (4, .int x4_74), (5, .int x5_74), (6, .int x6_74), (8, .int x8_74), (9, .int x9_74)]) hx hb dX9_oddsOf_74 hl (by decide) rfl (fun ls hl => ?_)
            refine lv_iload hx hb dX9_oddsOf_76 (lv_at hl 0 rfl) ?_
            refine lv_if_eq (tgt := 91) hx hb dX9_oddsOf_78 (by decide) (fun c10 => ?_) (fun c10 => ?_)
            · have hF := lm_itp c10 hF
              exact J91 _ _ _ _ _ _ _ _ _ _ _ _ hF hN (lv_sub hl [1, 2, 3, 4, 5, 6, 7, 0, 8] rfl)
            · have hF := lm_itn c10 hF
              refine lv_aload_n hx hb dX9_oddsOf_81 rfl (lv_at hl 1 rfl) ?_
              refine lv_iload hx hb dX9_oddsOf_82 (lv_at hl 9 rfl) ?_
              obtain ⟨t11_0, hc11, hF⟩ := lm_bd hF
              refine lm_runA B hN (lm_hrV B hN hl.1 (lm_cutA B hN) (n := 1) (As := [.int x9_74]) (rest := []) (hX9_touchThen l G q0 hc11) gX9_oddsOf_X9_touchThen rfl (by decide +kernel) rfl (by decide) (by decide) (ci := 9) (q0 := 0) rfl rfl rfl (Nat.le_of_ble_eq_true rfl) dX9_oddsOf_84) (fun H locs hN => ?_)
              refine lv_aload_n hx hb dX9_oddsOf_87 rfl (lv_at hl 1 rfl) ?_
              obtain ⟨t12_0, hc12, hF⟩ := lm_bd hF
              refine lm_runA B hN (lm_hrV B hN hl.1 (lm_cutA B hN) (n := 0) (As := []) (rest := []) (hX9_dayThen l G q0 hc12) gX9_oddsOf_X9_dayThen rfl (by decide +kernel) rfl (by decide) (by decide) (ci := 9) (q0 := 0) rfl rfl rfl (Nat.le_of_ble_eq_true rfl) dX9_oddsOf_88) (fun H locs hN => ?_)
              exact J91 _ _ _ _ _ _ _ _ _ _ _ _ hF hN (lv_sub hl [1, 2, 3, 4, 5, 6, 7, 0, 8] rfl)
          have J73 : ∀ (x1_73 : Int32) (x2_73 : Int32) (x3_73 : Int32) (x4_73 : Int32) (x5_73 : Int32) (x6_73 : Int32) (x8_73 : Int32) (x9_73 : Int32) (s0_73 : lm_St) (H : Heap) (locs : List Loc) (ls : Array Slot), jX9_oddsOf_73 k9 k29 x1_73 x2_73 x3_73 x4_73 x5_73 x6_73 x8_73 x9_73 s0_73 = some R → lm_N G A s (wX9 G q0 s0_73) H locs → lv_has ls 10 [(0, .ref (q0 0)), (1, .int x1_73), (2, .int x2_73), (3, .int x3_73), (4, .int x4_73), (5, .int x5_73), (6, .int x6_73), (8, .int x8_73), (9, .int x9_73)] → W p l e (lm_rk 4) s m ([.ref (q0 0), .int x1, .int x2, .int x3] : List Value).toArray below meth c H locs 0 0 (MQ below (lm_post G (wX9 G q0 R.2) (some (.int R.1)) A) ([.ref (q0 0), .int x1, .int x2, .int x3] : List Value).toArray s 0 0 A) (F0 m 73 ls []) := by
            intro x1_73 x2_73 x3_73 x4_73 x5_73 x6_73 x8_73 x9_73 s0_73 H locs ls hF hN hl
            refine lv_iconst (v := 0) hx hb dX9_oddsOf_73 (by decide) ?_
            exact J74 _ _ _ _ _ _ _ _ _ _ _ _ _ hF hN (lv_sub hl [0, 1, 2, 3, 4, 5, 6, 7, 8] rfl)
          refine lv_iload hx hb dX9_oddsOf_29 (lv_at hl 8 rfl) ?_
          refine lv_iload_n hx hb dX9_oddsOf_31 rfl (lv_at hl 2 rfl) ?_
          refine lv_icmp_ge (tgt := 97) hx hb dX9_oddsOf_32 (by decide) (fun c13 => ?_) (fun c13 => ?_)
          · have hF := lm_itp c13 hF
            exact J97 _ _ _ _ _ _ _ _ _ _ _ hF hN (lv_sub hl [0, 1, 2, 3, 4, 5, 6, 7] rfl)
          · have hF := lm_itn c13 hF
            refine lv_iload hx hb dX9_oddsOf_35 (lv_at hl 7 rfl) ?_
            refine lv_if_eq (tgt := 97) hx hb dX9_oddsOf_37 (by decide) (fun c14 => ?_) (fun c14 => ?_)
            · have hF := lm_itp c14 hF
              exact J97 _ _ _ _ _ _ _ _ _ _ _ hF hN (lv_sub hl [0, 1, 2, 3, 4, 5, 6, 7] rfl)
            · have hF := lm_itn c14 hF
              refine lv_iload hx hb dX9_oddsOf_40 (lv_at hl 6 rfl) ?_
              refine lv_iload_n hx hb dX9_oddsOf_42 rfl (lv_at hl 2 rfl) ?_
              refine lv_iload hx hb dX9_oddsOf_43 (lv_at hl 8 rfl) ?_
              obtain ⟨r15, hc15, hF⟩ := lm_bd hF
              refine lm_run0 B hN (lm_hrT B hN hl.1 (lm_cut0 B hN) (n := 3) (As := [.int x6_29, .int x2_29, .int x8_29]) (rest := []) (hX9_figure l G hc15) gX9_oddsOf_X9_figure rfl (by decide +kernel) rfl (by decide) (by decide) rfl (Nat.le_of_ble_eq_true rfl) dX9_oddsOf_45) (fun H locs hN => ?_)
              refine lv_istore (lv' := [(9, .int r15), (0, .ref (q0 0)), (1, .int x1_29), (2, .int x2_29), (3, .int x3_29), (4, .int x4_29), (5, .int x5_29), (6, .int x6_29), (7, .int x7_29), (8, .int x8_29)]) hx hb dX9_oddsOf_48 hl (by decide) rfl (fun ls hl => ?_)
              refine lv_iload hx hb dX9_oddsOf_50 (lv_at hl 0 rfl) ?_
              refine lv_aload_n hx hb dX9_oddsOf_52 rfl (lv_at hl 1 rfl) ?_
              refine lm_get B hN (ci := 9) hiX9 0 rfl rfl 3 (by decide) (by decide +kernel) (v := .int (s0_29.1 2)) rfl dX9_oddsOf_53 ?_
              refine lv_icmp_ge (tgt := 73) hx hb dX9_oddsOf_56 (by decide) (fun c16 => ?_) (fun c16 => ?_)
              · have hF := lm_itp c16 hF
                exact J73 _ _ _ _ _ _ _ _ _ _ _ _ hF hN (lv_sub hl [1, 2, 3, 4, 5, 6, 7, 9, 0] rfl)
              · have hF := lm_itn c16 hF
                refine lv_aload_n hx hb dX9_oddsOf_59 rfl (lv_at hl 1 rfl) ?_
                refine lm_get B hN (ci := 9) hiX9 0 rfl rfl 15 (by decide) (by decide +kernel) (v := .ref (q0 9)) rfl dX9_oddsOf_60 ?_
                refine lv_iload hx hb dX9_oddsOf_63 (lv_at hl 0 rfl) ?_
                obtain ⟨z17, hF⟩ := lm_gIe hF
                refine lm_ald B hN 9 (f := (s0_29.2.1 8)) rfl z17 dX9_oddsOf_65 ?_
                refine lv_if_ne (tgt := 73) hx hb dX9_oddsOf_66 (by decide) (fun c18 => ?_) (fun c18 => ?_)
                · have hF := lm_itn c18 hF
                  exact J73 _ _ _ _ _ _ _ _ _ _ _ _ hF hN (lv_sub hl [1, 2, 3, 4, 5, 6, 7, 9, 0] rfl)
                · have hF := lm_itp c18 hF
                  refine lv_iconst (v := 1) hx hb dX9_oddsOf_69 (by decide) ?_
                  refine lv_goto (tgt := 74) hx hb dX9_oddsOf_70 (by decide) ?_
                  exact J74 _ _ _ _ _ _ _ _ _ _ _ _ _ hF hN (lv_sub hl [1, 2, 3, 4, 5, 6, 7, 9, 0] rfl)
      refine lv_iload hx hb dX9_oddsOf_9 (lv_at hl 6 rfl) ?_
      refine lv_iconst (v := 1) hx hb dX9_oddsOf_11 (by decide) ?_
      refine lv_iconst (v := 3) hx hb dX9_oddsOf_12 (by decide) ?_
      refine lv_iload_n hx hb dX9_oddsOf_13 rfl (lv_at hl 2 rfl) ?_
      refine lv_imul hx hb dX9_oddsOf_14 ?_
      refine lv_ishl hx hb dX9_oddsOf_15 ?_
      refine lv_icmp_ge (tgt := 141) hx hb dX9_oddsOf_16 (by decide) (fun c19 => ?_) (fun c19 => ?_)
      · have hF := lm_itp c19 hF
        refine lv_iload hx hb dX9_oddsOf_141 (lv_at hl 5 rfl) ?_
        refine lv_istore (lv' := [(6, .int x5_9), (0, .ref (q0 0)), (1, .int x1_9), (2, .int x2_9), (3, .int x3_9), (4, .int x4_9), (5, .int x5_9)]) hx hb dX9_oddsOf_143 hl (by decide) rfl (fun ls hl => ?_)
        refine lv_iload hx hb dX9_oddsOf_145 (lv_at hl 5 rfl) ?_
        refine lv_istore (lv' := [(7, .int x4_9), (6, .int x5_9), (0, .ref (q0 0)), (1, .int x1_9), (2, .int x2_9), (3, .int x3_9), (4, .int x4_9), (5, .int x5_9)]) hx hb dX9_oddsOf_147 hl (by decide) rfl (fun ls hl => ?_)
        exact L149 5000 _ _ _ _ _ _ _ _ _ hF hN (lv_sub hl [5, 6, 7, 1, 0] rfl)
      · have hF := lm_itn c19 hF
        refine lv_aload_n hx hb dX9_oddsOf_19 rfl (lv_at hl 0 rfl) ?_
        obtain ⟨t20_0, hc20, hF⟩ := lm_bd hF
        refine lm_runA B hN (lm_hrV B hN hl.1 (lm_cutA B hN) (n := 0) (As := []) (rest := []) (hX9_begin l G q0 hc20) gX9_oddsOf_X9_begin rfl (by decide +kernel) rfl (by decide) (by decide) (ci := 9) (q0 := 0) rfl rfl rfl (Nat.le_of_ble_eq_true rfl) dX9_oddsOf_20) (fun H locs hN => ?_)
        refine lv_iconst (v := 1) hx hb dX9_oddsOf_23 (by decide) ?_
        refine lv_istore (lv' := [(7, .int (1 : Int32)), (0, .ref (q0 0)), (1, .int x1_9), (2, .int x2_9), (3, .int x3_9), (4, .int x4_9), (5, .int x5_9), (6, .int x6_9)]) hx hb dX9_oddsOf_24 hl (by decide) rfl (fun ls hl => ?_)
        refine lv_iconst (v := 0) hx hb dX9_oddsOf_26 (by decide) ?_
        refine lv_istore (lv' := [(8, .int (0 : Int32)), (7, .int (1 : Int32)), (0, .ref (q0 0)), (1, .int x1_9), (2, .int x2_9), (3, .int x3_9), (4, .int x4_9), (5, .int x5_9), (6, .int x6_9)]) hx hb dX9_oddsOf_27 hl (by decide) rfl (fun ls hl => ?_)
        exact L29 5000 _ _ _ _ _ _ _ _ _ _ _ _ hF hN (lv_sub hl [2, 3, 4, 5, 6, 7, 8, 1, 0] rfl)
  refine lv_iconst (v := 0) hx hb dX9_oddsOf_0 (by decide) ?_
  refine lv_istore (lv' := [(4, .int (0 : Int32)), (0, .ref (q0 0)), (1, .int x1), (2, .int x2), (3, .int x3)]) hx hb dX9_oddsOf_1 hl (by decide) rfl (fun ls hl => ?_)
  refine lv_iconst (v := 0) hx hb dX9_oddsOf_3 (by decide) ?_
  refine lv_istore (lv' := [(5, .int (0 : Int32)), (4, .int (0 : Int32)), (0, .ref (q0 0)), (1, .int x1), (2, .int x2), (3, .int x3)]) hx hb dX9_oddsOf_4 hl (by decide) rfl (fun ls hl => ?_)
  refine lv_iconst (v := 0) hx hb dX9_oddsOf_6 (by decide) ?_
  refine lv_istore (lv' := [(6, .int (0 : Int32)), (5, .int (0 : Int32)), (4, .int (0 : Int32)), (0, .ref (q0 0)), (1, .int x1), (2, .int x2), (3, .int x3)]) hx hb dX9_oddsOf_7 hl (by decide) rfl (fun ls hl => ?_)
  exact L9 5000 _ _ _ _ _ _ _ _ _ _ hF hN (lv_sub hl [3, 4, 5, 6, 2, 1, 0] rfl)
def jX9_takeThen_48 (x1_48 : Int32) (y0_48 : Int32) (s0_48 : lm_St) : Option (Int32 × lm_St) := lm_gI x1_48 7 (some (((s0_48.2.1 2) x1_48.toNatClampNeg), (lm_sF s0_48 7 y0_48)))
def fX9_takeThen (s0 : lm_St) : Option (Int32 × lm_St) := (fX9_nextThen s0).bind (fun v2 => lm_un2 v2 (fun r2 t2_0 => if r2 = (-1 : Int32) then (some ((0 : Int32), t2_0)) else (lm_gI r2 7 (lm_gI r2 7 (if (t2_0.1 7) ≤ ((t2_0.2.1 2) r2.toNatClampNeg) then (jX9_takeThen_48 r2 (0 : Int32) (lm_sA t2_0 8 (upd (t2_0.2.1 8) r2.toNatClampNeg (1 : Int32)))) else (lm_gI r2 7 (jX9_takeThen_48 r2 ((t2_0.1 7) - ((t2_0.2.1 2) r2.toNatClampNeg)) (lm_sA t2_0 8 (upd (t2_0.2.1 8) r2.toNatClampNeg (1 : Int32))))))))))
set_option maxHeartbeats 4000000 in
set_option maxRecDepth 100000 in
theorem hX9_takeThen (l : Launch) (G : lm_G) (q0 : Nat → Nat) {s0 : lm_St} {R : Int32 × lm_St} (hF : fX9_takeThen s0 = some R) : lm_C l G yX9_takeThen wsX9_takeThen 4 [.ref (q0 0)] (wX9 G q0 s0) (some (.int R.1)) (wX9 G q0 R.2) := by
  refine lm_C.of (cc := cX9_takeThen) (maxL := 2) (ret := (some .int)) (by decide) rfl (Nat.le_of_ble_eq_true rfl) ?_
  intro p e s m below meth c A ls B hN hl
  have hx := B.1.1
  have hb := B.1.2.1
  have hown := B.1.2.2.2.1
  have hts := B.1.2.2.2.2
  have hiX9 : ∀ w ∈ wsX90, w ∈ wsX9_takeThen := by decide +kernel
  have hl : lv_has ls 2 [(0, .ref (q0 0))] := hl
  have J48 : ∀ (x1_48 : Int32) (y0_48 : Int32) (s0_48 : lm_St) (H : Heap) (locs : List Loc) (ls : Array Slot), jX9_takeThen_48 x1_48 y0_48 s0_48 = some R → lm_N G A s (wX9 G q0 s0_48) H locs → lv_has ls 2 [(0, .ref (q0 0)), (1, .int x1_48)] → W p l e (lm_rk 4) s m ([.ref (q0 0)] : List Value).toArray below meth c H locs 0 0 (MQ below (lm_post G (wX9 G q0 R.2) (some (.int R.1)) A) ([.ref (q0 0)] : List Value).toArray s 0 0 A) (F0 m 48 ls [.int y0_48, .ref (q0 0)]) := by
    intro x1_48 y0_48 s0_48 H locs ls hF hN hl
    refine lm_put B hN (ci := 9) hiX9 tyX9 tyX9_ok nmX9 0 rfl rfl 16 (by decide) (by decide +kernel) (by decide) (v := .int y0_48) rfl rfl (Nat.le_of_ble_eq_true rfl) (wX9 G q0 (lm_sF s0_48 7 y0_48)) (wX9_r0f7 _ _ _ _) dX9_takeThen_48 (fun H locs hN => ?_)
    refine lv_aload_n hx hb dX9_takeThen_51 rfl (lv_at hl 0 rfl) ?_
    refine lm_get B hN (ci := 9) hiX9 0 rfl rfl 9 (by decide) (by decide +kernel) (v := .ref (q0 3)) rfl dX9_takeThen_52 ?_
    refine lv_iload_n hx hb dX9_takeThen_55 rfl (lv_at hl 1 rfl) ?_
    obtain ⟨z1, hF⟩ := lm_gIe hF
    refine lm_ald B hN 3 (f := (s0_48.2.1 2)) rfl z1 dX9_takeThen_56 ?_
    cases hF
    exact lm_iret B hN dX9_takeThen_57
  refine lv_aload_n hx hb dX9_takeThen_0 rfl (lv_at hl 0 rfl) ?_
  obtain ⟨⟨r2, t2_0⟩, hc2, hF⟩ := lm_bd hF
  have hF := lm_un2E hF
  refine lm_runA B hN (lm_hrV B hN hl.1 (lm_cutA B hN) (n := 0) (As := []) (rest := []) (hX9_nextThen l G q0 hc2) gX9_takeThen_X9_nextThen rfl (by decide +kernel) rfl (by decide) (by decide) (ci := 9) (q0 := 0) rfl rfl rfl (Nat.le_of_ble_eq_true rfl) dX9_takeThen_1) (fun H locs hN => ?_)
  refine lv_istore_n (lv' := [(1, .int r2), (0, .ref (q0 0))]) hx hb dX9_takeThen_4 rfl hl (by decide) rfl (fun ls hl => ?_)
  refine lv_iload_n hx hb dX9_takeThen_5 rfl (lv_at hl 0 rfl) ?_
  refine lv_iconst (v := -1) hx hb dX9_takeThen_6 (by decide) ?_
  refine lv_icmp_ne (tgt := 12) hx hb dX9_takeThen_7 (by decide) (fun c3 => ?_) (fun c3 => ?_)
  · have hF := lm_itn c3 hF
    refine lv_aload_n hx hb dX9_takeThen_12 rfl (lv_at hl 1 rfl) ?_
    refine lm_get B hN (ci := 9) hiX9 0 rfl rfl 15 (by decide) (by decide +kernel) (v := .ref (q0 9)) rfl dX9_takeThen_13 ?_
    refine lv_iload_n hx hb dX9_takeThen_16 rfl (lv_at hl 0 rfl) ?_
    refine lv_iconst (v := 1) hx hb dX9_takeThen_17 (by decide) ?_
    obtain ⟨z4, hF⟩ := lm_gIe hF
    refine lm_ast B hN 9 (f := (t2_0.2.1 8)) rfl z4 (wX9 G q0 (lm_sA t2_0 8 (upd (t2_0.2.1 8) r2.toNatClampNeg (1 : Int32)))) (wX9_r0a8 _ _ _ _) dX9_takeThen_18 (fun H locs hN => ?_)
    refine lv_aload_n hx hb dX9_takeThen_19 rfl (lv_at hl 1 rfl) ?_
    refine lv_aload_n hx hb dX9_takeThen_20 rfl (lv_at hl 1 rfl) ?_
    refine lm_get B hN (ci := 9) hiX9 0 rfl rfl 16 (by decide) (by decide +kernel) (v := .int (t2_0.1 7)) rfl dX9_takeThen_21 ?_
    refine lv_aload_n hx hb dX9_takeThen_24 rfl (lv_at hl 1 rfl) ?_
    refine lm_get B hN (ci := 9) hiX9 0 rfl rfl 9 (by decide) (by decide +kernel) (v := .ref (q0 3)) rfl dX9_takeThen_25 ?_
    refine lv_iload_n hx hb dX9_takeThen_28 rfl (lv_at hl 0 rfl) ?_
    obtain ⟨z5, hF⟩ := lm_gIe hF
    refine lm_ald B hN 3 (f := (t2_0.2.1 2)) rfl z5 dX9_takeThen_29 ?_
    refine lv_icmp_le (tgt := 47) hx hb dX9_takeThen_30 (by decide) (fun c6 => ?_) (fun c6 => ?_)
    · have hF := lm_itp c6 hF
      refine lv_iconst (v := 0) hx hb dX9_takeThen_47 (by decide) ?_
      exact J48 _ _ _ _ _ _ hF hN (lv_sub hl [1, 0] rfl)
    · have hF := lm_itn c6 hF
      refine lv_aload_n hx hb dX9_takeThen_33 rfl (lv_at hl 1 rfl) ?_
      refine lm_get B hN (ci := 9) hiX9 0 rfl rfl 16 (by decide) (by decide +kernel) (v := .int (t2_0.1 7)) rfl dX9_takeThen_34 ?_
      refine lv_aload_n hx hb dX9_takeThen_37 rfl (lv_at hl 1 rfl) ?_
      refine lm_get B hN (ci := 9) hiX9 0 rfl rfl 9 (by decide) (by decide +kernel) (v := .ref (q0 3)) rfl dX9_takeThen_38 ?_
      refine lv_iload_n hx hb dX9_takeThen_41 rfl (lv_at hl 0 rfl) ?_
      obtain ⟨z7, hF⟩ := lm_gIe hF
      refine lm_ald B hN 3 (f := (t2_0.2.1 2)) rfl z7 dX9_takeThen_42 ?_
      refine lv_isub hx hb dX9_takeThen_43 ?_
      refine lv_goto (tgt := 48) hx hb dX9_takeThen_44 (by decide) ?_
      exact J48 _ _ _ _ _ _ hF hN (lv_sub hl [1, 0] rfl)
  · have hF := lm_itp c3 hF
    refine lv_iconst (v := 0) hx hb dX9_takeThen_10 (by decide) ?_
    cases hF
    exact lm_iret B hN dX9_takeThen_11
def jX9_watchOf_154 (k15 : Int32 × Int32 × Int32 × Int32 × Int32 × lm_St → Option (Int32 × lm_St)) (x1_154 : Int32) (x2_154 : Int32) (x3_154 : Int32) (x5_154 : Int32) (y0_154 : Int32) (s0_154 : lm_St) : Option (Int32 × lm_St) := k15 (x1_154, x2_154, x3_154, y0_154, (x5_154 + 1), s0_154)
def jX9_watchOf_139 (k15 : Int32 × Int32 × Int32 × Int32 × Int32 × lm_St → Option (Int32 × lm_St)) (x1_139 : Int32) (x2_139 : Int32) (x4_139 : Int32) (x5_139 : Int32) (x6_139 : Int32) (y0_139 : Int32) (s0_139 : lm_St) : Option (Int32 × lm_St) := if x4_139 ≤ x6_139 then (jX9_watchOf_154 k15 x1_139 x2_139 y0_139 x5_139 x4_139 s0_139) else (jX9_watchOf_154 k15 x1_139 x2_139 y0_139 x5_139 x6_139 s0_139)
def jX9_watchOf_118 (k15 : Int32 × Int32 × Int32 × Int32 × Int32 × lm_St → Option (Int32 × lm_St)) (k32 : Int32 × Int32 × Int32 × Int32 × Int32 × Int32 × Int32 × lm_St → Option (Int32 × lm_St)) (x1_118 : Int32) (x2_118 : Int32) (x3_118 : Int32) (x4_118 : Int32) (x5_118 : Int32) (x7_118 : Int32) (y0_118 : Int32) (s0_118 : lm_St) : Option (Int32 × lm_St) := k32 (x1_118, x2_118, x3_118, x4_118, x5_118, y0_118, (x7_118 + 1), s0_118)
def jX9_watchOf_116 (k15 : Int32 × Int32 × Int32 × Int32 × Int32 × lm_St → Option (Int32 × lm_St)) (k32 : Int32 × Int32 × Int32 × Int32 × Int32 × Int32 × Int32 × lm_St → Option (Int32 × lm_St)) (x1_116 : Int32) (x2_116 : Int32) (x3_116 : Int32) (x4_116 : Int32) (x5_116 : Int32) (x6_116 : Int32) (x7_116 : Int32) (s0_116 : lm_St) : Option (Int32 × lm_St) := jX9_watchOf_118 k15 k32 x1_116 x2_116 x3_116 x4_116 x5_116 x7_116 x6_116 s0_116
def jX9_watchOf_85 (k15 : Int32 × Int32 × Int32 × Int32 × Int32 × lm_St → Option (Int32 × lm_St)) (k32 : Int32 × Int32 × Int32 × Int32 × Int32 × Int32 × Int32 × lm_St → Option (Int32 × lm_St)) (k45 : Int32 × Int32 × Int32 × Int32 × Int32 × Int32 × Int32 × Int32 × Int32 × lm_St → Option (Int32 × lm_St)) (x1_85 : Int32) (x2_85 : Int32) (x3_85 : Int32) (x4_85 : Int32) (x5_85 : Int32) (x6_85 : Int32) (x7_85 : Int32) (x9_85 : Int32) (y0_85 : Int32) (y1_85 : Int32) (s0_85 : lm_St) : Option (Int32 × lm_St) := k45 (x1_85, x2_85, x3_85, x4_85, x5_85, x6_85, x7_85, (y1_85 + y0_85), (x9_85 + 1), s0_85)
def bX9_watchOf_45 (k15 : Int32 × Int32 × Int32 × Int32 × Int32 × lm_St → Option (Int32 × lm_St)) (k32 : Int32 × Int32 × Int32 × Int32 × Int32 × Int32 × Int32 × lm_St → Option (Int32 × lm_St)) (k45 : Int32 × Int32 × Int32 × Int32 × Int32 × Int32 × Int32 × Int32 × Int32 × lm_St → Option (Int32 × lm_St)) (x1_45 : Int32) (x2_45 : Int32) (x3_45 : Int32) (x4_45 : Int32) (x5_45 : Int32) (x6_45 : Int32) (x7_45 : Int32) (x8_45 : Int32) (x9_45 : Int32) (s0_45 : lm_St) : Option (Int32 × lm_St) := if (21 : Int32) ≤ x9_45 then (if ((x2_45 >>> (x7_45 &&& 31)) &&& (1 : Int32)) = (1 : Int32) then (if x8_45 ≤ x6_45 then (jX9_watchOf_116 k15 k32 x1_45 x2_45 x3_45 x4_45 x5_45 x6_45 x7_45 s0_45) else (jX9_watchOf_118 k15 k32 x1_45 x2_45 x3_45 x4_45 x5_45 x7_45 x8_45 s0_45)) else (jX9_watchOf_116 k15 k32 x1_45 x2_45 x3_45 x4_45 x5_45 x6_45 x7_45 s0_45)) else ((fX9_missedIf s0_45 x1_45 x9_45 x5_45).bind (fun v5 => lm_un2 v5 (fun r5 t5_0 => (fX9_missedIf t5_0 x1_45 x7_45 x5_45).bind (fun v6 => lm_un2 v6 (fun r6 t6_0 => if r5 = r6 then (jX9_watchOf_85 k15 k32 k45 x1_45 x2_45 x3_45 x4_45 x5_45 x6_45 x7_45 x9_45 ((x2_45 >>> (x9_45 &&& 31)) &&& (1 : Int32)) x8_45 t6_0) else (jX9_watchOf_85 k15 k32 k45 x1_45 x2_45 x3_45 x4_45 x5_45 x6_45 x7_45 x9_45 (0 : Int32) x8_45 t6_0))))))
def bX9_watchOf_32 (k15 : Int32 × Int32 × Int32 × Int32 × Int32 × lm_St → Option (Int32 × lm_St)) (k32 : Int32 × Int32 × Int32 × Int32 × Int32 × Int32 × Int32 × lm_St → Option (Int32 × lm_St)) (x1_32 : Int32) (x2_32 : Int32) (x3_32 : Int32) (x4_32 : Int32) (x5_32 : Int32) (x6_32 : Int32) (x7_32 : Int32) (s0_32 : lm_St) : Option (Int32 × lm_St) := if (21 : Int32) ≤ x7_32 then (if x4_32 ≤ x6_32 then (jX9_watchOf_139 k15 x1_32 x2_32 x4_32 x5_32 x6_32 x3_32 s0_32) else (jX9_watchOf_139 k15 x1_32 x2_32 x4_32 x5_32 x6_32 x5_32 s0_32)) else (lm_lp (fun k a => bX9_watchOf_45 k15 k32 k a.1 a.2.1 a.2.2.1 a.2.2.2.1 a.2.2.2.2.1 a.2.2.2.2.2.1 a.2.2.2.2.2.2.1 a.2.2.2.2.2.2.2.1 a.2.2.2.2.2.2.2.2.1 a.2.2.2.2.2.2.2.2.2) 5000 (x1_32, x2_32, x3_32, x4_32, x5_32, x6_32, x7_32, (0 : Int32), (0 : Int32), s0_32))
def bX9_watchOf_15 (k15 : Int32 × Int32 × Int32 × Int32 × Int32 × lm_St → Option (Int32 × lm_St)) (x1_15 : Int32) (x2_15 : Int32) (x3_15 : Int32) (x4_15 : Int32) (x5_15 : Int32) (s0_15 : lm_St) : Option (Int32 × lm_St) := if (10 : Int32) ≤ x5_15 then (some (x3_15, s0_15)) else (if x2_15 = 0 then (some (x3_15, s0_15)) else (lm_lp (fun k a => bX9_watchOf_32 k15 k a.1 a.2.1 a.2.2.1 a.2.2.2.1 a.2.2.2.2.1 a.2.2.2.2.2.1 a.2.2.2.2.2.2.1 a.2.2.2.2.2.2.2) 5000 (x1_15, x2_15, x3_15, x4_15, x5_15, (0 : Int32), (0 : Int32), s0_15)))
def fX9_watchOf (s0 : lm_St) (x1 : Int32) : Option (Int32 × lm_St) := (fX9_looksOf s0 x1).bind (fun v12 => lm_un2 v12 (fun r12 t12_0 => lm_lp (fun k a => bX9_watchOf_15 k a.1 a.2.1 a.2.2.1 a.2.2.2.1 a.2.2.2.2.1 a.2.2.2.2.2) 5000 (x1, r12, (-1 : Int32), (22 : Int32), (0 : Int32), t12_0)))
set_option maxHeartbeats 4000000 in
set_option maxRecDepth 100000 in
theorem hX9_watchOf (l : Launch) (G : lm_G) (q0 : Nat → Nat) {s0 : lm_St} {x1 : Int32} {R : Int32 × lm_St} (hF : fX9_watchOf s0 x1 = some R) : lm_C l G yX9_watchOf wsX9_watchOf 4 [.ref (q0 0), .int x1] (wX9 G q0 s0) (some (.int R.1)) (wX9 G q0 R.2) := by
  refine lm_C.of (cc := cX9_watchOf) (maxL := 10) (ret := (some .int)) (by decide) rfl (Nat.le_of_ble_eq_true rfl) ?_
  intro p e s m below meth c A ls B hN hl
  have hx := B.1.1
  have hb := B.1.2.1
  have hown := B.1.2.2.2.1
  have hts := B.1.2.2.2.2
  have hl : lv_has ls 10 [(0, .ref (q0 0)), (1, .int x1)] := hl
  have L15 : ∀ (n : Nat) (x1_15 : Int32) (x2_15 : Int32) (x3_15 : Int32) (x4_15 : Int32) (x5_15 : Int32) (s0_15 : lm_St) (H : Heap) (locs : List Loc) (ls : Array Slot), lm_lp (fun k a => bX9_watchOf_15 k a.1 a.2.1 a.2.2.1 a.2.2.2.1 a.2.2.2.2.1 a.2.2.2.2.2) n (x1_15, x2_15, x3_15, x4_15, x5_15, s0_15) = some R → lm_N G A s (wX9 G q0 s0_15) H locs → lv_has ls 10 [(0, .ref (q0 0)), (1, .int x1_15), (2, .int x2_15), (3, .int x3_15), (4, .int x4_15), (5, .int x5_15)] → W p l e (lm_rk 4) s m ([.ref (q0 0), .int x1] : List Value).toArray below meth c H locs 0 0 (MQ below (lm_post G (wX9 G q0 R.2) (some (.int R.1)) A) ([.ref (q0 0), .int x1] : List Value).toArray s 0 0 A) (F0 m 15 ls []) := by
    intro n
    induction n with
    | zero => intro x1_15 x2_15 x3_15 x4_15 x5_15 s0_15 H locs ls hF; exact (lm_lpz hF).elim
    | succ n ih15 =>
      intro x1_15 x2_15 x3_15 x4_15 x5_15 s0_15 H locs ls hF hN hl
      have hF : bX9_watchOf_15 (lm_lp (fun k a => bX9_watchOf_15 k a.1 a.2.1 a.2.2.1 a.2.2.2.1 a.2.2.2.2.1 a.2.2.2.2.2) n) x1_15 x2_15 x3_15 x4_15 x5_15 s0_15 = some R := lm_lps hF
      generalize lm_lp (fun k a => bX9_watchOf_15 k a.1 a.2.1 a.2.2.1 a.2.2.2.1 a.2.2.2.2.1 a.2.2.2.2.2) n = k15 at hF ih15
      have L32 : ∀ (n : Nat) (x1_32 : Int32) (x2_32 : Int32) (x3_32 : Int32) (x4_32 : Int32) (x5_32 : Int32) (x6_32 : Int32) (x7_32 : Int32) (s0_32 : lm_St) (H : Heap) (locs : List Loc) (ls : Array Slot), lm_lp (fun k a => bX9_watchOf_32 k15 k a.1 a.2.1 a.2.2.1 a.2.2.2.1 a.2.2.2.2.1 a.2.2.2.2.2.1 a.2.2.2.2.2.2.1 a.2.2.2.2.2.2.2) n (x1_32, x2_32, x3_32, x4_32, x5_32, x6_32, x7_32, s0_32) = some R → lm_N G A s (wX9 G q0 s0_32) H locs → lv_has ls 10 [(0, .ref (q0 0)), (1, .int x1_32), (2, .int x2_32), (3, .int x3_32), (4, .int x4_32), (5, .int x5_32), (6, .int x6_32), (7, .int x7_32)] → W p l e (lm_rk 4) s m ([.ref (q0 0), .int x1] : List Value).toArray below meth c H locs 0 0 (MQ below (lm_post G (wX9 G q0 R.2) (some (.int R.1)) A) ([.ref (q0 0), .int x1] : List Value).toArray s 0 0 A) (F0 m 32 ls []) := by
        intro n
        induction n with
        | zero => intro x1_32 x2_32 x3_32 x4_32 x5_32 x6_32 x7_32 s0_32 H locs ls hF; exact (lm_lpz hF).elim
        | succ n ih32 =>
          intro x1_32 x2_32 x3_32 x4_32 x5_32 x6_32 x7_32 s0_32 H locs ls hF hN hl
          have hF : bX9_watchOf_32 k15 (lm_lp (fun k a => bX9_watchOf_32 k15 k a.1 a.2.1 a.2.2.1 a.2.2.2.1 a.2.2.2.2.1 a.2.2.2.2.2.1 a.2.2.2.2.2.2.1 a.2.2.2.2.2.2.2) n) x1_32 x2_32 x3_32 x4_32 x5_32 x6_32 x7_32 s0_32 = some R := lm_lps hF
          generalize lm_lp (fun k a => bX9_watchOf_32 k15 k a.1 a.2.1 a.2.2.1 a.2.2.2.1 a.2.2.2.2.1 a.2.2.2.2.2.1 a.2.2.2.2.2.2.1 a.2.2.2.2.2.2.2) n = k32 at hF ih32
          have J139 : ∀ (x1_139 : Int32) (x2_139 : Int32) (x4_139 : Int32) (x5_139 : Int32) (x6_139 : Int32) (y0_139 : Int32) (s0_139 : lm_St) (H : Heap) (locs : List Loc) (ls : Array Slot), jX9_watchOf_139 k15 x1_139 x2_139 x4_139 x5_139 x6_139 y0_139 s0_139 = some R → lm_N G A s (wX9 G q0 s0_139) H locs → lv_has ls 10 [(0, .ref (q0 0)), (1, .int x1_139), (2, .int x2_139), (4, .int x4_139), (5, .int x5_139), (6, .int x6_139)] → W p l e (lm_rk 4) s m ([.ref (q0 0), .int x1] : List Value).toArray below meth c H locs 0 0 (MQ below (lm_post G (wX9 G q0 R.2) (some (.int R.1)) A) ([.ref (q0 0), .int x1] : List Value).toArray s 0 0 A) (F0 m 139 ls [.int y0_139]) := by
            intro x1_139 x2_139 x4_139 x5_139 x6_139 y0_139 s0_139 H locs ls hF hN hl
            have J154 : ∀ (x1_154 : Int32) (x2_154 : Int32) (x3_154 : Int32) (x5_154 : Int32) (y0_154 : Int32) (s0_154 : lm_St) (H : Heap) (locs : List Loc) (ls : Array Slot), jX9_watchOf_154 k15 x1_154 x2_154 x3_154 x5_154 y0_154 s0_154 = some R → lm_N G A s (wX9 G q0 s0_154) H locs → lv_has ls 10 [(0, .ref (q0 0)), (1, .int x1_154), (2, .int x2_154), (3, .int x3_154), (5, .int x5_154)] → W p l e (lm_rk 4) s m ([.ref (q0 0), .int x1] : List Value).toArray below meth c H locs 0 0 (MQ below (lm_post G (wX9 G q0 R.2) (some (.int R.1)) A) ([.ref (q0 0), .int x1] : List Value).toArray s 0 0 A) (F0 m 154 ls [.int y0_154]) := by
              intro x1_154 x2_154 x3_154 x5_154 y0_154 s0_154 H locs ls hF hN hl
              refine lv_istore (lv' := [(4, .int y0_154), (0, .ref (q0 0)), (1, .int x1_154), (2, .int x2_154), (3, .int x3_154), (5, .int x5_154)]) hx hb dX9_watchOf_154 hl (by decide) rfl (fun ls hl => ?_)
              refine lv_iinc (v := (x5_154 + 1)) (lv' := [(5, .int (x5_154 + 1)), (4, .int y0_154), (0, .ref (q0 0)), (1, .int x1_154), (2, .int x2_154), (3, .int x3_154)]) hx hb dX9_watchOf_156 hl (k := 5) rfl rfl (by decide) rfl (fun ls hl => ?_)
              refine lv_goto (tgt := 15) hx hb dX9_watchOf_159 (by decide) ?_
              exact ih15 _ _ _ _ _ _ _ _ _ hF hN (lv_sub hl [2, 3, 4, 5, 1, 0] rfl)
            refine lv_istore_n (lv' := [(3, .int y0_139), (0, .ref (q0 0)), (1, .int x1_139), (2, .int x2_139), (4, .int x4_139), (5, .int x5_139), (6, .int x6_139)]) hx hb dX9_watchOf_139 rfl hl (by decide) rfl (fun ls hl => ?_)
            refine lv_iload hx hb dX9_watchOf_140 (lv_at hl 6 rfl) ?_
            refine lv_iload hx hb dX9_watchOf_142 (lv_at hl 4 rfl) ?_
            refine lv_icmp_ge (tgt := 152) hx hb dX9_watchOf_144 (by decide) (fun c1 => ?_) (fun c1 => ?_)
            · have hF := lm_itp c1 hF
              refine lv_iload hx hb dX9_watchOf_152 (lv_at hl 4 rfl) ?_
              exact J154 _ _ _ _ _ _ _ _ _ hF hN (lv_sub hl [1, 2, 3, 0, 5] rfl)
            · have hF := lm_itn c1 hF
              refine lv_iload hx hb dX9_watchOf_147 (lv_at hl 6 rfl) ?_
              refine lv_goto (tgt := 154) hx hb dX9_watchOf_149 (by decide) ?_
              exact J154 _ _ _ _ _ _ _ _ _ hF hN (lv_sub hl [1, 2, 3, 0, 5] rfl)
          have L45 : ∀ (n : Nat) (x1_45 : Int32) (x2_45 : Int32) (x3_45 : Int32) (x4_45 : Int32) (x5_45 : Int32) (x6_45 : Int32) (x7_45 : Int32) (x8_45 : Int32) (x9_45 : Int32) (s0_45 : lm_St) (H : Heap) (locs : List Loc) (ls : Array Slot), lm_lp (fun k a => bX9_watchOf_45 k15 k32 k a.1 a.2.1 a.2.2.1 a.2.2.2.1 a.2.2.2.2.1 a.2.2.2.2.2.1 a.2.2.2.2.2.2.1 a.2.2.2.2.2.2.2.1 a.2.2.2.2.2.2.2.2.1 a.2.2.2.2.2.2.2.2.2) n (x1_45, x2_45, x3_45, x4_45, x5_45, x6_45, x7_45, x8_45, x9_45, s0_45) = some R → lm_N G A s (wX9 G q0 s0_45) H locs → lv_has ls 10 [(0, .ref (q0 0)), (1, .int x1_45), (2, .int x2_45), (3, .int x3_45), (4, .int x4_45), (5, .int x5_45), (6, .int x6_45), (7, .int x7_45), (8, .int x8_45), (9, .int x9_45)] → W p l e (lm_rk 4) s m ([.ref (q0 0), .int x1] : List Value).toArray below meth c H locs 0 0 (MQ below (lm_post G (wX9 G q0 R.2) (some (.int R.1)) A) ([.ref (q0 0), .int x1] : List Value).toArray s 0 0 A) (F0 m 45 ls []) := by
            intro n
            induction n with
            | zero => intro x1_45 x2_45 x3_45 x4_45 x5_45 x6_45 x7_45 x8_45 x9_45 s0_45 H locs ls hF; exact (lm_lpz hF).elim
            | succ n ih45 =>
              intro x1_45 x2_45 x3_45 x4_45 x5_45 x6_45 x7_45 x8_45 x9_45 s0_45 H locs ls hF hN hl
              have hF : bX9_watchOf_45 k15 k32 (lm_lp (fun k a => bX9_watchOf_45 k15 k32 k a.1 a.2.1 a.2.2.1 a.2.2.2.1 a.2.2.2.2.1 a.2.2.2.2.2.1 a.2.2.2.2.2.2.1 a.2.2.2.2.2.2.2.1 a.2.2.2.2.2.2.2.2.1 a.2.2.2.2.2.2.2.2.2) n) x1_45 x2_45 x3_45 x4_45 x5_45 x6_45 x7_45 x8_45 x9_45 s0_45 = some R := lm_lps hF
              generalize lm_lp (fun k a => bX9_watchOf_45 k15 k32 k a.1 a.2.1 a.2.2.1 a.2.2.2.1 a.2.2.2.2.1 a.2.2.2.2.2.1 a.2.2.2.2.2.2.1 a.2.2.2.2.2.2.2.1 a.2.2.2.2.2.2.2.2.1 a.2.2.2.2.2.2.2.2.2) n = k45 at hF ih45
              have J118 : ∀ (x1_118 : Int32) (x2_118 : Int32) (x3_118 : Int32) (x4_118 : Int32) (x5_118 : Int32) (x7_118 : Int32) (y0_118 : Int32) (s0_118 : lm_St) (H : Heap) (locs : List Loc) (ls : Array Slot), jX9_watchOf_118 k15 k32 x1_118 x2_118 x3_118 x4_118 x5_118 x7_118 y0_118 s0_118 = some R → lm_N G A s (wX9 G q0 s0_118) H locs → lv_has ls 10 [(0, .ref (q0 0)), (1, .int x1_118), (2, .int x2_118), (3, .int x3_118), (4, .int x4_118), (5, .int x5_118), (7, .int x7_118)] → W p l e (lm_rk 4) s m ([.ref (q0 0), .int x1] : List Value).toArray below meth c H locs 0 0 (MQ below (lm_post G (wX9 G q0 R.2) (some (.int R.1)) A) ([.ref (q0 0), .int x1] : List Value).toArray s 0 0 A) (F0 m 118 ls [.int y0_118]) := by
                intro x1_118 x2_118 x3_118 x4_118 x5_118 x7_118 y0_118 s0_118 H locs ls hF hN hl
                refine lv_istore (lv' := [(6, .int y0_118), (0, .ref (q0 0)), (1, .int x1_118), (2, .int x2_118), (3, .int x3_118), (4, .int x4_118), (5, .int x5_118), (7, .int x7_118)]) hx hb dX9_watchOf_118 hl (by decide) rfl (fun ls hl => ?_)
                refine lv_iinc (v := (x7_118 + 1)) (lv' := [(7, .int (x7_118 + 1)), (6, .int y0_118), (0, .ref (q0 0)), (1, .int x1_118), (2, .int x2_118), (3, .int x3_118), (4, .int x4_118), (5, .int x5_118)]) hx hb dX9_watchOf_120 hl (k := 7) rfl rfl (by decide) rfl (fun ls hl => ?_)
                refine lv_goto (tgt := 32) hx hb dX9_watchOf_123 (by decide) ?_
                exact ih32 _ _ _ _ _ _ _ _ _ _ _ hF hN (lv_sub hl [2, 3, 4, 5, 6, 7, 1, 0] rfl)
              have J116 : ∀ (x1_116 : Int32) (x2_116 : Int32) (x3_116 : Int32) (x4_116 : Int32) (x5_116 : Int32) (x6_116 : Int32) (x7_116 : Int32) (s0_116 : lm_St) (H : Heap) (locs : List Loc) (ls : Array Slot), jX9_watchOf_116 k15 k32 x1_116 x2_116 x3_116 x4_116 x5_116 x6_116 x7_116 s0_116 = some R → lm_N G A s (wX9 G q0 s0_116) H locs → lv_has ls 10 [(0, .ref (q0 0)), (1, .int x1_116), (2, .int x2_116), (3, .int x3_116), (4, .int x4_116), (5, .int x5_116), (6, .int x6_116), (7, .int x7_116)] → W p l e (lm_rk 4) s m ([.ref (q0 0), .int x1] : List Value).toArray below meth c H locs 0 0 (MQ below (lm_post G (wX9 G q0 R.2) (some (.int R.1)) A) ([.ref (q0 0), .int x1] : List Value).toArray s 0 0 A) (F0 m 116 ls []) := by
                intro x1_116 x2_116 x3_116 x4_116 x5_116 x6_116 x7_116 s0_116 H locs ls hF hN hl
                refine lv_iload hx hb dX9_watchOf_116 (lv_at hl 6 rfl) ?_
                exact J118 _ _ _ _ _ _ _ _ _ _ _ hF hN (lv_sub hl [0, 1, 2, 3, 4, 5, 7] rfl)
              have J85 : ∀ (x1_85 : Int32) (x2_85 : Int32) (x3_85 : Int32) (x4_85 : Int32) (x5_85 : Int32) (x6_85 : Int32) (x7_85 : Int32) (x9_85 : Int32) (y0_85 : Int32) (y1_85 : Int32) (s0_85 : lm_St) (H : Heap) (locs : List Loc) (ls : Array Slot), jX9_watchOf_85 k15 k32 k45 x1_85 x2_85 x3_85 x4_85 x5_85 x6_85 x7_85 x9_85 y0_85 y1_85 s0_85 = some R → lm_N G A s (wX9 G q0 s0_85) H locs → lv_has ls 10 [(0, .ref (q0 0)), (1, .int x1_85), (2, .int x2_85), (3, .int x3_85), (4, .int x4_85), (5, .int x5_85), (6, .int x6_85), (7, .int x7_85), (9, .int x9_85)] → W p l e (lm_rk 4) s m ([.ref (q0 0), .int x1] : List Value).toArray below meth c H locs 0 0 (MQ below (lm_post G (wX9 G q0 R.2) (some (.int R.1)) A) ([.ref (q0 0), .int x1] : List Value).toArray s 0 0 A) (F0 m 85 ls [.int y0_85, .int y1_85]) := by
                intro x1_85 x2_85 x3_85 x4_85 x5_85 x6_85 x7_85 x9_85 y0_85 y1_85 s0_85 H locs ls hF hN hl
                refine lv_iadd hx hb dX9_watchOf_85 ?_
                refine lv_istore (lv' := [(8, .int (y1_85 + y0_85)), (0, .ref (q0 0)), (1, .int x1_85), (2, .int x2_85), (3, .int x3_85), (4, .int x4_85), (5, .int x5_85), (6, .int x6_85), (7, .int x7_85), (9, .int x9_85)]) hx hb dX9_watchOf_86 hl (by decide) rfl (fun ls hl => ?_)
                refine lv_iinc (v := (x9_85 + 1)) (lv' := [(9, .int (x9_85 + 1)), (8, .int (y1_85 + y0_85)), (0, .ref (q0 0)), (1, .int x1_85), (2, .int x2_85), (3, .int x3_85), (4, .int x4_85), (5, .int x5_85), (6, .int x6_85), (7, .int x7_85)]) hx hb dX9_watchOf_88 hl (k := 9) rfl rfl (by decide) rfl (fun ls hl => ?_)
                refine lv_goto (tgt := 45) hx hb dX9_watchOf_91 (by decide) ?_
                exact ih45 _ _ _ _ _ _ _ _ _ _ _ _ _ hF hN (lv_sub hl [2, 3, 4, 5, 6, 7, 8, 9, 1, 0] rfl)
              refine lv_iload hx hb dX9_watchOf_45 (lv_at hl 9 rfl) ?_
              refine lv_bipush (v := 21) hx hb dX9_watchOf_47 (by decide) ?_
              refine lv_icmp_ge (tgt := 94) hx hb dX9_watchOf_49 (by decide) (fun c2 => ?_) (fun c2 => ?_)
              · have hF := lm_itp c2 hF
                refine lv_iload_n hx hb dX9_watchOf_94 rfl (lv_at hl 2 rfl) ?_
                refine lv_iload hx hb dX9_watchOf_95 (lv_at hl 7 rfl) ?_
                refine lv_ishr hx hb dX9_watchOf_97 ?_
                refine lv_iconst (v := 1) hx hb dX9_watchOf_98 (by decide) ?_
                refine lv_iand hx hb dX9_watchOf_99 ?_
                refine lv_iconst (v := 1) hx hb dX9_watchOf_100 (by decide) ?_
                refine lv_icmp_ne (tgt := 116) hx hb dX9_watchOf_101 (by decide) (fun c3 => ?_) (fun c3 => ?_)
                · have hF := lm_itn c3 hF
                  exact J116 _ _ _ _ _ _ _ _ _ _ _ hF hN (lv_sub hl [0, 1, 2, 3, 4, 5, 6, 7] rfl)
                · have hF := lm_itp c3 hF
                  refine lv_iload hx hb dX9_watchOf_104 (lv_at hl 8 rfl) ?_
                  refine lv_iload hx hb dX9_watchOf_106 (lv_at hl 6 rfl) ?_
                  refine lv_icmp_le (tgt := 116) hx hb dX9_watchOf_108 (by decide) (fun c4 => ?_) (fun c4 => ?_)
                  · have hF := lm_itp c4 hF
                    exact J116 _ _ _ _ _ _ _ _ _ _ _ hF hN (lv_sub hl [0, 1, 2, 3, 4, 5, 6, 7] rfl)
                  · have hF := lm_itn c4 hF
                    refine lv_iload hx hb dX9_watchOf_111 (lv_at hl 8 rfl) ?_
                    refine lv_goto (tgt := 118) hx hb dX9_watchOf_113 (by decide) ?_
                    exact J118 _ _ _ _ _ _ _ _ _ _ _ hF hN (lv_sub hl [0, 1, 2, 3, 4, 5, 7] rfl)
              · have hF := lm_itn c2 hF
                refine lv_iload hx hb dX9_watchOf_52 (lv_at hl 8 rfl) ?_
                refine lv_aload_n hx hb dX9_watchOf_54 rfl (lv_at hl 0 rfl) ?_
                refine lv_iload_n hx hb dX9_watchOf_55 rfl (lv_at hl 1 rfl) ?_
                refine lv_iload hx hb dX9_watchOf_56 (lv_at hl 9 rfl) ?_
                refine lv_iload hx hb dX9_watchOf_58 (lv_at hl 5 rfl) ?_
                obtain ⟨⟨r5, t5_0⟩, hc5, hF⟩ := lm_bd hF
                have hF := lm_un2E hF
                refine lm_runA B hN (lm_hrV B hN hl.1 (lm_cutA B hN) (n := 3) (As := [.int x1_45, .int x9_45, .int x5_45]) (rest := [.int x8_45]) (hX9_missedIf l G q0 hc5) gX9_watchOf_X9_missedIf rfl (by decide +kernel) rfl (by decide) (by decide) (ci := 9) (q0 := 0) rfl rfl rfl (Nat.le_of_ble_eq_true rfl) dX9_watchOf_60) (fun H locs hN => ?_)
                refine lv_aload_n hx hb dX9_watchOf_63 rfl (lv_at hl 0 rfl) ?_
                refine lv_iload_n hx hb dX9_watchOf_64 rfl (lv_at hl 1 rfl) ?_
                refine lv_iload hx hb dX9_watchOf_65 (lv_at hl 7 rfl) ?_
                refine lv_iload hx hb dX9_watchOf_67 (lv_at hl 5 rfl) ?_
                obtain ⟨⟨r6, t6_0⟩, hc6, hF⟩ := lm_bd hF
                have hF := lm_un2E hF
                refine lm_runA B hN (lm_hrV B hN hl.1 (lm_cutA B hN) (n := 3) (As := [.int x1_45, .int x7_45, .int x5_45]) (rest := [.int r5, .int x8_45]) (hX9_missedIf l G q0 hc6) gX9_watchOf_X9_missedIf rfl (by decide +kernel) rfl (by decide) (by decide) (ci := 9) (q0 := 0) rfl rfl rfl (Nat.le_of_ble_eq_true rfl) dX9_watchOf_69) (fun H locs hN => ?_)
                refine lv_icmp_ne (tgt := 84) hx hb dX9_watchOf_72 (by decide) (fun c7 => ?_) (fun c7 => ?_)
                · have hF := lm_itn c7 hF
                  refine lv_iconst (v := 0) hx hb dX9_watchOf_84 (by decide) ?_
                  exact J85 _ _ _ _ _ _ _ _ _ _ _ _ _ _ hF hN (lv_sub hl [0, 1, 2, 3, 4, 5, 6, 7, 9] rfl)
                · have hF := lm_itp c7 hF
                  refine lv_iload_n hx hb dX9_watchOf_75 rfl (lv_at hl 2 rfl) ?_
                  refine lv_iload hx hb dX9_watchOf_76 (lv_at hl 9 rfl) ?_
                  refine lv_ishr hx hb dX9_watchOf_78 ?_
                  refine lv_iconst (v := 1) hx hb dX9_watchOf_79 (by decide) ?_
                  refine lv_iand hx hb dX9_watchOf_80 ?_
                  refine lv_goto (tgt := 85) hx hb dX9_watchOf_81 (by decide) ?_
                  exact J85 _ _ _ _ _ _ _ _ _ _ _ _ _ _ hF hN (lv_sub hl [0, 1, 2, 3, 4, 5, 6, 7, 9] rfl)
          refine lv_iload hx hb dX9_watchOf_32 (lv_at hl 7 rfl) ?_
          refine lv_bipush (v := 21) hx hb dX9_watchOf_34 (by decide) ?_
          refine lv_icmp_ge (tgt := 126) hx hb dX9_watchOf_36 (by decide) (fun c8 => ?_) (fun c8 => ?_)
          · have hF := lm_itp c8 hF
            refine lv_iload hx hb dX9_watchOf_126 (lv_at hl 6 rfl) ?_
            refine lv_iload hx hb dX9_watchOf_128 (lv_at hl 4 rfl) ?_
            refine lv_icmp_ge (tgt := 138) hx hb dX9_watchOf_130 (by decide) (fun c9 => ?_) (fun c9 => ?_)
            · have hF := lm_itp c9 hF
              refine lv_iload_n hx hb dX9_watchOf_138 rfl (lv_at hl 3 rfl) ?_
              exact J139 _ _ _ _ _ _ _ _ _ _ hF hN (lv_sub hl [0, 1, 2, 4, 5, 6] rfl)
            · have hF := lm_itn c9 hF
              refine lv_iload hx hb dX9_watchOf_133 (lv_at hl 5 rfl) ?_
              refine lv_goto (tgt := 139) hx hb dX9_watchOf_135 (by decide) ?_
              exact J139 _ _ _ _ _ _ _ _ _ _ hF hN (lv_sub hl [0, 1, 2, 4, 5, 6] rfl)
          · have hF := lm_itn c8 hF
            refine lv_iconst (v := 0) hx hb dX9_watchOf_39 (by decide) ?_
            refine lv_istore (lv' := [(8, .int (0 : Int32)), (0, .ref (q0 0)), (1, .int x1_32), (2, .int x2_32), (3, .int x3_32), (4, .int x4_32), (5, .int x5_32), (6, .int x6_32), (7, .int x7_32)]) hx hb dX9_watchOf_40 hl (by decide) rfl (fun ls hl => ?_)
            refine lv_iconst (v := 0) hx hb dX9_watchOf_42 (by decide) ?_
            refine lv_istore (lv' := [(9, .int (0 : Int32)), (8, .int (0 : Int32)), (0, .ref (q0 0)), (1, .int x1_32), (2, .int x2_32), (3, .int x3_32), (4, .int x4_32), (5, .int x5_32), (6, .int x6_32), (7, .int x7_32)]) hx hb dX9_watchOf_43 hl (by decide) rfl (fun ls hl => ?_)
            exact L45 5000 _ _ _ _ _ _ _ _ _ _ _ _ _ hF hN (lv_sub hl [2, 3, 4, 5, 6, 7, 8, 9, 1, 0] rfl)
      refine lv_iload hx hb dX9_watchOf_15 (lv_at hl 5 rfl) ?_
      refine lv_bipush (v := 10) hx hb dX9_watchOf_17 (by decide) ?_
      refine lv_icmp_ge (tgt := 162) hx hb dX9_watchOf_19 (by decide) (fun c10 => ?_) (fun c10 => ?_)
      · have hF := lm_itp c10 hF
        refine lv_iload_n hx hb dX9_watchOf_162 rfl (lv_at hl 3 rfl) ?_
        cases hF
        exact lm_iret B hN dX9_watchOf_163
      · have hF := lm_itn c10 hF
        refine lv_iload_n hx hb dX9_watchOf_22 rfl (lv_at hl 2 rfl) ?_
        refine lv_if_eq (tgt := 162) hx hb dX9_watchOf_23 (by decide) (fun c11 => ?_) (fun c11 => ?_)
        · have hF := lm_itp c11 hF
          refine lv_iload_n hx hb dX9_watchOf_162 rfl (lv_at hl 3 rfl) ?_
          cases hF
          exact lm_iret B hN dX9_watchOf_163
        · have hF := lm_itn c11 hF
          refine lv_iconst (v := 0) hx hb dX9_watchOf_26 (by decide) ?_
          refine lv_istore (lv' := [(6, .int (0 : Int32)), (0, .ref (q0 0)), (1, .int x1_15), (2, .int x2_15), (3, .int x3_15), (4, .int x4_15), (5, .int x5_15)]) hx hb dX9_watchOf_27 hl (by decide) rfl (fun ls hl => ?_)
          refine lv_iconst (v := 0) hx hb dX9_watchOf_29 (by decide) ?_
          refine lv_istore (lv' := [(7, .int (0 : Int32)), (6, .int (0 : Int32)), (0, .ref (q0 0)), (1, .int x1_15), (2, .int x2_15), (3, .int x3_15), (4, .int x4_15), (5, .int x5_15)]) hx hb dX9_watchOf_30 hl (by decide) rfl (fun ls hl => ?_)
          exact L32 5000 _ _ _ _ _ _ _ _ _ _ _ hF hN (lv_sub hl [2, 3, 4, 5, 6, 7, 1, 0] rfl)
  refine lv_aload_n hx hb dX9_watchOf_0 rfl (lv_at hl 0 rfl) ?_
  refine lv_iload_n hx hb dX9_watchOf_1 rfl (lv_at hl 1 rfl) ?_
  obtain ⟨⟨r12, t12_0⟩, hc12, hF⟩ := lm_bd hF
  have hF := lm_un2E hF
  refine lm_runA B hN (lm_hrV B hN hl.1 (lm_cutA B hN) (n := 1) (As := [.int x1]) (rest := []) (hX9_looksOf l G q0 hc12) gX9_watchOf_X9_looksOf rfl (by decide +kernel) rfl (by decide) (by decide) (ci := 9) (q0 := 0) rfl rfl rfl (Nat.le_of_ble_eq_true rfl) dX9_watchOf_2) (fun H locs hN => ?_)
  refine lv_istore_n (lv' := [(2, .int r12), (0, .ref (q0 0)), (1, .int x1)]) hx hb dX9_watchOf_5 rfl hl (by decide) rfl (fun ls hl => ?_)
  refine lv_iconst (v := -1) hx hb dX9_watchOf_6 (by decide) ?_
  refine lv_istore_n (lv' := [(3, .int (-1 : Int32)), (2, .int r12), (0, .ref (q0 0)), (1, .int x1)]) hx hb dX9_watchOf_7 rfl hl (by decide) rfl (fun ls hl => ?_)
  refine lv_bipush (v := 22) hx hb dX9_watchOf_8 (by decide) ?_
  refine lv_istore (lv' := [(4, .int (22 : Int32)), (3, .int (-1 : Int32)), (2, .int r12), (0, .ref (q0 0)), (1, .int x1)]) hx hb dX9_watchOf_10 hl (by decide) rfl (fun ls hl => ?_)
  refine lv_iconst (v := 0) hx hb dX9_watchOf_12 (by decide) ?_
  refine lv_istore (lv' := [(5, .int (0 : Int32)), (4, .int (22 : Int32)), (3, .int (-1 : Int32)), (2, .int r12), (0, .ref (q0 0)), (1, .int x1)]) hx hb dX9_watchOf_13 hl (by decide) rfl (fun ls hl => ?_)
  exact L15 5000 _ _ _ _ _ _ _ _ _ hF hN (lv_sub hl [4, 5, 3, 2, 1, 0] rfl)
