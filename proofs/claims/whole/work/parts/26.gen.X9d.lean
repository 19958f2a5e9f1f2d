def fX9_count (s0 : lm_St) (x1 : Int32) : Option (Int32 × lm_St) := (fX9_countOf s0 x1).bind (fun v1 => lm_un2 v1 (fun r1 t1_0 => some (r1, t1_0)))
set_option maxHeartbeats 4000000 in
set_option maxRecDepth 100000 in
theorem hX9_count (l : Launch) (G : lm_G) (q0 : Nat → Nat) {s0 : lm_St} {x1 : Int32} {R : Int32 × lm_St} (hF : fX9_count s0 x1 = some R) : lm_C l G yX9_count wsX9_count 5 [.ref (q0 0), .int x1] (wX9 G q0 s0) (some (.int R.1)) (wX9 G q0 R.2) := by
  refine lm_C.of (cc := cX9_count) (maxL := 2) (ret := (some .int)) (by decide) rfl (Nat.le_of_ble_eq_true rfl) ?_
  intro p e s m below meth c A ls B hN hl
  have hx := B.1.1
  have hb := B.1.2.1
  have hown := B.1.2.2.2.1
  have hts := B.1.2.2.2.2
  have hl : lv_has ls 2 [(0, .ref (q0 0)), (1, .int x1)] := hl
  refine lv_aload_n hx hb dX9_count_0 rfl (lv_at hl 0 rfl) ?_
  refine lv_iload_n hx hb dX9_count_1 rfl (lv_at hl 1 rfl) ?_
  obtain ⟨⟨r1, t1_0⟩, hc1, hF⟩ := lm_bd hF
  have hF := lm_un2E hF
  refine lm_runA B hN (lm_hrV B hN hl.1 (lm_cutA B hN) (n := 1) (As := [.int x1]) (rest := []) (hX9_countOf l G q0 hc1) gX9_count_X9_countOf rfl (by decide +kernel) rfl (by decide) (by decide) (ci := 9) (q0 := 0) rfl rfl rfl (Nat.le_of_ble_eq_true rfl) dX9_count_2) (fun H locs hN => ?_)
  cases hF
  exact lm_iret B hN dX9_count_5
def fX9_makeUp (s0 : lm_St) (x1 : Int32) : Option (Int32 × lm_St) := (fX9_in x1.toInt64 (0 : Int64) (2 : Int64)).bind (fun r1 => if r1 = 0 then (some ((-102 : Int32), s0)) else ((fX9_lacks s0).bind (fun v3 => lm_un2 v3 (fun r3 t3_0 => if r3 = 0 then ((fX9_makeUpOf t3_0 x1).bind (fun v5 => lm_un2 v5 (fun r5 t5_0 => some (r5, t5_0)))) else (some ((-103 : Int32), t3_0))))))
set_option maxHeartbeats 4000000 in
set_option maxRecDepth 100000 in
theorem hX9_makeUp (l : Launch) (G : lm_G) (q0 : Nat → Nat) {s0 : lm_St} {x1 : Int32} {R : Int32 × lm_St} (hF : fX9_makeUp s0 x1 = some R) : lm_C l G yX9_makeUp wsX9_makeUp 5 [.ref (q0 0), .int x1] (wX9 G q0 s0) (some (.int R.1)) (wX9 G q0 R.2) := by
  refine lm_C.of (cc := cX9_makeUp) (maxL := 2) (ret := (some .int)) (by decide) rfl (Nat.le_of_ble_eq_true rfl) ?_
  intro p e s m below meth c A ls B hN hl
  have hx := B.1.1
  have hb := B.1.2.1
  have hown := B.1.2.2.2.1
  have hts := B.1.2.2.2.2
  have hl : lv_has ls 2 [(0, .ref (q0 0)), (1, .int x1)] := hl
  refine lv_iload_n hx hb dX9_makeUp_0 rfl (lv_at hl 1 rfl) ?_
  refine lv_i2l hx hb dX9_makeUp_1 rfl ?_
  refine lv_lconst (v := 0) hx hb dX9_makeUp_2 (by decide) ?_
  refine lv_ldc2 (v := 2) hx hb hown (hts (.constantLong RX9 204 (2)) (by decide +kernel)) dX9_makeUp_3 ?_
  obtain ⟨r1, hc1, hF⟩ := lm_bd hF
  refine lm_run0 B hN (lm_hrT B hN hl.1 (lm_cut0 B hN) (n := 3) (As := [.long x1.toInt64, .long (0 : Int64), .long (2 : Int64)]) (rest := []) (hX9_in l G hc1) gX9_makeUp_X9_in rfl (by decide +kernel) rfl (by decide) (by decide) rfl (Nat.le_of_ble_eq_true rfl) dX9_makeUp_6) (fun H locs hN => ?_)
  refine lv_if_ne (tgt := 15) hx hb dX9_makeUp_9 (by decide) (fun c2 => ?_) (fun c2 => ?_)
  · have hF := lm_itn c2 hF
    refine lv_aload_n hx hb dX9_makeUp_15 rfl (lv_at hl 0 rfl) ?_
    obtain ⟨⟨r3, t3_0⟩, hc3, hF⟩ := lm_bd hF
    have hF := lm_un2E hF
    refine lm_runA B hN (lm_hrV B hN hl.1 (lm_cutA B hN) (n := 0) (As := []) (rest := []) (hX9_lacks l G q0 hc3) gX9_makeUp_X9_lacks rfl (by decide +kernel) rfl (by decide) (by decide) (ci := 9) (q0 := 0) rfl rfl rfl (Nat.le_of_ble_eq_true rfl) dX9_makeUp_16) (fun H locs hN => ?_)
    refine lv_if_eq (tgt := 27) hx hb dX9_makeUp_19 (by decide) (fun c4 => ?_) (fun c4 => ?_)
    · have hF := lm_itp c4 hF
      refine lv_aload_n hx hb dX9_makeUp_27 rfl (lv_at hl 0 rfl) ?_
      refine lv_iload_n hx hb dX9_makeUp_28 rfl (lv_at hl 1 rfl) ?_
      obtain ⟨⟨r5, t5_0⟩, hc5, hF⟩ := lm_bd hF
      have hF := lm_un2E hF
      refine lm_runA B hN (lm_hrV B hN hl.1 (lm_cutA B hN) (n := 1) (As := [.int x1]) (rest := []) (hX9_makeUpOf l G q0 hc5) gX9_makeUp_X9_makeUpOf rfl (by decide +kernel) rfl (by decide) (by decide) (ci := 9) (q0 := 0) rfl rfl rfl (Nat.le_of_ble_eq_true rfl) dX9_makeUp_29) (fun H locs hN => ?_)
      cases hF
      exact lm_iret B hN dX9_makeUp_32
    · have hF := lm_itn c4 hF
      refine lv_bipush (v := -103) hx hb dX9_makeUp_22 (by decide) ?_
      refine lv_goto (tgt := 32) hx hb dX9_makeUp_24 (by decide) ?_
      cases hF
      exact lm_iret B hN dX9_makeUp_32
  · have hF := lm_itp c2 hF
    refine lv_bipush (v := -102) hx hb dX9_makeUp_12 (by decide) ?_
    cases hF
    exact lm_iret B hN dX9_makeUp_14
def jX9_months_125 (k56 : Int32 × Int32 × Int32 × Int32 × lm_St → Option (Int32 × lm_St)) (x1_125 : Int32) (x3_125 : Int32) (x5_125 : Int32) (y0_125 : Int32) (y1_125 : Int32) (s0_125 : lm_St) : Option (Int32 × lm_St) := k56 (x1_125, x3_125, (y1_125 + y0_125), (x5_125 + 1), s0_125)
def jX9_months_99 (k56 : Int32 × Int32 × Int32 × Int32 × lm_St → Option (Int32 × lm_St)) (x1_99 : Int32) (x3_99 : Int32) (x4_99 : Int32) (x5_99 : Int32) (s0_99 : lm_St) : Option (Int32 × lm_St) := (fX9_dayThen s0_99).bind (fun t1_0 => if (((t1_0.1 4) + x5_99) - ((t1_0.1 4) + x5_99) / (5 : Int32) * (5 : Int32)) = 0 then ((fX9_takeThen t1_0).bind (fun v3 => lm_un2 v3 (fun r3 t3_0 => jX9_months_125 k56 x1_99 x3_99 x5_99 r3 x4_99 t3_0))) else (jX9_months_125 k56 x1_99 x3_99 x5_99 (0 : Int32) x4_99 t1_0))
def bX9_months_56 (k56 : Int32 × Int32 × Int32 × Int32 × lm_St → Option (Int32 × lm_St)) (x1_56 : Int32) (x3_56 : Int32) (x4_56 : Int32) (x5_56 : Int32) (s0_56 : lm_St) : Option (Int32 × lm_St) := if x1_56 < x5_56 then (if x3_56 = 0 then (some (x4_56, s0_56)) else (if x3_56 = (1 : Int32) then (some ((s0_56.1 7), s0_56)) else (some ((s0_56.1 10), s0_56)))) else ((fX9_draw s0_56 ((s0_56.1 2) + (1 : Int32))).bind (fun v7 => lm_un2 v7 (fun r7 t7_0 => if (t7_0.1 2) ≤ r7 then (jX9_months_99 k56 x1_56 x3_56 x4_56 x5_56 t7_0) else (lm_gI r7 7 (if ((t7_0.2.1 8) r7.toNatClampNeg) = 0 then ((fX9_touchThen t7_0 r7).bind (fun t11_0 => jX9_months_99 k56 x1_56 x3_56 x4_56 x5_56 t11_0)) else (jX9_months_99 k56 x1_56 x3_56 x4_56 x5_56 t7_0))))))
def fX9_months (s0 : lm_St) (x1 : Int32) (x2 : Int32) (x3 : Int32) : Option (Int32 × lm_St) := (fX9_in x1.toInt64 (1 : Int64) (60 : Int64)).bind (fun r12 => if r12 = 0 then (some ((-102 : Int32), s0)) else (if x2 < 0 then (some ((-102 : Int32), s0)) else ((fX9_in x3.toInt64 (0 : Int64) (2 : Int64)).bind (fun r15 => if r15 = 0 then (some ((-102 : Int32), s0)) else ((fX9_lacks s0).bind (fun v17 => lm_un2 v17 (fun r17 t17_0 => if r17 = 0 then ((fX9_begin (lm_sF t17_0 10 x2)).bind (fun t19_0 => lm_lp (fun k a => bX9_months_56 k a.1 a.2.1 a.2.2.1 a.2.2.2.1 a.2.2.2.2) 5000 (x1, x3, (0 : Int32), (1 : Int32), t19_0))) else (some ((-103 : Int32), t17_0)))))))))
set_option maxHeartbeats 4000000 in
set_option maxRecDepth 100000 in
theorem hX9_months (l : Launch) (G : lm_G) (q0 : Nat → Nat) {s0 : lm_St} {x1 : Int32} {x2 : Int32} {x3 : Int32} {R : Int32 × lm_St} (hF : fX9_months s0 x1 x2 x3 = some R) : lm_C l G yX9_months wsX9_months 5 [.ref (q0 0), .int x1, .int x2, .int x3] (wX9 G q0 s0) (some (.int R.1)) (wX9 G q0 R.2) := by
  refine lm_C.of (cc := cX9_months) (maxL := 7) (ret := (some .int)) (by decide) rfl (Nat.le_of_ble_eq_true rfl) ?_
  intro p e s m below meth c A ls B hN hl
  have hx := B.1.1
  have hb := B.1.2.1
  have hown := B.1.2.2.2.1
  have hts := B.1.2.2.2.2
  have hiX9 : ∀ w ∈ wsX90, w ∈ wsX9_months := by decide +kernel
  have hl : lv_has ls 7 [(0, .ref (q0 0)), (1, .int x1), (2, .int x2), (3, .int x3)] := hl
  have L56 : ∀ (n : Nat) (x1_56 : Int32) (x3_56 : Int32) (x4_56 : Int32) (x5_56 : Int32) (s0_56 : lm_St) (H : Heap) (locs : List Loc) (ls : Array Slot), lm_lp (fun k a => bX9_months_56 k a.1 a.2.1 a.2.2.1 a.2.2.2.1 a.2.2.2.2) n (x1_56, x3_56, x4_56, x5_56, s0_56) = some R → lm_N G A s (wX9 G q0 s0_56) H locs → lv_has ls 7 [(0, .ref (q0 0)), (1, .int x1_56), (3, .int x3_56), (4, .int x4_56), (5, .int x5_56)] → W p l e (lm_rk 5) s m ([.ref (q0 0), .int x1, .int x2, .int x3] : List Value).toArray below meth c H locs 0 0 (MQ below (lm_post G (wX9 G q0 R.2) (some (.int R.1)) A) ([.ref (q0 0), .int x1, .int x2, .int x3] : List Value).toArray s 0 0 A) (F0 m 56 ls []) := by
    intro n
    induction n with
    | zero => intro x1_56 x3_56 x4_56 x5_56 s0_56 H locs ls hF; exact (lm_lpz hF).elim
    | succ n ih56 =>
      intro x1_56 x3_56 x4_56 x5_56 s0_56 H locs ls hF hN hl
      have hF : bX9_months_56 (lm_lp (fun k a => bX9_months_56 k a.1 a.2.1 a.2.2.1 a.2.2.2.1 a.2.2.2.2) n) x1_56 x3_56 x4_56 x5_56 s0_56 = some R := lm_lps hF
      generalize lm_lp (fun k a => bX9_months_56 k a.1 a.2.1 a.2.2.1 a.2.2.2.1 a.2.2.2.2) n = k56 at hF ih56
      have J99 : ∀ (x1_99 : Int32) (x3_99 : Int32) (x4_99 : Int32) (x5_99 : Int32) (s0_99 : lm_St) (H : Heap) (locs : List Loc) (ls : Array Slot), jX9_months_99 k56 x1_99 x3_99 x4_99 x5_99 s0_99 = some R → lm_N G A s (wX9 G q0 s0_99) H locs → lv_has ls 7 [(0, .ref (q0 0)), (1, .int x1_99), (3, .int x3_99), (4, .int x4_99), (5, .int x5_99)] → W p l e (lm_rk 5) s m ([.ref (q0 0), .int x1, .int x2, .int x3] : List Value).toArray below meth c H locs 0 0 (MQ below (lm_post G (wX9 G q0 R.2) (some (.int R.1)) A) ([.ref (q0 0), .int x1, .int x2, .int x3] : List Value).toArray s 0 0 A) (F0 m 99 ls []) := by
        intro x1_99 x3_99 x4_99 x5_99 s0_99 H locs ls hF hN hl
        have J125 : ∀ (x1_125 : Int32) (x3_125 : Int32) (x5_125 : Int32) (y0_125 : Int32) (y1_125 : Int32) (s0_125 : lm_St) (H : Heap) (locs : List Loc) (ls : Array Slot), jX9_months_125 k56 x1_125 x3_125 x5_125 y0_125 y1_125 s0_125 = some R → lm_N G A s (wX9 G q0 s0_125) H locs → lv_has ls 7 [(0, .ref (q0 0)), (1, .int x1_125), (3, .int x3_125), (5, .int x5_125)] → W p l e (lm_rk 5) s m ([.ref (q0 0), .int x1, .int x2, .int x3] : List Value).toArray below meth c H locs 0 0 (MQ below (lm_post G (wX9 G q0 R.2) (some (.int R.1)) A) ([.ref (q0 0), .int x1, .int x2, .int x3] : List Value).toArray s 0 0 A) (F0 m 125 ls [.int y0_125, .int y1_125]) := by
          intro x1_125 x3_125 x5_125 y0_125 y1_125 s0_125 H locs ls hF hN hl
          refine lv_iadd hx hb dX9_months_125 ?_
          refine lv_istore (lv' := [(4, .int (y1_125 + y0_125)), (0, .ref (q0 0)), (1, .int x1_125), (3, .int x3_125), (5, .int x5_125)]) hx hb dX9_months_126 hl (by decide) rfl (fun ls hl => ?_)
          refine lv_iinc (v := (x5_125 + 1)) (lv' := [(5, .int (x5_125 + 1)), (4, .int (y1_125 + y0_125)), (0, .ref (q0 0)), (1, .int x1_125), (3, .int x3_125)]) hx hb dX9_months_128 hl (k := 4) rfl rfl (by decide) rfl (fun ls hl => ?_)
          refine lv_goto (tgt := 56) hx hb dX9_months_131 (by decide) ?_
          exact ih56 _ _ _ _ _ _ _ _ hF hN (lv_sub hl [2, 3, 4, 1, 0] rfl)
        refine lv_aload_n hx hb dX9_months_99 rfl (lv_at hl 0 rfl) ?_
        obtain ⟨t1_0, hc1, hF⟩ := lm_bd hF
        refine lm_runA B hN (lm_hrV B hN hl.1 (lm_cutA B hN) (n := 0) (As := []) (rest := []) (hX9_dayThen l G q0 hc1) gX9_months_X9_dayThen rfl (by decide +kernel) rfl (by decide) (by decide) (ci := 9) (q0 := 0) rfl rfl rfl (Nat.le_of_ble_eq_true rfl) dX9_months_100) (fun H locs hN => ?_)
        refine lv_iload hx hb dX9_months_103 (lv_at hl 3 rfl) ?_
        refine lv_aload_n hx hb dX9_months_105 rfl (lv_at hl 0 rfl) ?_
        refine lm_get B hN (ci := 9) hiX9 0 rfl rfl 5 (by decide) (by decide +kernel) (v := .int (t1_0.1 4)) rfl dX9_months_106 ?_
        refine lv_iload hx hb dX9_months_109 (lv_at hl 4 rfl) ?_
        refine lv_iadd hx hb dX9_months_111 ?_
        refine lv_iconst (v := 5) hx hb dX9_months_112 (by decide) ?_
        refine lv_irem hx hb dX9_months_113 (by decide) ?_
        refine lv_if_ne (tgt := 124) hx hb dX9_months_114 (by decide) (fun c2 => ?_) (fun c2 => ?_)
        · have hF := lm_itn c2 hF
          refine lv_iconst (v := 0) hx hb dX9_months_124 (by decide) ?_
          exact J125 _ _ _ _ _ _ _ _ _ hF hN (lv_sub hl [0, 1, 2, 4] rfl)
        · have hF := lm_itp c2 hF
          refine lv_aload_n hx hb dX9_months_117 rfl (lv_at hl 0 rfl) ?_
          obtain ⟨⟨r3, t3_0⟩, hc3, hF⟩ := lm_bd hF
          have hF := lm_un2E hF
          refine lm_runA B hN (lm_hrV B hN hl.1 (lm_cutA B hN) (n := 0) (As := []) (rest := [.int x4_99]) (hX9_takeThen l G q0 hc3) gX9_months_X9_takeThen rfl (by decide +kernel) rfl (by decide) (by decide) (ci := 9) (q0 := 0) rfl rfl rfl (Nat.le_of_ble_eq_true rfl) dX9_months_118) (fun H locs hN => ?_)
          refine lv_goto (tgt := 125) hx hb dX9_months_121 (by decide) ?_
          exact J125 _ _ _ _ _ _ _ _ _ hF hN (lv_sub hl [0, 1, 2, 4] rfl)
      refine lv_iload hx hb dX9_months_56 (lv_at hl 4 rfl) ?_
      refine lv_iload_n hx hb dX9_months_58 rfl (lv_at hl 1 rfl) ?_
      refine lv_icmp_gt (tgt := 134) hx hb dX9_months_59 (by decide) (fun c4 => ?_) (fun c4 => ?_)
      · have hF := lm_itp c4 hF
        refine lv_iload_n hx hb dX9_months_134 rfl (lv_at hl 2 rfl) ?_
        refine lv_if_ne (tgt := 143) hx hb dX9_months_135 (by decide) (fun c5 => ?_) (fun c5 => ?_)
        · have hF := lm_itn c5 hF
          refine lv_iload_n hx hb dX9_months_143 rfl (lv_at hl 2 rfl) ?_
          refine lv_iconst (v := 1) hx hb dX9_months_144 (by decide) ?_
          refine lv_icmp_ne (tgt := 155) hx hb dX9_months_145 (by decide) (fun c6 => ?_) (fun c6 => ?_)
          · have hF := lm_itn c6 hF
            refine lv_aload_n hx hb dX9_months_155 rfl (lv_at hl 0 rfl) ?_
            refine lm_get B hN (ci := 9) hiX9 0 rfl rfl 21 (by decide) (by decide +kernel) (v := .int (s0_56.1 10)) rfl dX9_months_156 ?_
            cases hF
            exact lm_iret B hN dX9_months_159
          · have hF := lm_itp c6 hF
            refine lv_aload_n hx hb dX9_months_148 rfl (lv_at hl 0 rfl) ?_
            refine lm_get B hN (ci := 9) hiX9 0 rfl rfl 16 (by decide) (by decide +kernel) (v := .int (s0_56.1 7)) rfl dX9_months_149 ?_
            refine lv_goto (tgt := 159) hx hb dX9_months_152 (by decide) ?_
            cases hF
            exact lm_iret B hN dX9_months_159
        · have hF := lm_itp c5 hF
          refine lv_iload hx hb dX9_months_138 (lv_at hl 3 rfl) ?_
          refine lv_goto (tgt := 159) hx hb dX9_months_140 (by decide) ?_
          cases hF
          exact lm_iret B hN dX9_months_159
      · have hF := lm_itn c4 hF
        refine lv_aload_n hx hb dX9_months_62 rfl (lv_at hl 0 rfl) ?_
        refine lv_aload_n hx hb dX9_months_63 rfl (lv_at hl 0 rfl) ?_
        refine lm_get B hN (ci := 9) hiX9 0 rfl rfl 3 (by decide) (by decide +kernel) (v := .int (s0_56.1 2)) rfl dX9_months_64 ?_
        refine lv_iconst (v := 1) hx hb dX9_months_67 (by decide) ?_
        refine lv_iadd hx hb dX9_months_68 ?_
        obtain ⟨⟨r7, t7_0⟩, hc7, hF⟩ := lm_bd hF
        have hF := lm_un2E hF
        refine lm_runA B hN (lm_hrV B hN hl.1 (lm_cutA B hN) (n := 1) (As := [.int ((s0_56.1 2) + (1 : Int32))]) (rest := []) (hX9_draw l G q0 hc7) gX9_months_X9_draw rfl (by decide +kernel) rfl (by decide) (by decide) (ci := 9) (q0 := 0) rfl rfl rfl (Nat.le_of_ble_eq_true rfl) dX9_months_69) (fun H locs hN => ?_)
        refine lv_istore (lv' := [(6, .int r7), (0, .ref (q0 0)), (1, .int x1_56), (3, .int x3_56), (4, .int x4_56), (5, .int x5_56)]) hx hb dX9_months_72 hl (by decide) rfl (fun ls hl => ?_)
        refine lv_iload hx hb dX9_months_74 (lv_at hl 0 rfl) ?_
        refine lv_aload_n hx hb dX9_months_76 rfl (lv_at hl 1 rfl) ?_
        refine lm_get B hN (ci := 9) hiX9 0 rfl rfl 3 (by decide) (by decide +kernel) (v := .int (t7_0.1 2)) rfl dX9_months_77 ?_
        refine lv_icmp_ge (tgt := 99) hx hb dX9_months_80 (by decide) (fun c8 => ?_) (fun c8 => ?_)
        · have hF := lm_itp c8 hF
          exact J99 _ _ _ _ _ _ _ _ hF hN (lv_sub hl [1, 2, 3, 4, 5] rfl)
        · have hF := lm_itn c8 hF
          refine lv_aload_n hx hb dX9_months_83 rfl (lv_at hl 1 rfl) ?_
          refine lm_get B hN (ci := 9) hiX9 0 rfl rfl 15 (by decide) (by decide +kernel) (v := .ref (q0 9)) rfl dX9_months_84 ?_
          refine lv_iload hx hb dX9_months_87 (lv_at hl 0 rfl) ?_
          obtain ⟨z9, hF⟩ := lm_gIe hF
          refine lm_ald B hN 9 (f := (t7_0.2.1 8)) rfl z9 dX9_months_89 ?_
          refine lv_if_ne (tgt := 99) hx hb dX9_months_90 (by decide) (fun c10 => ?_) (fun c10 => ?_)
          · have hF := lm_itn c10 hF
            exact J99 _ _ _ _ _ _ _ _ hF hN (lv_sub hl [1, 2, 3, 4, 5] rfl)
          · have hF := lm_itp c10 hF
            refine lv_aload_n hx hb dX9_months_93 rfl (lv_at hl 1 rfl) ?_
            refine lv_iload hx hb dX9_months_94 (lv_at hl 0 rfl) ?_
            obtain ⟨t11_0, hc11, hF⟩ := lm_bd hF
            refine lm_runA B hN (lm_hrV B hN hl.1 (lm_cutA B hN) (n := 1) (As := [.int r7]) (rest := []) (hX9_touchThen l G q0 hc11) gX9_months_X9_touchThen rfl (by decide +kernel) rfl (by decide) (by decide) (ci := 9) (q0 := 0) rfl rfl rfl (Nat.le_of_ble_eq_true rfl) dX9_months_96) (fun H locs hN => ?_)
            exact J99 _ _ _ _ _ _ _ _ hF hN (lv_sub hl [1, 2, 3, 4, 5] rfl)
  refine lv_iload_n hx hb dX9_months_0 rfl (lv_at hl 1 rfl) ?_
  refine lv_i2l hx hb dX9_months_1 rfl ?_
  refine lv_lconst (v := 1) hx hb dX9_months_2 (by decide) ?_
  refine lv_ldc2 (v := 60) hx hb hown (hts (.constantLong RX9 236 (60)) (by decide +kernel)) dX9_months_3 ?_
  obtain ⟨r12, hc12, hF⟩ := lm_bd hF
  refine lm_run0 B hN (lm_hrT B hN hl.1 (lm_cut0 B hN) (n := 3) (As := [.long x1.toInt64, .long (1 : Int64), .long (60 : Int64)]) (rest := []) (hX9_in l G hc12) gX9_months_X9_in rfl (by decide +kernel) rfl (by decide) (by decide) rfl (Nat.le_of_ble_eq_true rfl) dX9_months_6) (fun H locs hN => ?_)
  refine lv_if_eq (tgt := 28) hx hb dX9_months_9 (by decide) (fun c13 => ?_) (fun c13 => ?_)
  · have hF := lm_itp c13 hF
    refine lv_bipush (v := -102) hx hb dX9_months_28 (by decide) ?_
    cases hF
    exact lm_iret B hN dX9_months_30
  · have hF := lm_itn c13 hF
    refine lv_iload_n hx hb dX9_months_12 rfl (lv_at hl 2 rfl) ?_
    refine lv_if_lt (tgt := 28) hx hb dX9_months_13 (by decide) (fun c14 => ?_) (fun c14 => ?_)
    · have hF := lm_itp c14 hF
      refine lv_bipush (v := -102) hx hb dX9_months_28 (by decide) ?_
      cases hF
      exact lm_iret B hN dX9_months_30
    · have hF := lm_itn c14 hF
      refine lv_iload_n hx hb dX9_months_16 rfl (lv_at hl 3 rfl) ?_
      refine lv_i2l hx hb dX9_months_17 rfl ?_
      refine lv_lconst (v := 0) hx hb dX9_months_18 (by decide) ?_
      refine lv_ldc2 (v := 2) hx hb hown (hts (.constantLong RX9 204 (2)) (by decide +kernel)) dX9_months_19 ?_
      obtain ⟨r15, hc15, hF⟩ := lm_bd hF
      refine lm_run0 B hN (lm_hrT B hN hl.1 (lm_cut0 B hN) (n := 3) (As := [.long x3.toInt64, .long (0 : Int64), .long (2 : Int64)]) (rest := []) (hX9_in l G hc15) gX9_months_X9_in rfl (by decide +kernel) rfl (by decide) (by decide) rfl (Nat.le_of_ble_eq_true rfl) dX9_months_22) (fun H locs hN => ?_)
      refine lv_if_ne (tgt := 31) hx hb dX9_months_25 (by decide) (fun c16 => ?_) (fun c16 => ?_)
      · have hF := lm_itn c16 hF
        refine lv_aload_n hx hb dX9_months_31 rfl (lv_at hl 0 rfl) ?_
        obtain ⟨⟨r17, t17_0⟩, hc17, hF⟩ := lm_bd hF
        have hF := lm_un2E hF
        refine lm_runA B hN (lm_hrV B hN hl.1 (lm_cutA B hN) (n := 0) (As := []) (rest := []) (hX9_lacks l G q0 hc17) gX9_months_X9_lacks rfl (by decide +kernel) rfl (by decide) (by decide) (ci := 9) (q0 := 0) rfl rfl rfl (Nat.le_of_ble_eq_true rfl) dX9_months_32) (fun H locs hN => ?_)
        refine lv_if_eq (tgt := 41) hx hb dX9_months_35 (by decide) (fun c18 => ?_) (fun c18 => ?_)
        · have hF := lm_itp c18 hF
          refine lv_aload_n hx hb dX9_months_41 rfl (lv_at hl 0 rfl) ?_
          refine lv_iload_n hx hb dX9_months_42 rfl (lv_at hl 2 rfl) ?_
          refine lm_put B hN (ci := 9) hiX9 tyX9 tyX9_ok nmX9 0 rfl rfl 21 (by decide) (by decide +kernel) (by decide) (v := .int x2) rfl rfl (Nat.le_of_ble_eq_true rfl) (wX9 G q0 (lm_sF t17_0 10 x2)) (wX9_r0f10 _ _ _ _) dX9_months_43 (fun H locs hN => ?_)
          refine lv_aload_n hx hb dX9_months_46 rfl (lv_at hl 0 rfl) ?_
          obtain ⟨t19_0, hc19, hF⟩ := lm_bd hF
          refine lm_runA B hN (lm_hrV B hN hl.1 (lm_cutA B hN) (n := 0) (As := []) (rest := []) (hX9_begin l G q0 hc19) gX9_months_X9_begin rfl (by decide +kernel) rfl (by decide) (by decide) (ci := 9) (q0 := 0) rfl rfl rfl (Nat.le_of_ble_eq_true rfl) dX9_months_47) (fun H locs hN => ?_)
          refine lv_iconst (v := 0) hx hb dX9_months_50 (by decide) ?_
          refine lv_istore (lv' := [(4, .int (0 : Int32)), (0, .ref (q0 0)), (1, .int x1), (2, .int x2), (3, .int x3)]) hx hb dX9_months_51 hl (by decide) rfl (fun ls hl => ?_)
          refine lv_iconst (v := 1) hx hb dX9_months_53 (by decide) ?_
          refine lv_istore (lv' := [(5, .int (1 : Int32)), (4, .int (0 : Int32)), (0, .ref (q0 0)), (1, .int x1), (2, .int x2), (3, .int x3)]) hx hb dX9_months_54 hl (by decide) rfl (fun ls hl => ?_)
          exact L56 5000 _ _ _ _ _ _ _ _ hF hN (lv_sub hl [2, 3, 5, 1, 0] rfl)
        · have hF := lm_itn c18 hF
          refine lv_bipush (v := -103) hx hb dX9_months_38 (by decide) ?_
          cases hF
          exact lm_iret B hN dX9_months_40
      · have hF := lm_itp c16 hF
        refine lv_bipush (v := -102) hx hb dX9_months_28 (by decide) ?_
        cases hF
        exact lm_iret B hN dX9_months_30
def fX9_next (s0 : lm_St) (x1 : Int32) : Option (Int32 × lm_St) := (fX9_in x1.toInt64 (0 : Int64) (20 : Int64)).bind (fun r1 => if r1 = 0 then (some ((-102 : Int32), s0)) else ((fX9_lacks s0).bind (fun v3 => lm_un2 v3 (fun r3 t3_0 => if r3 = 0 then ((fX9_nextOf t3_0 x1).bind (fun v5 => lm_un2 v5 (fun r5 t5_0 => some (r5, t5_0)))) else (some ((-103 : Int32), t3_0))))))
set_option maxHeartbeats 4000000 in
set_option maxRecDepth 100000 in
theorem hX9_next (l : Launch) (G : lm_G) (q0 : Nat → Nat) {s0 : lm_St} {x1 : Int32} {R : Int32 × lm_St} (hF : fX9_next s0 x1 = some R) : lm_C l G yX9_next wsX9_next 5 [.ref (q0 0), .int x1] (wX9 G q0 s0) (some (.int R.1)) (wX9 G q0 R.2) := by
  refine lm_C.of (cc := cX9_next) (maxL := 2) (ret := (some .int)) (by decide) rfl (Nat.le_of_ble_eq_true rfl) ?_
  intro p e s m below meth c A ls B hN hl
  have hx := B.1.1
  have hb := B.1.2.1
  have hown := B.1.2.2.2.1
  have hts := B.1.2.2.2.2
  have hl : lv_has ls 2 [(0, .ref (q0 0)), (1, .int x1)] := hl
  refine lv_iload_n hx hb dX9_next_0 rfl (lv_at hl 1 rfl) ?_
  refine lv_i2l hx hb dX9_next_1 rfl ?_
  refine lv_lconst (v := 0) hx hb dX9_next_2 (by decide) ?_
  refine lv_ldc2 (v := 20) hx hb hown (hts (.constantLong RX9 172 (20)) (by decide +kernel)) dX9_next_3 ?_
  obtain ⟨r1, hc1, hF⟩ := lm_bd hF
  refine lm_run0 B hN (lm_hrT B hN hl.1 (lm_cut0 B hN) (n := 3) (As := [.long x1.toInt64, .long (0 : Int64), .long (20 : Int64)]) (rest := []) (hX9_in l G hc1) gX9_next_X9_in rfl (by decide +kernel) rfl (by decide) (by decide) rfl (Nat.le_of_ble_eq_true rfl) dX9_next_6) (fun H locs hN => ?_)
  refine lv_if_ne (tgt := 15) hx hb dX9_next_9 (by decide) (fun c2 => ?_) (fun c2 => ?_)
  · have hF := lm_itn c2 hF
    refine lv_aload_n hx hb dX9_next_15 rfl (lv_at hl 0 rfl) ?_
    obtain ⟨⟨r3, t3_0⟩, hc3, hF⟩ := lm_bd hF
    have hF := lm_un2E hF
    refine lm_runA B hN (lm_hrV B hN hl.1 (lm_cutA B hN) (n := 0) (As := []) (rest := []) (hX9_lacks l G q0 hc3) gX9_next_X9_lacks rfl (by decide +kernel) rfl (by decide) (by decide) (ci := 9) (q0 := 0) rfl rfl rfl (Nat.le_of_ble_eq_true rfl) dX9_next_16) (fun H locs hN => ?_)
    refine lv_if_eq (tgt := 27) hx hb dX9_next_19 (by decide) (fun c4 => ?_) (fun c4 => ?_)
    · have hF := lm_itp c4 hF
      refine lv_aload_n hx hb dX9_next_27 rfl (lv_at hl 0 rfl) ?_
      refine lv_iload_n hx hb dX9_next_28 rfl (lv_at hl 1 rfl) ?_
      obtain ⟨⟨r5, t5_0⟩, hc5, hF⟩ := lm_bd hF
      have hF := lm_un2E hF
      refine lm_runA B hN (lm_hrV B hN hl.1 (lm_cutA B hN) (n := 1) (As := [.int x1]) (rest := []) (hX9_nextOf l G q0 hc5) gX9_next_X9_nextOf rfl (by decide +kernel) rfl (by decide) (by decide) (ci := 9) (q0 := 0) rfl rfl rfl (Nat.le_of_ble_eq_true rfl) dX9_next_29) (fun H locs hN => ?_)
      cases hF
      exact lm_iret B hN dX9_next_32
    · have hF := lm_itn c4 hF
      refine lv_bipush (v := -103) hx hb dX9_next_22 (by decide) ?_
      refine lv_goto (tgt := 32) hx hb dX9_next_24 (by decide) ?_
      cases hF
      exact lm_iret B hN dX9_next_32
  · have hF := lm_itp c2 hF
    refine lv_bipush (v := -102) hx hb dX9_next_12 (by decide) ?_
    cases hF
    exact lm_iret B hN dX9_next_14
def fX9_odds (s0 : lm_St) (x1 : Int32) (x2 : Int32) (x3 : Int32) : Option (Int32 × lm_St) := (fX9_isThing s0 x1).bind (fun v1 => lm_un2 v1 (fun r1 t1_0 => if r1 = 0 then (some ((-101 : Int32), t1_0)) else ((fX9_in x2.toInt64 (1 : Int64) (3 : Int64)).bind (fun r3 => if r3 = 0 then (some ((-102 : Int32), t1_0)) else ((fX9_in x3.toInt64 (0 : Int64) (1 : Int64)).bind (fun r5 => if r5 = 0 then (some ((-102 : Int32), t1_0)) else (lm_gI x1 7 (if ((t1_0.2.1 5) x1.toNatClampNeg) = (1 : Int32) then (some ((-103 : Int32), t1_0)) else ((fX9_oddsOf t1_0 x1 x2 x3).bind (fun v9 => lm_un2 v9 (fun r9 t9_0 => some (r9, t9_0))))))))))))
set_option maxHeartbeats 4000000 in
set_option maxRecDepth 100000 in
theorem hX9_odds (l : Launch) (G : lm_G) (q0 : Nat → Nat) {s0 : lm_St} {x1 : Int32} {x2 : Int32} {x3 : Int32} {R : Int32 × lm_St} (hF : fX9_odds s0 x1 x2 x3 = some R) : lm_C l G yX9_odds wsX9_odds 5 [.ref (q0 0), .int x1, .int x2, .int x3] (wX9 G q0 s0) (some (.int R.1)) (wX9 G q0 R.2) := by
  refine lm_C.of (cc := cX9_odds) (maxL := 4) (ret := (some .int)) (by decide) rfl (Nat.le_of_ble_eq_true rfl) ?_
  intro p e s m below meth c A ls B hN hl
  have hx := B.1.1
  have hb := B.1.2.1
  have hown := B.1.2.2.2.1
  have hts := B.1.2.2.2.2
  have hiX9 : ∀ w ∈ wsX90, w ∈ wsX9_odds := by decide +kernel
  have hl : lv_has ls 4 [(0, .ref (q0 0)), (1, .int x1), (2, .int x2), (3, .int x3)] := hl
  refine lv_aload_n hx hb dX9_odds_0 rfl (lv_at hl 0 rfl) ?_
  refine lv_iload_n hx hb dX9_odds_1 rfl (lv_at hl 1 rfl) ?_
  obtain ⟨⟨r1, t1_0⟩, hc1, hF⟩ := lm_bd hF
  have hF := lm_un2E hF
  refine lm_runA B hN (lm_hrV B hN hl.1 (lm_cutA B hN) (n := 1) (As := [.int x1]) (rest := []) (hX9_isThing l G q0 hc1) gX9_odds_X9_isThing rfl (by decide +kernel) rfl (by decide) (by decide) (ci := 9) (q0 := 0) rfl rfl rfl (Nat.le_of_ble_eq_true rfl) dX9_odds_2) (fun H locs hN => ?_)
  refine lv_if_ne (tgt := 11) hx hb dX9_odds_5 (by decide) (fun c2 => ?_) (fun c2 => ?_)
  · have hF := lm_itn c2 hF
    refine lv_iload_n hx hb dX9_odds_11 rfl (lv_at hl 2 rfl) ?_
    refine lv_i2l hx hb dX9_odds_12 rfl ?_
    refine lv_lconst (v := 1) hx hb dX9_odds_13 (by decide) ?_
    refine lv_ldc2 (v := 3) hx hb hown (hts (.constantLong RX9 209 (3)) (by decide +kernel)) dX9_odds_14 ?_
    obtain ⟨r3, hc3, hF⟩ := lm_bd hF
    refine lm_run0 B hN (lm_hrT B hN hl.1 (lm_cut0 B hN) (n := 3) (As := [.long x2.toInt64, .long (1 : Int64), .long (3 : Int64)]) (rest := []) (hX9_in l G hc3) gX9_odds_X9_in rfl (by decide +kernel) rfl (by decide) (by decide) rfl (Nat.le_of_ble_eq_true rfl) dX9_odds_17) (fun H locs hN => ?_)
    refine lv_if_eq (tgt := 33) hx hb dX9_odds_20 (by decide) (fun c4 => ?_) (fun c4 => ?_)
    · have hF := lm_itp c4 hF
      refine lv_bipush (v := -102) hx hb dX9_odds_33 (by decide) ?_
      cases hF
      exact lm_iret B hN dX9_odds_35
    · have hF := lm_itn c4 hF
      refine lv_iload_n hx hb dX9_odds_23 rfl (lv_at hl 3 rfl) ?_
      refine lv_i2l hx hb dX9_odds_24 rfl ?_
      refine lv_lconst (v := 0) hx hb dX9_odds_25 (by decide) ?_
      refine lv_lconst (v := 1) hx hb dX9_odds_26 (by decide) ?_
      obtain ⟨r5, hc5, hF⟩ := lm_bd hF
      refine lm_run0 B hN (lm_hrT B hN hl.1 (lm_cut0 B hN) (n := 3) (As := [.long x3.toInt64, .long (0 : Int64), .long (1 : Int64)]) (rest := []) (hX9_in l G hc5) gX9_odds_X9_in rfl (by decide +kernel) rfl (by decide) (by decide) rfl (Nat.le_of_ble_eq_true rfl) dX9_odds_27) (fun H locs hN => ?_)
      refine lv_if_ne (tgt := 36) hx hb dX9_odds_30 (by decide) (fun c6 => ?_) (fun c6 => ?_)
      · have hF := lm_itn c6 hF
        refine lv_aload_n hx hb dX9_odds_36 rfl (lv_at hl 0 rfl) ?_
        refine lm_get B hN (ci := 9) hiX9 0 rfl rfl 12 (by decide) (by decide +kernel) (v := .ref (q0 6)) rfl dX9_odds_37 ?_
        refine lv_iload_n hx hb dX9_odds_40 rfl (lv_at hl 1 rfl) ?_
        obtain ⟨z7, hF⟩ := lm_gIe hF
        refine lm_ald B hN 6 (f := (t1_0.2.1 5)) rfl z7 dX9_odds_41 ?_
        refine lv_iconst (v := 1) hx hb dX9_odds_42 (by decide) ?_
        refine lv_icmp_ne (tgt := 51) hx hb dX9_odds_43 (by decide) (fun c8 => ?_) (fun c8 => ?_)
        · have hF := lm_itn c8 hF
          refine lv_aload_n hx hb dX9_odds_51 rfl (lv_at hl 0 rfl) ?_
          refine lv_iload_n hx hb dX9_odds_52 rfl (lv_at hl 1 rfl) ?_
          refine lv_iload_n hx hb dX9_odds_53 rfl (lv_at hl 2 rfl) ?_
          refine lv_iload_n hx hb dX9_odds_54 rfl (lv_at hl 3 rfl) ?_
          obtain ⟨⟨r9, t9_0⟩, hc9, hF⟩ := lm_bd hF
          have hF := lm_un2E hF
          refine lm_runA B hN (lm_hrV B hN hl.1 (lm_cutA B hN) (n := 3) (As := [.int x1, .int x2, .int x3]) (rest := []) (hX9_oddsOf l G q0 hc9) gX9_odds_X9_oddsOf rfl (by decide +kernel) rfl (by decide) (by decide) (ci := 9) (q0 := 0) rfl rfl rfl (Nat.le_of_ble_eq_true rfl) dX9_odds_55) (fun H locs hN => ?_)
          cases hF
          exact lm_iret B hN dX9_odds_58
        · have hF := lm_itp c8 hF
          refine lv_bipush (v := -103) hx hb dX9_odds_46 (by decide) ?_
          refine lv_goto (tgt := 58) hx hb dX9_odds_48 (by decide) ?_
          cases hF
          exact lm_iret B hN dX9_odds_58
      · have hF := lm_itp c6 hF
        refine lv_bipush (v := -102) hx hb dX9_odds_33 (by decide) ?_
        cases hF
        exact lm_iret B hN dX9_odds_35
  · have hF := lm_itp c2 hF
    refine lv_bipush (v := -101) hx hb dX9_odds_8 (by decide) ?_
    cases hF
    exact lm_iret B hN dX9_odds_10
def jX9_siegeBy_67 (k10 : Int32 × Int32 × Int32 × Int32 × lm_St → Option (Int32 × lm_St)) (x1_67 : Int32) (x2_67 : Int32) (x3_67 : Int32) (x4_67 : Int32) (s0_67 : lm_St) : Option (Int32 × lm_St) := (fX9_dayThen s0_67).bind (fun t1_0 => (fX9_takeThen t1_0).bind (fun v2 => lm_un2 v2 (fun r2 t2_0 => k10 (x1_67, x2_67, (x3_67 - ((1000 : Int32) * r2)), (x4_67 + 1), t2_0))))
def jX9_siegeBy_54 (k10 : Int32 × Int32 × Int32 × Int32 × lm_St → Option (Int32 × lm_St)) (x1_54 : Int32) (x2_54 : Int32) (x3_54 : Int32) (x4_54 : Int32) (x5_54 : Int32) (s0_54 : lm_St) : Option (Int32 × lm_St) := if (7 : Int32) ≤ x5_54 then (jX9_siegeBy_67 k10 x1_54 x2_54 x3_54 x4_54 s0_54) else ((fX9_touchThen s0_54 x5_54).bind (fun t4_0 => jX9_siegeBy_67 k10 x1_54 x2_54 x3_54 x4_54 t4_0))
def bX9_siegeBy_10 (k10 : Int32 × Int32 × Int32 × Int32 × lm_St → Option (Int32 × lm_St)) (x1_10 : Int32) (x2_10 : Int32) (x3_10 : Int32) (x4_10 : Int32) (s0_10 : lm_St) : Option (Int32 × lm_St) := if x2_10 ≤ x4_10 then ((fX9_missedLeft s0_10).bind (fun v6 => lm_un2 v6 (fun r6 t6_0 => some ((x3_10 + r6), t6_0)))) else ((fX9_figure x1_10 x2_10 x4_10).bind (fun r7 => if (7 : Int32) ≤ r7 then (jX9_siegeBy_54 k10 x1_10 x2_10 x3_10 x4_10 r7 s0_10) else (if (s0_10.1 2) ≤ r7 then (some ((-1 : Int32), s0_10)) else (lm_gI r7 7 (if ((s0_10.2.1 8) r7.toNatClampNeg) = (1 : Int32) then (some ((-1 : Int32), s0_10)) else (jX9_siegeBy_54 k10 x1_10 x2_10 x3_10 x4_10 r7 s0_10))))))
def fX9_siegeBy (s0 : lm_St) (x1 : Int32) (x2 : Int32) : Option (Int32 × lm_St) := (fX9_begin s0).bind (fun t12_0 => lm_lp (fun k a => bX9_siegeBy_10 k a.1 a.2.1 a.2.2.1 a.2.2.2.1 a.2.2.2.2) 5000 (x1, x2, (1000000 : Int32), (0 : Int32), t12_0))
set_option maxHeartbeats 4000000 in
set_option maxRecDepth 100000 in
theorem hX9_siegeBy (l : Launch) (G : lm_G) (q0 : Nat → Nat) {s0 : lm_St} {x1 : Int32} {x2 : Int32} {R : Int32 × lm_St} (hF : fX9_siegeBy s0 x1 x2 = some R) : lm_C l G yX9_siegeBy wsX9_siegeBy 5 [.ref (q0 0), .int x1, .int x2] (wX9 G q0 s0) (some (.int R.1)) (wX9 G q0 R.2) := by
  refine lm_C.of (cc := cX9_siegeBy) (maxL := 6) (ret := (some .int)) (by decide) rfl (Nat.le_of_ble_eq_true rfl) ?_
  intro p e s m below meth c A ls B hN hl
  have hx := B.1.1
  have hb := B.1.2.1
  have hown := B.1.2.2.2.1
  have hts := B.1.2.2.2.2
  have hiX9 : ∀ w ∈ wsX90, w ∈ wsX9_siegeBy := by decide +kernel
  have hl : lv_has ls 6 [(0, .ref (q0 0)), (1, .int x1), (2, .int x2)] := hl
  have L10 : ∀ (n : Nat) (x1_10 : Int32) (x2_10 : Int32) (x3_10 : Int32) (x4_10 : Int32) (s0_10 : lm_St) (H : Heap) (locs : List Loc) (ls : Array Slot), lm_lp (fun k a => bX9_siegeBy_10 k a.1 a.2.1 a.2.2.1 a.2.2.2.1 a.2.2.2.2) n (x1_10, x2_10, x3_10, x4_10, s0_10) = some R → lm_N G A s (wX9 G q0 s0_10) H locs → lv_has ls 6 [(0, .ref (q0 0)), (1, .int x1_10), (2, .int x2_10), (3, .int x3_10), (4, .int x4_10)] → W p l e (lm_rk 5) s m ([.ref (q0 0), .int x1, .int x2] : List Value).toArray below meth c H locs 0 0 (MQ below (lm_post G (wX9 G q0 R.2) (some (.int R.1)) A) ([.ref (q0 0), .int x1, .int x2] : List Value).toArray s 0 0 A) (F0 m 10 ls []) := by
    intro n
    induction n with
    | zero => intro x1_10 x2_10 x3_10 x4_10 s0_10 H locs ls hF; exact (lm_lpz hF).elim
    | succ n ih10 =>
      intro x1_10 x2_10 x3_10 x4_10 s0_10 H locs ls hF hN hl
      have hF : bX9_siegeBy_10 (lm_lp (fun k a => bX9_siegeBy_10 k a.1 a.2.1 a.2.2.1 a.2.2.2.1 a.2.2.2.2) n) x1_10 x2_10 x3_10 x4_10 s0_10 = some R := lm_lps hF
      generalize lm_lp (fun k a => bX9_siegeBy_10 k a.1 a.2.1 a.2.2.1 a.2.2.2.1 a.2.2.2.2) n = k10 at hF ih10
      have J54 : ∀ (x1_54 : Int32) (x2_54 : Int32) (x3_54 : Int32) (x4_54 : Int32) (x5_54 : Int32) (s0_54 : lm_St) (H : Heap) (locs : List Loc) (ls : Array Slot), jX9_siegeBy_54 k10 x1_54 x2_54 x3_54 x4_54 x5_54 s0_54 = some R → lm_N G A s (wX9 G q0 s0_54) H locs → lv_has ls 6 [(0, .ref (q0 0)), (1, .int x1_54), (2, .int x2_54), (3, .int x3_54), (4, .int x4_54), (5, .int x5_54)] → W p l e (lm_rk 5) s m ([.ref (q0 0), .int x1, .int x2] : List Value).toArray below meth c H locs 0 0 (MQ below (lm_post G (wX9 G q0 R.2) (some (.int R.1)) A) ([.ref (q0 0), .int x1, .int x2] : List Value).toArray s 0 0 A) (F0 m 54 ls []) := by
        intro x1_54 x2_54 x3_54 x4_54 x5_54 s0_54 H locs ls hF hN hl
        have J67 : ∀ (x1_67 : Int32) (x2_67 : Int32) (x3_67 : Int32) (x4_67 : Int32) (s0_67 : lm_St) (H : Heap) (locs : List Loc) (ls : Array Slot), jX9_siegeBy_67 k10 x1_67 x2_67 x3_67 x4_67 s0_67 = some R → lm_N G A s (wX9 G q0 s0_67) H locs → lv_has ls 6 [(0, .ref (q0 0)), (1, .int x1_67), (2, .int x2_67), (3, .int x3_67), (4, .int x4_67)] → W p l e (lm_rk 5) s m ([.ref (q0 0), .int x1, .int x2] : List Value).toArray below meth c H locs 0 0 (MQ below (lm_post G (wX9 G q0 R.2) (some (.int R.1)) A) ([.ref (q0 0), .int x1, .int x2] : List Value).toArray s 0 0 A) (F0 m 67 ls []) := by
          intro x1_67 x2_67 x3_67 x4_67 s0_67 H locs ls hF hN hl
          refine lv_aload_n hx hb dX9_siegeBy_67 rfl (lv_at hl 0 rfl) ?_
          obtain ⟨t1_0, hc1, hF⟩ := lm_bd hF
          refine lm_runA B hN (lm_hrV B hN hl.1 (lm_cutA B hN) (n := 0) (As := []) (rest := []) (hX9_dayThen l G q0 hc1) gX9_siegeBy_X9_dayThen rfl (by decide +kernel) rfl (by decide) (by decide) (ci := 9) (q0 := 0) rfl rfl rfl (Nat.le_of_ble_eq_true rfl) dX9_siegeBy_68) (fun H locs hN => ?_)
          refine lv_iload_n hx hb dX9_siegeBy_71 rfl (lv_at hl 3 rfl) ?_
          refine lv_sipush (v := 1000) hx hb dX9_siegeBy_72 (by decide) ?_
          refine lv_aload_n hx hb dX9_siegeBy_75 rfl (lv_at hl 0 rfl) ?_
          obtain ⟨⟨r2, t2_0⟩, hc2, hF⟩ := lm_bd hF
          have hF := lm_un2E hF
          refine lm_runA B hN (lm_hrV B hN hl.1 (lm_cutA B hN) (n := 0) (As := []) (rest := [.int (1000 : Int32), .int x3_67]) (hX9_takeThen l G q0 hc2) gX9_siegeBy_X9_takeThen rfl (by decide +kernel) rfl (by decide) (by decide) (ci := 9) (q0 := 0) rfl rfl rfl (Nat.le_of_ble_eq_true rfl) dX9_siegeBy_76) (fun H locs hN => ?_)
          refine lv_imul hx hb dX9_siegeBy_79 ?_
          refine lv_isub hx hb dX9_siegeBy_80 ?_
          refine lv_istore_n (lv' := [(3, .int (x3_67 - ((1000 : Int32) * r2))), (0, .ref (q0 0)), (1, .int x1_67), (2, .int x2_67), (4, .int x4_67)]) hx hb dX9_siegeBy_81 rfl hl (by decide) rfl (fun ls hl => ?_)
          refine lv_iinc (v := (x4_67 + 1)) (lv' := [(4, .int (x4_67 + 1)), (3, .int (x3_67 - ((1000 : Int32) * r2))), (0, .ref (q0 0)), (1, .int x1_67), (2, .int x2_67)]) hx hb dX9_siegeBy_82 hl (k := 4) rfl rfl (by decide) rfl (fun ls hl => ?_)
          refine lv_goto (tgt := 10) hx hb dX9_siegeBy_85 (by decide) ?_
          exact ih10 _ _ _ _ _ _ _ _ hF hN (lv_sub hl [2, 3, 4, 1, 0] rfl)
        refine lv_iload hx hb dX9_siegeBy_54 (lv_at hl 5 rfl) ?_
        refine lv_bipush (v := 7) hx hb dX9_siegeBy_56 (by decide) ?_
        refine lv_icmp_ge (tgt := 67) hx hb dX9_siegeBy_58 (by decide) (fun c3 => ?_) (fun c3 => ?_)
        · have hF := lm_itp c3 hF
          exact J67 _ _ _ _ _ _ _ _ hF hN (lv_sub hl [0, 1, 2, 3, 4] rfl)
        · have hF := lm_itn c3 hF
          refine lv_aload_n hx hb dX9_siegeBy_61 rfl (lv_at hl 0 rfl) ?_
          refine lv_iload hx hb dX9_siegeBy_62 (lv_at hl 5 rfl) ?_
          obtain ⟨t4_0, hc4, hF⟩ := lm_bd hF
          refine lm_runA B hN (lm_hrV B hN hl.1 (lm_cutA B hN) (n := 1) (As := [.int x5_54]) (rest := []) (hX9_touchThen l G q0 hc4) gX9_siegeBy_X9_touchThen rfl (by decide +kernel) rfl (by decide) (by decide) (ci := 9) (q0 := 0) rfl rfl rfl (Nat.le_of_ble_eq_true rfl) dX9_siegeBy_64) (fun H locs hN => ?_)
          exact J67 _ _ _ _ _ _ _ _ hF hN (lv_sub hl [0, 1, 2, 3, 4] rfl)
      refine lv_iload hx hb dX9_siegeBy_10 (lv_at hl 4 rfl) ?_
      refine lv_iload_n hx hb dX9_siegeBy_12 rfl (lv_at hl 2 rfl) ?_
      refine lv_icmp_ge (tgt := 88) hx hb dX9_siegeBy_13 (by decide) (fun c5 => ?_) (fun c5 => ?_)
      · have hF := lm_itp c5 hF
        refine lv_iload_n hx hb dX9_siegeBy_88 rfl (lv_at hl 3 rfl) ?_
        refine lv_aload_n hx hb dX9_siegeBy_89 rfl (lv_at hl 0 rfl) ?_
        obtain ⟨⟨r6, t6_0⟩, hc6, hF⟩ := lm_bd hF
        have hF := lm_un2E hF
        refine lm_runA B hN (lm_hrV B hN hl.1 (lm_cutA B hN) (n := 0) (As := []) (rest := [.int x3_10]) (hX9_missedLeft l G q0 hc6) gX9_siegeBy_X9_missedLeft rfl (by decide +kernel) rfl (by decide) (by decide) (ci := 9) (q0 := 0) rfl rfl rfl (Nat.le_of_ble_eq_true rfl) dX9_siegeBy_90) (fun H locs hN => ?_)
        refine lv_iadd hx hb dX9_siegeBy_93 ?_
        cases hF
        exact lm_iret B hN dX9_siegeBy_94
      · have hF := lm_itn c5 hF
        refine lv_iload_n hx hb dX9_siegeBy_16 rfl (lv_at hl 1 rfl) ?_
        refine lv_iload_n hx hb dX9_siegeBy_17 rfl (lv_at hl 2 rfl) ?_
        refine lv_iload hx hb dX9_siegeBy_18 (lv_at hl 4 rfl) ?_
        obtain ⟨r7, hc7, hF⟩ := lm_bd hF
        refine lm_run0 B hN (lm_hrT B hN hl.1 (lm_cut0 B hN) (n := 3) (As := [.int x1_10, .int x2_10, .int x4_10]) (rest := []) (hX9_figure l G hc7) gX9_siegeBy_X9_figure rfl (by decide +kernel) rfl (by decide) (by decide) rfl (Nat.le_of_ble_eq_true rfl) dX9_siegeBy_20) (fun H locs hN => ?_)
        refine lv_istore (lv' := [(5, .int r7), (0, .ref (q0 0)), (1, .int x1_10), (2, .int x2_10), (3, .int x3_10), (4, .int x4_10)]) hx hb dX9_siegeBy_23 hl (by decide) rfl (fun ls hl => ?_)
        refine lv_iload hx hb dX9_siegeBy_25 (lv_at hl 0 rfl) ?_
        refine lv_bipush (v := 7) hx hb dX9_siegeBy_27 (by decide) ?_
        refine lv_icmp_ge (tgt := 54) hx hb dX9_siegeBy_29 (by decide) (fun c8 => ?_) (fun c8 => ?_)
        · have hF := lm_itp c8 hF
          exact J54 _ _ _ _ _ _ _ _ _ hF hN (lv_sub hl [1, 2, 3, 4, 5, 0] rfl)
        · have hF := lm_itn c8 hF
          refine lv_iload hx hb dX9_siegeBy_32 (lv_at hl 0 rfl) ?_
          refine lv_aload_n hx hb dX9_siegeBy_34 rfl (lv_at hl 1 rfl) ?_
          refine lm_get B hN (ci := 9) hiX9 0 rfl rfl 3 (by decide) (by decide +kernel) (v := .int (s0_10.1 2)) rfl dX9_siegeBy_35 ?_
          refine lv_icmp_ge (tgt := 52) hx hb dX9_siegeBy_38 (by decide) (fun c9 => ?_) (fun c9 => ?_)
          · have hF := lm_itp c9 hF
            refine lv_iconst (v := -1) hx hb dX9_siegeBy_52 (by decide) ?_
            cases hF
            exact lm_iret B hN dX9_siegeBy_53
          · have hF := lm_itn c9 hF
            refine lv_aload_n hx hb dX9_siegeBy_41 rfl (lv_at hl 1 rfl) ?_
            refine lm_get B hN (ci := 9) hiX9 0 rfl rfl 15 (by decide) (by decide +kernel) (v := .ref (q0 9)) rfl dX9_siegeBy_42 ?_
            refine lv_iload hx hb dX9_siegeBy_45 (lv_at hl 0 rfl) ?_
            obtain ⟨z10, hF⟩ := lm_gIe hF
            refine lm_ald B hN 9 (f := (s0_10.2.1 8)) rfl z10 dX9_siegeBy_47 ?_
            refine lv_iconst (v := 1) hx hb dX9_siegeBy_48 (by decide) ?_
            refine lv_icmp_ne (tgt := 54) hx hb dX9_siegeBy_49 (by decide) (fun c11 => ?_) (fun c11 => ?_)
            · have hF := lm_itn c11 hF
              exact J54 _ _ _ _ _ _ _ _ _ hF hN (lv_sub hl [1, 2, 3, 4, 5, 0] rfl)
            · have hF := lm_itp c11 hF
              refine lv_iconst (v := -1) hx hb dX9_siegeBy_52 (by decide) ?_
              cases hF
              exact lm_iret B hN dX9_siegeBy_53
  refine lv_aload_n hx hb dX9_siegeBy_0 rfl (lv_at hl 0 rfl) ?_
  obtain ⟨t12_0, hc12, hF⟩ := lm_bd hF
  refine lm_runA B hN (lm_hrV B hN hl.1 (lm_cutA B hN) (n := 0) (As := []) (rest := []) (hX9_begin l G q0 hc12) gX9_siegeBy_X9_begin rfl (by decide +kernel) rfl (by decide) (by decide) (ci := 9) (q0 := 0) rfl rfl rfl (Nat.le_of_ble_eq_true rfl) dX9_siegeBy_1) (fun H locs hN => ?_)
  refine lv_ldc (v := 1000000) hx hb hown (hts (.constant RX9 177 (1000000)) (by decide +kernel)) dX9_siegeBy_4 ?_
  refine lv_istore_n (lv' := [(3, .int (1000000 : Int32)), (0, .ref (q0 0)), (1, .int x1), (2, .int x2)]) hx hb dX9_siegeBy_6 rfl hl (by decide) rfl (fun ls hl => ?_)
  refine lv_iconst (v := 0) hx hb dX9_siegeBy_7 (by decide) ?_
  refine lv_istore (lv' := [(4, .int (0 : Int32)), (3, .int (1000000 : Int32)), (0, .ref (q0 0)), (1, .int x1), (2, .int x2)]) hx hb dX9_siegeBy_8 hl (by decide) rfl (fun ls hl => ?_)
  exact L10 5000 _ _ _ _ _ _ _ _ hF hN (lv_sub hl [2, 3, 4, 1, 0] rfl)
def fX9_take (s0 : lm_St) : Option (Int32 × lm_St) := (fX9_begin s0).bind (fun t1_0 => (fX9_nextThen t1_0).bind (fun v2 => lm_un2 v2 (fun r2 t2_0 => if r2 = (-1 : Int32) then (some ((-103 : Int32), t2_0)) else ((fX9_takeThen t2_0).bind (fun v4 => lm_un2 v4 (fun r4 t4_0 => (fX9_keep t4_0).bind (fun t5_0 => some (r2, t5_0))))))))
set_option maxHeartbeats 4000000 in
set_option maxRecDepth 100000 in
theorem hX9_take (l : Launch) (G : lm_G) (q0 : Nat → Nat) {s0 : lm_St} {R : Int32 × lm_St} (hF : fX9_take s0 = some R) : lm_C l G yX9_take wsX9_take 5 [.ref (q0 0)] (wX9 G q0 s0) (some (.int R.1)) (wX9 G q0 R.2) := by
  refine lm_C.of (cc := cX9_take) (maxL := 2) (ret := (some .int)) (by decide) rfl (Nat.le_of_ble_eq_true rfl) ?_
  intro p e s m below meth c A ls B hN hl
  have hx := B.1.1
  have hb := B.1.2.1
  have hown := B.1.2.2.2.1
  have hts := B.1.2.2.2.2
  have hl : lv_has ls 2 [(0, .ref (q0 0))] := hl
  refine lv_aload_n hx hb dX9_take_0 rfl (lv_at hl 0 rfl) ?_
  obtain ⟨t1_0, hc1, hF⟩ := lm_bd hF
  refine lm_runA B hN (lm_hrV B hN hl.1 (lm_cutA B hN) (n := 0) (As := []) (rest := []) (hX9_begin l G q0 hc1) gX9_take_X9_begin rfl (by decide +kernel) rfl (by decide) (by decide) (ci := 9) (q0 := 0) rfl rfl rfl (Nat.le_of_ble_eq_true rfl) dX9_take_1) (fun H locs hN => ?_)
  refine lv_aload_n hx hb dX9_take_4 rfl (lv_at hl 0 rfl) ?_
  obtain ⟨⟨r2, t2_0⟩, hc2, hF⟩ := lm_bd hF
  have hF := lm_un2E hF
  refine lm_runA B hN (lm_hrV B hN hl.1 (lm_cutA B hN) (n := 0) (As := []) (rest := []) (hX9_nextThen l G q0 hc2) gX9_take_X9_nextThen rfl (by decide +kernel) rfl (by decide) (by decide) (ci := 9) (q0 := 0) rfl rfl rfl (Nat.le_of_ble_eq_true rfl) dX9_take_5) (fun H locs hN => ?_)
  refine lv_istore_n (lv' := [(1, .int r2), (0, .ref (q0 0))]) hx hb dX9_take_8 rfl hl (by decide) rfl (fun ls hl => ?_)
  refine lv_iload_n hx hb dX9_take_9 rfl (lv_at hl 0 rfl) ?_
  refine lv_iconst (v := -1) hx hb dX9_take_10 (by decide) ?_
  refine lv_icmp_ne (tgt := 17) hx hb dX9_take_11 (by decide) (fun c3 => ?_) (fun c3 => ?_)
  · have hF := lm_itn c3 hF
    refine lv_aload_n hx hb dX9_take_17 rfl (lv_at hl 1 rfl) ?_
    obtain ⟨⟨r4, t4_0⟩, hc4, hF⟩ := lm_bd hF
    have hF := lm_un2E hF
    refine lm_runA B hN (lm_hrV B hN hl.1 (lm_cutA B hN) (n := 0) (As := []) (rest := []) (hX9_takeThen l G q0 hc4) gX9_take_X9_takeThen rfl (by decide +kernel) rfl (by decide) (by decide) (ci := 9) (q0 := 0) rfl rfl rfl (Nat.le_of_ble_eq_true rfl) dX9_take_18) (fun H locs hN => ?_)
    refine lv_pop hx hb dX9_take_21 rfl ?_
    refine lv_aload_n hx hb dX9_take_22 rfl (lv_at hl 1 rfl) ?_
    obtain ⟨t5_0, hc5, hF⟩ := lm_bd hF
    refine lm_runA B hN (lm_hrV B hN hl.1 (lm_cutA B hN) (n := 0) (As := []) (rest := []) (hX9_keep l G q0 hc5) gX9_take_X9_keep rfl (by decide +kernel) rfl (by decide) (by decide) (ci := 9) (q0 := 0) rfl rfl rfl (Nat.le_of_ble_eq_true rfl) dX9_take_23) (fun H locs hN => ?_)
    refine lv_iload_n hx hb dX9_take_26 rfl (lv_at hl 0 rfl) ?_
    cases hF
    exact lm_iret B hN dX9_take_27
  · have hF := lm_itp c3 hF
    refine lv_bipush (v := -103) hx hb dX9_take_14 (by decide) ?_
    cases hF
    exact lm_iret B hN dX9_take_16
def fX9_tellThing (s0 : lm_St) (x1 : Int32) (x2 : Int32) : Option (Int32 × lm_St) := (fX9_begin s0).bind (fun t1_0 => if x2 = 0 then (lm_gI x1 7 (some (((t1_0.2.1 1) x1.toNatClampNeg), t1_0))) else (if x2 = 1 then (lm_gI x1 7 (some (((t1_0.2.1 2) x1.toNatClampNeg), t1_0))) else (if x2 = 2 then (lm_gI x1 7 (some (((t1_0.2.1 3) x1.toNatClampNeg), t1_0))) else (if x2 = 3 then (lm_gI x1 7 (some (((t1_0.2.1 4) x1.toNatClampNeg), t1_0))) else (if x2 = 4 then ((fX9_missedThen t1_0 x1).bind (fun v7 => lm_un2 v7 (fun r7 t7_0 => some (r7, t7_0)))) else (if x2 = 5 then (lm_gI x1 7 (some (((t1_0.2.1 5) x1.toNatClampNeg), t1_0))) else (if x2 = 6 then ((fX9_looksOf t1_0 x1).bind (fun v9 => lm_un2 v9 (fun r9 t9_0 => some (r9, t9_0)))) else (if x2 = 7 then ((fX9_watchOf t1_0 x1).bind (fun v10 => lm_un2 v10 (fun r10 t10_0 => some (r10, t10_0)))) else (if x2 = 8 then ((fX9_buyerOf t1_0 x1).bind (fun v11 => lm_un2 v11 (fun r11 t11_0 => some (r11, t11_0)))) else (some ((-102 : Int32), t1_0)))))))))))
set_option maxHeartbeats 4000000 in
set_option maxRecDepth 100000 in
theorem hX9_tellThing (l : Launch) (G : lm_G) (q0 : Nat → Nat) {s0 : lm_St} {x1 : Int32} {x2 : Int32} {R : Int32 × lm_St} (hF : fX9_tellThing s0 x1 x2 = some R) : lm_C l G yX9_tellThing wsX9_tellThing 5 [.ref (q0 0), .int x1, .int x2] (wX9 G q0 s0) (some (.int R.1)) (wX9 G q0 R.2) := by
  refine lm_C.of (cc := cX9_tellThing) (maxL := 3) (ret := (some .int)) (by decide) rfl (Nat.le_of_ble_eq_true rfl) ?_
  intro p e s m below meth c A ls B hN hl
  have hx := B.1.1
  have hb := B.1.2.1
  have hown := B.1.2.2.2.1
  have hts := B.1.2.2.2.2
  have hiX9 : ∀ w ∈ wsX90, w ∈ wsX9_tellThing := by decide +kernel
  have hl : lv_has ls 3 [(0, .ref (q0 0)), (1, .int x1), (2, .int x2)] := hl
  refine lv_aload_n hx hb dX9_tellThing_0 rfl (lv_at hl 0 rfl) ?_
  obtain ⟨t1_0, hc1, hF⟩ := lm_bd hF
  refine lm_runA B hN (lm_hrV B hN hl.1 (lm_cutA B hN) (n := 0) (As := []) (rest := []) (hX9_begin l G q0 hc1) gX9_tellThing_X9_begin rfl (by decide +kernel) rfl (by decide) (by decide) (ci := 9) (q0 := 0) rfl rfl rfl (Nat.le_of_ble_eq_true rfl) dX9_tellThing_1) (fun H locs hN => ?_)
  refine lv_iload_n hx hb dX9_tellThing_4 rfl (lv_at hl 2 rfl) ?_
  by_cases c2_0 : x2 = 0
  · have hF := lm_itp c2_0 hF
    refine lv_tableIn (tgt := 56) hx hb dX9_tellThing_5 (by rw [c2_0]; decide) (by rw [c2_0]; decide) (by rw [c2_0]; rfl) (by decide) ?_
    refine lv_aload_n hx hb dX9_tellThing_56 rfl (lv_at hl 0 rfl) ?_
    refine lm_get B hN (ci := 9) hiX9 0 rfl rfl 8 (by decide) (by decide +kernel) (v := .ref (q0 2)) rfl dX9_tellThing_57 ?_
    refine lv_iload_n hx hb dX9_tellThing_60 rfl (lv_at hl 1 rfl) ?_
    obtain ⟨z3, hF⟩ := lm_gIe hF
    refine lm_ald B hN 2 (f := (t1_0.2.1 1)) rfl z3 dX9_tellThing_61 ?_
    cases hF
    exact lm_iret B hN dX9_tellThing_62
  have hF := lm_itn c2_0 hF
  by_cases c2_1 : x2 = 1
  · have hF := lm_itp c2_1 hF
    refine lv_tableIn (tgt := 63) hx hb dX9_tellThing_5 (by rw [c2_1]; decide) (by rw [c2_1]; decide) (by rw [c2_1]; rfl) (by decide) ?_
    refine lv_aload_n hx hb dX9_tellThing_63 rfl (lv_at hl 0 rfl) ?_
    refine lm_get B hN (ci := 9) hiX9 0 rfl rfl 9 (by decide) (by decide +kernel) (v := .ref (q0 3)) rfl dX9_tellThing_64 ?_
    refine lv_iload_n hx hb dX9_tellThing_67 rfl (lv_at hl 1 rfl) ?_
    obtain ⟨z4, hF⟩ := lm_gIe hF
    refine lm_ald B hN 3 (f := (t1_0.2.1 2)) rfl z4 dX9_tellThing_68 ?_
    cases hF
    exact lm_iret B hN dX9_tellThing_69
  have hF := lm_itn c2_1 hF
  by_cases c2_2 : x2 = 2
  · have hF := lm_itp c2_2 hF
    refine lv_tableIn (tgt := 70) hx hb dX9_tellThing_5 (by rw [c2_2]; decide) (by rw [c2_2]; decide) (by rw [c2_2]; rfl) (by decide) ?_
    refine lv_aload_n hx hb dX9_tellThing_70 rfl (lv_at hl 0 rfl) ?_
    refine lm_get B hN (ci := 9) hiX9 0 rfl rfl 10 (by decide) (by decide +kernel) (v := .ref (q0 4)) rfl dX9_tellThing_71 ?_
    refine lv_iload_n hx hb dX9_tellThing_74 rfl (lv_at hl 1 rfl) ?_
    obtain ⟨z5, hF⟩ := lm_gIe hF
    refine lm_ald B hN 4 (f := (t1_0.2.1 3)) rfl z5 dX9_tellThing_75 ?_
    cases hF
    exact lm_iret B hN dX9_tellThing_76
  have hF := lm_itn c2_2 hF
  by_cases c2_3 : x2 = 3
  · have hF := lm_itp c2_3 hF
    refine lv_tableIn (tgt := 77) hx hb dX9_tellThing_5 (by rw [c2_3]; decide) (by rw [c2_3]; decide) (by rw [c2_3]; rfl) (by decide) ?_
    refine lv_aload_n hx hb dX9_tellThing_77 rfl (lv_at hl 0 rfl) ?_
    refine lm_get B hN (ci := 9) hiX9 0 rfl rfl 11 (by decide) (by decide +kernel) (v := .ref (q0 5)) rfl dX9_tellThing_78 ?_
    refine lv_iload_n hx hb dX9_tellThing_81 rfl (lv_at hl 1 rfl) ?_
    obtain ⟨z6, hF⟩ := lm_gIe hF
    refine lm_ald B hN 5 (f := (t1_0.2.1 4)) rfl z6 dX9_tellThing_82 ?_
    cases hF
    exact lm_iret B hN dX9_tellThing_83
  have hF := lm_itn c2_3 hF
  by_cases c2_4 : x2 = 4
  · have hF := lm_itp c2_4 hF
    refine lv_tableIn (tgt := 84) hx hb dX9_tellThing_5 (by rw [c2_4]; decide) (by rw [c2_4]; decide) (by rw [c2_4]; rfl) (by decide) ?_
    refine lv_aload_n hx hb dX9_tellThing_84 rfl (lv_at hl 0 rfl) ?_
    refine lv_iload_n hx hb dX9_tellThing_85 rfl (lv_at hl 1 rfl) ?_
    obtain ⟨⟨r7, t7_0⟩, hc7, hF⟩ := lm_bd hF
    have hF := lm_un2E hF
    refine lm_runA B hN (lm_hrV B hN hl.1 (lm_cutA B hN) (n := 1) (As := [.int x1]) (rest := []) (hX9_missedThen l G q0 hc7) gX9_tellThing_X9_missedThen rfl (by decide +kernel) rfl (by decide) (by decide) (ci := 9) (q0 := 0) rfl rfl rfl (Nat.le_of_ble_eq_true rfl) dX9_tellThing_86) (fun H locs hN => ?_)
    cases hF
    exact lm_iret B hN dX9_tellThing_89
  have hF := lm_itn c2_4 hF
  by_cases c2_5 : x2 = 5
  · have hF := lm_itp c2_5 hF
    refine lv_tableIn (tgt := 90) hx hb dX9_tellThing_5 (by rw [c2_5]; decide) (by rw [c2_5]; decide) (by rw [c2_5]; rfl) (by decide) ?_
    refine lv_aload_n hx hb dX9_tellThing_90 rfl (lv_at hl 0 rfl) ?_
    refine lm_get B hN (ci := 9) hiX9 0 rfl rfl 12 (by decide) (by decide +kernel) (v := .ref (q0 6)) rfl dX9_tellThing_91 ?_
    refine lv_iload_n hx hb dX9_tellThing_94 rfl (lv_at hl 1 rfl) ?_
    obtain ⟨z8, hF⟩ := lm_gIe hF
    refine lm_ald B hN 6 (f := (t1_0.2.1 5)) rfl z8 dX9_tellThing_95 ?_
    cases hF
    exact lm_iret B hN dX9_tellThing_96
  have hF := lm_itn c2_5 hF
  by_cases c2_6 : x2 = 6
  · have hF := lm_itp c2_6 hF
    refine lv_tableIn (tgt := 97) hx hb dX9_tellThing_5 (by rw [c2_6]; decide) (by rw [c2_6]; decide) (by rw [c2_6]; rfl) (by decide) ?_
    refine lv_aload_n hx hb dX9_tellThing_97 rfl (lv_at hl 0 rfl) ?_
    refine lv_iload_n hx hb dX9_tellThing_98 rfl (lv_at hl 1 rfl) ?_
    obtain ⟨⟨r9, t9_0⟩, hc9, hF⟩ := lm_bd hF
    have hF := lm_un2E hF
    refine lm_runA B hN (lm_hrV B hN hl.1 (lm_cutA B hN) (n := 1) (As := [.int x1]) (rest := []) (hX9_looksOf l G q0 hc9) gX9_tellThing_X9_looksOf rfl (by decide +kernel) rfl (by decide) (by decide) (ci := 9) (q0 := 0) rfl rfl rfl (Nat.le_of_ble_eq_true rfl) dX9_tellThing_99) (fun H locs hN => ?_)
    cases hF
    exact lm_iret B hN dX9_tellThing_102
  have hF := lm_itn c2_6 hF
  by_cases c2_7 : x2 = 7
  · have hF := lm_itp c2_7 hF
    refine lv_tableIn (tgt := 103) hx hb dX9_tellThing_5 (by rw [c2_7]; decide) (by rw [c2_7]; decide) (by rw [c2_7]; rfl) (by decide) ?_
    refine lv_aload_n hx hb dX9_tellThing_103 rfl (lv_at hl 0 rfl) ?_
    refine lv_iload_n hx hb dX9_tellThing_104 rfl (lv_at hl 1 rfl) ?_
    obtain ⟨⟨r10, t10_0⟩, hc10, hF⟩ := lm_bd hF
    have hF := lm_un2E hF
    refine lm_runA B hN (lm_hrV B hN hl.1 (lm_cutA B hN) (n := 1) (As := [.int x1]) (rest := []) (hX9_watchOf l G q0 hc10) gX9_tellThing_X9_watchOf rfl (by decide +kernel) rfl (by decide) (by decide) (ci := 9) (q0 := 0) rfl rfl rfl (Nat.le_of_ble_eq_true rfl) dX9_tellThing_105) (fun H locs hN => ?_)
    cases hF
    exact lm_iret B hN dX9_tellThing_108
  have hF := lm_itn c2_7 hF
  by_cases c2_8 : x2 = 8
  · have hF := lm_itp c2_8 hF
    refine lv_tableIn (tgt := 109) hx hb dX9_tellThing_5 (by rw [c2_8]; decide) (by rw [c2_8]; decide) (by rw [c2_8]; rfl) (by decide) ?_
    refine lv_aload_n hx hb dX9_tellThing_109 rfl (lv_at hl 0 rfl) ?_
    refine lv_iload_n hx hb dX9_tellThing_110 rfl (lv_at hl 1 rfl) ?_
    obtain ⟨⟨r11, t11_0⟩, hc11, hF⟩ := lm_bd hF
    have hF := lm_un2E hF
    refine lm_runA B hN (lm_hrV B hN hl.1 (lm_cutA B hN) (n := 1) (As := [.int x1]) (rest := []) (hX9_buyerOf l G q0 hc11) gX9_tellThing_X9_buyerOf rfl (by decide +kernel) rfl (by decide) (by decide) (ci := 9) (q0 := 0) rfl rfl rfl (Nat.le_of_ble_eq_true rfl) dX9_tellThing_111) (fun H locs hN => ?_)
    cases hF
    exact lm_iret B hN dX9_tellThing_114
  have hF := lm_itn c2_8 hF
  have ic2_0 := lm_ti (n := 0) (by decide) c2_0
  have ic2_1 := lm_ti (n := 1) (by decide) c2_1
  have ic2_2 := lm_ti (n := 2) (by decide) c2_2
  have ic2_3 := lm_ti (n := 3) (by decide) c2_3
  have ic2_4 := lm_ti (n := 4) (by decide) c2_4
  have ic2_5 := lm_ti (n := 5) (by decide) c2_5
  have ic2_6 := lm_ti (n := 6) (by decide) c2_6
  have ic2_7 := lm_ti (n := 7) (by decide) c2_7
  have ic2_8 := lm_ti (n := 8) (by decide) c2_8
  refine lv_tableOut (tgt := 115) hx hb dX9_tellThing_5 (by omega) (by decide) ?_
  refine lv_bipush (v := -102) hx hb dX9_tellThing_115 (by decide) ?_
  cases hF
  exact lm_iret B hN dX9_tellThing_117
def jX9_siegeOf_55 (k8 : Int32 × Int32 × Int32 × Int32 × Int32 × lm_St → Option (Int32 × lm_St)) (x1_55 : Int32) (x2_55 : Int32) (x3_55 : Int32) (x5_55 : Int32) (y0_55 : Int32) (s0_55 : lm_St) : Option (Int32 × lm_St) := k8 (x1_55, x2_55, x3_55, y0_55, (x5_55 + 1), s0_55)
def jX9_siegeOf_40 (k8 : Int32 × Int32 × Int32 × Int32 × Int32 × lm_St → Option (Int32 × lm_St)) (x1_40 : Int32) (x2_40 : Int32) (x4_40 : Int32) (x5_40 : Int32) (x6_40 : Int32) (y0_40 : Int32) (s0_40 : lm_St) : Option (Int32 × lm_St) := if x6_40 ≤ x4_40 then (jX9_siegeOf_55 k8 x1_40 x2_40 y0_40 x5_40 x4_40 s0_40) else (jX9_siegeOf_55 k8 x1_40 x2_40 y0_40 x5_40 x6_40 s0_40)
def bX9_siegeOf_8 (k8 : Int32 × Int32 × Int32 × Int32 × Int32 × lm_St → Option (Int32 × lm_St)) (x1_8 : Int32) (x2_8 : Int32) (x3_8 : Int32) (x4_8 : Int32) (x5_8 : Int32) (s0_8 : lm_St) : Option (Int32 × lm_St) := if ((1 : Int32) <<< (((3 : Int32) * x1_8) &&& 31)) ≤ x5_8 then (if (2 : Int32) ≤ x2_8 then (if x1_8 ≤ (x2_8 - (10 : Int32)) then (some ((-1 : Int32), s0_8)) else ((fX9_figure x3_8 x1_8 (x2_8 - (10 : Int32))).bind (fun r5 => some (r5, s0_8)))) else (if x2_8 = 0 then (some ((((1000999 : Int32) - x4_8) / (1000 : Int32)), s0_8)) else (some ((x4_8 - x4_8 / (1000 : Int32) * (1000 : Int32)), s0_8)))) else ((fX9_siegeBy s0_8 x5_8 x1_8).bind (fun v7 => lm_un2 v7 (fun r7 t7_0 => if r7 ≤ x4_8 then (jX9_siegeOf_40 k8 x1_8 x2_8 x4_8 x5_8 r7 x3_8 t7_0) else (jX9_siegeOf_40 k8 x1_8 x2_8 x4_8 x5_8 r7 x5_8 t7_0))))
def fX9_siegeOf (s0 : lm_St) (x1 : Int32) (x2 : Int32) : Option (Int32 × lm_St) := lm_lp (fun k a => bX9_siegeOf_8 k a.1 a.2.1 a.2.2.1 a.2.2.2.1 a.2.2.2.2.1 a.2.2.2.2.2) 5000 (x1, x2, (0 : Int32), (-1 : Int32), (0 : Int32), s0)
set_option maxHeartbeats 4000000 in
set_option maxRecDepth 100000 in
theorem hX9_siegeOf (l : Launch) (G : lm_G) (q0 : Nat → Nat) {s0 : lm_St} {x1 : Int32} {x2 : Int32} {R : Int32 × lm_St} (hF : fX9_siegeOf s0 x1 x2 = some R) : lm_C l G yX9_siegeOf wsX9_siegeOf 6 [.ref (q0 0), .int x1, .int x2] (wX9 G q0 s0) (some (.int R.1)) (wX9 G q0 R.2) := by
  refine lm_C.of (cc := cX9_siegeOf) (maxL := 7) (ret := (some .int)) (by decide) rfl (Nat.le_of_ble_eq_true rfl) ?_
  intro p e s m below meth c A ls B hN hl
  have hx := B.1.1
  have hb := B.1.2.1
  have hown := B.1.2.2.2.1
  have hts := B.1.2.2.2.2
  have hl : lv_has ls 7 [(0, .ref (q0 0)), (1, .int x1), (2, .int x2)] := hl
  have L8 : ∀ (n : Nat) (x1_8 : Int32) (x2_8 : Int32) (x3_8 : Int32) (x4_8 : Int32) (x5_8 : Int32) (s0_8 : lm_St) (H : Heap) (locs : List Loc) (ls : Array Slot), lm_lp (fun k a => bX9_siegeOf_8 k a.1 a.2.1 a.2.2.1 a.2.2.2.1 a.2.2.2.2.1 a.2.2.2.2.2) n (x1_8, x2_8, x3_8, x4_8, x5_8, s0_8) = some R → lm_N G A s (wX9 G q0 s0_8) H locs → lv_has ls 7 [(0, .ref (q0 0)), (1, .int x1_8), (2, .int x2_8), (3, .int x3_8), (4, .int x4_8), (5, .int x5_8)] → W p l e (lm_rk 6) s m ([.ref (q0 0), .int x1, .int x2] : List Value).toArray below meth c H locs 0 0 (MQ below (lm_post G (wX9 G q0 R.2) (some (.int R.1)) A) ([.ref (q0 0), .int x1, .int x2] : List Value).toArray s 0 0 A) (F0 m 8 ls []) := by
    intro n
    induction n with
    | zero => intro x1_8 x2_8 x3_8 x4_8 x5_8 s0_8 H locs ls hF; exact (lm_lpz hF).elim
    | succ n ih8 =>
      intro x1_8 x2_8 x3_8 x4_8 x5_8 s0_8 H locs ls hF hN hl
      have hF : bX9_siegeOf_8 (lm_lp (fun k a => bX9_siegeOf_8 k a.1 a.2.1 a.2.2.1 a.2.2.2.1 a.2.2.2.2.1 a.2.2.2.2.2) n) x1_8 x2_8 x3_8 x4_8 x5_8 s0_8 = some R := lm_lps hF
      generalize lm_lp (fun k a => bX9_siegeOf_8 k a.1 a.2.1 a.2.2.1 a.2.2.2.1 a.2.2.2.2.1 a.2.2.2.2.2) n = k8 at hF ih8
      have J40 : ∀ (x1_40 : Int32) (x2_40 : Int32) (x4_40 : Int32) (x5_40 : Int32) (x6_40 : Int32) (y0_40 : Int32) (s0_40 : lm_St) (H : Heap) (locs : List Loc) (ls : Array Slot), jX9_siegeOf_40 k8 x1_40 x2_40 x4_40 x5_40 x6_40 y0_40 s0_40 = some R → lm_N G A s (wX9 G q0 s0_40) H locs → lv_has ls 7 [(0, .ref (q0 0)), (1, .int x1_40), (2, .int x2_40), (4, .int x4_40), (5, .int x5_40), (6, .int x6_40)] → W p l e (lm_rk 6) s m ([.ref (q0 0), .int x1, .int x2] : List Value).toArray below meth c H locs 0 0 (MQ below (lm_post G (wX9 G q0 R.2) (some (.int R.1)) A) ([.ref (q0 0), .int x1, .int x2] : List Value).toArray s 0 0 A) (F0 m 40 ls [.int y0_40]) := by
        intro x1_40 x2_40 x4_40 x5_40 x6_40 y0_40 s0_40 H locs ls hF hN hl
        have J55 : ∀ (x1_55 : Int32) (x2_55 : Int32) (x3_55 : Int32) (x5_55 : Int32) (y0_55 : Int32) (s0_55 : lm_St) (H : Heap) (locs : List Loc) (ls : Array Slot), jX9_siegeOf_55 k8 x1_55 x2_55 x3_55 x5_55 y0_55 s0_55 = some R → lm_N G A s (wX9 G q0 s0_55) H locs → lv_has ls 7 [(0, .ref (q0 0)), (1, .int x1_55), (2, .int x2_55), (3, .int x3_55), (5, .int x5_55)] → W p l e (lm_rk 6) s m ([.ref (q0 0), .int x1, .int x2] : List Value).toArray below meth c H locs 0 0 (MQ below (lm_post G (wX9 G q0 R.2) (some (.int R.1)) A) ([.ref (q0 0), .int x1, .int x2] : List Value).toArray s 0 0 A) (F0 m 55 ls [.int y0_55]) := by
          intro x1_55 x2_55 x3_55 x5_55 y0_55 s0_55 H locs ls hF hN hl
          refine lv_istore (lv' := [(4, .int y0_55), (0, .ref (q0 0)), (1, .int x1_55), (2, .int x2_55), (3, .int x3_55), (5, .int x5_55)]) hx hb dX9_siegeOf_55 hl (by decide) rfl (fun ls hl => ?_)
          refine lv_iinc (v := (x5_55 + 1)) (lv' := [(5, .int (x5_55 + 1)), (4, .int y0_55), (0, .ref (q0 0)), (1, .int x1_55), (2, .int x2_55), (3, .int x3_55)]) hx hb dX9_siegeOf_57 hl (k := 5) rfl rfl (by decide) rfl (fun ls hl => ?_)
          refine lv_goto (tgt := 8) hx hb dX9_siegeOf_60 (by decide) ?_
          exact ih8 _ _ _ _ _ _ _ _ _ hF hN (lv_sub hl [2, 3, 4, 5, 1, 0] rfl)
        refine lv_istore_n (lv' := [(3, .int y0_40), (0, .ref (q0 0)), (1, .int x1_40), (2, .int x2_40), (4, .int x4_40), (5, .int x5_40), (6, .int x6_40)]) hx hb dX9_siegeOf_40 rfl hl (by decide) rfl (fun ls hl => ?_)
        refine lv_iload hx hb dX9_siegeOf_41 (lv_at hl 6 rfl) ?_
        refine lv_iload hx hb dX9_siegeOf_43 (lv_at hl 4 rfl) ?_
        refine lv_icmp_le (tgt := 53) hx hb dX9_siegeOf_45 (by decide) (fun c1 => ?_) (fun c1 => ?_)
        · have hF := lm_itp c1 hF
          refine lv_iload hx hb dX9_siegeOf_53 (lv_at hl 4 rfl) ?_
          exact J55 _ _ _ _ _ _ _ _ _ hF hN (lv_sub hl [1, 2, 3, 0, 5] rfl)
        · have hF := lm_itn c1 hF
          refine lv_iload hx hb dX9_siegeOf_48 (lv_at hl 6 rfl) ?_
          refine lv_goto (tgt := 55) hx hb dX9_siegeOf_50 (by decide) ?_
          exact J55 _ _ _ _ _ _ _ _ _ hF hN (lv_sub hl [1, 2, 3, 0, 5] rfl)
      refine lv_iload hx hb dX9_siegeOf_8 (lv_at hl 5 rfl) ?_
      refine lv_iconst (v := 1) hx hb dX9_siegeOf_10 (by decide) ?_
      refine lv_iconst (v := 3) hx hb dX9_siegeOf_11 (by decide) ?_
      refine lv_iload_n hx hb dX9_siegeOf_12 rfl (lv_at hl 1 rfl) ?_
      refine lv_imul hx hb dX9_siegeOf_13 ?_
      refine lv_ishl hx hb dX9_siegeOf_14 ?_
      refine lv_icmp_ge (tgt := 63) hx hb dX9_siegeOf_15 (by decide) (fun c2 => ?_) (fun c2 => ?_)
      · have hF := lm_itp c2 hF
        refine lv_iload_n hx hb dX9_siegeOf_63 rfl (lv_at hl 2 rfl) ?_
        refine lv_iconst (v := 2) hx hb dX9_siegeOf_64 (by decide) ?_
        refine lv_icmp_ge (tgt := 91) hx hb dX9_siegeOf_65 (by decide) (fun c3 => ?_) (fun c3 => ?_)
        · have hF := lm_itp c3 hF
          refine lv_iload_n hx hb dX9_siegeOf_91 rfl (lv_at hl 2 rfl) ?_
          refine lv_bipush (v := 10) hx hb dX9_siegeOf_92 (by decide) ?_
          refine lv_isub hx hb dX9_siegeOf_94 ?_
          refine lv_iload_n hx hb dX9_siegeOf_95 rfl (lv_at hl 1 rfl) ?_
          refine lv_icmp_ge (tgt := 111) hx hb dX9_siegeOf_96 (by decide) (fun c4 => ?_) (fun c4 => ?_)
          · have hF := lm_itp c4 hF
            refine lv_iconst (v := -1) hx hb dX9_siegeOf_111 (by decide) ?_
            cases hF
            exact lm_iret B hN dX9_siegeOf_112
          · have hF := lm_itn c4 hF
            refine lv_iload_n hx hb dX9_siegeOf_99 rfl (lv_at hl 3 rfl) ?_
            refine lv_iload_n hx hb dX9_siegeOf_100 rfl (lv_at hl 1 rfl) ?_
            refine lv_iload_n hx hb dX9_siegeOf_101 rfl (lv_at hl 2 rfl) ?_
            refine lv_bipush (v := 10) hx hb dX9_siegeOf_102 (by decide) ?_
            refine lv_isub hx hb dX9_siegeOf_104 ?_
            obtain ⟨r5, hc5, hF⟩ := lm_bd hF
            refine lm_run0 B hN (lm_hrT B hN hl.1 (lm_cut0 B hN) (n := 3) (As := [.int x3_8, .int x1_8, .int (x2_8 - (10 : Int32))]) (rest := []) (hX9_figure l G hc5) gX9_siegeOf_X9_figure rfl (by decide +kernel) rfl (by decide) (by decide) rfl (Nat.le_of_ble_eq_true rfl) dX9_siegeOf_105) (fun H locs hN => ?_)
            refine lv_goto (tgt := 112) hx hb dX9_siegeOf_108 (by decide) ?_
            cases hF
            exact lm_iret B hN dX9_siegeOf_112
        · have hF := lm_itn c3 hF
          refine lv_iload_n hx hb dX9_siegeOf_68 rfl (lv_at hl 2 rfl) ?_
          refine lv_if_ne (tgt := 84) hx hb dX9_siegeOf_69 (by decide) (fun c6 => ?_) (fun c6 => ?_)
          · have hF := lm_itn c6 hF
            refine lv_iload hx hb dX9_siegeOf_84 (lv_at hl 4 rfl) ?_
            refine lv_sipush (v := 1000) hx hb dX9_siegeOf_86 (by decide) ?_
            refine lv_irem hx hb dX9_siegeOf_89 (by decide) ?_
            cases hF
            exact lm_iret B hN dX9_siegeOf_90
          · have hF := lm_itp c6 hF
            refine lv_ldc (v := 1000999) hx hb hown (hts (.constant RX9 187 (1000999)) (by decide +kernel)) dX9_siegeOf_72 ?_
            refine lv_iload hx hb dX9_siegeOf_74 (lv_at hl 4 rfl) ?_
            refine lv_isub hx hb dX9_siegeOf_76 ?_
            refine lv_sipush (v := 1000) hx hb dX9_siegeOf_77 (by decide) ?_
            refine lv_idiv hx hb dX9_siegeOf_80 (by decide) ?_
            refine lv_goto (tgt := 90) hx hb dX9_siegeOf_81 (by decide) ?_
            cases hF
            exact lm_iret B hN dX9_siegeOf_90
      · have hF := lm_itn c2 hF
        refine lv_aload_n hx hb dX9_siegeOf_18 rfl (lv_at hl 0 rfl) ?_
        refine lv_iload hx hb dX9_siegeOf_19 (lv_at hl 5 rfl) ?_
        refine lv_iload_n hx hb dX9_siegeOf_21 rfl (lv_at hl 1 rfl) ?_
        obtain ⟨⟨r7, t7_0⟩, hc7, hF⟩ := lm_bd hF
        have hF := lm_un2E hF
        refine lm_runA B hN (lm_hrV B hN hl.1 (lm_cutA B hN) (n := 2) (As := [.int x5_8, .int x1_8]) (rest := []) (hX9_siegeBy l G q0 hc7) gX9_siegeOf_X9_siegeBy rfl (by decide +kernel) rfl (by decide) (by decide) (ci := 9) (q0 := 0) rfl rfl rfl (Nat.le_of_ble_eq_true rfl) dX9_siegeOf_22) (fun H locs hN => ?_)
        refine lv_istore (lv' := [(6, .int r7), (0, .ref (q0 0)), (1, .int x1_8), (2, .int x2_8), (3, .int x3_8), (4, .int x4_8), (5, .int x5_8)]) hx hb dX9_siegeOf_25 hl (by decide) rfl (fun ls hl => ?_)
        refine lv_iload hx hb dX9_siegeOf_27 (lv_at hl 0 rfl) ?_
        refine lv_iload hx hb dX9_siegeOf_29 (lv_at hl 5 rfl) ?_
        refine lv_icmp_le (tgt := 39) hx hb dX9_siegeOf_31 (by decide) (fun c8 => ?_) (fun c8 => ?_)
        · have hF := lm_itp c8 hF
          refine lv_iload_n hx hb dX9_siegeOf_39 rfl (lv_at hl 4 rfl) ?_
          exact J40 _ _ _ _ _ _ _ _ _ _ hF hN (lv_sub hl [1, 2, 3, 5, 6, 0] rfl)
        · have hF := lm_itn c8 hF
          refine lv_iload hx hb dX9_siegeOf_34 (lv_at hl 6 rfl) ?_
          refine lv_goto (tgt := 40) hx hb dX9_siegeOf_36 (by decide) ?_
          exact J40 _ _ _ _ _ _ _ _ _ _ hF hN (lv_sub hl [1, 2, 3, 5, 6, 0] rfl)
  refine lv_iconst (v := 0) hx hb dX9_siegeOf_0 (by decide) ?_
  refine lv_istore_n (lv' := [(3, .int (0 : Int32)), (0, .ref (q0 0)), (1, .int x1), (2, .int x2)]) hx hb dX9_siegeOf_1 rfl hl (by decide) rfl (fun ls hl => ?_)
  refine lv_iconst (v := -1) hx hb dX9_siegeOf_2 (by decide) ?_
  refine lv_istore (lv' := [(4, .int (-1 : Int32)), (3, .int (0 : Int32)), (0, .ref (q0 0)), (1, .int x1), (2, .int x2)]) hx hb dX9_siegeOf_3 hl (by decide) rfl (fun ls hl => ?_)
  refine lv_iconst (v := 0) hx hb dX9_siegeOf_5 (by decide) ?_
  refine lv_istore (lv' := [(5, .int (0 : Int32)), (4, .int (-1 : Int32)), (3, .int (0 : Int32)), (0, .ref (q0 0)), (1, .int x1), (2, .int x2)]) hx hb dX9_siegeOf_6 hl (by decide) rfl (fun ls hl => ?_)
  exact L8 5000 _ _ _ _ _ _ _ _ _ hF hN (lv_sub hl [3, 4, 5, 2, 1, 0] rfl)
def fX9_thing (s0 : lm_St) (x1 : Int32) (x2 : Int32) : Option (Int32 × lm_St) := (fX9_isThing s0 x1).bind (fun v1 => lm_un2 v1 (fun r1 t1_0 => if r1 = 0 then (some ((-101 : Int32), t1_0)) else ((fX9_tellThing t1_0 x1 x2).bind (fun v3 => lm_un2 v3 (fun r3 t3_0 => some (r3, t3_0))))))
set_option maxHeartbeats 4000000 in
set_option maxRecDepth 100000 in
theorem hX9_thing (l : Launch) (G : lm_G) (q0 : Nat → Nat) {s0 : lm_St} {x1 : Int32} {x2 : Int32} {R : Int32 × lm_St} (hF : fX9_thing s0 x1 x2 = some R) : lm_C l G yX9_thing wsX9_thing 6 [.ref (q0 0), .int x1, .int x2] (wX9 G q0 s0) (some (.int R.1)) (wX9 G q0 R.2) := by
  refine lm_C.of (cc := cX9_thing) (maxL := 3) (ret := (some .int)) (by decide) rfl (Nat.le_of_ble_eq_true rfl) ?_
  intro p e s m below meth c A ls B hN hl
  have hx := B.1.1
  have hb := B.1.2.1
  have hown := B.1.2.2.2.1
  have hts := B.1.2.2.2.2
  have hl : lv_has ls 3 [(0, .ref (q0 0)), (1, .int x1), (2, .int x2)] := hl
  refine lv_aload_n hx hb dX9_thing_0 rfl (lv_at hl 0 rfl) ?_
  refine lv_iload_n hx hb dX9_thing_1 rfl (lv_at hl 1 rfl) ?_
  obtain ⟨⟨r1, t1_0⟩, hc1, hF⟩ := lm_bd hF
  have hF := lm_un2E hF
  refine lm_runA B hN (lm_hrV B hN hl.1 (lm_cutA B hN) (n := 1) (As := [.int x1]) (rest := []) (hX9_isThing l G q0 hc1) gX9_thing_X9_isThing rfl (by decide +kernel) rfl (by decide) (by decide) (ci := 9) (q0 := 0) rfl rfl rfl (Nat.le_of_ble_eq_true rfl) dX9_thing_2) (fun H locs hN => ?_)
  refine lv_if_eq (tgt := 17) hx hb dX9_thing_5 (by decide) (fun c2 => ?_) (fun c2 => ?_)
  · have hF := lm_itp c2 hF
    refine lv_bipush (v := -101) hx hb dX9_thing_17 (by decide) ?_
    cases hF
    exact lm_iret B hN dX9_thing_19
  · have hF := lm_itn c2 hF
    refine lv_aload_n hx hb dX9_thing_8 rfl (lv_at hl 0 rfl) ?_
    refine lv_iload_n hx hb dX9_thing_9 rfl (lv_at hl 1 rfl) ?_
    refine lv_iload_n hx hb dX9_thing_10 rfl (lv_at hl 2 rfl) ?_
    obtain ⟨⟨r3, t3_0⟩, hc3, hF⟩ := lm_bd hF
    have hF := lm_un2E hF
    refine lm_runA B hN (lm_hrV B hN hl.1 (lm_cutA B hN) (n := 2) (As := [.int x1, .int x2]) (rest := []) (hX9_tellThing l G q0 hc3) gX9_thing_X9_tellThing rfl (by decide +kernel) rfl (by decide) (by decide) (ci := 9) (q0 := 0) rfl rfl rfl (Nat.le_of_ble_eq_true rfl) dX9_thing_11) (fun H locs hN => ?_)
    refine lv_goto (tgt := 19) hx hb dX9_thing_14 (by decide) ?_
    cases hF
    exact lm_iret B hN dX9_thing_19
def fX9_sayHouse (s0 : lm_St) : Option (lm_St) := (fX9_nextOf s0 (0 : Int32)).bind (fun v1 => lm_un2 v1 (fun r1 t1_0 => (fX9_say t1_0 r1.toInt64).bind (fun t2_0 => (fX9_nextOf t2_0 (5 : Int32)).bind (fun v3 => lm_un2 v3 (fun r3 t3_0 => (fX9_say t3_0 r3.toInt64).bind (fun t4_0 => (fX9_siegeOf t4_0 (2 : Int32) (0 : Int32)).bind (fun v5 => lm_un2 v5 (fun r5 t5_0 => (fX9_say t5_0 r5.toInt64).bind (fun t6_0 => (fX9_siegeOf t6_0 (2 : Int32) (1 : Int32)).bind (fun v7 => lm_un2 v7 (fun r7 t7_0 => (fX9_say t7_0 r7.toInt64).bind (fun t8_0 => (fX9_siegeOf t8_0 (2 : Int32) (10 : Int32)).bind (fun v9 => lm_un2 v9 (fun r9 t9_0 => (fX9_say t9_0 r9.toInt64).bind (fun t10_0 => (fX9_siegeOf t10_0 (2 : Int32) (11 : Int32)).bind (fun v11 => lm_un2 v11 (fun r11 t11_0 => (fX9_say t11_0 r11.toInt64).bind (fun t12_0 => (fX9_makeUpOf t12_0 (0 : Int32)).bind (fun v13 => lm_un2 v13 (fun r13 t13_0 => (fX9_say t13_0 r13.toInt64).bind (fun t14_0 => (fX9_makeUpOf t14_0 (1 : Int32)).bind (fun v15 => lm_un2 v15 (fun r15 t15_0 => (fX9_say t15_0 r15.toInt64).bind (fun t16_0 => (fX9_makeUpOf t16_0 (2 : Int32)).bind (fun v17 => lm_un2 v17 (fun r17 t17_0 => (fX9_say t17_0 r17.toInt64).bind (fun t18_0 => some t18_0)))))))))))))))))))))))))))
set_option maxHeartbeats 4000000 in
set_option maxRecDepth 100000 in
theorem hX9_sayHouse (l : Launch) (G : lm_G) (q0 : Nat → Nat) {s0 : lm_St} {R : lm_St} (hF : fX9_sayHouse s0 = some R) : lm_C l G yX9_sayHouse wsX9_sayHouse 7 [.ref (q0 0)] (wX9 G q0 s0) none (wX9 G q0 R) := by
  refine lm_C.of (cc := cX9_sayHouse) (maxL := 1) (ret := none) (by decide) rfl (Nat.le_of_ble_eq_true rfl) ?_
  intro p e s m below meth c A ls B hN hl
  have hx := B.1.1
  have hb := B.1.2.1
  have hown := B.1.2.2.2.1
  have hts := B.1.2.2.2.2
  have hl : lv_has ls 1 [(0, .ref (q0 0))] := hl
  refine lv_aload_n hx hb dX9_sayHouse_0 rfl (lv_at hl 0 rfl) ?_
  refine lv_aload_n hx hb dX9_sayHouse_1 rfl (lv_at hl 0 rfl) ?_
  refine lv_iconst (v := 0) hx hb dX9_sayHouse_2 (by decide) ?_
  obtain ⟨⟨r1, t1_0⟩, hc1, hF⟩ := lm_bd hF
  have hF := lm_un2E hF
  refine lm_runA B hN (lm_hrV B hN hl.1 (lm_cutA B hN) (n := 1) (As := [.int (0 : Int32)]) (rest := [.ref (q0 0)]) (hX9_nextOf l G q0 hc1) gX9_sayHouse_X9_nextOf rfl (by decide +kernel) rfl (by decide) (by decide) (ci := 9) (q0 := 0) rfl rfl rfl (Nat.le_of_ble_eq_true rfl) dX9_sayHouse_3) (fun H locs hN => ?_)
  refine lv_i2l hx hb dX9_sayHouse_6 rfl ?_
  obtain ⟨t2_0, hc2, hF⟩ := lm_bd hF
  refine lm_runA B hN (lm_hrV B hN hl.1 (lm_cutA B hN) (n := 1) (As := [.long r1.toInt64]) (rest := []) (hX9_say l G q0 hc2) gX9_sayHouse_X9_say rfl (by decide +kernel) rfl (by decide) (by decide) (ci := 9) (q0 := 0) rfl rfl rfl (Nat.le_of_ble_eq_true rfl) dX9_sayHouse_7) (fun H locs hN => ?_)
  refine lv_aload_n hx hb dX9_sayHouse_10 rfl (lv_at hl 0 rfl) ?_
  refine lv_aload_n hx hb dX9_sayHouse_11 rfl (lv_at hl 0 rfl) ?_
  refine lv_iconst (v := 5) hx hb dX9_sayHouse_12 (by decide) ?_
  obtain ⟨⟨r3, t3_0⟩, hc3, hF⟩ := lm_bd hF
  have hF := lm_un2E hF
  refine lm_runA B hN (lm_hrV B hN hl.1 (lm_cutA B hN) (n := 1) (As := [.int (5 : Int32)]) (rest := [.ref (q0 0)]) (hX9_nextOf l G q0 hc3) gX9_sayHouse_X9_nextOf rfl (by decide +kernel) rfl (by decide) (by decide) (ci := 9) (q0 := 0) rfl rfl rfl (Nat.le_of_ble_eq_true rfl) dX9_sayHouse_13) (fun H locs hN => ?_)
  refine lv_i2l hx hb dX9_sayHouse_16 rfl ?_
  obtain ⟨t4_0, hc4, hF⟩ := lm_bd hF
  refine lm_runA B hN (lm_hrV B hN hl.1 (lm_cutA B hN) (n := 1) (As := [.long r3.toInt64]) (rest := []) (hX9_say l G q0 hc4) gX9_sayHouse_X9_say rfl (by decide +kernel) rfl (by decide) (by decide) (ci := 9) (q0 := 0) rfl rfl rfl (Nat.le_of_ble_eq_true rfl) dX9_sayHouse_17) (fun H locs hN => ?_)
  refine lv_aload_n hx hb dX9_sayHouse_20 rfl (lv_at hl 0 rfl) ?_
  refine lv_aload_n hx hb dX9_sayHouse_21 rfl (lv_at hl 0 rfl) ?_
  refine lv_iconst (v := 2) hx hb dX9_sayHouse_22 (by decide) ?_
  refine lv_iconst (v := 0) hx hb dX9_sayHouse_23 (by decide) ?_
  obtain ⟨⟨r5, t5_0⟩, hc5, hF⟩ := lm_bd hF
  have hF := lm_un2E hF
  refine lm_runA B hN (lm_hrV B hN hl.1 (lm_cutA B hN) (n := 2) (As := [.int (2 : Int32), .int (0 : Int32)]) (rest := [.ref (q0 0)]) (hX9_siegeOf l G q0 hc5) gX9_sayHouse_X9_siegeOf rfl (by decide +kernel) rfl (by decide) (by decide) (ci := 9) (q0 := 0) rfl rfl rfl (Nat.le_of_ble_eq_true rfl) dX9_sayHouse_24) (fun H locs hN => ?_)
  refine lv_i2l hx hb dX9_sayHouse_27 rfl ?_
  obtain ⟨t6_0, hc6, hF⟩ := lm_bd hF
  refine lm_runA B hN (lm_hrV B hN hl.1 (lm_cutA B hN) (n := 1) (As := [.long r5.toInt64]) (rest := []) (hX9_say l G q0 hc6) gX9_sayHouse_X9_say rfl (by decide +kernel) rfl (by decide) (by decide) (ci := 9) (q0 := 0) rfl rfl rfl (Nat.le_of_ble_eq_true rfl) dX9_sayHouse_28) (fun H locs hN => ?_)
  refine lv_aload_n hx hb dX9_sayHouse_31 rfl (lv_at hl 0 rfl) ?_
  refine lv_aload_n hx hb dX9_sayHouse_32 rfl (lv_at hl 0 rfl) ?_
  refine lv_iconst (v := 2) hx hb dX9_sayHouse_33 (by decide) ?_
  refine lv_iconst (v := 1) hx hb dX9_sayHouse_34 (by decide) ?_
  obtain ⟨⟨r7, t7_0⟩, hc7, hF⟩ := lm_bd hF
  have hF := lm_un2E hF
  refine lm_runA B hN (lm_hrV B hN hl.1 (lm_cutA B hN) (n := 2) (As := [.int (2 : Int32), .int (1 : Int32)]) (rest := [.ref (q0 0)]) (hX9_siegeOf l G q0 hc7) gX9_sayHouse_X9_siegeOf rfl (by decide +kernel) rfl (by decide) (by decide) (ci := 9) (q0 := 0) rfl rfl rfl (Nat.le_of_ble_eq_true rfl) dX9_sayHouse_35) (fun H locs hN => ?_)
  refine lv_i2l hx hb dX9_sayHouse_38 rfl ?_
  obtain ⟨t8_0, hc8, hF⟩ := lm_bd hF
  refine lm_runA B hN (lm_hrV B hN hl.1 (lm_cutA B hN) (n := 1) (As := [.long r7.toInt64]) (rest := []) (hX9_say l G q0 hc8) gX9_sayHouse_X9_say rfl (by decide +kernel) rfl (by decide) (by decide) (ci := 9) (q0 := 0) rfl rfl rfl (Nat.le_of_ble_eq_true rfl) dX9_sayHouse_39) (fun H locs hN => ?_)
  refine lv_aload_n hx hb dX9_sayHouse_42 rfl (lv_at hl 0 rfl) ?_
  refine lv_aload_n hx hb dX9_sayHouse_43 rfl (lv_at hl 0 rfl) ?_
  refine lv_iconst (v := 2) hx hb dX9_sayHouse_44 (by decide) ?_
  refine lv_bipush (v := 10) hx hb dX9_sayHouse_45 (by decide) ?_
  obtain ⟨⟨r9, t9_0⟩, hc9, hF⟩ := lm_bd hF
  have hF := lm_un2E hF
  refine lm_runA B hN (lm_hrV B hN hl.1 (lm_cutA B hN) (n := 2) (As := [.int (2 : Int32), .int (10 : Int32)]) (rest := [.ref (q0 0)]) (hX9_siegeOf l G q0 hc9) gX9_sayHouse_X9_siegeOf rfl (by decide +kernel) rfl (by decide) (by decide) (ci := 9) (q0 := 0) rfl rfl rfl (Nat.le_of_ble_eq_true rfl) dX9_sayHouse_47) (fun H locs hN => ?_)
  refine lv_i2l hx hb dX9_sayHouse_50 rfl ?_
  obtain ⟨t10_0, hc10, hF⟩ := lm_bd hF
  refine lm_runA B hN (lm_hrV B hN hl.1 (lm_cutA B hN) (n := 1) (As := [.long r9.toInt64]) (rest := []) (hX9_say l G q0 hc10) gX9_sayHouse_X9_say rfl (by decide +kernel) rfl (by decide) (by decide) (ci := 9) (q0 := 0) rfl rfl rfl (Nat.le_of_ble_eq_true rfl) dX9_sayHouse_51) (fun H locs hN => ?_)
  refine lv_aload_n hx hb dX9_sayHouse_54 rfl (lv_at hl 0 rfl) ?_
  refine lv_aload_n hx hb dX9_sayHouse_55 rfl (lv_at hl 0 rfl) ?_
  refine lv_iconst (v := 2) hx hb dX9_sayHouse_56 (by decide) ?_
  refine lv_bipush (v := 11) hx hb dX9_sayHouse_57 (by decide) ?_
  obtain ⟨⟨r11, t11_0⟩, hc11, hF⟩ := lm_bd hF
  have hF := lm_un2E hF
  refine lm_runA B hN (lm_hrV B hN hl.1 (lm_cutA B hN) (n := 2) (As := [.int (2 : Int32), .int (11 : Int32)]) (rest := [.ref (q0 0)]) (hX9_siegeOf l G q0 hc11) gX9_sayHouse_X9_siegeOf rfl (by decide +kernel) rfl (by decide) (by decide) (ci := 9) (q0 := 0) rfl rfl rfl (Nat.le_of_ble_eq_true rfl) dX9_sayHouse_59) (fun H locs hN => ?_)
  refine lv_i2l hx hb dX9_sayHouse_62 rfl ?_
  obtain ⟨t12_0, hc12, hF⟩ := lm_bd hF
  refine lm_runA B hN (lm_hrV B hN hl.1 (lm_cutA B hN) (n := 1) (As := [.long r11.toInt64]) (rest := []) (hX9_say l G q0 hc12) gX9_sayHouse_X9_say rfl (by decide +kernel) rfl (by decide) (by decide) (ci := 9) (q0 := 0) rfl rfl rfl (Nat.le_of_ble_eq_true rfl) dX9_sayHouse_63) (fun H locs hN => ?_)
  refine lv_aload_n hx hb dX9_sayHouse_66 rfl (lv_at hl 0 rfl) ?_
  refine lv_aload_n hx hb dX9_sayHouse_67 rfl (lv_at hl 0 rfl) ?_
  refine lv_iconst (v := 0) hx hb dX9_sayHouse_68 (by decide) ?_
  obtain ⟨⟨r13, t13_0⟩, hc13, hF⟩ := lm_bd hF
  have hF := lm_un2E hF
  refine lm_runA B hN (lm_hrV B hN hl.1 (lm_cutA B hN) (n := 1) (As := [.int (0 : Int32)]) (rest := [.ref (q0 0)]) (hX9_makeUpOf l G q0 hc13) gX9_sayHouse_X9_makeUpOf rfl (by decide +kernel) rfl (by decide) (by decide) (ci := 9) (q0 := 0) rfl rfl rfl (Nat.le_of_ble_eq_true rfl) dX9_sayHouse_69) (fun H locs hN => ?_)
  refine lv_i2l hx hb dX9_sayHouse_72 rfl ?_
  obtain ⟨t14_0, hc14, hF⟩ := lm_bd hF
  refine lm_runA B hN (lm_hrV B hN hl.1 (lm_cutA B hN) (n := 1) (As := [.long r13.toInt64]) (rest := []) (hX9_say l G q0 hc14) gX9_sayHouse_X9_say rfl (by decide +kernel) rfl (by decide) (by decide) (ci := 9) (q0 := 0) rfl rfl rfl (Nat.le_of_ble_eq_true rfl) dX9_sayHouse_73) (fun H locs hN => ?_)
  refine lv_aload_n hx hb dX9_sayHouse_76 rfl (lv_at hl 0 rfl) ?_
  refine lv_aload_n hx hb dX9_sayHouse_77 rfl (lv_at hl 0 rfl) ?_
  refine lv_iconst (v := 1) hx hb dX9_sayHouse_78 (by decide) ?_
  obtain ⟨⟨r15, t15_0⟩, hc15, hF⟩ := lm_bd hF
  have hF := lm_un2E hF
  refine lm_runA B hN (lm_hrV B hN hl.1 (lm_cutA B hN) (n := 1) (As := [.int (1 : Int32)]) (rest := [.ref (q0 0)]) (hX9_makeUpOf l G q0 hc15) gX9_sayHouse_X9_makeUpOf rfl (by decide +kernel) rfl (by decide) (by decide) (ci := 9) (q0 := 0) rfl rfl rfl (Nat.le_of_ble_eq_true rfl) dX9_sayHouse_79) (fun H locs hN => ?_)
  refine lv_i2l hx hb dX9_sayHouse_82 rfl ?_
  obtain ⟨t16_0, hc16, hF⟩ := lm_bd hF
  refine lm_runA B hN (lm_hrV B hN hl.1 (lm_cutA B hN) (n := 1) (As := [.long r15.toInt64]) (rest := []) (hX9_say l G q0 hc16) gX9_sayHouse_X9_say rfl (by decide +kernel) rfl (by decide) (by decide) (ci := 9) (q0 := 0) rfl rfl rfl (Nat.le_of_ble_eq_true rfl) dX9_sayHouse_83) (fun H locs hN => ?_)
  refine lv_aload_n hx hb dX9_sayHouse_86 rfl (lv_at hl 0 rfl) ?_
  refine lv_aload_n hx hb dX9_sayHouse_87 rfl (lv_at hl 0 rfl) ?_
  refine lv_iconst (v := 2) hx hb dX9_sayHouse_88 (by decide) ?_
  obtain ⟨⟨r17, t17_0⟩, hc17, hF⟩ := lm_bd hF
  have hF := lm_un2E hF
  refine lm_runA B hN (lm_hrV B hN hl.1 (lm_cutA B hN) (n := 1) (As := [.int (2 : Int32)]) (rest := [.ref (q0 0)]) (hX9_makeUpOf l G q0 hc17) gX9_sayHouse_X9_makeUpOf rfl (by decide +kernel) rfl (by decide) (by decide) (ci := 9) (q0 := 0) rfl rfl rfl (Nat.le_of_ble_eq_true rfl) dX9_sayHouse_89) (fun H locs hN => ?_)
  refine lv_i2l hx hb dX9_sayHouse_92 rfl ?_
  obtain ⟨t18_0, hc18, hF⟩ := lm_bd hF
  refine lm_runA B hN (lm_hrV B hN hl.1 (lm_cutA B hN) (n := 1) (As := [.long r17.toInt64]) (rest := []) (hX9_say l G q0 hc18) gX9_sayHouse_X9_say rfl (by decide +kernel) rfl (by decide) (by decide) (ci := 9) (q0 := 0) rfl rfl rfl (Nat.le_of_ble_eq_true rfl) dX9_sayHouse_93) (fun H locs hN => ?_)
  cases hF
  exact lm_vret B hN dX9_sayHouse_96
def jX9_siege_39 (x1_39 : Int32) (x2_39 : Int32) (s0_39 : lm_St) : Option (Int32 × lm_St) := (fX9_lacks s0_39).bind (fun v1 => lm_un2 v1 (fun r1 t1_0 => if r1 = 0 then ((fX9_siegeOf t1_0 x1_39 x2_39).bind (fun v3 => lm_un2 v3 (fun r3 t3_0 => some (r3, t3_0)))) else (some ((-103 : Int32), t1_0))))
def fX9_siege (s0 : lm_St) (x1 : Int32) (x2 : Int32) : Option (Int32 × lm_St) := (fX9_in x1.toInt64 (1 : Int64) (4 : Int64)).bind (fun r4 => if r4 = 0 then (some ((-102 : Int32), s0)) else ((fX9_in x2.toInt64 (0 : Int64) (1 : Int64)).bind (fun r6 => if r6 = 0 then ((fX9_in x2.toInt64 (10 : Int64) (13 : Int64)).bind (fun r8 => if r8 = 0 then (some ((-102 : Int32), s0)) else (jX9_siege_39 x1 x2 s0))) else (jX9_siege_39 x1 x2 s0))))
set_option maxHeartbeats 4000000 in
set_option maxRecDepth 100000 in
theorem hX9_siege (l : Launch) (G : lm_G) (q0 : Nat → Nat) {s0 : lm_St} {x1 : Int32} {x2 : Int32} {R : Int32 × lm_St} (hF : fX9_siege s0 x1 x2 = some R) : lm_C l G yX9_siege wsX9_siege 7 [.ref (q0 0), .int x1, .int x2] (wX9 G q0 s0) (some (.int R.1)) (wX9 G q0 R.2) := by
  refine lm_C.of (cc := cX9_siege) (maxL := 3) (ret := (some .int)) (by decide) rfl (Nat.le_of_ble_eq_true rfl) ?_
  intro p e s m below meth c A ls B hN hl
  have hx := B.1.1
  have hb := B.1.2.1
  have hown := B.1.2.2.2.1
  have hts := B.1.2.2.2.2
  have hl : lv_has ls 3 [(0, .ref (q0 0)), (1, .int x1), (2, .int x2)] := hl
  have J39 : ∀ (x1_39 : Int32) (x2_39 : Int32) (s0_39 : lm_St) (H : Heap) (locs : List Loc) (ls : Array Slot), jX9_siege_39 x1_39 x2_39 s0_39 = some R → lm_N G A s (wX9 G q0 s0_39) H locs → lv_has ls 3 [(0, .ref (q0 0)), (1, .int x1_39), (2, .int x2_39)] → W p l e (lm_rk 7) s m ([.ref (q0 0), .int x1, .int x2] : List Value).toArray below meth c H locs 0 0 (MQ below (lm_post G (wX9 G q0 R.2) (some (.int R.1)) A) ([.ref (q0 0), .int x1, .int x2] : List Value).toArray s 0 0 A) (F0 m 39 ls []) := by
    intro x1_39 x2_39 s0_39 H locs ls hF hN hl
    refine lv_aload_n hx hb dX9_siege_39 rfl (lv_at hl 0 rfl) ?_
    obtain ⟨⟨r1, t1_0⟩, hc1, hF⟩ := lm_bd hF
    have hF := lm_un2E hF
    refine lm_runA B hN (lm_hrV B hN hl.1 (lm_cutA B hN) (n := 0) (As := []) (rest := []) (hX9_lacks l G q0 hc1) gX9_siege_X9_lacks rfl (by decide +kernel) rfl (by decide) (by decide) (ci := 9) (q0 := 0) rfl rfl rfl (Nat.le_of_ble_eq_true rfl) dX9_siege_40) (fun H locs hN => ?_)
    refine lv_if_eq (tgt := 51) hx hb dX9_siege_43 (by decide) (fun c2 => ?_) (fun c2 => ?_)
    · have hF := lm_itp c2 hF
      refine lv_aload_n hx hb dX9_siege_51 rfl (lv_at hl 0 rfl) ?_
      refine lv_iload_n hx hb dX9_siege_52 rfl (lv_at hl 1 rfl) ?_
      refine lv_iload_n hx hb dX9_siege_53 rfl (lv_at hl 2 rfl) ?_
      obtain ⟨⟨r3, t3_0⟩, hc3, hF⟩ := lm_bd hF
      have hF := lm_un2E hF
      refine lm_runA B hN (lm_hrV B hN hl.1 (lm_cutA B hN) (n := 2) (As := [.int x1_39, .int x2_39]) (rest := []) (hX9_siegeOf l G q0 hc3) gX9_siege_X9_siegeOf rfl (by decide +kernel) rfl (by decide) (by decide) (ci := 9) (q0 := 0) rfl rfl rfl (Nat.le_of_ble_eq_true rfl) dX9_siege_54) (fun H locs hN => ?_)
      cases hF
      exact lm_iret B hN dX9_siege_57
    · have hF := lm_itn c2 hF
      refine lv_bipush (v := -103) hx hb dX9_siege_46 (by decide) ?_
      refine lv_goto (tgt := 57) hx hb dX9_siege_48 (by decide) ?_
      cases hF
      exact lm_iret B hN dX9_siege_57
  refine lv_iload_n hx hb dX9_siege_0 rfl (lv_at hl 1 rfl) ?_
  refine lv_i2l hx hb dX9_siege_1 rfl ?_
  refine lv_lconst (v := 1) hx hb dX9_siege_2 (by decide) ?_
  refine lv_ldc2 (v := 4) hx hb hown (hts (.constantLong RX9 149 (4)) (by decide +kernel)) dX9_siege_3 ?_
  obtain ⟨r4, hc4, hF⟩ := lm_bd hF
  refine lm_run0 B hN (lm_hrT B hN hl.1 (lm_cut0 B hN) (n := 3) (As := [.long x1.toInt64, .long (1 : Int64), .long (4 : Int64)]) (rest := []) (hX9_in l G hc4) gX9_siege_X9_in rfl (by decide +kernel) rfl (by decide) (by decide) rfl (Nat.le_of_ble_eq_true rfl) dX9_siege_6) (fun H locs hN => ?_)
  refine lv_if_eq (tgt := 36) hx hb dX9_siege_9 (by decide) (fun c5 => ?_) (fun c5 => ?_)
  · have hF := lm_itp c5 hF
    refine lv_bipush (v := -102) hx hb dX9_siege_36 (by decide) ?_
    cases hF
    exact lm_iret B hN dX9_siege_38
  · have hF := lm_itn c5 hF
    refine lv_iload_n hx hb dX9_siege_12 rfl (lv_at hl 2 rfl) ?_
    refine lv_i2l hx hb dX9_siege_13 rfl ?_
    refine lv_lconst (v := 0) hx hb dX9_siege_14 (by decide) ?_
    refine lv_lconst (v := 1) hx hb dX9_siege_15 (by decide) ?_
    obtain ⟨r6, hc6, hF⟩ := lm_bd hF
    refine lm_run0 B hN (lm_hrT B hN hl.1 (lm_cut0 B hN) (n := 3) (As := [.long x2.toInt64, .long (0 : Int64), .long (1 : Int64)]) (rest := []) (hX9_in l G hc6) gX9_siege_X9_in rfl (by decide +kernel) rfl (by decide) (by decide) rfl (Nat.le_of_ble_eq_true rfl) dX9_siege_16) (fun H locs hN => ?_)
    refine lv_if_ne (tgt := 39) hx hb dX9_siege_19 (by decide) (fun c7 => ?_) (fun c7 => ?_)
    · have hF := lm_itn c7 hF
      exact J39 _ _ _ _ _ _ hF hN (lv_sub hl [0, 1, 2] rfl)
    · have hF := lm_itp c7 hF
      refine lv_iload_n hx hb dX9_siege_22 rfl (lv_at hl 2 rfl) ?_
      refine lv_i2l hx hb dX9_siege_23 rfl ?_
      refine lv_ldc2 (v := 10) hx hb hown (hts (.constantLong RX9 188 (10)) (by decide +kernel)) dX9_siege_24 ?_
      refine lv_ldc2 (v := 13) hx hb hown (hts (.constantLong RX9 190 (13)) (by decide +kernel)) dX9_siege_27 ?_
      obtain ⟨r8, hc8, hF⟩ := lm_bd hF
      refine lm_run0 B hN (lm_hrT B hN hl.1 (lm_cut0 B hN) (n := 3) (As := [.long x2.toInt64, .long (10 : Int64), .long (13 : Int64)]) (rest := []) (hX9_in l G hc8) gX9_siege_X9_in rfl (by decide +kernel) rfl (by decide) (by decide) rfl (Nat.le_of_ble_eq_true rfl) dX9_siege_30) (fun H locs hN => ?_)
      refine lv_if_ne (tgt := 39) hx hb dX9_siege_33 (by decide) (fun c9 => ?_) (fun c9 => ?_)
      · have hF := lm_itn c9 hF
        exact J39 _ _ _ _ _ _ hF hN (lv_sub hl [0, 1, 2] rfl)
      · have hF := lm_itp c9 hF
        refine lv_bipush (v := -102) hx hb dX9_siege_36 (by decide) ?_
        cases hF
        exact lm_iret B hN dX9_siege_38
def bX9_digest_88 (k88 : Int32 × lm_St → Option (Int64 × lm_St)) (x1_88 : Int32) (s0_88 : lm_St) : Option (Int64 × lm_St) := if (12 : Int32) ≤ x1_88 then (some (s0_88.2.2, s0_88)) else ((fX9_countOf s0_88 x1_88).bind (fun v2 => lm_un2 v2 (fun r2 t2_0 => (fX9_say t2_0 r2.toInt64).bind (fun t3_0 => k88 ((x1_88 + 1), t3_0)))))
def bX9_digest_61 (k61 : Int32 × lm_St → Option (Int64 × lm_St)) (x1_61 : Int32) (s0_61 : lm_St) : Option (Int64 × lm_St) := if (s0_61.1 0) ≤ x1_61 then (lm_lp (fun k a => bX9_digest_88 k a.1 a.2) 5000 ((0 : Int32), s0_61)) else (lm_gI x1_61 32 ((fX9_say s0_61 (((s0_61.2.1 0) x1_61.toNatClampNeg).toInt64)).bind (fun t6_0 => k61 ((x1_61 + 1), t6_0))))
def jX9_digest_59 (s0_59 : lm_St) : Option (Int64 × lm_St) := lm_lp (fun k a => bX9_digest_61 k a.1 a.2) 5000 ((0 : Int32), s0_59)
def bX9_digest_19 (k9 : Int32 × lm_St → Option (Int64 × lm_St)) (k19 : Int32 × Int32 × lm_St → Option (Int64 × lm_St)) (x1_19 : Int32) (x2_19 : Int32) (s0_19 : lm_St) : Option (Int64 × lm_St) := if (8 : Int32) ≤ x2_19 then (k9 ((x1_19 + 1), s0_19)) else ((fX9_tellThing s0_19 x1_19 x2_19).bind (fun v8 => lm_un2 v8 (fun r8 t8_0 => (fX9_say t8_0 r8.toInt64).bind (fun t9_0 => k19 (x1_19, (x2_19 + 1), t9_0)))))
def bX9_digest_9 (k9 : Int32 × lm_St → Option (Int64 × lm_St)) (x1_9 : Int32) (s0_9 : lm_St) : Option (Int64 × lm_St) := if (s0_9.1 2) ≤ x1_9 then ((fX9_lacks s0_9).bind (fun v11 => lm_un2 v11 (fun r11 t11_0 => if r11 = 0 then ((fX9_sayHouse t11_0).bind (fun t13_0 => jX9_digest_59 t13_0)) else (jX9_digest_59 t11_0)))) else (lm_lp (fun k a => bX9_digest_19 k9 k a.1 a.2.1 a.2.2) 5000 (x1_9, (0 : Int32), s0_9))
def fX9_digest (s0 : lm_St) : Option (Int64 × lm_St) := lm_lp (fun k a => bX9_digest_9 k a.1 a.2) 5000 ((0 : Int32), (lm_sL s0 (1259 : Int64)))
set_option maxHeartbeats 4000000 in
set_option maxRecDepth 100000 in
theorem hX9_digest (l : Launch) (G : lm_G) (q0 : Nat → Nat) {s0 : lm_St} {R : Int64 × lm_St} (hF : fX9_digest s0 = some R) : lm_C l G yX9_digest wsX9_digest 8 [.ref (q0 0)] (wX9 G q0 s0) (some (.long R.1)) (wX9 G q0 R.2) := by
  refine lm_C.of (cc := cX9_digest) (maxL := 3) (ret := (some .long)) (by decide) rfl (Nat.le_of_ble_eq_true rfl) ?_
  intro p e s m below meth c A ls B hN hl
  have hx := B.1.1
  have hb := B.1.2.1
  have hown := B.1.2.2.2.1
  have hts := B.1.2.2.2.2
  have hiX9 : ∀ w ∈ wsX90, w ∈ wsX9_digest := by decide +kernel
  have hl : lv_has ls 3 [(0, .ref (q0 0))] := hl
  have L9 : ∀ (n : Nat) (x1_9 : Int32) (s0_9 : lm_St) (H : Heap) (locs : List Loc) (ls : Array Slot), lm_lp (fun k a => bX9_digest_9 k a.1 a.2) n (x1_9, s0_9) = some R → lm_N G A s (wX9 G q0 s0_9) H locs → lv_has ls 3 [(0, .ref (q0 0)), (1, .int x1_9)] → W p l e (lm_rk 8) s m ([.ref (q0 0)] : List Value).toArray below meth c H locs 0 0 (MQ below (lm_post G (wX9 G q0 R.2) (some (.long R.1)) A) ([.ref (q0 0)] : List Value).toArray s 0 0 A) (F0 m 9 ls []) := by
    intro n
    induction n with
    | zero => intro x1_9 s0_9 H locs ls hF; exact (lm_lpz hF).elim
    | succ n ih9 =>
      intro x1_9 s0_9 H locs ls hF hN hl
      have hF : bX9_digest_9 (lm_lp (fun k a => bX9_digest_9 k a.1 a.2) n) x1_9 s0_9 = some R := lm_lps hF
      generalize lm_lp (fun k a => bX9_digest_9 k a.1 a.2) n = k9 at hF ih9
      have J59 : ∀ (s0_59 : lm_St) (H : Heap) (locs : List Loc) (ls : Array Slot), jX9_digest_59 s0_59 = some R → lm_N G A s (wX9 G q0 s0_59) H locs → lv_has ls 3 [(0, .ref (q0 0))] → W p l e (lm_rk 8) s m ([.ref (q0 0)] : List Value).toArray below meth c H locs 0 0 (MQ below (lm_post G (wX9 G q0 R.2) (some (.long R.1)) A) ([.ref (q0 0)] : List Value).toArray s 0 0 A) (F0 m 59 ls []) := by
        intro s0_59 H locs ls hF hN hl
        have L61 : ∀ (n : Nat) (x1_61 : Int32) (s0_61 : lm_St) (H : Heap) (locs : List Loc) (ls : Array Slot), lm_lp (fun k a => bX9_digest_61 k a.1 a.2) n (x1_61, s0_61) = some R → lm_N G A s (wX9 G q0 s0_61) H locs → lv_has ls 3 [(0, .ref (q0 0)), (1, .int x1_61)] → W p l e (lm_rk 8) s m ([.ref (q0 0)] : List Value).toArray below meth c H locs 0 0 (MQ below (lm_post G (wX9 G q0 R.2) (some (.long R.1)) A) ([.ref (q0 0)] : List Value).toArray s 0 0 A) (F0 m 61 ls []) := by
          intro n
          induction n with
          | zero => intro x1_61 s0_61 H locs ls hF; exact (lm_lpz hF).elim
          | succ n ih61 =>
            intro x1_61 s0_61 H locs ls hF hN hl
            have hF : bX9_digest_61 (lm_lp (fun k a => bX9_digest_61 k a.1 a.2) n) x1_61 s0_61 = some R := lm_lps hF
            generalize lm_lp (fun k a => bX9_digest_61 k a.1 a.2) n = k61 at hF ih61
            have L88 : ∀ (n : Nat) (x1_88 : Int32) (s0_88 : lm_St) (H : Heap) (locs : List Loc) (ls : Array Slot), lm_lp (fun k a => bX9_digest_88 k a.1 a.2) n (x1_88, s0_88) = some R → lm_N G A s (wX9 G q0 s0_88) H locs → lv_has ls 3 [(0, .ref (q0 0)), (1, .int x1_88)] → W p l e (lm_rk 8) s m ([.ref (q0 0)] : List Value).toArray below meth c H locs 0 0 (MQ below (lm_post G (wX9 G q0 R.2) (some (.long R.1)) A) ([.ref (q0 0)] : List Value).toArray s 0 0 A) (F0 m 88 ls []) := by
              intro n
              induction n with
              | zero => intro x1_88 s0_88 H locs ls hF; exact (lm_lpz hF).elim
              | succ n ih88 =>
                intro x1_88 s0_88 H locs ls hF hN hl
                have hF : bX9_digest_88 (lm_lp (fun k a => bX9_digest_88 k a.1 a.2) n) x1_88 s0_88 = some R := lm_lps hF
                generalize lm_lp (fun k a => bX9_digest_88 k a.1 a.2) n = k88 at hF ih88
                refine lv_iload_n hx hb dX9_digest_88 rfl (lv_at hl 1 rfl) ?_
                refine lv_bipush (v := 12) hx hb dX9_digest_89 (by decide) ?_
                refine lv_icmp_ge (tgt := 110) hx hb dX9_digest_91 (by decide) (fun c1 => ?_) (fun c1 => ?_)
                · have hF := lm_itp c1 hF
                  refine lv_aload_n hx hb dX9_digest_110 rfl (lv_at hl 0 rfl) ?_
                  refine lm_get B hN (ci := 9) hiX9 0 rfl rfl 33 (by decide) (by decide +kernel) (v := .long s0_88.2.2) rfl dX9_digest_111 ?_
                  cases hF
                  exact lm_lret B hN dX9_digest_114
                · have hF := lm_itn c1 hF
                  refine lv_aload_n hx hb dX9_digest_94 rfl (lv_at hl 0 rfl) ?_
                  refine lv_aload_n hx hb dX9_digest_95 rfl (lv_at hl 0 rfl) ?_
                  refine lv_iload_n hx hb dX9_digest_96 rfl (lv_at hl 1 rfl) ?_
                  obtain ⟨⟨r2, t2_0⟩, hc2, hF⟩ := lm_bd hF
                  have hF := lm_un2E hF
                  refine lm_runA B hN (lm_hrV B hN hl.1 (lm_cutA B hN) (n := 1) (As := [.int x1_88]) (rest := [.ref (q0 0)]) (hX9_countOf l G q0 hc2) gX9_digest_X9_countOf rfl (by decide +kernel) rfl (by decide) (by decide) (ci := 9) (q0 := 0) rfl rfl rfl (Nat.le_of_ble_eq_true rfl) dX9_digest_97) (fun H locs hN => ?_)
                  refine lv_i2l hx hb dX9_digest_100 rfl ?_
                  obtain ⟨t3_0, hc3, hF⟩ := lm_bd hF
                  refine lm_runA B hN (lm_hrV B hN hl.1 (lm_cutA B hN) (n := 1) (As := [.long r2.toInt64]) (rest := []) (hX9_say l G q0 hc3) gX9_digest_X9_say rfl (by decide +kernel) rfl (by decide) (by decide) (ci := 9) (q0 := 0) rfl rfl rfl (Nat.le_of_ble_eq_true rfl) dX9_digest_101) (fun H locs hN => ?_)
                  refine lv_iinc (v := (x1_88 + 1)) (lv' := [(1, .int (x1_88 + 1)), (0, .ref (q0 0))]) hx hb dX9_digest_104 hl (k := 1) rfl rfl (by decide) rfl (fun ls hl => ?_)
                  refine lv_goto (tgt := 88) hx hb dX9_digest_107 (by decide) ?_
                  exact ih88 _ _ _ _ _ hF hN (lv_sub hl [1, 0] rfl)
            refine lv_iload_n hx hb dX9_digest_61 rfl (lv_at hl 1 rfl) ?_
            refine lv_aload_n hx hb dX9_digest_62 rfl (lv_at hl 0 rfl) ?_
            refine lm_get B hN (ci := 9) hiX9 0 rfl rfl 1 (by decide) (by decide +kernel) (v := .int (s0_61.1 0)) rfl dX9_digest_63 ?_
            refine lv_icmp_ge (tgt := 86) hx hb dX9_digest_66 (by decide) (fun c4 => ?_) (fun c4 => ?_)
            · have hF := lm_itp c4 hF
              refine lv_iconst (v := 0) hx hb dX9_digest_86 (by decide) ?_
              refine lv_istore_n (lv' := [(1, .int (0 : Int32)), (0, .ref (q0 0))]) hx hb dX9_digest_87 rfl hl (by decide) rfl (fun ls hl => ?_)
              exact L88 5000 _ _ _ _ _ hF hN (lv_sub hl [1, 0] rfl)
            · have hF := lm_itn c4 hF
              refine lv_aload_n hx hb dX9_digest_69 rfl (lv_at hl 0 rfl) ?_
              refine lv_aload_n hx hb dX9_digest_70 rfl (lv_at hl 0 rfl) ?_
              refine lm_get B hN (ci := 9) hiX9 0 rfl rfl 0 (by decide) (by decide +kernel) (v := .ref (q0 1)) rfl dX9_digest_71 ?_
              refine lv_iload_n hx hb dX9_digest_74 rfl (lv_at hl 1 rfl) ?_
              obtain ⟨z5, hF⟩ := lm_gIe hF
              refine lm_ald B hN 1 (f := (s0_61.2.1 0)) rfl z5 dX9_digest_75 ?_
              refine lv_i2l hx hb dX9_digest_76 rfl ?_
              obtain ⟨t6_0, hc6, hF⟩ := lm_bd hF
              refine lm_runA B hN (lm_hrV B hN hl.1 (lm_cutA B hN) (n := 1) (As := [.long (((s0_61.2.1 0) x1_61.toNatClampNeg).toInt64)]) (rest := []) (hX9_say l G q0 hc6) gX9_digest_X9_say rfl (by decide +kernel) rfl (by decide) (by decide) (ci := 9) (q0 := 0) rfl rfl rfl (Nat.le_of_ble_eq_true rfl) dX9_digest_77) (fun H locs hN => ?_)
              refine lv_iinc (v := (x1_61 + 1)) (lv' := [(1, .int (x1_61 + 1)), (0, .ref (q0 0))]) hx hb dX9_digest_80 hl (k := 1) rfl rfl (by decide) rfl (fun ls hl => ?_)
              refine lv_goto (tgt := 61) hx hb dX9_digest_83 (by decide) ?_
              exact ih61 _ _ _ _ _ hF hN (lv_sub hl [1, 0] rfl)
        refine lv_iconst (v := 0) hx hb dX9_digest_59 (by decide) ?_
        refine lv_istore_n (lv' := [(1, .int (0 : Int32)), (0, .ref (q0 0))]) hx hb dX9_digest_60 rfl hl (by decide) rfl (fun ls hl => ?_)
        exact L61 5000 _ _ _ _ _ hF hN (lv_sub hl [1, 0] rfl)
      have L19 : ∀ (n : Nat) (x1_19 : Int32) (x2_19 : Int32) (s0_19 : lm_St) (H : Heap) (locs : List Loc) (ls : Array Slot), lm_lp (fun k a => bX9_digest_19 k9 k a.1 a.2.1 a.2.2) n (x1_19, x2_19, s0_19) = some R → lm_N G A s (wX9 G q0 s0_19) H locs → lv_has ls 3 [(0, .ref (q0 0)), (1, .int x1_19), (2, .int x2_19)] → W p l e (lm_rk 8) s m ([.ref (q0 0)] : List Value).toArray below meth c H locs 0 0 (MQ below (lm_post G (wX9 G q0 R.2) (some (.long R.1)) A) ([.ref (q0 0)] : List Value).toArray s 0 0 A) (F0 m 19 ls []) := by
        intro n
        induction n with
        | zero => intro x1_19 x2_19 s0_19 H locs ls hF; exact (lm_lpz hF).elim
        | succ n ih19 =>
          intro x1_19 x2_19 s0_19 H locs ls hF hN hl
          have hF : bX9_digest_19 k9 (lm_lp (fun k a => bX9_digest_19 k9 k a.1 a.2.1 a.2.2) n) x1_19 x2_19 s0_19 = some R := lm_lps hF
          generalize lm_lp (fun k a => bX9_digest_19 k9 k a.1 a.2.1 a.2.2) n = k19 at hF ih19
          refine lv_iload_n hx hb dX9_digest_19 rfl (lv_at hl 2 rfl) ?_
          refine lv_bipush (v := 8) hx hb dX9_digest_20 (by decide) ?_
          refine lv_icmp_ge (tgt := 42) hx hb dX9_digest_22 (by decide) (fun c7 => ?_) (fun c7 => ?_)
          · have hF := lm_itp c7 hF
            refine lv_iinc (v := (x1_19 + 1)) (lv' := [(1, .int (x1_19 + 1)), (0, .ref (q0 0)), (2, .int x2_19)]) hx hb dX9_digest_42 hl (k := 1) rfl rfl (by decide) rfl (fun ls hl => ?_)
            refine lv_goto (tgt := 9) hx hb dX9_digest_45 (by decide) ?_
            exact ih9 _ _ _ _ _ hF hN (lv_sub hl [1, 0] rfl)
          · have hF := lm_itn c7 hF
            refine lv_aload_n hx hb dX9_digest_25 rfl (lv_at hl 0 rfl) ?_
            refine lv_aload_n hx hb dX9_digest_26 rfl (lv_at hl 0 rfl) ?_
            refine lv_iload_n hx hb dX9_digest_27 rfl (lv_at hl 1 rfl) ?_
            refine lv_iload_n hx hb dX9_digest_28 rfl (lv_at hl 2 rfl) ?_
            obtain ⟨⟨r8, t8_0⟩, hc8, hF⟩ := lm_bd hF
            have hF := lm_un2E hF
            refine lm_runA B hN (lm_hrV B hN hl.1 (lm_cutA B hN) (n := 2) (As := [.int x1_19, .int x2_19]) (rest := [.ref (q0 0)]) (hX9_tellThing l G q0 hc8) gX9_digest_X9_tellThing rfl (by decide +kernel) rfl (by decide) (by decide) (ci := 9) (q0 := 0) rfl rfl rfl (Nat.le_of_ble_eq_true rfl) dX9_digest_29) (fun H locs hN => ?_)
            refine lv_i2l hx hb dX9_digest_32 rfl ?_
            obtain ⟨t9_0, hc9, hF⟩ := lm_bd hF
            refine lm_runA B hN (lm_hrV B hN hl.1 (lm_cutA B hN) (n := 1) (As := [.long r8.toInt64]) (rest := []) (hX9_say l G q0 hc9) gX9_digest_X9_say rfl (by decide +kernel) rfl (by decide) (by decide) (ci := 9) (q0 := 0) rfl rfl rfl (Nat.le_of_ble_eq_true rfl) dX9_digest_33) (fun H locs hN => ?_)
            refine lv_iinc (v := (x2_19 + 1)) (lv' := [(2, .int (x2_19 + 1)), (0, .ref (q0 0)), (1, .int x1_19)]) hx hb dX9_digest_36 hl (k := 2) rfl rfl (by decide) rfl (fun ls hl => ?_)
            refine lv_goto (tgt := 19) hx hb dX9_digest_39 (by decide) ?_
            exact ih19 _ _ _ _ _ _ hF hN (lv_sub hl [1, 2, 0] rfl)
      refine lv_iload_n hx hb dX9_digest_9 rfl (lv_at hl 1 rfl) ?_
      refine lv_aload_n hx hb dX9_digest_10 rfl (lv_at hl 0 rfl) ?_
      refine lm_get B hN (ci := 9) hiX9 0 rfl rfl 3 (by decide) (by decide +kernel) (v := .int (s0_9.1 2)) rfl dX9_digest_11 ?_
      refine lv_icmp_ge (tgt := 48) hx hb dX9_digest_14 (by decide) (fun c10 => ?_) (fun c10 => ?_)
      · have hF := lm_itp c10 hF
        refine lv_aload_n hx hb dX9_digest_48 rfl (lv_at hl 0 rfl) ?_
        obtain ⟨⟨r11, t11_0⟩, hc11, hF⟩ := lm_bd hF
        have hF := lm_un2E hF
        refine lm_runA B hN (lm_hrV B hN hl.1 (lm_cutA B hN) (n := 0) (As := []) (rest := []) (hX9_lacks l G q0 hc11) gX9_digest_X9_lacks rfl (by decide +kernel) rfl (by decide) (by decide) (ci := 9) (q0 := 0) rfl rfl rfl (Nat.le_of_ble_eq_true rfl) dX9_digest_49) (fun H locs hN => ?_)
        refine lv_if_ne (tgt := 59) hx hb dX9_digest_52 (by decide) (fun c12 => ?_) (fun c12 => ?_)
        · have hF := lm_itn c12 hF
          exact J59 _ _ _ _ hF hN (lv_sub hl [0] rfl)
        · have hF := lm_itp c12 hF
          refine lv_aload_n hx hb dX9_digest_55 rfl (lv_at hl 0 rfl) ?_
          obtain ⟨t13_0, hc13, hF⟩ := lm_bd hF
          refine lm_runA B hN (lm_hrV B hN hl.1 (lm_cutA B hN) (n := 0) (As := []) (rest := []) (hX9_sayHouse l G q0 hc13) gX9_digest_X9_sayHouse rfl (by decide +kernel) rfl (by decide) (by decide) (ci := 9) (q0 := 0) rfl rfl rfl (Nat.le_of_ble_eq_true rfl) dX9_digest_56) (fun H locs hN => ?_)
          exact J59 _ _ _ _ hF hN (lv_sub hl [0] rfl)
      · have hF := lm_itn c10 hF
        refine lv_iconst (v := 0) hx hb dX9_digest_17 (by decide) ?_
        refine lv_istore_n (lv' := [(2, .int (0 : Int32)), (0, .ref (q0 0)), (1, .int x1_9)]) hx hb dX9_digest_18 rfl hl (by decide) rfl (fun ls hl => ?_)
        exact L19 5000 _ _ _ _ _ _ hF hN (lv_sub hl [1, 2, 0] rfl)
  refine lv_aload_n hx hb dX9_digest_0 rfl (lv_at hl 0 rfl) ?_
  refine lv_ldc2 (v := 1259) hx hb hown (hts (.constantLong RX9 269 (1259)) (by decide +kernel)) dX9_digest_1 ?_
  refine lm_put B hN (ci := 9) hiX9 tyX9 tyX9_ok nmX9 0 rfl rfl 33 (by decide) (by decide +kernel) (by decide) (v := .long (1259 : Int64)) rfl rfl (Nat.le_of_ble_eq_true rfl) (wX9 G q0 (lm_sL s0 (1259 : Int64))) (wX9_r0l _ _ _ _) dX9_digest_4 (fun H locs hN => ?_)
  refine lv_iconst (v := 0) hx hb dX9_digest_7 (by decide) ?_
  refine lv_istore_n (lv' := [(1, .int (0 : Int32)), (0, .ref (q0 0))]) hx hb dX9_digest_8 rfl hl (by decide) rfl (fun ls hl => ?_)
  exact L9 5000 _ _ _ _ _ hF hN (lv_sub hl [1, 0] rfl)
