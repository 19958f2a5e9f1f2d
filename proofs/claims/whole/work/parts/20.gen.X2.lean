def jX2_waysFrom_124 (rec : lm_St → lm_St → Int32 → Option (Int32 × lm_St × lm_St)) (k33 : Int32 × Int32 × Int32 × lm_St × lm_St → Option (Int32 × lm_St × lm_St)) (x1_124 : Int32) (x2_124 : Int32) (x3_124 : Int32) (s0_124 : lm_St) (s1_124 : lm_St) : Option (Int32 × lm_St × lm_St) := k33 (x1_124, x2_124, (x3_124 + 1), s0_124, s1_124)
def bX2_waysFrom_33 (rec : lm_St → lm_St → Int32 → Option (Int32 × lm_St × lm_St)) (k33 : Int32 × Int32 × Int32 × lm_St × lm_St → Option (Int32 × lm_St × lm_St)) (x1_33 : Int32) (x2_33 : Int32) (x3_33 : Int32) (s0_33 : lm_St) (s1_33 : lm_St) : Option (Int32 × lm_St × lm_St) := if (s1_33.1 0) ≤ x3_33 then (some (x2_33, s0_33, s1_33)) else ((fX8_isIn (s1_33.1 1) x3_33).bind (fun r2 => if r2 = 0 then (lm_gI x3_33 7 (lm_gI x3_33 7 ((fX3_lookAt s1_33 x3_33 x1_33).bind (fun t6_0 => (rec s0_33 t6_0 (x1_33 + (1 : Int32))).bind (fun v7 => lm_un3 v7 (fun r7 t7_0 t7_1 => lm_gI x3_33 7 (lm_gI x3_33 7 (jX2_waysFrom_124 rec k33 x1_33 (x2_33 + r7) x3_33 t7_0 (lm_sA (lm_sA t7_1 2 (upd (t7_1.2.1 2) x3_33.toNatClampNeg ((s1_33.2.1 2) x3_33.toNatClampNeg))) 3 (upd (t7_1.2.1 3) x3_33.toNatClampNeg ((s1_33.2.1 3) x3_33.toNatClampNeg))))))))))) else (jX2_waysFrom_124 rec k33 x1_33 x2_33 x3_33 s0_33 s1_33)))
def tX2_waysFrom (rec : lm_St → lm_St → Int32 → Option (Int32 × lm_St × lm_St)) (s0 : lm_St) (s1 : lm_St) (x1 : Int32) : Option (Int32 × lm_St × lm_St) := if x1 < (s0.1 0) then (lm_lp (fun k a => bX2_waysFrom_33 rec k a.1 a.2.1 a.2.2.1 a.2.2.2.1 a.2.2.2.2) 5000 (x1, (0 : Int32), (0 : Int32), s0, s1)) else ((fX3_wouldTake s1 x1).bind (fun v11 => lm_un2 v11 (fun r11 t11_0 => if r11 = (s0.1 1) then (some ((1 : Int32), s0, t11_0)) else (some ((0 : Int32), s0, t11_0)))))
set_option maxHeartbeats 4000000 in
set_option maxRecDepth 100000 in
theorem uX2_waysFrom (l : Launch) (G : lm_G) (q0 : Nat → Nat) (q1 : Nat → Nat) {rec : lm_St → lm_St → Int32 → Option (Int32 × lm_St × lm_St)} {K0 : Nat} (hrec : ∀ (s0 s1 : lm_St) (x1 : Int32) (R : Int32 × lm_St × lm_St), rec s0 s1 x1 = some R → lm_C l G yX2_waysFrom wsX2_waysFrom K0 [.ref (q0 0), .int x1] (wX2_X3 G q0 q1 s0 s1) (some (.int R.1)) (wX2_X3 G q0 q1 R.2.1 R.2.2)) (hK0 : 20 ≤ K0) {s0 : lm_St} {s1 : lm_St} {x1 : Int32} {R : Int32 × lm_St × lm_St} (hF : tX2_waysFrom rec s0 s1 x1 = some R) : lm_C l G yX2_waysFrom wsX2_waysFrom (K0 + 3) [.ref (q0 0), .int x1] (wX2_X3 G q0 q1 s0 s1) (some (.int R.1)) (wX2_X3 G q0 q1 R.2.1 R.2.2) := by
  refine lm_C.of (cc := cX2_waysFrom) (maxL := 6) (ret := (some .int)) (by decide) rfl (Nat.le_of_ble_eq_true rfl) ?_
  intro p e s m below meth c A ls B hN hl
  have hx := B.1.1
  have hb := B.1.2.1
  have hown := B.1.2.2.2.1
  have hts := B.1.2.2.2.2
  have hiX2 : ∀ w ∈ wsX20, w ∈ wsX2_waysFrom := by decide +kernel
  have hiX3 : ∀ w ∈ wsX30, w ∈ wsX2_waysFrom := by decide +kernel
  have hl : lv_has ls 6 [(0, .ref (q0 0)), (1, .int x1)] := hl
  have L33 : ∀ (n : Nat) (x1_33 : Int32) (x2_33 : Int32) (x3_33 : Int32) (s0_33 : lm_St) (s1_33 : lm_St) (H : Heap) (locs : List Loc) (ls : Array Slot), lm_lp (fun k a => bX2_waysFrom_33 rec k a.1 a.2.1 a.2.2.1 a.2.2.2.1 a.2.2.2.2) n (x1_33, x2_33, x3_33, s0_33, s1_33) = some R → lm_N G A s (wX2_X3 G q0 q1 s0_33 s1_33) H locs → lv_has ls 6 [(0, .ref (q0 0)), (1, .int x1_33), (2, .int x2_33), (3, .int x3_33)] → W p l e (lm_rk (K0 + 3)) s m ([.ref (q0 0), .int x1] : List Value).toArray below meth c H locs 0 0 (MQ below (lm_post G (wX2_X3 G q0 q1 R.2.1 R.2.2) (some (.int R.1)) A) ([.ref (q0 0), .int x1] : List Value).toArray s 0 0 A) (F0 m 33 ls []) := by
    intro n
    induction n with
    | zero => intro x1_33 x2_33 x3_33 s0_33 s1_33 H locs ls hF; exact (lm_lpz hF).elim
    | succ n ih33 =>
      intro x1_33 x2_33 x3_33 s0_33 s1_33 H locs ls hF hN hl
      have hF : bX2_waysFrom_33 rec (lm_lp (fun k a => bX2_waysFrom_33 rec k a.1 a.2.1 a.2.2.1 a.2.2.2.1 a.2.2.2.2) n) x1_33 x2_33 x3_33 s0_33 s1_33 = some R := lm_lps hF
      generalize lm_lp (fun k a => bX2_waysFrom_33 rec k a.1 a.2.1 a.2.2.1 a.2.2.2.1 a.2.2.2.2) n = k33 at hF ih33
      have J124 : ∀ (x1_124 : Int32) (x2_124 : Int32) (x3_124 : Int32) (s0_124 : lm_St) (s1_124 : lm_St) (H : Heap) (locs : List Loc) (ls : Array Slot), jX2_waysFrom_124 rec k33 x1_124 x2_124 x3_124 s0_124 s1_124 = some R → lm_N G A s (wX2_X3 G q0 q1 s0_124 s1_124) H locs → lv_has ls 6 [(0, .ref (q0 0)), (1, .int x1_124), (2, .int x2_124), (3, .int x3_124)] → W p l e (lm_rk (K0 + 3)) s m ([.ref (q0 0), .int x1] : List Value).toArray below meth c H locs 0 0 (MQ below (lm_post G (wX2_X3 G q0 q1 R.2.1 R.2.2) (some (.int R.1)) A) ([.ref (q0 0), .int x1] : List Value).toArray s 0 0 A) (F0 m 124 ls []) := by
        intro x1_124 x2_124 x3_124 s0_124 s1_124 H locs ls hF hN hl
        refine lv_iinc (v := (x3_124 + 1)) (lv' := [(3, .int (x3_124 + 1)), (0, .ref (q0 0)), (1, .int x1_124), (2, .int x2_124)]) hx hb dX2_waysFrom_124 hl (k := 3) rfl rfl (by decide) rfl (fun ls hl => ?_)
        refine lv_goto (tgt := 33) hx hb dX2_waysFrom_127 (by decide) ?_
        exact ih33 _ _ _ _ _ _ _ _ hF hN (lv_sub hl [1, 2, 3, 0] rfl)
      refine lv_iload_n hx hb dX2_waysFrom_33 rfl (lv_at hl 3 rfl) ?_
      refine lv_aload_n hx hb dX2_waysFrom_34 rfl (lv_at hl 0 rfl) ?_
      refine lm_get B hN (ci := 2) hiX2 0 rfl rfl 0 (by decide) (by decide +kernel) (v := .ref (q1 0)) rfl dX2_waysFrom_35 ?_
      refine lm_get B hN (ci := 3) hiX3 1 rfl rfl 4 (by decide) (by decide +kernel) (v := .int (s1_33.1 0)) rfl dX2_waysFrom_38 ?_
      refine lv_icmp_ge (tgt := 130) hx hb dX2_waysFrom_41 (by decide) (fun c1 => ?_) (fun c1 => ?_)
      · have hF := lm_itp c1 hF
        refine lv_iload_n hx hb dX2_waysFrom_130 rfl (lv_at hl 2 rfl) ?_
        cases hF
        exact lm_iret B hN dX2_waysFrom_131
      · have hF := lm_itn c1 hF
        refine lv_aload_n hx hb dX2_waysFrom_44 rfl (lv_at hl 0 rfl) ?_
        refine lm_get B hN (ci := 2) hiX2 0 rfl rfl 0 (by decide) (by decide +kernel) (v := .ref (q1 0)) rfl dX2_waysFrom_45 ?_
        refine lm_get B hN (ci := 3) hiX3 1 rfl rfl 5 (by decide) (by decide +kernel) (v := .int (s1_33.1 1)) rfl dX2_waysFrom_48 ?_
        refine lv_iload_n hx hb dX2_waysFrom_51 rfl (lv_at hl 3 rfl) ?_
        obtain ⟨r2, hc2, hF⟩ := lm_bd hF
        refine lm_run0 B hN (lm_hrN B hN hl.1 (lm_cut0 B hN) (n := 2) (host := RX8) (As := [.int (s1_33.1 1), .int x3_33]) (rest := []) (hX8_isIn l G hc2) gX2_waysFrom_X8_isIn_n48 rfl (by decide +kernel) (by decide +kernel) (by decide +kernel) (by decide +kernel) rfl (by omega) (by decide) rfl (Nat.le_of_ble_eq_true rfl) dX2_waysFrom_52) (fun H locs hN => ?_)
        refine lv_if_eq (tgt := 61) hx hb dX2_waysFrom_55 (by decide) (fun c3 => ?_) (fun c3 => ?_)
        · have hF := lm_itp c3 hF
          refine lv_aload_n hx hb dX2_waysFrom_61 rfl (lv_at hl 0 rfl) ?_
          refine lm_get B hN (ci := 2) hiX2 0 rfl rfl 0 (by decide) (by decide +kernel) (v := .ref (q1 0)) rfl dX2_waysFrom_62 ?_
          refine lm_get B hN (ci := 3) hiX3 1 rfl rfl 2 (by decide) (by decide +kernel) (v := .ref (q1 3)) rfl dX2_waysFrom_65 ?_
          refine lv_iload_n hx hb dX2_waysFrom_68 rfl (lv_at hl 3 rfl) ?_
          obtain ⟨z4, hF⟩ := lm_gIe hF
          refine lm_ald B hN 4 (f := (s1_33.2.1 2)) rfl z4 dX2_waysFrom_69 ?_
          refine lv_istore (lv' := [(4, .int ((s1_33.2.1 2) x3_33.toNatClampNeg)), (0, .ref (q0 0)), (1, .int x1_33), (2, .int x2_33), (3, .int x3_33)]) hx hb dX2_waysFrom_70 hl (by decide) rfl (fun ls hl => ?_)
          refine lv_aload_n hx hb dX2_waysFrom_72 rfl (lv_at hl 1 rfl) ?_
          refine lm_get B hN (ci := 2) hiX2 0 rfl rfl 0 (by decide) (by decide +kernel) (v := .ref (q1 0)) rfl dX2_waysFrom_73 ?_
          refine lm_get B hN (ci := 3) hiX3 1 rfl rfl 3 (by decide) (by decide +kernel) (v := .ref (q1 4)) rfl dX2_waysFrom_76 ?_
          refine lv_iload_n hx hb dX2_waysFrom_79 rfl (lv_at hl 4 rfl) ?_
          obtain ⟨z5, hF⟩ := lm_gIe hF
          refine lm_ald B hN 5 (f := (s1_33.2.1 3)) rfl z5 dX2_waysFrom_80 ?_
          refine lv_istore (lv' := [(5, .int ((s1_33.2.1 3) x3_33.toNatClampNeg)), (4, .int ((s1_33.2.1 2) x3_33.toNatClampNeg)), (0, .ref (q0 0)), (1, .int x1_33), (2, .int x2_33), (3, .int x3_33)]) hx hb dX2_waysFrom_81 hl (by decide) rfl (fun ls hl => ?_)
          refine lv_aload_n hx hb dX2_waysFrom_83 rfl (lv_at hl 2 rfl) ?_
          refine lm_get B hN (ci := 2) hiX2 0 rfl rfl 0 (by decide) (by decide +kernel) (v := .ref (q1 0)) rfl dX2_waysFrom_84 ?_
          refine lv_iload_n hx hb dX2_waysFrom_87 rfl (lv_at hl 5 rfl) ?_
          refine lv_iload_n hx hb dX2_waysFrom_88 rfl (lv_at hl 3 rfl) ?_
          obtain ⟨t6_0, hc6, hF⟩ := lm_bd hF
          refine lm_run B hN (kp_wX2_X3_1 _ _ _ _ _) (lm_hrV B hN hl.1 (lm_cutP B hN (kp_wX2_X3_1 _ _ _ _ _)) (n := 2) (As := [.int x3_33, .int x1_33]) (rest := []) (hX3_lookAt l G q1 hc6) gX2_waysFrom_X3_lookAt rfl (by decide +kernel) rfl (by omega) (by decide) (ci := 3) (q0 := 0) rfl rfl rfl (Nat.le_of_ble_eq_true rfl) dX2_waysFrom_89) (wX2_X3 G q0 q1 s0_33 t6_0) (kq_wX2_X3_1 _ _ _ _ _) (fun H locs hN => ?_)
          refine lv_iload_n hx hb dX2_waysFrom_92 rfl (lv_at hl 4 rfl) ?_
          refine lv_aload_n hx hb dX2_waysFrom_93 rfl (lv_at hl 2 rfl) ?_
          refine lv_iload_n hx hb dX2_waysFrom_94 rfl (lv_at hl 3 rfl) ?_
          refine lv_iconst (v := 1) hx hb dX2_waysFrom_95 (by decide) ?_
          refine lv_iadd hx hb dX2_waysFrom_96 ?_
          obtain ⟨⟨r7, t7_0, t7_1⟩, hc7, hF⟩ := lm_bd hF
          have hF := lm_un3E hF
          refine lm_runA B hN (lm_hrV B hN hl.1 (lm_cutA B hN) (n := 1) (As := [.int (x1_33 + (1 : Int32))]) (rest := [.int x2_33]) (hrec _ _ _ _ hc7) gX2_waysFrom_X2_waysFrom rfl (by decide +kernel) rfl (by omega) (by decide) (ci := 2) (q0 := 0) rfl rfl rfl (Nat.le_of_ble_eq_true rfl) dX2_waysFrom_97) (fun H locs hN => ?_)
          refine lv_iadd hx hb dX2_waysFrom_100 ?_
          refine lv_istore_n (lv' := [(2, .int (x2_33 + r7)), (5, .int ((s1_33.2.1 3) x3_33.toNatClampNeg)), (4, .int ((s1_33.2.1 2) x3_33.toNatClampNeg)), (0, .ref (q0 0)), (1, .int x1_33), (3, .int x3_33)]) hx hb dX2_waysFrom_101 rfl hl (by decide) rfl (fun ls hl => ?_)
          refine lv_aload_n hx hb dX2_waysFrom_102 rfl (lv_at hl 3 rfl) ?_
          refine lm_get B hN (ci := 2) hiX2 0 rfl rfl 0 (by decide) (by decide +kernel) (v := .ref (q1 0)) rfl dX2_waysFrom_103 ?_
          refine lm_get B hN (ci := 3) hiX3 1 rfl rfl 2 (by decide) (by decide +kernel) (v := .ref (q1 3)) rfl dX2_waysFrom_106 ?_
          refine lv_iload_n hx hb dX2_waysFrom_109 rfl (lv_at hl 5 rfl) ?_
          refine lv_iload hx hb dX2_waysFrom_110 (lv_at hl 2 rfl) ?_
          obtain ⟨z8, hF⟩ := lm_gIe hF
          refine lm_ast B hN 4 (f := (t7_1.2.1 2)) rfl z8 (wX2_X3 G q0 q1 t7_0 (lm_sA t7_1 2 (upd (t7_1.2.1 2) x3_33.toNatClampNeg ((s1_33.2.1 2) x3_33.toNatClampNeg)))) (wX2_X3_r1a2 _ _ _ _ _ _) dX2_waysFrom_112 (fun H locs hN => ?_)
          refine lv_aload_n hx hb dX2_waysFrom_113 rfl (lv_at hl 3 rfl) ?_
          refine lm_get B hN (ci := 2) hiX2 0 rfl rfl 0 (by decide) (by decide +kernel) (v := .ref (q1 0)) rfl dX2_waysFrom_114 ?_
          refine lm_get B hN (ci := 3) hiX3 1 rfl rfl 3 (by decide) (by decide +kernel) (v := .ref (q1 4)) rfl dX2_waysFrom_117 ?_
          refine lv_iload_n hx hb dX2_waysFrom_120 rfl (lv_at hl 5 rfl) ?_
          refine lv_iload hx hb dX2_waysFrom_121 (lv_at hl 1 rfl) ?_
          obtain ⟨z9, hF⟩ := lm_gIe hF
          refine lm_ast B hN 5 (f := (t7_1.2.1 3)) rfl z9 (wX2_X3 G q0 q1 t7_0 (lm_sA (lm_sA t7_1 2 (upd (t7_1.2.1 2) x3_33.toNatClampNeg ((s1_33.2.1 2) x3_33.toNatClampNeg))) 3 (upd (t7_1.2.1 3) x3_33.toNatClampNeg ((s1_33.2.1 3) x3_33.toNatClampNeg)))) (wX2_X3_r1a3 _ _ _ _ _ _) dX2_waysFrom_123 (fun H locs hN => ?_)
          exact J124 _ _ _ _ _ _ _ _ hF hN (lv_sub hl [3, 4, 0, 5] rfl)
        · have hF := lm_itn c3 hF
          refine lv_goto (tgt := 124) hx hb dX2_waysFrom_58 (by decide) ?_
          exact J124 _ _ _ _ _ _ _ _ hF hN (lv_sub hl [0, 1, 2, 3] rfl)
  refine lv_iload_n hx hb dX2_waysFrom_0 rfl (lv_at hl 1 rfl) ?_
  refine lv_aload_n hx hb dX2_waysFrom_1 rfl (lv_at hl 0 rfl) ?_
  refine lm_get B hN (ci := 2) hiX2 0 rfl rfl 1 (by decide) (by decide +kernel) (v := .int (s0.1 0)) rfl dX2_waysFrom_2 ?_
  refine lv_icmp_lt (tgt := 29) hx hb dX2_waysFrom_5 (by decide) (fun c10 => ?_) (fun c10 => ?_)
  · have hF := lm_itp c10 hF
    refine lv_iconst (v := 0) hx hb dX2_waysFrom_29 (by decide) ?_
    refine lv_istore_n (lv' := [(2, .int (0 : Int32)), (0, .ref (q0 0)), (1, .int x1)]) hx hb dX2_waysFrom_30 rfl hl (by decide) rfl (fun ls hl => ?_)
    refine lv_iconst (v := 0) hx hb dX2_waysFrom_31 (by decide) ?_
    refine lv_istore_n (lv' := [(3, .int (0 : Int32)), (2, .int (0 : Int32)), (0, .ref (q0 0)), (1, .int x1)]) hx hb dX2_waysFrom_32 rfl hl (by decide) rfl (fun ls hl => ?_)
    exact L33 5000 _ _ _ _ _ _ _ _ hF hN (lv_sub hl [2, 3, 1, 0] rfl)
  · have hF := lm_itn c10 hF
    refine lv_aload_n hx hb dX2_waysFrom_8 rfl (lv_at hl 0 rfl) ?_
    refine lm_get B hN (ci := 2) hiX2 0 rfl rfl 0 (by decide) (by decide +kernel) (v := .ref (q1 0)) rfl dX2_waysFrom_9 ?_
    refine lv_iload_n hx hb dX2_waysFrom_12 rfl (lv_at hl 1 rfl) ?_
    obtain ⟨⟨r11, t11_0⟩, hc11, hF⟩ := lm_bd hF
    have hF := lm_un2E hF
    refine lm_run B hN (kp_wX2_X3_1 _ _ _ _ _) (lm_hrV B hN hl.1 (lm_cutP B hN (kp_wX2_X3_1 _ _ _ _ _)) (n := 1) (As := [.int x1]) (rest := []) (hX3_wouldTake l G q1 hc11) gX2_waysFrom_X3_wouldTake rfl (by decide +kernel) rfl (by omega) (by decide) (ci := 3) (q0 := 0) rfl rfl rfl (Nat.le_of_ble_eq_true rfl) dX2_waysFrom_13) (wX2_X3 G q0 q1 s0 t11_0) (kq_wX2_X3_1 _ _ _ _ _) (fun H locs hN => ?_)
    refine lv_aload_n hx hb dX2_waysFrom_16 rfl (lv_at hl 0 rfl) ?_
    refine lm_get B hN (ci := 2) hiX2 0 rfl rfl 2 (by decide) (by decide +kernel) (v := .int (s0.1 1)) rfl dX2_waysFrom_17 ?_
    refine lv_icmp_ne (tgt := 27) hx hb dX2_waysFrom_20 (by decide) (fun c12 => ?_) (fun c12 => ?_)
    · have hF := lm_itn c12 hF
      refine lv_iconst (v := 0) hx hb dX2_waysFrom_27 (by decide) ?_
      cases hF
      exact lm_iret B hN dX2_waysFrom_28
    · have hF := lm_itp c12 hF
      refine lv_iconst (v := 1) hx hb dX2_waysFrom_23 (by decide) ?_
      refine lv_goto (tgt := 28) hx hb dX2_waysFrom_24 (by decide) ?_
      cases hF
      exact lm_iret B hN dX2_waysFrom_28
def fX2_waysFrom : Nat → lm_St → lm_St → Int32 → Option (Int32 × lm_St × lm_St)
  | 0, _, _, _ => none
  | d + 1, s0, s1, x1 => tX2_waysFrom (fX2_waysFrom d) s0 s1 x1
theorem hX2_waysFrom (l : Launch) (G : lm_G) (q0 q1 : Nat → Nat) : ∀ (d : Nat) {s0 s1 : lm_St} {x1 : Int32} {R : Int32 × lm_St × lm_St}, fX2_waysFrom d s0 s1 x1 = some R → lm_C l G yX2_waysFrom wsX2_waysFrom (20 + 3 * d) [.ref (q0 0), .int x1] (wX2_X3 G q0 q1 s0 s1) (some (.int R.1)) (wX2_X3 G q0 q1 R.2.1 R.2.2) := by
  intro d
  induction d with
  | zero => intro s0 s1 x1 R h; exact (lm_no (show none = some R from h)).elim
  | succ d ih =>
    intro s0 s1 x1 R h
    have e : 20 + 3 * (d + 1) = 20 + 3 * d + 3 := by omega
    rw [e]
    exact uX2_waysFrom l G q0 q1 (rec := fX2_waysFrom d) (K0 := 20 + 3 * d) (fun s0 s1 x1 R h => ih h) (by omega) h
def fX2_waysTo (s0 : lm_St) (s1 : lm_St) (s2 : lm_St) (x2 : Int32) (x3 : Int32) : Option (Int32 × lm_St × lm_St × lm_St) := (fX3_copyFrom s1 s2).bind (fun v1 => lm_un2 v1 (fun t1_0 t1_1 => (fX2_waysFrom 6 (lm_sF (lm_sF s0 0 (if (3 : Int32) < x3 then (3 : Int32) else x3)) 1 x2) t1_0 (0 : Int32)).bind (fun v2 => lm_un3 v2 (fun r2 t2_0 t2_1 => some (r2, t2_0, t2_1, t1_1)))))
set_option maxHeartbeats 4000000 in
set_option maxRecDepth 100000 in
theorem hX2_waysTo (l : Launch) (G : lm_G) (q0 : Nat → Nat) (q1 : Nat → Nat) (q2 : Nat → Nat) {s0 : lm_St} {s1 : lm_St} {s2 : lm_St} {x2 : Int32} {x3 : Int32} {R : Int32 × lm_St × lm_St × lm_St} (hF : fX2_waysTo s0 s1 s2 x2 x3 = some R) : lm_C l G yX2_waysTo wsX2_waysTo 61 [.ref (q0 0), .ref (q2 0), .int x2, .int x3] (wX2_X3_X3 G q0 q1 q2 s0 s1 s2) (some (.int R.1)) (wX2_X3_X3 G q0 q1 q2 R.2.1 R.2.2.1 R.2.2.2) := by
  refine lm_C.of (cc := cX2_waysTo) (maxL := 4) (ret := (some .int)) (by decide) rfl (Nat.le_of_ble_eq_true rfl) ?_
  intro p e s m below meth c A ls B hN hl
  have hx := B.1.1
  have hb := B.1.2.1
  have hown := B.1.2.2.2.1
  have hts := B.1.2.2.2.2
  have hiX2 : ∀ w ∈ wsX20, w ∈ wsX2_waysTo := by decide +kernel
  have hl : lv_has ls 4 [(0, .ref (q0 0)), (1, .ref (q2 0)), (2, .int x2), (3, .int x3)] := hl
  refine lv_aload_n hx hb dX2_waysTo_0 rfl (lv_at hl 0 rfl) ?_
  refine lm_get B hN (ci := 2) hiX2 0 rfl rfl 0 (by decide) (by decide +kernel) (v := .ref (q1 0)) rfl dX2_waysTo_1 ?_
  refine lv_aload_n hx hb dX2_waysTo_4 rfl (lv_at hl 1 rfl) ?_
  obtain ⟨⟨t1_0, t1_1⟩, hc1, hF⟩ := lm_bd hF
  have hF := lm_un2E hF
  refine lm_run B hN (kp_wX2_X3_X3_1_2 _ _ _ _ _ _ _) (lm_hrV B hN hl.1 (lm_cutP B hN (kp_wX2_X3_X3_1_2 _ _ _ _ _ _ _)) (n := 1) (As := [.ref (q2 0)]) (rest := []) (hX3_copyFrom l G q1 q2 hc1) gX2_waysTo_X3_copyFrom rfl (by decide +kernel) rfl (by decide) (by decide) (ci := 3) (q0 := 0) rfl rfl rfl (Nat.le_of_ble_eq_true rfl) dX2_waysTo_5) (wX2_X3_X3 G q0 q1 q2 s0 t1_0 t1_1) (kq_wX2_X3_X3_1_2 _ _ _ _ _ _ _) (fun H locs hN => ?_)
  refine lv_aload_n hx hb dX2_waysTo_8 rfl (lv_at hl 0 rfl) ?_
  refine lv_iload_n hx hb dX2_waysTo_9 rfl (lv_at hl 3 rfl) ?_
  refine lv_iconst (v := 3) hx hb dX2_waysTo_10 (by decide) ?_
  refine lm_mmin B hl.1 (by decide +kernel) (by decide +kernel) (by decide +kernel) (by decide +kernel) (by decide) (Nat.le_of_ble_eq_true rfl) dX2_waysTo_11 ?_
  refine lm_put B hN (ci := 2) hiX2 tyX2 tyX2_ok nmX2 0 rfl rfl 1 (by decide) (by decide +kernel) (by decide) (v := .int (if (3 : Int32) < x3 then (3 : Int32) else x3)) rfl rfl (Nat.le_of_ble_eq_true rfl) (wX2_X3_X3 G q0 q1 q2 (lm_sF s0 0 (if (3 : Int32) < x3 then (3 : Int32) else x3)) t1_0 t1_1) (wX2_X3_X3_r0f0 _ _ _ _ _ _ _ _) dX2_waysTo_14 (fun H locs hN => ?_)
  refine lv_aload_n hx hb dX2_waysTo_17 rfl (lv_at hl 0 rfl) ?_
  refine lv_iload_n hx hb dX2_waysTo_18 rfl (lv_at hl 2 rfl) ?_
  refine lm_put B hN (ci := 2) hiX2 tyX2 tyX2_ok nmX2 0 rfl rfl 2 (by decide) (by decide +kernel) (by decide) (v := .int x2) rfl rfl (Nat.le_of_ble_eq_true rfl) (wX2_X3_X3 G q0 q1 q2 (lm_sF (lm_sF s0 0 (if (3 : Int32) < x3 then (3 : Int32) else x3)) 1 x2) t1_0 t1_1) (wX2_X3_X3_r0f1 _ _ _ _ _ _ _ _) dX2_waysTo_19 (fun H locs hN => ?_)
  refine lv_aload_n hx hb dX2_waysTo_22 rfl (lv_at hl 0 rfl) ?_
  refine lv_iconst (v := 0) hx hb dX2_waysTo_23 (by decide) ?_
  obtain ⟨⟨r2, t2_0, t2_1⟩, hc2, hF⟩ := lm_bd hF
  have hF := lm_un3E hF
  refine lm_run B hN (kp_wX2_X3_X3_0_1t _ _ _ _ _ _ _) (lm_hrV B hN hl.1 (lm_cutP B hN (kp_wX2_X3_X3_0_1t _ _ _ _ _ _ _)) (n := 1) (As := [.int (0 : Int32)]) (rest := []) (hX2_waysFrom l G q0 q1 6 hc2) gX2_waysTo_X2_waysFrom rfl (by decide +kernel) rfl (by decide) (by decide) (ci := 2) (q0 := 0) rfl rfl rfl (Nat.le_of_ble_eq_true rfl) dX2_waysTo_24) (wX2_X3_X3 G q0 q1 q2 t2_0 t2_1 t1_1) (kq_wX2_X3_X3_0_1t _ _ _ _ _ _ _) (fun H locs hN => ?_)
  cases hF
  exact lm_iret B hN dX2_waysTo_27
