def fX0_wanted (s0 : lm_St) (x1 : Int32) (x2 : Int32) : Option (Int32 × lm_St) := if x2 = x1 then (lm_gI x1 7 (some (((s0.2.1 2) x1.toNatClampNeg), s0))) else (some ((if 0 ≤ (x2 - x1) then (x2 - x1) else 0 - (x2 - x1)), s0))
set_option maxHeartbeats 4000000 in
set_option maxRecDepth 100000 in
theorem hX0_wanted (l : Launch) (G : lm_G) (q0 : Nat → Nat) {s0 : lm_St} {x1 : Int32} {x2 : Int32} {R : Int32 × lm_St} (hF : fX0_wanted s0 x1 x2 = some R) : lm_C l G yX0_wanted wsX0_wanted 2 [.ref (q0 0), .int x1, .int x2] (wX3 G q0 s0) (some (.int R.1)) (wX3 G q0 R.2) := by
  refine lm_C.of (cc := cX0_wanted) (maxL := 3) (ret := (some .int)) (by decide) rfl (Nat.le_of_ble_eq_true rfl) ?_
  intro p e s m below meth c A ls B hN hl
  have hx := B.1.1
  have hb := B.1.2.1
  have hown := B.1.2.2.2.1
  have hts := B.1.2.2.2.2
  have hiX3 : ∀ w ∈ wsX30, w ∈ wsX0_wanted := by decide +kernel
  have hl : lv_has ls 3 [(0, .ref (q0 0)), (1, .int x1), (2, .int x2)] := hl
  refine lv_iload_n hx hb dX0_wanted_0 rfl (lv_at hl 2 rfl) ?_
  refine lv_iload_n hx hb dX0_wanted_1 rfl (lv_at hl 1 rfl) ?_
  refine lv_icmp_ne (tgt := 14) hx hb dX0_wanted_2 (by decide) (fun c1 => ?_) (fun c1 => ?_)
  · have hF := lm_itn c1 hF
    refine lv_iload_n hx hb dX0_wanted_14 rfl (lv_at hl 2 rfl) ?_
    refine lv_iload_n hx hb dX0_wanted_15 rfl (lv_at hl 1 rfl) ?_
    refine lv_isub hx hb dX0_wanted_16 ?_
    refine lm_mabs B hl.1 (by decide +kernel) (by decide +kernel) (by decide +kernel) (by decide +kernel) (by decide) (Nat.le_of_ble_eq_true rfl) dX0_wanted_17 ?_
    cases hF
    exact lm_iret B hN dX0_wanted_20
  · have hF := lm_itp c1 hF
    refine lv_aload_n hx hb dX0_wanted_5 rfl (lv_at hl 0 rfl) ?_
    refine lm_get B hN (ci := 3) hiX3 0 rfl rfl 2 (by decide) (by decide +kernel) (v := .ref (q0 3)) rfl dX0_wanted_6 ?_
    refine lv_iload_n hx hb dX0_wanted_9 rfl (lv_at hl 1 rfl) ?_
    obtain ⟨z2, hF⟩ := lm_gIe hF
    refine lm_ald B hN 3 (f := (s0.2.1 2)) rfl z2 dX0_wanted_10 ?_
    refine lv_goto (tgt := 20) hx hb dX0_wanted_11 (by decide) ?_
    cases hF
    exact lm_iret B hN dX0_wanted_20
def jX0_firstBuyer_52 (k3 : Int32 × Int32 × Int32 × lm_St × lm_St → Option (Int32 × lm_St × lm_St)) (x2_52 : Int32) (x3_52 : Int32) (x4_52 : Int32) (s0_52 : lm_St) (s1_52 : lm_St) : Option (Int32 × lm_St × lm_St) := k3 (x2_52, x3_52, (x4_52 + 1), s0_52, s1_52)
def bX0_firstBuyer_3 (k3 : Int32 × Int32 × Int32 × lm_St × lm_St → Option (Int32 × lm_St × lm_St)) (x2_3 : Int32) (x3_3 : Int32) (x4_3 : Int32) (s0_3 : lm_St) (s1_3 : lm_St) : Option (Int32 × lm_St × lm_St) := if (s1_3.1 0) ≤ x4_3 then (some ((0 : Int32), s0_3, s1_3)) else ((fX8_isIn x2_3 x4_3).bind (fun r2 => if r2 = 0 then ((fX0_wanted s1_3 x3_3 x4_3).bind (fun v4 => lm_un2 v4 (fun r4 t4_0 => lm_gI (x2_3 ||| ((1 : Int32) <<< (x4_3 &&& 31))) 128 (lm_gI x2_3 128 (if (r4 + ((s0_3.2.1 0) (x2_3 ||| ((1 : Int32) <<< (x4_3 &&& 31))).toNatClampNeg)) = ((s0_3.2.1 0) x2_3.toNatClampNeg) then (some (x4_3, s0_3, t4_0)) else (jX0_firstBuyer_52 k3 x2_3 x3_3 x4_3 s0_3 t4_0)))))) else (jX0_firstBuyer_52 k3 x2_3 x3_3 x4_3 s0_3 s1_3)))
def fX0_firstBuyer (s0 : lm_St) (s1 : lm_St) (x2 : Int32) (x3 : Int32) : Option (Int32 × lm_St × lm_St) := lm_lp (fun k a => bX0_firstBuyer_3 k a.1 a.2.1 a.2.2.1 a.2.2.2.1 a.2.2.2.2) 5000 (x2, x3, (0 : Int32), s0, s1)
set_option maxHeartbeats 4000000 in
set_option maxRecDepth 100000 in
theorem hX0_firstBuyer (l : Launch) (G : lm_G) (q0 : Nat → Nat) (q1 : Nat → Nat) {s0 : lm_St} {s1 : lm_St} {x2 : Int32} {x3 : Int32} {R : Int32 × lm_St × lm_St} (hF : fX0_firstBuyer s0 s1 x2 x3 = some R) : lm_C l G yX0_firstBuyer wsX0_firstBuyer 3 [.ref (q0 0), .ref (q1 0), .int x2, .int x3] (wX0_X3 G q0 q1 s0 s1) (some (.int R.1)) (wX0_X3 G q0 q1 R.2.1 R.2.2) := by
  refine lm_C.of (cc := cX0_firstBuyer) (maxL := 5) (ret := (some .int)) (by decide) rfl (Nat.le_of_ble_eq_true rfl) ?_
  intro p e s m below meth c A ls B hN hl
  have hx := B.1.1
  have hb := B.1.2.1
  have hown := B.1.2.2.2.1
  have hts := B.1.2.2.2.2
  have hiX0 : ∀ w ∈ wsX00, w ∈ wsX0_firstBuyer := by decide +kernel
  have hiX3 : ∀ w ∈ wsX30, w ∈ wsX0_firstBuyer := by decide +kernel
  have hl : lv_has ls 5 [(0, .ref (q0 0)), (1, .ref (q1 0)), (2, .int x2), (3, .int x3)] := hl
  have L3 : ∀ (n : Nat) (x2_3 : Int32) (x3_3 : Int32) (x4_3 : Int32) (s0_3 : lm_St) (s1_3 : lm_St) (H : Heap) (locs : List Loc) (ls : Array Slot), lm_lp (fun k a => bX0_firstBuyer_3 k a.1 a.2.1 a.2.2.1 a.2.2.2.1 a.2.2.2.2) n (x2_3, x3_3, x4_3, s0_3, s1_3) = some R → lm_N G A s (wX0_X3 G q0 q1 s0_3 s1_3) H locs → lv_has ls 5 [(0, .ref (q0 0)), (1, .ref (q1 0)), (2, .int x2_3), (3, .int x3_3), (4, .int x4_3)] → W p l e (lm_rk 3) s m ([.ref (q0 0), .ref (q1 0), .int x2, .int x3] : List Value).toArray below meth c H locs 0 0 (MQ below (lm_post G (wX0_X3 G q0 q1 R.2.1 R.2.2) (some (.int R.1)) A) ([.ref (q0 0), .ref (q1 0), .int x2, .int x3] : List Value).toArray s 0 0 A) (F0 m 3 ls []) := by
    intro n
    induction n with
    | zero => intro x2_3 x3_3 x4_3 s0_3 s1_3 H locs ls hF; exact (lm_lpz hF).elim
    | succ n ih3 =>
      intro x2_3 x3_3 x4_3 s0_3 s1_3 H locs ls hF hN hl
      have hF : bX0_firstBuyer_3 (lm_lp (fun k a => bX0_firstBuyer_3 k a.1 a.2.1 a.2.2.1 a.2.2.2.1 a.2.2.2.2) n) x2_3 x3_3 x4_3 s0_3 s1_3 = some R := lm_lps hF
      generalize lm_lp (fun k a => bX0_firstBuyer_3 k a.1 a.2.1 a.2.2.1 a.2.2.2.1 a.2.2.2.2) n = k3 at hF ih3
      have J52 : ∀ (x2_52 : Int32) (x3_52 : Int32) (x4_52 : Int32) (s0_52 : lm_St) (s1_52 : lm_St) (H : Heap) (locs : List Loc) (ls : Array Slot), jX0_firstBuyer_52 k3 x2_52 x3_52 x4_52 s0_52 s1_52 = some R → lm_N G A s (wX0_X3 G q0 q1 s0_52 s1_52) H locs → lv_has ls 5 [(0, .ref (q0 0)), (1, .ref (q1 0)), (2, .int x2_52), (3, .int x3_52), (4, .int x4_52)] → W p l e (lm_rk 3) s m ([.ref (q0 0), .ref (q1 0), .int x2, .int x3] : List Value).toArray below meth c H locs 0 0 (MQ below (lm_post G (wX0_X3 G q0 q1 R.2.1 R.2.2) (some (.int R.1)) A) ([.ref (q0 0), .ref (q1 0), .int x2, .int x3] : List Value).toArray s 0 0 A) (F0 m 52 ls []) := by
        intro x2_52 x3_52 x4_52 s0_52 s1_52 H locs ls hF hN hl
        refine lv_iinc (v := (x4_52 + 1)) (lv' := [(4, .int (x4_52 + 1)), (0, .ref (q0 0)), (1, .ref (q1 0)), (2, .int x2_52), (3, .int x3_52)]) hx hb dX0_firstBuyer_52 hl (k := 4) rfl rfl (by decide) rfl (fun ls hl => ?_)
        refine lv_goto (tgt := 3) hx hb dX0_firstBuyer_55 (by decide) ?_
        exact ih3 _ _ _ _ _ _ _ _ hF hN (lv_sub hl [1, 2, 3, 4, 0] rfl)
      refine lv_iload hx hb dX0_firstBuyer_3 (lv_at hl 4 rfl) ?_
      refine lv_aload_n hx hb dX0_firstBuyer_5 rfl (lv_at hl 1 rfl) ?_
      refine lm_get B hN (ci := 3) hiX3 3 rfl rfl 4 (by decide) (by decide +kernel) (v := .int (s1_3.1 0)) rfl dX0_firstBuyer_6 ?_
      refine lv_icmp_ge (tgt := 58) hx hb dX0_firstBuyer_9 (by decide) (fun c1 => ?_) (fun c1 => ?_)
      · have hF := lm_itp c1 hF
        refine lv_iconst (v := 0) hx hb dX0_firstBuyer_58 (by decide) ?_
        cases hF
        exact lm_iret B hN dX0_firstBuyer_59
      · have hF := lm_itn c1 hF
        refine lv_iload_n hx hb dX0_firstBuyer_12 rfl (lv_at hl 2 rfl) ?_
        refine lv_iload hx hb dX0_firstBuyer_13 (lv_at hl 4 rfl) ?_
        obtain ⟨r2, hc2, hF⟩ := lm_bd hF
        refine lm_run0 B hN (lm_hrN B hN hl.1 (lm_cut0 B hN) (n := 2) (host := RX8) (As := [.int x2_3, .int x4_3]) (rest := []) (hX8_isIn l G hc2) gX0_firstBuyer_X8_isIn_n28 rfl (by decide +kernel) (by decide +kernel) (by decide +kernel) (by decide +kernel) rfl (by decide) (by decide) rfl (Nat.le_of_ble_eq_true rfl) dX0_firstBuyer_15) (fun H locs hN => ?_)
        refine lv_if_ne (tgt := 52) hx hb dX0_firstBuyer_18 (by decide) (fun c3 => ?_) (fun c3 => ?_)
        · have hF := lm_itn c3 hF
          exact J52 _ _ _ _ _ _ _ _ hF hN (lv_sub hl [0, 1, 2, 3, 4] rfl)
        · have hF := lm_itp c3 hF
          refine lv_aload_n hx hb dX0_firstBuyer_21 rfl (lv_at hl 1 rfl) ?_
          refine lv_iload_n hx hb dX0_firstBuyer_22 rfl (lv_at hl 3 rfl) ?_
          refine lv_iload hx hb dX0_firstBuyer_23 (lv_at hl 4 rfl) ?_
          obtain ⟨⟨r4, t4_0⟩, hc4, hF⟩ := lm_bd hF
          have hF := lm_un2E hF
          refine lm_run B hN (kp_wX0_X3_1 _ _ _ _ _) (lm_hrT B hN hl.1 (lm_cutP B hN (kp_wX0_X3_1 _ _ _ _ _)) (n := 3) (As := [.ref (q1 0), .int x3_3, .int x4_3]) (rest := []) (hX0_wanted l G q1 hc4) gX0_firstBuyer_X0_wanted rfl (by decide +kernel) rfl (by decide) (by decide) rfl (Nat.le_of_ble_eq_true rfl) dX0_firstBuyer_25) (wX0_X3 G q0 q1 s0_3 t4_0) (kq_wX0_X3_1 _ _ _ _ _) (fun H locs hN => ?_)
          refine lv_aload_n hx hb dX0_firstBuyer_28 rfl (lv_at hl 0 rfl) ?_
          refine lm_get B hN (ci := 0) hiX0 0 rfl rfl 0 (by decide) (by decide +kernel) (v := .ref (q0 1)) rfl dX0_firstBuyer_29 ?_
          refine lv_iload_n hx hb dX0_firstBuyer_32 rfl (lv_at hl 2 rfl) ?_
          refine lv_iconst (v := 1) hx hb dX0_firstBuyer_33 (by decide) ?_
          refine lv_iload hx hb dX0_firstBuyer_34 (lv_at hl 4 rfl) ?_
          refine lv_ishl hx hb dX0_firstBuyer_36 ?_
          refine lv_ior hx hb dX0_firstBuyer_37 ?_
          obtain ⟨z5, hF⟩ := lm_gIe hF
          refine lm_ald B hN 1 (f := (s0_3.2.1 0)) rfl z5 dX0_firstBuyer_38 ?_
          refine lv_iadd hx hb dX0_firstBuyer_39 ?_
          refine lv_aload_n hx hb dX0_firstBuyer_40 rfl (lv_at hl 0 rfl) ?_
          refine lm_get B hN (ci := 0) hiX0 0 rfl rfl 0 (by decide) (by decide +kernel) (v := .ref (q0 1)) rfl dX0_firstBuyer_41 ?_
          refine lv_iload_n hx hb dX0_firstBuyer_44 rfl (lv_at hl 2 rfl) ?_
          obtain ⟨z6, hF⟩ := lm_gIe hF
          refine lm_ald B hN 1 (f := (s0_3.2.1 0)) rfl z6 dX0_firstBuyer_45 ?_
          refine lv_icmp_ne (tgt := 52) hx hb dX0_firstBuyer_46 (by decide) (fun c7 => ?_) (fun c7 => ?_)
          · have hF := lm_itn c7 hF
            exact J52 _ _ _ _ _ _ _ _ hF hN (lv_sub hl [0, 1, 2, 3, 4] rfl)
          · have hF := lm_itp c7 hF
            refine lv_iload hx hb dX0_firstBuyer_49 (lv_at hl 4 rfl) ?_
            cases hF
            exact lm_iret B hN dX0_firstBuyer_51
  refine lv_iconst (v := 0) hx hb dX0_firstBuyer_0 (by decide) ?_
  refine lv_istore (lv' := [(4, .int (0 : Int32)), (0, .ref (q0 0)), (1, .ref (q1 0)), (2, .int x2), (3, .int x3)]) hx hb dX0_firstBuyer_1 hl (by decide) rfl (fun ls hl => ?_)
  exact L3 5000 _ _ _ _ _ _ _ _ hF hN (lv_sub hl [1, 2, 3, 4, 0] rfl)
def jX0_mostBehind_68 (k11 : Int32 × Int32 × Int32 × Int32 × lm_St × lm_St → Option (Int32 × lm_St × lm_St)) (x2_68 : Int32) (x3_68 : Int32) (x4_68 : Int32) (x5_68 : Int32) (s0_68 : lm_St) (s1_68 : lm_St) : Option (Int32 × lm_St × lm_St) := k11 (x2_68, x3_68, x4_68, (x5_68 + 1), s0_68, s1_68)
def bX0_mostBehind_11 (k11 : Int32 × Int32 × Int32 × Int32 × lm_St × lm_St → Option (Int32 × lm_St × lm_St)) (x2_11 : Int32) (x3_11 : Int32) (x4_11 : Int32) (x5_11 : Int32) (s0_11 : lm_St) (s1_11 : lm_St) : Option (Int32 × lm_St × lm_St) := if (s1_11.1 0) ≤ x5_11 then (some (x4_11, s0_11, s1_11)) else (if (s0_11.1 0) ≤ x3_11 then (some (x4_11, s0_11, s1_11)) else ((fX8_isIn x2_11 x5_11).bind (fun r3 => if r3 = 0 then (lm_gI x3_11 7 ((fX0_wanted s1_11 ((s0_11.2.1 1) x3_11.toNatClampNeg) x5_11).bind (fun v6 => lm_un2 v6 (fun r6 t6_0 => lm_gI (x2_11 ||| ((1 : Int32) <<< (x5_11 &&& 31))) 128 (lm_nm (if x4_11 < (r6 + ((s0_11.2.1 0) (x2_11 ||| ((1 : Int32) <<< (x5_11 &&& 31))).toNatClampNeg)) then (r6 + ((s0_11.2.1 0) (x2_11 ||| ((1 : Int32) <<< (x5_11 &&& 31))).toNatClampNeg)) else x4_11) (fun z8 => jX0_mostBehind_68 k11 x2_11 x3_11 z8 x5_11 s0_11 t6_0)))))) else (jX0_mostBehind_68 k11 x2_11 x3_11 x4_11 x5_11 s0_11 s1_11))))
def fX0_mostBehind (s0 : lm_St) (s1 : lm_St) (x2 : Int32) : Option (Int32 × lm_St × lm_St) := (fJ6_bitCount_0f7a4 x2).bind (fun r9 => lm_lp (fun k a => bX0_mostBehind_11 k a.1 a.2.1 a.2.2.1 a.2.2.2.1 a.2.2.2.2.1 a.2.2.2.2.2) 5000 (x2, r9, (0 : Int32), (0 : Int32), s0, s1))
set_option maxHeartbeats 4000000 in
set_option maxRecDepth 100000 in
theorem hX0_mostBehind (l : Launch) (G : lm_G) (q0 : Nat → Nat) (q1 : Nat → Nat) {s0 : lm_St} {s1 : lm_St} {x2 : Int32} {R : Int32 × lm_St × lm_St} (hF : fX0_mostBehind s0 s1 x2 = some R) : lm_C l G yX0_mostBehind wsX0_mostBehind 3 [.ref (q0 0), .ref (q1 0), .int x2] (wX0_X3 G q0 q1 s0 s1) (some (.int R.1)) (wX0_X3 G q0 q1 R.2.1 R.2.2) := by
  refine lm_C.of (cc := cX0_mostBehind) (maxL := 6) (ret := (some .int)) (by decide) rfl (Nat.le_of_ble_eq_true rfl) ?_
  intro p e s m below meth c A ls B hN hl
  have hx := B.1.1
  have hb := B.1.2.1
  have hown := B.1.2.2.2.1
  have hts := B.1.2.2.2.2
  have hiX0 : ∀ w ∈ wsX00, w ∈ wsX0_mostBehind := by decide +kernel
  have hiX3 : ∀ w ∈ wsX30, w ∈ wsX0_mostBehind := by decide +kernel
  have hl : lv_has ls 6 [(0, .ref (q0 0)), (1, .ref (q1 0)), (2, .int x2)] := hl
  have L11 : ∀ (n : Nat) (x2_11 : Int32) (x3_11 : Int32) (x4_11 : Int32) (x5_11 : Int32) (s0_11 : lm_St) (s1_11 : lm_St) (H : Heap) (locs : List Loc) (ls : Array Slot), lm_lp (fun k a => bX0_mostBehind_11 k a.1 a.2.1 a.2.2.1 a.2.2.2.1 a.2.2.2.2.1 a.2.2.2.2.2) n (x2_11, x3_11, x4_11, x5_11, s0_11, s1_11) = some R → lm_N G A s (wX0_X3 G q0 q1 s0_11 s1_11) H locs → lv_has ls 6 [(0, .ref (q0 0)), (1, .ref (q1 0)), (2, .int x2_11), (3, .int x3_11), (4, .int x4_11), (5, .int x5_11)] → W p l e (lm_rk 3) s m ([.ref (q0 0), .ref (q1 0), .int x2] : List Value).toArray below meth c H locs 0 0 (MQ below (lm_post G (wX0_X3 G q0 q1 R.2.1 R.2.2) (some (.int R.1)) A) ([.ref (q0 0), .ref (q1 0), .int x2] : List Value).toArray s 0 0 A) (F0 m 11 ls []) := by
    intro n
    induction n with
    | zero => intro x2_11 x3_11 x4_11 x5_11 s0_11 s1_11 H locs ls hF; exact (lm_lpz hF).elim
    | succ n ih11 =>
      intro x2_11 x3_11 x4_11 x5_11 s0_11 s1_11 H locs ls hF hN hl
      have hF : bX0_mostBehind_11 (lm_lp (fun k a => bX0_mostBehind_11 k a.1 a.2.1 a.2.2.1 a.2.2.2.1 a.2.2.2.2.1 a.2.2.2.2.2) n) x2_11 x3_11 x4_11 x5_11 s0_11 s1_11 = some R := lm_lps hF
      generalize lm_lp (fun k a => bX0_mostBehind_11 k a.1 a.2.1 a.2.2.1 a.2.2.2.1 a.2.2.2.2.1 a.2.2.2.2.2) n = k11 at hF ih11
      have J68 : ∀ (x2_68 : Int32) (x3_68 : Int32) (x4_68 : Int32) (x5_68 : Int32) (s0_68 : lm_St) (s1_68 : lm_St) (H : Heap) (locs : List Loc) (ls : Array Slot), jX0_mostBehind_68 k11 x2_68 x3_68 x4_68 x5_68 s0_68 s1_68 = some R → lm_N G A s (wX0_X3 G q0 q1 s0_68 s1_68) H locs → lv_has ls 6 [(0, .ref (q0 0)), (1, .ref (q1 0)), (2, .int x2_68), (3, .int x3_68), (4, .int x4_68), (5, .int x5_68)] → W p l e (lm_rk 3) s m ([.ref (q0 0), .ref (q1 0), .int x2] : List Value).toArray below meth c H locs 0 0 (MQ below (lm_post G (wX0_X3 G q0 q1 R.2.1 R.2.2) (some (.int R.1)) A) ([.ref (q0 0), .ref (q1 0), .int x2] : List Value).toArray s 0 0 A) (F0 m 68 ls []) := by
        intro x2_68 x3_68 x4_68 x5_68 s0_68 s1_68 H locs ls hF hN hl
        refine lv_iinc (v := (x5_68 + 1)) (lv' := [(5, .int (x5_68 + 1)), (0, .ref (q0 0)), (1, .ref (q1 0)), (2, .int x2_68), (3, .int x3_68), (4, .int x4_68)]) hx hb dX0_mostBehind_68 hl (k := 5) rfl rfl (by decide) rfl (fun ls hl => ?_)
        refine lv_goto (tgt := 11) hx hb dX0_mostBehind_71 (by decide) ?_
        exact ih11 _ _ _ _ _ _ _ _ _ hF hN (lv_sub hl [1, 2, 3, 4, 5, 0] rfl)
      refine lv_iload hx hb dX0_mostBehind_11 (lv_at hl 5 rfl) ?_
      refine lv_aload_n hx hb dX0_mostBehind_13 rfl (lv_at hl 1 rfl) ?_
      refine lm_get B hN (ci := 3) hiX3 3 rfl rfl 4 (by decide) (by decide +kernel) (v := .int (s1_11.1 0)) rfl dX0_mostBehind_14 ?_
      refine lv_icmp_ge (tgt := 74) hx hb dX0_mostBehind_17 (by decide) (fun c1 => ?_) (fun c1 => ?_)
      · have hF := lm_itp c1 hF
        refine lv_iload hx hb dX0_mostBehind_74 (lv_at hl 4 rfl) ?_
        cases hF
        exact lm_iret B hN dX0_mostBehind_76
      · have hF := lm_itn c1 hF
        refine lv_iload_n hx hb dX0_mostBehind_20 rfl (lv_at hl 3 rfl) ?_
        refine lv_aload_n hx hb dX0_mostBehind_21 rfl (lv_at hl 0 rfl) ?_
        refine lm_get B hN (ci := 0) hiX0 0 rfl rfl 2 (by decide) (by decide +kernel) (v := .int (s0_11.1 0)) rfl dX0_mostBehind_22 ?_
        refine lv_icmp_ge (tgt := 74) hx hb dX0_mostBehind_25 (by decide) (fun c2 => ?_) (fun c2 => ?_)
        · have hF := lm_itp c2 hF
          refine lv_iload hx hb dX0_mostBehind_74 (lv_at hl 4 rfl) ?_
          cases hF
          exact lm_iret B hN dX0_mostBehind_76
        · have hF := lm_itn c2 hF
          refine lv_iload_n hx hb dX0_mostBehind_28 rfl (lv_at hl 2 rfl) ?_
          refine lv_iload hx hb dX0_mostBehind_29 (lv_at hl 5 rfl) ?_
          obtain ⟨r3, hc3, hF⟩ := lm_bd hF
          refine lm_run0 B hN (lm_hrN B hN hl.1 (lm_cut0 B hN) (n := 2) (host := RX8) (As := [.int x2_11, .int x5_11]) (rest := []) (hX8_isIn l G hc3) gX0_mostBehind_X8_isIn_n28 rfl (by decide +kernel) (by decide +kernel) (by decide +kernel) (by decide +kernel) rfl (by decide) (by decide) rfl (Nat.le_of_ble_eq_true rfl) dX0_mostBehind_31) (fun H locs hN => ?_)
          refine lv_if_ne (tgt := 68) hx hb dX0_mostBehind_34 (by decide) (fun c4 => ?_) (fun c4 => ?_)
          · have hF := lm_itn c4 hF
            exact J68 _ _ _ _ _ _ _ _ _ hF hN (lv_sub hl [0, 1, 2, 3, 4, 5] rfl)
          · have hF := lm_itp c4 hF
            refine lv_iload hx hb dX0_mostBehind_37 (lv_at hl 4 rfl) ?_
            refine lv_aload_n hx hb dX0_mostBehind_39 rfl (lv_at hl 1 rfl) ?_
            refine lv_aload_n hx hb dX0_mostBehind_40 rfl (lv_at hl 0 rfl) ?_
            refine lm_get B hN (ci := 0) hiX0 0 rfl rfl 1 (by decide) (by decide +kernel) (v := .ref (q0 2)) rfl dX0_mostBehind_41 ?_
            refine lv_iload_n hx hb dX0_mostBehind_44 rfl (lv_at hl 3 rfl) ?_
            obtain ⟨z5, hF⟩ := lm_gIe hF
            refine lm_ald B hN 2 (f := (s0_11.2.1 1)) rfl z5 dX0_mostBehind_45 ?_
            refine lv_iload hx hb dX0_mostBehind_46 (lv_at hl 5 rfl) ?_
            obtain ⟨⟨r6, t6_0⟩, hc6, hF⟩ := lm_bd hF
            have hF := lm_un2E hF
            refine lm_run B hN (kp_wX0_X3_1 _ _ _ _ _) (lm_hrT B hN hl.1 (lm_cutP B hN (kp_wX0_X3_1 _ _ _ _ _)) (n := 3) (As := [.ref (q1 0), .int ((s0_11.2.1 1) x3_11.toNatClampNeg), .int x5_11]) (rest := [.int x4_11]) (hX0_wanted l G q1 hc6) gX0_mostBehind_X0_wanted rfl (by decide +kernel) rfl (by decide) (by decide) rfl (Nat.le_of_ble_eq_true rfl) dX0_mostBehind_48) (wX0_X3 G q0 q1 s0_11 t6_0) (kq_wX0_X3_1 _ _ _ _ _) (fun H locs hN => ?_)
            refine lv_aload_n hx hb dX0_mostBehind_51 rfl (lv_at hl 0 rfl) ?_
            refine lm_get B hN (ci := 0) hiX0 0 rfl rfl 0 (by decide) (by decide +kernel) (v := .ref (q0 1)) rfl dX0_mostBehind_52 ?_
            refine lv_iload_n hx hb dX0_mostBehind_55 rfl (lv_at hl 2 rfl) ?_
            refine lv_iconst (v := 1) hx hb dX0_mostBehind_56 (by decide) ?_
            refine lv_iload hx hb dX0_mostBehind_57 (lv_at hl 5 rfl) ?_
            refine lv_ishl hx hb dX0_mostBehind_59 ?_
            refine lv_ior hx hb dX0_mostBehind_60 ?_
            obtain ⟨z7, hF⟩ := lm_gIe hF
            refine lm_ald B hN 1 (f := (s0_11.2.1 0)) rfl z7 dX0_mostBehind_61 ?_
            refine lv_iadd hx hb dX0_mostBehind_62 ?_
            refine lm_mmax B hl.1 (by decide +kernel) (by decide +kernel) (by decide +kernel) (by decide +kernel) (by decide) (Nat.le_of_ble_eq_true rfl) dX0_mostBehind_63 ?_
            refine lv_topi (fun z8 ez8 => ?_)
            have hF := lm_nmE ez8 hF
            refine lv_istore (lv' := [(4, .int z8), (0, .ref (q0 0)), (1, .ref (q1 0)), (2, .int x2_11), (3, .int x3_11), (5, .int x5_11)]) hx hb dX0_mostBehind_66 hl (by decide) rfl (fun ls hl => ?_)
            exact J68 _ _ _ _ _ _ _ _ _ hF hN (lv_sub hl [1, 2, 3, 4, 0, 5] rfl)
  refine lv_iload_n hx hb dX0_mostBehind_0 rfl (lv_at hl 2 rfl) ?_
  obtain ⟨r9, hc9, hF⟩ := lm_bd hF
  refine lm_run0 B hN (lm_hrT B hN hl.1 (lm_cut0 B hN) (n := 1) (As := [.int x2]) (rest := []) (hJ6_bitCount_0f7a4 l G hc9) gX0_mostBehind_J6_bitCount_0f7a4 rfl (by decide +kernel) rfl (by decide) (by decide) rfl (Nat.le_of_ble_eq_true rfl) dX0_mostBehind_1) (fun H locs hN => ?_)
  refine lv_istore_n (lv' := [(3, .int r9), (0, .ref (q0 0)), (1, .ref (q1 0)), (2, .int x2)]) hx hb dX0_mostBehind_4 rfl hl (by decide) rfl (fun ls hl => ?_)
  refine lv_iconst (v := 0) hx hb dX0_mostBehind_5 (by decide) ?_
  refine lv_istore (lv' := [(4, .int (0 : Int32)), (3, .int r9), (0, .ref (q0 0)), (1, .ref (q1 0)), (2, .int x2)]) hx hb dX0_mostBehind_6 hl (by decide) rfl (fun ls hl => ?_)
  refine lv_iconst (v := 0) hx hb dX0_mostBehind_8 (by decide) ?_
  refine lv_istore (lv' := [(5, .int (0 : Int32)), (4, .int (0 : Int32)), (3, .int r9), (0, .ref (q0 0)), (1, .ref (q1 0)), (2, .int x2)]) hx hb dX0_mostBehind_9 hl (by decide) rfl (fun ls hl => ?_)
  exact L11 5000 _ _ _ _ _ _ _ _ _ hF hN (lv_sub hl [3, 4, 5, 2, 1, 0] rfl)
def bX0_mostOf_61 (k61 : Int32 × lm_St × lm_St → Option (Int32 × lm_St × lm_St)) (x2_61 : Int32) (s0_61 : lm_St) (s1_61 : lm_St) : Option (Int32 × lm_St × lm_St) := if x2_61 < 0 then (lm_gI (0 : Int32) 128 (some (((s0_61.2.1 0) (0 : Int32).toNatClampNeg), s0_61, s1_61))) else ((fX0_mostBehind s0_61 s1_61 x2_61).bind (fun v3 => lm_un3 v3 (fun r3 t3_0 t3_1 => lm_gI x2_61 128 (k61 ((x2_61 + (-1)), (lm_sA t3_0 0 (upd (t3_0.2.1 0) x2_61.toNatClampNeg r3)), t3_1)))))
def jX0_mostOf_46 (k7 : Int32 × lm_St × lm_St → Option (Int32 × lm_St × lm_St)) (x2_46 : Int32) (s0_46 : lm_St) (s1_46 : lm_St) : Option (Int32 × lm_St × lm_St) := k7 ((x2_46 + 1), s0_46, s1_46)
def bX0_mostOf_7 (k7 : Int32 × lm_St × lm_St → Option (Int32 × lm_St × lm_St)) (x2_7 : Int32) (s0_7 : lm_St) (s1_7 : lm_St) : Option (Int32 × lm_St × lm_St) := if (s1_7.1 0) ≤ x2_7 then (lm_lp (fun k a => bX0_mostOf_61 k a.1 a.2.1 a.2.2) 5000 ((((1 : Int32) <<< ((s1_7.1 0) &&& 31)) - (1 : Int32)), s0_7, s1_7)) else ((fX8_isIn (s1_7.1 1) x2_7).bind (fun r6 => if r6 = 0 then (jX0_mostOf_46 k7 x2_7 s0_7 s1_7) else (lm_gI (s0_7.1 0) 7 (jX0_mostOf_46 k7 x2_7 (lm_sF (lm_sA s0_7 1 (upd (s0_7.2.1 1) (s0_7.1 0).toNatClampNeg x2_7)) 0 ((s0_7.1 0) + (1 : Int32))) s1_7))))
def fX0_mostOf (s0 : lm_St) (s1 : lm_St) : Option (Int32 × lm_St × lm_St) := lm_lp (fun k a => bX0_mostOf_7 k a.1 a.2.1 a.2.2) 5000 ((0 : Int32), (lm_sF s0 0 (0 : Int32)), s1)
set_option maxHeartbeats 4000000 in
set_option maxRecDepth 100000 in
theorem hX0_mostOf (l : Launch) (G : lm_G) (q0 : Nat → Nat) (q1 : Nat → Nat) {s0 : lm_St} {s1 : lm_St} {R : Int32 × lm_St × lm_St} (hF : fX0_mostOf s0 s1 = some R) : lm_C l G yX0_mostOf wsX0_mostOf 4 [.ref (q0 0), .ref (q1 0)] (wX0_X3 G q0 q1 s0 s1) (some (.int R.1)) (wX0_X3 G q0 q1 R.2.1 R.2.2) := by
  refine lm_C.of (cc := cX0_mostOf) (maxL := 3) (ret := (some .int)) (by decide) rfl (Nat.le_of_ble_eq_true rfl) ?_
  intro p e s m below meth c A ls B hN hl
  have hx := B.1.1
  have hb := B.1.2.1
  have hown := B.1.2.2.2.1
  have hts := B.1.2.2.2.2
  have hiX0 : ∀ w ∈ wsX00, w ∈ wsX0_mostOf := by decide +kernel
  have hiX3 : ∀ w ∈ wsX30, w ∈ wsX0_mostOf := by decide +kernel
  have hl : lv_has ls 3 [(0, .ref (q0 0)), (1, .ref (q1 0))] := hl
  have L7 : ∀ (n : Nat) (x2_7 : Int32) (s0_7 : lm_St) (s1_7 : lm_St) (H : Heap) (locs : List Loc) (ls : Array Slot), lm_lp (fun k a => bX0_mostOf_7 k a.1 a.2.1 a.2.2) n (x2_7, s0_7, s1_7) = some R → lm_N G A s (wX0_X3 G q0 q1 s0_7 s1_7) H locs → lv_has ls 3 [(0, .ref (q0 0)), (1, .ref (q1 0)), (2, .int x2_7)] → W p l e (lm_rk 4) s m ([.ref (q0 0), .ref (q1 0)] : List Value).toArray below meth c H locs 0 0 (MQ below (lm_post G (wX0_X3 G q0 q1 R.2.1 R.2.2) (some (.int R.1)) A) ([.ref (q0 0), .ref (q1 0)] : List Value).toArray s 0 0 A) (F0 m 7 ls []) := by
    intro n
    induction n with
    | zero => intro x2_7 s0_7 s1_7 H locs ls hF; exact (lm_lpz hF).elim
    | succ n ih7 =>
      intro x2_7 s0_7 s1_7 H locs ls hF hN hl
      have hF : bX0_mostOf_7 (lm_lp (fun k a => bX0_mostOf_7 k a.1 a.2.1 a.2.2) n) x2_7 s0_7 s1_7 = some R := lm_lps hF
      generalize lm_lp (fun k a => bX0_mostOf_7 k a.1 a.2.1 a.2.2) n = k7 at hF ih7
      have L61 : ∀ (n : Nat) (x2_61 : Int32) (s0_61 : lm_St) (s1_61 : lm_St) (H : Heap) (locs : List Loc) (ls : Array Slot), lm_lp (fun k a => bX0_mostOf_61 k a.1 a.2.1 a.2.2) n (x2_61, s0_61, s1_61) = some R → lm_N G A s (wX0_X3 G q0 q1 s0_61 s1_61) H locs → lv_has ls 3 [(0, .ref (q0 0)), (1, .ref (q1 0)), (2, .int x2_61)] → W p l e (lm_rk 4) s m ([.ref (q0 0), .ref (q1 0)] : List Value).toArray below meth c H locs 0 0 (MQ below (lm_post G (wX0_X3 G q0 q1 R.2.1 R.2.2) (some (.int R.1)) A) ([.ref (q0 0), .ref (q1 0)] : List Value).toArray s 0 0 A) (F0 m 61 ls []) := by
        intro n
        induction n with
        | zero => intro x2_61 s0_61 s1_61 H locs ls hF; exact (lm_lpz hF).elim
        | succ n ih61 =>
          intro x2_61 s0_61 s1_61 H locs ls hF hN hl
          have hF : bX0_mostOf_61 (lm_lp (fun k a => bX0_mostOf_61 k a.1 a.2.1 a.2.2) n) x2_61 s0_61 s1_61 = some R := lm_lps hF
          generalize lm_lp (fun k a => bX0_mostOf_61 k a.1 a.2.1 a.2.2) n = k61 at hF ih61
          refine lv_iload_n hx hb dX0_mostOf_61 rfl (lv_at hl 2 rfl) ?_
          refine lv_if_lt (tgt := 83) hx hb dX0_mostOf_62 (by decide) (fun c1 => ?_) (fun c1 => ?_)
          · have hF := lm_itp c1 hF
            refine lv_aload_n hx hb dX0_mostOf_83 rfl (lv_at hl 0 rfl) ?_
            refine lm_get B hN (ci := 0) hiX0 0 rfl rfl 0 (by decide) (by decide +kernel) (v := .ref (q0 1)) rfl dX0_mostOf_84 ?_
            refine lv_iconst (v := 0) hx hb dX0_mostOf_87 (by decide) ?_
            obtain ⟨z2, hF⟩ := lm_gIe hF
            refine lm_ald B hN 1 (f := (s0_61.2.1 0)) rfl z2 dX0_mostOf_88 ?_
            cases hF
            exact lm_iret B hN dX0_mostOf_89
          · have hF := lm_itn c1 hF
            refine lv_aload_n hx hb dX0_mostOf_65 rfl (lv_at hl 0 rfl) ?_
            refine lm_get B hN (ci := 0) hiX0 0 rfl rfl 0 (by decide) (by decide +kernel) (v := .ref (q0 1)) rfl dX0_mostOf_66 ?_
            refine lv_iload_n hx hb dX0_mostOf_69 rfl (lv_at hl 2 rfl) ?_
            refine lv_aload_n hx hb dX0_mostOf_70 rfl (lv_at hl 0 rfl) ?_
            refine lv_aload_n hx hb dX0_mostOf_71 rfl (lv_at hl 1 rfl) ?_
            refine lv_iload_n hx hb dX0_mostOf_72 rfl (lv_at hl 2 rfl) ?_
            obtain ⟨⟨r3, t3_0, t3_1⟩, hc3, hF⟩ := lm_bd hF
            have hF := lm_un3E hF
            refine lm_runA B hN (lm_hrV B hN hl.1 (lm_cutA B hN) (n := 2) (As := [.ref (q1 0), .int x2_61]) (rest := [.int x2_61, .ref (q0 1)]) (hX0_mostBehind l G q0 q1 hc3) gX0_mostOf_X0_mostBehind rfl (by decide +kernel) rfl (by decide) (by decide) (ci := 0) (q0 := 0) rfl rfl rfl (Nat.le_of_ble_eq_true rfl) dX0_mostOf_73) (fun H locs hN => ?_)
            obtain ⟨z4, hF⟩ := lm_gIe hF
            refine lm_ast B hN 1 (f := (t3_0.2.1 0)) rfl z4 (wX0_X3 G q0 q1 (lm_sA t3_0 0 (upd (t3_0.2.1 0) x2_61.toNatClampNeg r3)) t3_1) (wX0_X3_r0a0 _ _ _ _ _ _) dX0_mostOf_76 (fun H locs hN => ?_)
            refine lv_iinc (v := (x2_61 + (-1))) (lv' := [(2, .int (x2_61 + (-1))), (0, .ref (q0 0)), (1, .ref (q1 0))]) hx hb dX0_mostOf_77 hl (k := 2) rfl rfl (by decide) rfl (fun ls hl => ?_)
            refine lv_goto (tgt := 61) hx hb dX0_mostOf_80 (by decide) ?_
            exact ih61 _ _ _ _ _ _ hF hN (lv_sub hl [1, 2, 0] rfl)
      have J46 : ∀ (x2_46 : Int32) (s0_46 : lm_St) (s1_46 : lm_St) (H : Heap) (locs : List Loc) (ls : Array Slot), jX0_mostOf_46 k7 x2_46 s0_46 s1_46 = some R → lm_N G A s (wX0_X3 G q0 q1 s0_46 s1_46) H locs → lv_has ls 3 [(0, .ref (q0 0)), (1, .ref (q1 0)), (2, .int x2_46)] → W p l e (lm_rk 4) s m ([.ref (q0 0), .ref (q1 0)] : List Value).toArray below meth c H locs 0 0 (MQ below (lm_post G (wX0_X3 G q0 q1 R.2.1 R.2.2) (some (.int R.1)) A) ([.ref (q0 0), .ref (q1 0)] : List Value).toArray s 0 0 A) (F0 m 46 ls []) := by
        intro x2_46 s0_46 s1_46 H locs ls hF hN hl
        refine lv_iinc (v := (x2_46 + 1)) (lv' := [(2, .int (x2_46 + 1)), (0, .ref (q0 0)), (1, .ref (q1 0))]) hx hb dX0_mostOf_46 hl (k := 2) rfl rfl (by decide) rfl (fun ls hl => ?_)
        refine lv_goto (tgt := 7) hx hb dX0_mostOf_49 (by decide) ?_
        exact ih7 _ _ _ _ _ _ hF hN (lv_sub hl [1, 2, 0] rfl)
      refine lv_iload_n hx hb dX0_mostOf_7 rfl (lv_at hl 2 rfl) ?_
      refine lv_aload_n hx hb dX0_mostOf_8 rfl (lv_at hl 1 rfl) ?_
      refine lm_get B hN (ci := 3) hiX3 3 rfl rfl 4 (by decide) (by decide +kernel) (v := .int (s1_7.1 0)) rfl dX0_mostOf_9 ?_
      refine lv_icmp_ge (tgt := 52) hx hb dX0_mostOf_12 (by decide) (fun c5 => ?_) (fun c5 => ?_)
      · have hF := lm_itp c5 hF
        refine lv_iconst (v := 1) hx hb dX0_mostOf_52 (by decide) ?_
        refine lv_aload_n hx hb dX0_mostOf_53 rfl (lv_at hl 1 rfl) ?_
        refine lm_get B hN (ci := 3) hiX3 3 rfl rfl 4 (by decide) (by decide +kernel) (v := .int (s1_7.1 0)) rfl dX0_mostOf_54 ?_
        refine lv_ishl hx hb dX0_mostOf_57 ?_
        refine lv_iconst (v := 1) hx hb dX0_mostOf_58 (by decide) ?_
        refine lv_isub hx hb dX0_mostOf_59 ?_
        refine lv_istore_n (lv' := [(2, .int (((1 : Int32) <<< ((s1_7.1 0) &&& 31)) - (1 : Int32))), (0, .ref (q0 0)), (1, .ref (q1 0))]) hx hb dX0_mostOf_60 rfl hl (by decide) rfl (fun ls hl => ?_)
        exact L61 5000 _ _ _ _ _ _ hF hN (lv_sub hl [1, 2, 0] rfl)
      · have hF := lm_itn c5 hF
        refine lv_aload_n hx hb dX0_mostOf_15 rfl (lv_at hl 1 rfl) ?_
        refine lm_get B hN (ci := 3) hiX3 3 rfl rfl 5 (by decide) (by decide +kernel) (v := .int (s1_7.1 1)) rfl dX0_mostOf_16 ?_
        refine lv_iload_n hx hb dX0_mostOf_19 rfl (lv_at hl 2 rfl) ?_
        obtain ⟨r6, hc6, hF⟩ := lm_bd hF
        refine lm_run0 B hN (lm_hrN B hN hl.1 (lm_cut0 B hN) (n := 2) (host := RX8) (As := [.int (s1_7.1 1), .int x2_7]) (rest := []) (hX8_isIn l G hc6) gX0_mostOf_X8_isIn_n28 rfl (by decide +kernel) (by decide +kernel) (by decide +kernel) (by decide +kernel) rfl (by decide) (by decide) rfl (Nat.le_of_ble_eq_true rfl) dX0_mostOf_20) (fun H locs hN => ?_)
        refine lv_if_eq (tgt := 46) hx hb dX0_mostOf_23 (by decide) (fun c7 => ?_) (fun c7 => ?_)
        · have hF := lm_itp c7 hF
          exact J46 _ _ _ _ _ _ hF hN (lv_sub hl [0, 1, 2] rfl)
        · have hF := lm_itn c7 hF
          refine lv_aload_n hx hb dX0_mostOf_26 rfl (lv_at hl 0 rfl) ?_
          refine lm_get B hN (ci := 0) hiX0 0 rfl rfl 1 (by decide) (by decide +kernel) (v := .ref (q0 2)) rfl dX0_mostOf_27 ?_
          refine lv_aload_n hx hb dX0_mostOf_30 rfl (lv_at hl 0 rfl) ?_
          refine lm_get B hN (ci := 0) hiX0 0 rfl rfl 2 (by decide) (by decide +kernel) (v := .int (s0_7.1 0)) rfl dX0_mostOf_31 ?_
          refine lv_iload_n hx hb dX0_mostOf_34 rfl (lv_at hl 2 rfl) ?_
          obtain ⟨z8, hF⟩ := lm_gIe hF
          refine lm_ast B hN 2 (f := (s0_7.2.1 1)) rfl z8 (wX0_X3 G q0 q1 (lm_sA s0_7 1 (upd (s0_7.2.1 1) (s0_7.1 0).toNatClampNeg x2_7)) s1_7) (wX0_X3_r0a1 _ _ _ _ _ _) dX0_mostOf_35 (fun H locs hN => ?_)
          refine lv_aload_n hx hb dX0_mostOf_36 rfl (lv_at hl 0 rfl) ?_
          refine lv_dup hx hb dX0_mostOf_37 rfl ?_
          refine lm_get B hN (ci := 0) hiX0 0 rfl rfl 2 (by decide) (by decide +kernel) (v := .int (s0_7.1 0)) rfl dX0_mostOf_38 ?_
          refine lv_iconst (v := 1) hx hb dX0_mostOf_41 (by decide) ?_
          refine lv_iadd hx hb dX0_mostOf_42 ?_
          refine lm_put B hN (ci := 0) hiX0 tyX0 tyX0_ok nmX0 0 rfl rfl 2 (by decide) (by decide +kernel) (by decide) (v := .int ((s0_7.1 0) + (1 : Int32))) rfl rfl (Nat.le_of_ble_eq_true rfl) (wX0_X3 G q0 q1 (lm_sF (lm_sA s0_7 1 (upd (s0_7.2.1 1) (s0_7.1 0).toNatClampNeg x2_7)) 0 ((s0_7.1 0) + (1 : Int32))) s1_7) (wX0_X3_r0f0 _ _ _ _ _ _) dX0_mostOf_43 (fun H locs hN => ?_)
          exact J46 _ _ _ _ _ _ hF hN (lv_sub hl [0, 1, 2] rfl)
  refine lv_aload_n hx hb dX0_mostOf_0 rfl (lv_at hl 0 rfl) ?_
  refine lv_iconst (v := 0) hx hb dX0_mostOf_1 (by decide) ?_
  refine lm_put B hN (ci := 0) hiX0 tyX0 tyX0_ok nmX0 0 rfl rfl 2 (by decide) (by decide +kernel) (by decide) (v := .int (0 : Int32)) rfl rfl (Nat.le_of_ble_eq_true rfl) (wX0_X3 G q0 q1 (lm_sF s0 0 (0 : Int32)) s1) (wX0_X3_r0f0 _ _ _ _ _ _) dX0_mostOf_2 (fun H locs hN => ?_)
  refine lv_iconst (v := 0) hx hb dX0_mostOf_5 (by decide) ?_
  refine lv_istore_n (lv' := [(2, .int (0 : Int32)), (0, .ref (q0 0)), (1, .ref (q1 0))]) hx hb dX0_mostOf_6 rfl hl (by decide) rfl (fun ls hl => ?_)
  exact L7 5000 _ _ _ _ _ _ hF hN (lv_sub hl [1, 2, 0] rfl)
def bX0_buyerOf_11 (k11 : Int32 × Int32 × Int32 × lm_St × lm_St → Option (Int32 × lm_St × lm_St)) (x2_11 : Int32) (x3_11 : Int32) (x4_11 : Int32) (s0_11 : lm_St) (s1_11 : lm_St) : Option (Int32 × lm_St × lm_St) := if (s0_11.1 0) ≤ x4_11 then (some ((-1 : Int32), s0_11, s1_11)) else (lm_gI x4_11 7 ((fX0_firstBuyer s0_11 s1_11 x3_11 ((s0_11.2.1 1) x4_11.toNatClampNeg)).bind (fun v3 => lm_un3 v3 (fun r3 t3_0 t3_1 => lm_gI x4_11 7 (if ((t3_0.2.1 1) x4_11.toNatClampNeg) = x2_11 then (some (r3, t3_0, t3_1)) else (k11 (x2_11, (x3_11 ||| ((1 : Int32) <<< (r3 &&& 31))), (x4_11 + 1), t3_0, t3_1)))))))
def fX0_buyerOf (s0 : lm_St) (s1 : lm_St) (x2 : Int32) : Option (Int32 × lm_St × lm_St) := (fX0_mostOf s0 s1).bind (fun v6 => lm_un3 v6 (fun r6 t6_0 t6_1 => lm_lp (fun k a => bX0_buyerOf_11 k a.1 a.2.1 a.2.2.1 a.2.2.2.1 a.2.2.2.2) 5000 (x2, (0 : Int32), (0 : Int32), t6_0, t6_1)))
set_option maxHeartbeats 4000000 in
set_option maxRecDepth 100000 in
theorem hX0_buyerOf (l : Launch) (G : lm_G) (q0 : Nat → Nat) (q1 : Nat → Nat) {s0 : lm_St} {s1 : lm_St} {x2 : Int32} {R : Int32 × lm_St × lm_St} (hF : fX0_buyerOf s0 s1 x2 = some R) : lm_C l G yX0_buyerOf wsX0_buyerOf 5 [.ref (q0 0), .ref (q1 0), .int x2] (wX0_X3 G q0 q1 s0 s1) (some (.int R.1)) (wX0_X3 G q0 q1 R.2.1 R.2.2) := by
  refine lm_C.of (cc := cX0_buyerOf) (maxL := 6) (ret := (some .int)) (by decide) rfl (Nat.le_of_ble_eq_true rfl) ?_
  intro p e s m below meth c A ls B hN hl
  have hx := B.1.1
  have hb := B.1.2.1
  have hown := B.1.2.2.2.1
  have hts := B.1.2.2.2.2
  have hiX0 : ∀ w ∈ wsX00, w ∈ wsX0_buyerOf := by decide +kernel
  have hl : lv_has ls 6 [(0, .ref (q0 0)), (1, .ref (q1 0)), (2, .int x2)] := hl
  have L11 : ∀ (n : Nat) (x2_11 : Int32) (x3_11 : Int32) (x4_11 : Int32) (s0_11 : lm_St) (s1_11 : lm_St) (H : Heap) (locs : List Loc) (ls : Array Slot), lm_lp (fun k a => bX0_buyerOf_11 k a.1 a.2.1 a.2.2.1 a.2.2.2.1 a.2.2.2.2) n (x2_11, x3_11, x4_11, s0_11, s1_11) = some R → lm_N G A s (wX0_X3 G q0 q1 s0_11 s1_11) H locs → lv_has ls 6 [(0, .ref (q0 0)), (1, .ref (q1 0)), (2, .int x2_11), (3, .int x3_11), (4, .int x4_11)] → W p l e (lm_rk 5) s m ([.ref (q0 0), .ref (q1 0), .int x2] : List Value).toArray below meth c H locs 0 0 (MQ below (lm_post G (wX0_X3 G q0 q1 R.2.1 R.2.2) (some (.int R.1)) A) ([.ref (q0 0), .ref (q1 0), .int x2] : List Value).toArray s 0 0 A) (F0 m 11 ls []) := by
    intro n
    induction n with
    | zero => intro x2_11 x3_11 x4_11 s0_11 s1_11 H locs ls hF; exact (lm_lpz hF).elim
    | succ n ih11 =>
      intro x2_11 x3_11 x4_11 s0_11 s1_11 H locs ls hF hN hl
      have hF : bX0_buyerOf_11 (lm_lp (fun k a => bX0_buyerOf_11 k a.1 a.2.1 a.2.2.1 a.2.2.2.1 a.2.2.2.2) n) x2_11 x3_11 x4_11 s0_11 s1_11 = some R := lm_lps hF
      generalize lm_lp (fun k a => bX0_buyerOf_11 k a.1 a.2.1 a.2.2.1 a.2.2.2.1 a.2.2.2.2) n = k11 at hF ih11
      refine lv_iload hx hb dX0_buyerOf_11 (lv_at hl 4 rfl) ?_
      refine lv_aload_n hx hb dX0_buyerOf_13 rfl (lv_at hl 0 rfl) ?_
      refine lm_get B hN (ci := 0) hiX0 0 rfl rfl 2 (by decide) (by decide +kernel) (v := .int (s0_11.1 0)) rfl dX0_buyerOf_14 ?_
      refine lv_icmp_ge (tgt := 62) hx hb dX0_buyerOf_17 (by decide) (fun c1 => ?_) (fun c1 => ?_)
      · have hF := lm_itp c1 hF
        refine lv_iconst (v := -1) hx hb dX0_buyerOf_62 (by decide) ?_
        cases hF
        exact lm_iret B hN dX0_buyerOf_63
      · have hF := lm_itn c1 hF
        refine lv_aload_n hx hb dX0_buyerOf_20 rfl (lv_at hl 0 rfl) ?_
        refine lv_aload_n hx hb dX0_buyerOf_21 rfl (lv_at hl 1 rfl) ?_
        refine lv_iload_n hx hb dX0_buyerOf_22 rfl (lv_at hl 3 rfl) ?_
        refine lv_aload_n hx hb dX0_buyerOf_23 rfl (lv_at hl 0 rfl) ?_
        refine lm_get B hN (ci := 0) hiX0 0 rfl rfl 1 (by decide) (by decide +kernel) (v := .ref (q0 2)) rfl dX0_buyerOf_24 ?_
        refine lv_iload hx hb dX0_buyerOf_27 (lv_at hl 4 rfl) ?_
        obtain ⟨z2, hF⟩ := lm_gIe hF
        refine lm_ald B hN 2 (f := (s0_11.2.1 1)) rfl z2 dX0_buyerOf_29 ?_
        obtain ⟨⟨r3, t3_0, t3_1⟩, hc3, hF⟩ := lm_bd hF
        have hF := lm_un3E hF
        refine lm_runA B hN (lm_hrV B hN hl.1 (lm_cutA B hN) (n := 3) (As := [.ref (q1 0), .int x3_11, .int ((s0_11.2.1 1) x4_11.toNatClampNeg)]) (rest := []) (hX0_firstBuyer l G q0 q1 hc3) gX0_buyerOf_X0_firstBuyer rfl (by decide +kernel) rfl (by decide) (by decide) (ci := 0) (q0 := 0) rfl rfl rfl (Nat.le_of_ble_eq_true rfl) dX0_buyerOf_30) (fun H locs hN => ?_)
        refine lv_istore (lv' := [(5, .int r3), (0, .ref (q0 0)), (1, .ref (q1 0)), (2, .int x2_11), (3, .int x3_11), (4, .int x4_11)]) hx hb dX0_buyerOf_33 hl (by decide) rfl (fun ls hl => ?_)
        refine lv_aload_n hx hb dX0_buyerOf_35 rfl (lv_at hl 1 rfl) ?_
        refine lm_get B hN (ci := 0) hiX0 0 rfl rfl 1 (by decide) (by decide +kernel) (v := .ref (q0 2)) rfl dX0_buyerOf_36 ?_
        refine lv_iload hx hb dX0_buyerOf_39 (lv_at hl 5 rfl) ?_
        obtain ⟨z4, hF⟩ := lm_gIe hF
        refine lm_ald B hN 2 (f := (t3_0.2.1 1)) rfl z4 dX0_buyerOf_41 ?_
        refine lv_iload_n hx hb dX0_buyerOf_42 rfl (lv_at hl 3 rfl) ?_
        refine lv_icmp_ne (tgt := 49) hx hb dX0_buyerOf_43 (by decide) (fun c5 => ?_) (fun c5 => ?_)
        · have hF := lm_itn c5 hF
          refine lv_iload_n hx hb dX0_buyerOf_49 rfl (lv_at hl 4 rfl) ?_
          refine lv_iconst (v := 1) hx hb dX0_buyerOf_50 (by decide) ?_
          refine lv_iload hx hb dX0_buyerOf_51 (lv_at hl 0 rfl) ?_
          refine lv_ishl hx hb dX0_buyerOf_53 ?_
          refine lv_ior hx hb dX0_buyerOf_54 ?_
          refine lv_istore_n (lv' := [(3, .int (x3_11 ||| ((1 : Int32) <<< (r3 &&& 31)))), (5, .int r3), (0, .ref (q0 0)), (1, .ref (q1 0)), (2, .int x2_11), (4, .int x4_11)]) hx hb dX0_buyerOf_55 rfl hl (by decide) rfl (fun ls hl => ?_)
          refine lv_iinc (v := (x4_11 + 1)) (lv' := [(4, .int (x4_11 + 1)), (3, .int (x3_11 ||| ((1 : Int32) <<< (r3 &&& 31)))), (5, .int r3), (0, .ref (q0 0)), (1, .ref (q1 0)), (2, .int x2_11)]) hx hb dX0_buyerOf_56 hl (k := 5) rfl rfl (by decide) rfl (fun ls hl => ?_)
          refine lv_goto (tgt := 11) hx hb dX0_buyerOf_59 (by decide) ?_
          exact ih11 _ _ _ _ _ _ _ _ hF hN (lv_sub hl [3, 4, 5, 1, 0] rfl)
        · have hF := lm_itp c5 hF
          refine lv_iload hx hb dX0_buyerOf_46 (lv_at hl 0 rfl) ?_
          cases hF
          exact lm_iret B hN dX0_buyerOf_48
  refine lv_aload_n hx hb dX0_buyerOf_0 rfl (lv_at hl 0 rfl) ?_
  refine lv_aload_n hx hb dX0_buyerOf_1 rfl (lv_at hl 1 rfl) ?_
  obtain ⟨⟨r6, t6_0, t6_1⟩, hc6, hF⟩ := lm_bd hF
  have hF := lm_un3E hF
  refine lm_runA B hN (lm_hrV B hN hl.1 (lm_cutA B hN) (n := 1) (As := [.ref (q1 0)]) (rest := []) (hX0_mostOf l G q0 q1 hc6) gX0_buyerOf_X0_mostOf rfl (by decide +kernel) rfl (by decide) (by decide) (ci := 0) (q0 := 0) rfl rfl rfl (Nat.le_of_ble_eq_true rfl) dX0_buyerOf_2) (fun H locs hN => ?_)
  refine lv_pop hx hb dX0_buyerOf_5 rfl ?_
  refine lv_iconst (v := 0) hx hb dX0_buyerOf_6 (by decide) ?_
  refine lv_istore_n (lv' := [(3, .int (0 : Int32)), (0, .ref (q0 0)), (1, .ref (q1 0)), (2, .int x2)]) hx hb dX0_buyerOf_7 rfl hl (by decide) rfl (fun ls hl => ?_)
  refine lv_iconst (v := 0) hx hb dX0_buyerOf_8 (by decide) ?_
  refine lv_istore (lv' := [(4, .int (0 : Int32)), (3, .int (0 : Int32)), (0, .ref (q0 0)), (1, .ref (q1 0)), (2, .int x2)]) hx hb dX0_buyerOf_9 hl (by decide) rfl (fun ls hl => ?_)
  exact L11 5000 _ _ _ _ _ _ _ _ hF hN (lv_sub hl [2, 3, 4, 1, 0] rfl)
