def jX4_keepIfBetter_32 (x1_32 : Int32) (x2_32 : Int32) (x3_32 : Int32) (s0_32 : lm_St) : Option (lm_St) := some (lm_sF (lm_sF (lm_sF s0_32 0 x3_32) 1 x2_32) 2 x1_32)
def fX4_keepIfBetter (s0 : lm_St) (x1 : Int32) (x2 : Int32) (x3 : Int32) : Option (lm_St) := if (s0.1 2) = (-1 : Int32) then (jX4_keepIfBetter_32 x1 x2 x3 s0) else (if x3 < (s0.1 0) then (jX4_keepIfBetter_32 x1 x2 x3 s0) else (if x3 = (s0.1 0) then (if (s0.1 1) ≤ x2 then (some s0) else (jX4_keepIfBetter_32 x1 x2 x3 s0)) else (some s0)))
set_option maxHeartbeats 4000000 in
set_option maxRecDepth 100000 in
theorem hX4_keepIfBetter (l : Launch) (G : lm_G) (q0 : Nat → Nat) {s0 : lm_St} {x1 : Int32} {x2 : Int32} {x3 : Int32} {R : lm_St} (hF : fX4_keepIfBetter s0 x1 x2 x3 = some R) : lm_C l G yX4_keepIfBetter wsX4_keepIfBetter 1 [.ref (q0 0), .int x1, .int x2, .int x3] (wX4 G q0 s0) none (wX4 G q0 R) := by
  refine lm_C.of (cc := cX4_keepIfBetter) (maxL := 4) (ret := none) (by decide) rfl (Nat.le_of_ble_eq_true rfl) ?_
  intro p e s m below meth c A ls B hN hl
  have hx := B.1.1
  have hb := B.1.2.1
  have hown := B.1.2.2.2.1
  have hts := B.1.2.2.2.2
  have hiX4 : ∀ w ∈ wsX40, w ∈ wsX4_keepIfBetter := by decide +kernel
  have hl : lv_has ls 4 [(0, .ref (q0 0)), (1, .int x1), (2, .int x2), (3, .int x3)] := hl
  have J32 : ∀ (x1_32 : Int32) (x2_32 : Int32) (x3_32 : Int32) (s0_32 : lm_St) (H : Heap) (locs : List Loc) (ls : Array Slot), jX4_keepIfBetter_32 x1_32 x2_32 x3_32 s0_32 = some R → lm_N G A s (wX4 G q0 s0_32) H locs → lv_has ls 4 [(0, .ref (q0 0)), (1, .int x1_32), (2, .int x2_32), (3, .int x3_32)] → W p l e (lm_rk 1) s m ([.ref (q0 0), .int x1, .int x2, .int x3] : List Value).toArray below meth c H locs 0 0 (MQ below (lm_post G (wX4 G q0 R) none A) ([.ref (q0 0), .int x1, .int x2, .int x3] : List Value).toArray s 0 0 A) (F0 m 32 ls []) := by
    intro x1_32 x2_32 x3_32 s0_32 H locs ls hF hN hl
    refine lv_aload_n hx hb dX4_keepIfBetter_32 rfl (lv_at hl 0 rfl) ?_
    refine lv_iload_n hx hb dX4_keepIfBetter_33 rfl (lv_at hl 3 rfl) ?_
    refine lm_put B hN (ci := 4) hiX4 tyX4 tyX4_ok nmX4 0 rfl rfl 0 (by decide) (by decide +kernel) (by decide) (v := .int x3_32) rfl rfl (Nat.le_of_ble_eq_true rfl) (wX4 G q0 (lm_sF s0_32 0 x3_32)) (wX4_r0f0 _ _ _ _) dX4_keepIfBetter_34 (fun H locs hN => ?_)
    refine lv_aload_n hx hb dX4_keepIfBetter_37 rfl (lv_at hl 0 rfl) ?_
    refine lv_iload_n hx hb dX4_keepIfBetter_38 rfl (lv_at hl 2 rfl) ?_
    refine lm_put B hN (ci := 4) hiX4 tyX4 tyX4_ok nmX4 0 rfl rfl 1 (by decide) (by decide +kernel) (by decide) (v := .int x2_32) rfl rfl (Nat.le_of_ble_eq_true rfl) (wX4 G q0 (lm_sF (lm_sF s0_32 0 x3_32) 1 x2_32)) (wX4_r0f1 _ _ _ _) dX4_keepIfBetter_39 (fun H locs hN => ?_)
    refine lv_aload_n hx hb dX4_keepIfBetter_42 rfl (lv_at hl 0 rfl) ?_
    refine lv_iload_n hx hb dX4_keepIfBetter_43 rfl (lv_at hl 1 rfl) ?_
    refine lm_put B hN (ci := 4) hiX4 tyX4 tyX4_ok nmX4 0 rfl rfl 2 (by decide) (by decide +kernel) (by decide) (v := .int x1_32) rfl rfl (Nat.le_of_ble_eq_true rfl) (wX4 G q0 (lm_sF (lm_sF (lm_sF s0_32 0 x3_32) 1 x2_32) 2 x1_32)) (wX4_r0f2 _ _ _ _) dX4_keepIfBetter_44 (fun H locs hN => ?_)
    cases hF
    exact lm_vret B hN dX4_keepIfBetter_47
  refine lv_aload_n hx hb dX4_keepIfBetter_0 rfl (lv_at hl 0 rfl) ?_
  refine lm_get B hN (ci := 4) hiX4 0 rfl rfl 2 (by decide) (by decide +kernel) (v := .int (s0.1 2)) rfl dX4_keepIfBetter_1 ?_
  refine lv_iconst (v := -1) hx hb dX4_keepIfBetter_4 (by decide) ?_
  refine lv_icmp_eq (tgt := 32) hx hb dX4_keepIfBetter_5 (by decide) (fun c1 => ?_) (fun c1 => ?_)
  · have hF := lm_itp c1 hF
    exact J32 _ _ _ _ _ _ _ hF hN (lv_sub hl [0, 1, 2, 3] rfl)
  · have hF := lm_itn c1 hF
    refine lv_iload_n hx hb dX4_keepIfBetter_8 rfl (lv_at hl 3 rfl) ?_
    refine lv_aload_n hx hb dX4_keepIfBetter_9 rfl (lv_at hl 0 rfl) ?_
    refine lm_get B hN (ci := 4) hiX4 0 rfl rfl 0 (by decide) (by decide +kernel) (v := .int (s0.1 0)) rfl dX4_keepIfBetter_10 ?_
    refine lv_icmp_lt (tgt := 32) hx hb dX4_keepIfBetter_13 (by decide) (fun c2 => ?_) (fun c2 => ?_)
    · have hF := lm_itp c2 hF
      exact J32 _ _ _ _ _ _ _ hF hN (lv_sub hl [0, 1, 2, 3] rfl)
    · have hF := lm_itn c2 hF
      refine lv_iload_n hx hb dX4_keepIfBetter_16 rfl (lv_at hl 3 rfl) ?_
      refine lv_aload_n hx hb dX4_keepIfBetter_17 rfl (lv_at hl 0 rfl) ?_
      refine lm_get B hN (ci := 4) hiX4 0 rfl rfl 0 (by decide) (by decide +kernel) (v := .int (s0.1 0)) rfl dX4_keepIfBetter_18 ?_
      refine lv_icmp_ne (tgt := 47) hx hb dX4_keepIfBetter_21 (by decide) (fun c3 => ?_) (fun c3 => ?_)
      · have hF := lm_itn c3 hF
        cases hF
        exact lm_vret B hN dX4_keepIfBetter_47
      · have hF := lm_itp c3 hF
        refine lv_iload_n hx hb dX4_keepIfBetter_24 rfl (lv_at hl 2 rfl) ?_
        refine lv_aload_n hx hb dX4_keepIfBetter_25 rfl (lv_at hl 0 rfl) ?_
        refine lm_get B hN (ci := 4) hiX4 0 rfl rfl 1 (by decide) (by decide +kernel) (v := .int (s0.1 1)) rfl dX4_keepIfBetter_26 ?_
        refine lv_icmp_ge (tgt := 47) hx hb dX4_keepIfBetter_29 (by decide) (fun c4 => ?_) (fun c4 => ?_)
        · have hF := lm_itp c4 hF
          cases hF
          exact lm_vret B hN dX4_keepIfBetter_47
        · have hF := lm_itn c4 hF
          exact J32 _ _ _ _ _ _ _ hF hN (lv_sub hl [0, 1, 2, 3] rfl)
def jX4_search_62 (k17 : Int32 × lm_St × lm_St → Option (lm_St × lm_St)) (x2_62 : Int32) (s0_62 : lm_St) (s1_62 : lm_St) : Option (lm_St × lm_St) := k17 ((x2_62 + 1), s0_62, s1_62)
def bX4_search_17 (k17 : Int32 × lm_St × lm_St → Option (lm_St × lm_St)) (x2_17 : Int32) (s0_17 : lm_St) (s1_17 : lm_St) : Option (lm_St × lm_St) := if ((1 : Int32) <<< ((s1_17.1 0) &&& 31)) ≤ x2_17 then (some (s0_17, s1_17)) else ((fX3_worthOf s1_17 x2_17).bind (fun v2 => lm_un2 v2 (fun r2 t2_0 => if (x2_17 &&& (t2_0.1 1)) = 0 then (if r2 < (t2_0.1 2) then (jX4_search_62 k17 x2_17 s0_17 t2_0) else ((fX3_missedOf t2_0 x2_17 (0 : Int32)).bind (fun v5 => lm_un2 v5 (fun r5 t5_0 => (fX4_keepIfBetter s0_17 x2_17 r2 r5).bind (fun t6_0 => jX4_search_62 k17 x2_17 t6_0 t5_0))))) else (jX4_search_62 k17 x2_17 s0_17 t2_0))))
def fX4_search (s0 : lm_St) (s1 : lm_St) : Option (lm_St × lm_St) := lm_lp (fun k a => bX4_search_17 k a.1 a.2.1 a.2.2) 5000 ((0 : Int32), (lm_sF (lm_sF (lm_sF s0 0 (-1 : Int32)) 1 (-1 : Int32)) 2 (-1 : Int32)), s1)
set_option maxHeartbeats 4000000 in
set_option maxRecDepth 100000 in
theorem hX4_search (l : Launch) (G : lm_G) (q0 : Nat → Nat) (q1 : Nat → Nat) {s0 : lm_St} {s1 : lm_St} {R : lm_St × lm_St} (hF : fX4_search s0 s1 = some R) : lm_C l G yX4_search wsX4_search 5 [.ref (q0 0), .ref (q1 0)] (wX4_X3 G q0 q1 s0 s1) none (wX4_X3 G q0 q1 R.1 R.2) := by
  refine lm_C.of (cc := cX4_search) (maxL := 4) (ret := none) (by decide) rfl (Nat.le_of_ble_eq_true rfl) ?_
  intro p e s m below meth c A ls B hN hl
  have hx := B.1.1
  have hb := B.1.2.1
  have hown := B.1.2.2.2.1
  have hts := B.1.2.2.2.2
  have hiX3 : ∀ w ∈ wsX30, w ∈ wsX4_search := by decide +kernel
  have hiX4 : ∀ w ∈ wsX40, w ∈ wsX4_search := by decide +kernel
  have hl : lv_has ls 4 [(0, .ref (q0 0)), (1, .ref (q1 0))] := hl
  have L17 : ∀ (n : Nat) (x2_17 : Int32) (s0_17 : lm_St) (s1_17 : lm_St) (H : Heap) (locs : List Loc) (ls : Array Slot), lm_lp (fun k a => bX4_search_17 k a.1 a.2.1 a.2.2) n (x2_17, s0_17, s1_17) = some R → lm_N G A s (wX4_X3 G q0 q1 s0_17 s1_17) H locs → lv_has ls 4 [(0, .ref (q0 0)), (1, .ref (q1 0)), (2, .int x2_17)] → W p l e (lm_rk 5) s m ([.ref (q0 0), .ref (q1 0)] : List Value).toArray below meth c H locs 0 0 (MQ below (lm_post G (wX4_X3 G q0 q1 R.1 R.2) none A) ([.ref (q0 0), .ref (q1 0)] : List Value).toArray s 0 0 A) (F0 m 17 ls []) := by
    intro n
    induction n with
    | zero => intro x2_17 s0_17 s1_17 H locs ls hF; exact (lm_lpz hF).elim
    | succ n ih17 =>
      intro x2_17 s0_17 s1_17 H locs ls hF hN hl
      have hF : bX4_search_17 (lm_lp (fun k a => bX4_search_17 k a.1 a.2.1 a.2.2) n) x2_17 s0_17 s1_17 = some R := lm_lps hF
      generalize lm_lp (fun k a => bX4_search_17 k a.1 a.2.1 a.2.2) n = k17 at hF ih17
      have J62 : ∀ (x2_62 : Int32) (s0_62 : lm_St) (s1_62 : lm_St) (H : Heap) (locs : List Loc) (ls : Array Slot), jX4_search_62 k17 x2_62 s0_62 s1_62 = some R → lm_N G A s (wX4_X3 G q0 q1 s0_62 s1_62) H locs → lv_has ls 4 [(0, .ref (q0 0)), (1, .ref (q1 0)), (2, .int x2_62)] → W p l e (lm_rk 5) s m ([.ref (q0 0), .ref (q1 0)] : List Value).toArray below meth c H locs 0 0 (MQ below (lm_post G (wX4_X3 G q0 q1 R.1 R.2) none A) ([.ref (q0 0), .ref (q1 0)] : List Value).toArray s 0 0 A) (F0 m 62 ls []) := by
        intro x2_62 s0_62 s1_62 H locs ls hF hN hl
        refine lv_iinc (v := (x2_62 + 1)) (lv' := [(2, .int (x2_62 + 1)), (0, .ref (q0 0)), (1, .ref (q1 0))]) hx hb dX4_search_62 hl (k := 2) rfl rfl (by decide) rfl (fun ls hl => ?_)
        refine lv_goto (tgt := 17) hx hb dX4_search_65 (by decide) ?_
        exact ih17 _ _ _ _ _ _ hF hN (lv_sub hl [1, 2, 0] rfl)
      refine lv_iload_n hx hb dX4_search_17 rfl (lv_at hl 2 rfl) ?_
      refine lv_iconst (v := 1) hx hb dX4_search_18 (by decide) ?_
      refine lv_aload_n hx hb dX4_search_19 rfl (lv_at hl 1 rfl) ?_
      refine lm_get B hN (ci := 3) hiX3 1 rfl rfl 4 (by decide) (by decide +kernel) (v := .int (s1_17.1 0)) rfl dX4_search_20 ?_
      refine lv_ishl hx hb dX4_search_23 ?_
      refine lv_icmp_ge (tgt := 68) hx hb dX4_search_24 (by decide) (fun c1 => ?_) (fun c1 => ?_)
      · have hF := lm_itp c1 hF
        cases hF
        exact lm_vret B hN dX4_search_68
      · have hF := lm_itn c1 hF
        refine lv_aload_n hx hb dX4_search_27 rfl (lv_at hl 1 rfl) ?_
        refine lv_iload_n hx hb dX4_search_28 rfl (lv_at hl 2 rfl) ?_
        obtain ⟨⟨r2, t2_0⟩, hc2, hF⟩ := lm_bd hF
        have hF := lm_un2E hF
        refine lm_run B hN (kp_wX4_X3_1 _ _ _ _ _) (lm_hrV B hN hl.1 (lm_cutP B hN (kp_wX4_X3_1 _ _ _ _ _)) (n := 1) (As := [.int x2_17]) (rest := []) (hX3_worthOf l G q1 hc2) gX4_search_X3_worthOf rfl (by decide +kernel) rfl (by decide) (by decide) (ci := 3) (q0 := 0) rfl rfl rfl (Nat.le_of_ble_eq_true rfl) dX4_search_29) (wX4_X3 G q0 q1 s0_17 t2_0) (kq_wX4_X3_1 _ _ _ _ _) (fun H locs hN => ?_)
        refine lv_istore_n (lv' := [(3, .int r2), (0, .ref (q0 0)), (1, .ref (q1 0)), (2, .int x2_17)]) hx hb dX4_search_32 rfl hl (by decide) rfl (fun ls hl => ?_)
        refine lv_iload_n hx hb dX4_search_33 rfl (lv_at hl 3 rfl) ?_
        refine lv_aload_n hx hb dX4_search_34 rfl (lv_at hl 2 rfl) ?_
        refine lm_get B hN (ci := 3) hiX3 1 rfl rfl 5 (by decide) (by decide +kernel) (v := .int (t2_0.1 1)) rfl dX4_search_35 ?_
        refine lv_iand hx hb dX4_search_38 ?_
        refine lv_if_ne (tgt := 62) hx hb dX4_search_39 (by decide) (fun c3 => ?_) (fun c3 => ?_)
        · have hF := lm_itn c3 hF
          exact J62 _ _ _ _ _ _ hF hN (lv_sub hl [1, 2, 3] rfl)
        · have hF := lm_itp c3 hF
          refine lv_iload_n hx hb dX4_search_42 rfl (lv_at hl 0 rfl) ?_
          refine lv_aload_n hx hb dX4_search_43 rfl (lv_at hl 2 rfl) ?_
          refine lm_get B hN (ci := 3) hiX3 1 rfl rfl 6 (by decide) (by decide +kernel) (v := .int (t2_0.1 2)) rfl dX4_search_44 ?_
          refine lv_icmp_lt (tgt := 62) hx hb dX4_search_47 (by decide) (fun c4 => ?_) (fun c4 => ?_)
          · have hF := lm_itp c4 hF
            exact J62 _ _ _ _ _ _ hF hN (lv_sub hl [1, 2, 3] rfl)
          · have hF := lm_itn c4 hF
            refine lv_aload_n hx hb dX4_search_50 rfl (lv_at hl 1 rfl) ?_
            refine lv_iload_n hx hb dX4_search_51 rfl (lv_at hl 3 rfl) ?_
            refine lv_iload_n hx hb dX4_search_52 rfl (lv_at hl 0 rfl) ?_
            refine lv_aload_n hx hb dX4_search_53 rfl (lv_at hl 2 rfl) ?_
            refine lv_iload_n hx hb dX4_search_54 rfl (lv_at hl 3 rfl) ?_
            refine lv_iconst (v := 0) hx hb dX4_search_55 (by decide) ?_
            obtain ⟨⟨r5, t5_0⟩, hc5, hF⟩ := lm_bd hF
            have hF := lm_un2E hF
            refine lm_run B hN (kp_wX4_X3_1 _ _ _ _ _) (lm_hrV B hN hl.1 (lm_cutP B hN (kp_wX4_X3_1 _ _ _ _ _)) (n := 2) (As := [.int x2_17, .int (0 : Int32)]) (rest := [.int r2, .int x2_17, .ref (q0 0)]) (hX3_missedOf l G q1 hc5) gX4_search_X3_missedOf rfl (by decide +kernel) rfl (by decide) (by decide) (ci := 3) (q0 := 0) rfl rfl rfl (Nat.le_of_ble_eq_true rfl) dX4_search_56) (wX4_X3 G q0 q1 s0_17 t5_0) (kq_wX4_X3_1 _ _ _ _ _) (fun H locs hN => ?_)
            obtain ⟨t6_0, hc6, hF⟩ := lm_bd hF
            refine lm_run B hN (kp_wX4_X3_0 _ _ _ _ _) (lm_hrV B hN hl.1 (lm_cutP B hN (kp_wX4_X3_0 _ _ _ _ _)) (n := 3) (As := [.int x2_17, .int r2, .int r5]) (rest := []) (hX4_keepIfBetter l G q0 hc6) gX4_search_X4_keepIfBetter rfl (by decide +kernel) rfl (by decide) (by decide) (ci := 4) (q0 := 0) rfl rfl rfl (Nat.le_of_ble_eq_true rfl) dX4_search_59) (wX4_X3 G q0 q1 t6_0 t5_0) (kq_wX4_X3_0 _ _ _ _ _) (fun H locs hN => ?_)
            exact J62 _ _ _ _ _ _ hF hN (lv_sub hl [1, 2, 3] rfl)
  refine lv_aload_n hx hb dX4_search_0 rfl (lv_at hl 0 rfl) ?_
  refine lv_iconst (v := -1) hx hb dX4_search_1 (by decide) ?_
  refine lm_put B hN (ci := 4) hiX4 tyX4 tyX4_ok nmX4 0 rfl rfl 0 (by decide) (by decide +kernel) (by decide) (v := .int (-1 : Int32)) rfl rfl (Nat.le_of_ble_eq_true rfl) (wX4_X3 G q0 q1 (lm_sF s0 0 (-1 : Int32)) s1) (wX4_X3_r0f0 _ _ _ _ _ _) dX4_search_2 (fun H locs hN => ?_)
  refine lv_aload_n hx hb dX4_search_5 rfl (lv_at hl 0 rfl) ?_
  refine lv_iconst (v := -1) hx hb dX4_search_6 (by decide) ?_
  refine lm_put B hN (ci := 4) hiX4 tyX4 tyX4_ok nmX4 0 rfl rfl 1 (by decide) (by decide +kernel) (by decide) (v := .int (-1 : Int32)) rfl rfl (Nat.le_of_ble_eq_true rfl) (wX4_X3 G q0 q1 (lm_sF (lm_sF s0 0 (-1 : Int32)) 1 (-1 : Int32)) s1) (wX4_X3_r0f1 _ _ _ _ _ _) dX4_search_7 (fun H locs hN => ?_)
  refine lv_aload_n hx hb dX4_search_10 rfl (lv_at hl 0 rfl) ?_
  refine lv_iconst (v := -1) hx hb dX4_search_11 (by decide) ?_
  refine lm_put B hN (ci := 4) hiX4 tyX4 tyX4_ok nmX4 0 rfl rfl 2 (by decide) (by decide +kernel) (by decide) (v := .int (-1 : Int32)) rfl rfl (Nat.le_of_ble_eq_true rfl) (wX4_X3 G q0 q1 (lm_sF (lm_sF (lm_sF s0 0 (-1 : Int32)) 1 (-1 : Int32)) 2 (-1 : Int32)) s1) (wX4_X3_r0f2 _ _ _ _ _ _) dX4_search_12 (fun H locs hN => ?_)
  refine lv_iconst (v := 0) hx hb dX4_search_15 (by decide) ?_
  refine lv_istore_n (lv' := [(2, .int (0 : Int32)), (0, .ref (q0 0)), (1, .ref (q1 0))]) hx hb dX4_search_16 rfl hl (by decide) rfl (fun ls hl => ?_)
  exact L17 5000 _ _ _ _ _ _ hF hN (lv_sub hl [1, 2, 0] rfl)
