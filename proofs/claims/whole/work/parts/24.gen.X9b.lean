def jX9_as_60 (x1_60 : Int32) (y0_60 : Int32) (s0_60 : lm_St) : Option (Int32 × lm_St) := if y0_60 = 0 then (some ((-1 : Int32), s0_60)) else (some (x1_60, s0_60))
def jX9_as_55 (x1_55 : Int32) (s0_55 : lm_St) : Option (Int32 × lm_St) := jX9_as_60 x1_55 (1 : Int32) s0_55
def jX9_as_59 (x1_59 : Int32) (s0_59 : lm_St) : Option (Int32 × lm_St) := jX9_as_60 x1_59 (0 : Int32) s0_59
def fX9_as (s0 : lm_St) (x1 : Int32) (x2 : Int32) : Option (Int32 × lm_St) := (fX9_isThing s0 x1).bind (fun v2 => lm_un2 v2 (fun r2 t2_0 => if r2 = 0 then (some ((-101 : Int32), t2_0)) else ((fX9_in x2.toInt64 (0 : Int64) (4 : Int64)).bind (fun r4 => if r4 = 0 then (some ((-102 : Int32), t2_0)) else (if x2 = 0 then (jX9_as_55 x1 t2_0) else (lm_gI x1 7 (if x2 = ((t2_0.2.1 1) x1.toNatClampNeg) then (jX9_as_55 x1 t2_0) else (if x2 = (1 : Int32) then (lm_gI x1 7 (if ((t2_0.2.1 1) x1.toNatClampNeg) = (4 : Int32) then (jX9_as_55 x1 t2_0) else (jX9_as_59 x1 t2_0))) else (jX9_as_59 x1 t2_0)))))))))
set_option maxHeartbeats 4000000 in
set_option maxRecDepth 100000 in
theorem hX9_as (l : Launch) (G : lm_G) (q0 : Nat → Nat) {s0 : lm_St} {x1 : Int32} {x2 : Int32} {R : Int32 × lm_St} (hF : fX9_as s0 x1 x2 = some R) : lm_C l G yX9_as wsX9_as 3 [.ref (q0 0), .int x1, .int x2] (wX9 G q0 s0) (some (.int R.1)) (wX9 G q0 R.2) := by
  refine lm_C.of (cc := cX9_as) (maxL := 4) (ret := (some .int)) (by decide) rfl (Nat.le_of_ble_eq_true rfl) ?_
  intro p e s m below meth c A ls B hN hl
  have hx := B.1.1
  have hb := B.1.2.1
  have hown := B.1.2.2.2.1
  have hts := B.1.2.2.2.2
  have hiX9 : ∀ w ∈ wsX90, w ∈ wsX9_as := by decide +kernel
  have hl : lv_has ls 4 [(0, .ref (q0 0)), (1, .int x1), (2, .int x2)] := hl
  have J60 : ∀ (x1_60 : Int32) (y0_60 : Int32) (s0_60 : lm_St) (H : Heap) (locs : List Loc) (ls : Array Slot), jX9_as_60 x1_60 y0_60 s0_60 = some R → lm_N G A s (wX9 G q0 s0_60) H locs → lv_has ls 4 [(1, .int x1_60)] → W p l e (lm_rk 3) s m ([.ref (q0 0), .int x1, .int x2] : List Value).toArray below meth c H locs 0 0 (MQ below (lm_post G (wX9 G q0 R.2) (some (.int R.1)) A) ([.ref (q0 0), .int x1, .int x2] : List Value).toArray s 0 0 A) (F0 m 60 ls [.int y0_60]) := by
    intro x1_60 y0_60 s0_60 H locs ls hF hN hl
    refine lv_istore_n (lv' := [(3, .int y0_60), (1, .int x1_60)]) hx hb dX9_as_60 rfl hl (by decide) rfl (fun ls hl => ?_)
    refine lv_iload_n hx hb dX9_as_61 rfl (lv_at hl 0 rfl) ?_
    refine lv_if_eq (tgt := 69) hx hb dX9_as_62 (by decide) (fun c1 => ?_) (fun c1 => ?_)
    · have hF := lm_itp c1 hF
      refine lv_iconst (v := -1) hx hb dX9_as_69 (by decide) ?_
      cases hF
      exact lm_iret B hN dX9_as_70
    · have hF := lm_itn c1 hF
      refine lv_iload_n hx hb dX9_as_65 rfl (lv_at hl 1 rfl) ?_
      refine lv_goto (tgt := 70) hx hb dX9_as_66 (by decide) ?_
      cases hF
      exact lm_iret B hN dX9_as_70
  have J55 : ∀ (x1_55 : Int32) (s0_55 : lm_St) (H : Heap) (locs : List Loc) (ls : Array Slot), jX9_as_55 x1_55 s0_55 = some R → lm_N G A s (wX9 G q0 s0_55) H locs → lv_has ls 4 [(1, .int x1_55)] → W p l e (lm_rk 3) s m ([.ref (q0 0), .int x1, .int x2] : List Value).toArray below meth c H locs 0 0 (MQ below (lm_post G (wX9 G q0 R.2) (some (.int R.1)) A) ([.ref (q0 0), .int x1, .int x2] : List Value).toArray s 0 0 A) (F0 m 55 ls []) := by
    intro x1_55 s0_55 H locs ls hF hN hl
    refine lv_iconst (v := 1) hx hb dX9_as_55 (by decide) ?_
    refine lv_goto (tgt := 60) hx hb dX9_as_56 (by decide) ?_
    exact J60 _ _ _ _ _ _ hF hN (lv_sub hl [0] rfl)
  have J59 : ∀ (x1_59 : Int32) (s0_59 : lm_St) (H : Heap) (locs : List Loc) (ls : Array Slot), jX9_as_59 x1_59 s0_59 = some R → lm_N G A s (wX9 G q0 s0_59) H locs → lv_has ls 4 [(1, .int x1_59)] → W p l e (lm_rk 3) s m ([.ref (q0 0), .int x1, .int x2] : List Value).toArray below meth c H locs 0 0 (MQ below (lm_post G (wX9 G q0 R.2) (some (.int R.1)) A) ([.ref (q0 0), .int x1, .int x2] : List Value).toArray s 0 0 A) (F0 m 59 ls []) := by
    intro x1_59 s0_59 H locs ls hF hN hl
    refine lv_iconst (v := 0) hx hb dX9_as_59 (by decide) ?_
    exact J60 _ _ _ _ _ _ hF hN (lv_sub hl [0] rfl)
  refine lv_aload_n hx hb dX9_as_0 rfl (lv_at hl 0 rfl) ?_
  refine lv_iload_n hx hb dX9_as_1 rfl (lv_at hl 1 rfl) ?_
  obtain ⟨⟨r2, t2_0⟩, hc2, hF⟩ := lm_bd hF
  have hF := lm_un2E hF
  refine lm_runA B hN (lm_hrV B hN hl.1 (lm_cutA B hN) (n := 1) (As := [.int x1]) (rest := []) (hX9_isThing l G q0 hc2) gX9_as_X9_isThing rfl (by decide +kernel) rfl (by decide) (by decide) (ci := 9) (q0 := 0) rfl rfl rfl (Nat.le_of_ble_eq_true rfl) dX9_as_2) (fun H locs hN => ?_)
  refine lv_if_ne (tgt := 11) hx hb dX9_as_5 (by decide) (fun c3 => ?_) (fun c3 => ?_)
  · have hF := lm_itn c3 hF
    refine lv_iload_n hx hb dX9_as_11 rfl (lv_at hl 2 rfl) ?_
    refine lv_i2l hx hb dX9_as_12 rfl ?_
    refine lv_lconst (v := 0) hx hb dX9_as_13 (by decide) ?_
    refine lv_ldc2 (v := 4) hx hb hown (hts (.constantLong RX9 149 (4)) (by decide +kernel)) dX9_as_14 ?_
    obtain ⟨r4, hc4, hF⟩ := lm_bd hF
    refine lm_run0 B hN (lm_hrT B hN hl.1 (lm_cut0 B hN) (n := 3) (As := [.long x2.toInt64, .long (0 : Int64), .long (4 : Int64)]) (rest := []) (hX9_in l G hc4) gX9_as_X9_in rfl (by decide +kernel) rfl (by decide) (by decide) rfl (Nat.le_of_ble_eq_true rfl) dX9_as_17) (fun H locs hN => ?_)
    refine lv_if_ne (tgt := 26) hx hb dX9_as_20 (by decide) (fun c5 => ?_) (fun c5 => ?_)
    · have hF := lm_itn c5 hF
      refine lv_iload_n hx hb dX9_as_26 rfl (lv_at hl 2 rfl) ?_
      refine lv_if_eq (tgt := 55) hx hb dX9_as_27 (by decide) (fun c6 => ?_) (fun c6 => ?_)
      · have hF := lm_itp c6 hF
        exact J55 _ _ _ _ _ hF hN (lv_sub hl [1] rfl)
      · have hF := lm_itn c6 hF
        refine lv_iload_n hx hb dX9_as_30 rfl (lv_at hl 2 rfl) ?_
        refine lv_aload_n hx hb dX9_as_31 rfl (lv_at hl 0 rfl) ?_
        refine lm_get B hN (ci := 9) hiX9 0 rfl rfl 8 (by decide) (by decide +kernel) (v := .ref (q0 2)) rfl dX9_as_32 ?_
        refine lv_iload_n hx hb dX9_as_35 rfl (lv_at hl 1 rfl) ?_
        obtain ⟨z7, hF⟩ := lm_gIe hF
        refine lm_ald B hN 2 (f := (t2_0.2.1 1)) rfl z7 dX9_as_36 ?_
        refine lv_icmp_eq (tgt := 55) hx hb dX9_as_37 (by decide) (fun c8 => ?_) (fun c8 => ?_)
        · have hF := lm_itp c8 hF
          exact J55 _ _ _ _ _ hF hN (lv_sub hl [1] rfl)
        · have hF := lm_itn c8 hF
          refine lv_iload_n hx hb dX9_as_40 rfl (lv_at hl 2 rfl) ?_
          refine lv_iconst (v := 1) hx hb dX9_as_41 (by decide) ?_
          refine lv_icmp_ne (tgt := 59) hx hb dX9_as_42 (by decide) (fun c9 => ?_) (fun c9 => ?_)
          · have hF := lm_itn c9 hF
            exact J59 _ _ _ _ _ hF hN (lv_sub hl [1] rfl)
          · have hF := lm_itp c9 hF
            refine lv_aload_n hx hb dX9_as_45 rfl (lv_at hl 0 rfl) ?_
            refine lm_get B hN (ci := 9) hiX9 0 rfl rfl 8 (by decide) (by decide +kernel) (v := .ref (q0 2)) rfl dX9_as_46 ?_
            refine lv_iload_n hx hb dX9_as_49 rfl (lv_at hl 1 rfl) ?_
            obtain ⟨z10, hF⟩ := lm_gIe hF
            refine lm_ald B hN 2 (f := (t2_0.2.1 1)) rfl z10 dX9_as_50 ?_
            refine lv_iconst (v := 4) hx hb dX9_as_51 (by decide) ?_
            refine lv_icmp_ne (tgt := 59) hx hb dX9_as_52 (by decide) (fun c11 => ?_) (fun c11 => ?_)
            · have hF := lm_itn c11 hF
              exact J59 _ _ _ _ _ hF hN (lv_sub hl [1] rfl)
            · have hF := lm_itp c11 hF
              exact J55 _ _ _ _ _ hF hN (lv_sub hl [1] rfl)
    · have hF := lm_itp c5 hF
      refine lv_bipush (v := -102) hx hb dX9_as_23 (by decide) ?_
      cases hF
      exact lm_iret B hN dX9_as_25
  · have hF := lm_itp c3 hF
    refine lv_bipush (v := -101) hx hb dX9_as_8 (by decide) ?_
    cases hF
    exact lm_iret B hN dX9_as_10
def jX9_buyerOf_137 (k11 : Int32 × Int32 × Int32 × Int32 × lm_St → Option (Int32 × lm_St)) (x1_137 : Int32) (x3_137 : Int32) (x4_137 : Int32) (y0_137 : Int32) (y1_137 : Int32) (s0_137 : lm_St) : Option (Int32 × lm_St) := k11 (x1_137, (y1_137 ||| y0_137), x3_137, (x4_137 + 1), s0_137)
def jX9_buyerOf_124 (k11 : Int32 × Int32 × Int32 × Int32 × lm_St → Option (Int32 × lm_St)) (x1_124 : Int32) (x2_124 : Int32) (x3_124 : Int32) (x4_124 : Int32) (s0_124 : lm_St) : Option (Int32 × lm_St) := if x3_124 = (-1 : Int32) then (jX9_buyerOf_137 k11 x1_124 x3_124 x4_124 (0 : Int32) x2_124 s0_124) else (jX9_buyerOf_137 k11 x1_124 x3_124 x4_124 ((1 : Int32) <<< (x3_124 &&& 31)) x2_124 s0_124)
def jX9_buyerOf_117 (k11 : Int32 × Int32 × Int32 × Int32 × lm_St → Option (Int32 × lm_St)) (k27 : Int32 × Int32 × Int32 × Int32 × Int32 × lm_St → Option (Int32 × lm_St)) (x1_117 : Int32) (x2_117 : Int32) (x4_117 : Int32) (x5_117 : Int32) (y0_117 : Int32) (s0_117 : lm_St) : Option (Int32 × lm_St) := k27 (x1_117, x2_117, y0_117, x4_117, (x5_117 + (-1)), s0_117)
def jX9_buyerOf_116 (k11 : Int32 × Int32 × Int32 × Int32 × lm_St → Option (Int32 × lm_St)) (k27 : Int32 × Int32 × Int32 × Int32 × Int32 × lm_St → Option (Int32 × lm_St)) (x1_116 : Int32) (x2_116 : Int32) (x3_116 : Int32) (x4_116 : Int32) (x5_116 : Int32) (s0_116 : lm_St) : Option (Int32 × lm_St) := jX9_buyerOf_117 k11 k27 x1_116 x2_116 x4_116 x5_116 x3_116 s0_116
def jX9_buyerOf_57 (k11 : Int32 × Int32 × Int32 × Int32 × lm_St → Option (Int32 × lm_St)) (k27 : Int32 × Int32 × Int32 × Int32 × Int32 × lm_St → Option (Int32 × lm_St)) (x1_57 : Int32) (x2_57 : Int32) (x3_57 : Int32) (x4_57 : Int32) (x5_57 : Int32) (y0_57 : Int32) (s0_57 : lm_St) : Option (Int32 × lm_St) := if y0_57 = 0 then (jX9_buyerOf_116 k11 k27 x1_57 x2_57 x3_57 x4_57 x5_57 s0_57) else ((fX9_wants s0_57 x5_57 x4_57).bind (fun v3 => lm_un2 v3 (fun r3 t3_0 => lm_gI ((((128 : Int32) * x4_57) + (128 : Int32)) + (x2_57 ||| ((1 : Int32) <<< (x5_57 &&& 31)))) 1024 (lm_gI (((128 : Int32) * x4_57) + x2_57) 1024 (if (r3 + ((t3_0.2.1 9) ((((128 : Int32) * x4_57) + (128 : Int32)) + (x2_57 ||| ((1 : Int32) <<< (x5_57 &&& 31)))).toNatClampNeg)) = ((t3_0.2.1 9) (((128 : Int32) * x4_57) + x2_57).toNatClampNeg) then (jX9_buyerOf_117 k11 k27 x1_57 x2_57 x4_57 x5_57 x5_57 t3_0) else (jX9_buyerOf_116 k11 k27 x1_57 x2_57 x3_57 x4_57 x5_57 t3_0))))))
def bX9_buyerOf_27 (k11 : Int32 × Int32 × Int32 × Int32 × lm_St → Option (Int32 × lm_St)) (k27 : Int32 × Int32 × Int32 × Int32 × Int32 × lm_St → Option (Int32 × lm_St)) (x1_27 : Int32) (x2_27 : Int32) (x3_27 : Int32) (x4_27 : Int32) (x5_27 : Int32) (s0_27 : lm_St) : Option (Int32 × lm_St) := if x5_27 < 0 then (jX9_buyerOf_124 k11 x1_27 x2_27 x3_27 x4_27 s0_27) else (lm_gI x4_27 7 (if ((s0_27.2.1 5) x4_27.toNatClampNeg) = (1 : Int32) then (if ((x2_27 >>> (x5_27 &&& 31)) &&& (1 : Int32)) = 0 then (jX9_buyerOf_57 k11 k27 x1_27 x2_27 x3_27 x4_27 x5_27 (1 : Int32) s0_27) else (jX9_buyerOf_57 k11 k27 x1_27 x2_27 x3_27 x4_27 x5_27 (0 : Int32) s0_27)) else (jX9_buyerOf_124 k11 x1_27 x2_27 x3_27 x4_27 s0_27)))
def bX9_buyerOf_11 (k11 : Int32 × Int32 × Int32 × Int32 × lm_St → Option (Int32 × lm_St)) (x1_11 : Int32) (x2_11 : Int32) (x3_11 : Int32) (x4_11 : Int32) (s0_11 : lm_St) : Option (Int32 × lm_St) := if x1_11 < x4_11 then (some (x3_11, s0_11)) else (lm_lp (fun k a => bX9_buyerOf_27 k11 k a.1 a.2.1 a.2.2.1 a.2.2.2.1 a.2.2.2.2.1 a.2.2.2.2.2) 5000 (x1_11, x2_11, (-1 : Int32), x4_11, ((s0_11.1 2) - (1 : Int32)), s0_11))
def fX9_buyerOf (s0 : lm_St) (x1 : Int32) : Option (Int32 × lm_St) := (fX9_laySale s0).bind (fun t12_0 => lm_lp (fun k a => bX9_buyerOf_11 k a.1 a.2.1 a.2.2.1 a.2.2.2.1 a.2.2.2.2) 5000 (x1, (0 : Int32), (-1 : Int32), (0 : Int32), t12_0))
set_option maxHeartbeats 4000000 in
set_option maxRecDepth 100000 in
theorem hX9_buyerOf (l : Launch) (G : lm_G) (q0 : Nat → Nat) {s0 : lm_St} {x1 : Int32} {R : Int32 × lm_St} (hF : fX9_buyerOf s0 x1 = some R) : lm_C l G yX9_buyerOf wsX9_buyerOf 3 [.ref (q0 0), .int x1] (wX9 G q0 s0) (some (.int R.1)) (wX9 G q0 R.2) := by
  refine lm_C.of (cc := cX9_buyerOf) (maxL := 7) (ret := (some .int)) (by decide) rfl (Nat.le_of_ble_eq_true rfl) ?_
  intro p e s m below meth c A ls B hN hl
  have hx := B.1.1
  have hb := B.1.2.1
  have hown := B.1.2.2.2.1
  have hts := B.1.2.2.2.2
  have hiX9 : ∀ w ∈ wsX90, w ∈ wsX9_buyerOf := by decide +kernel
  have hl : lv_has ls 7 [(0, .ref (q0 0)), (1, .int x1)] := hl
  have L11 : ∀ (n : Nat) (x1_11 : Int32) (x2_11 : Int32) (x3_11 : Int32) (x4_11 : Int32) (s0_11 : lm_St) (H : Heap) (locs : List Loc) (ls : Array Slot), lm_lp (fun k a => bX9_buyerOf_11 k a.1 a.2.1 a.2.2.1 a.2.2.2.1 a.2.2.2.2) n (x1_11, x2_11, x3_11, x4_11, s0_11) = some R → lm_N G A s (wX9 G q0 s0_11) H locs → lv_has ls 7 [(0, .ref (q0 0)), (1, .int x1_11), (2, .int x2_11), (3, .int x3_11), (4, .int x4_11)] → W p l e (lm_rk 3) s m ([.ref (q0 0), .int x1] : List Value).toArray below meth c H locs 0 0 (MQ below (lm_post G (wX9 G q0 R.2) (some (.int R.1)) A) ([.ref (q0 0), .int x1] : List Value).toArray s 0 0 A) (F0 m 11 ls []) := by
    intro n
    induction n with
    | zero => intro x1_11 x2_11 x3_11 x4_11 s0_11 H locs ls hF; exact (lm_lpz hF).elim
    | succ n ih11 =>
      intro x1_11 x2_11 x3_11 x4_11 s0_11 H locs ls hF hN hl
      have hF : bX9_buyerOf_11 (lm_lp (fun k a => bX9_buyerOf_11 k a.1 a.2.1 a.2.2.1 a.2.2.2.1 a.2.2.2.2) n) x1_11 x2_11 x3_11 x4_11 s0_11 = some R := lm_lps hF
      generalize lm_lp (fun k a => bX9_buyerOf_11 k a.1 a.2.1 a.2.2.1 a.2.2.2.1 a.2.2.2.2) n = k11 at hF ih11
      have L27 : ∀ (n : Nat) (x1_27 : Int32) (x2_27 : Int32) (x3_27 : Int32) (x4_27 : Int32) (x5_27 : Int32) (s0_27 : lm_St) (H : Heap) (locs : List Loc) (ls : Array Slot), lm_lp (fun k a => bX9_buyerOf_27 k11 k a.1 a.2.1 a.2.2.1 a.2.2.2.1 a.2.2.2.2.1 a.2.2.2.2.2) n (x1_27, x2_27, x3_27, x4_27, x5_27, s0_27) = some R → lm_N G A s (wX9 G q0 s0_27) H locs → lv_has ls 7 [(0, .ref (q0 0)), (1, .int x1_27), (2, .int x2_27), (3, .int x3_27), (4, .int x4_27), (5, .int x5_27)] → W p l e (lm_rk 3) s m ([.ref (q0 0), .int x1] : List Value).toArray below meth c H locs 0 0 (MQ below (lm_post G (wX9 G q0 R.2) (some (.int R.1)) A) ([.ref (q0 0), .int x1] : List Value).toArray s 0 0 A) (F0 m 27 ls []) := by
        intro n
        induction n with
        | zero => intro x1_27 x2_27 x3_27 x4_27 x5_27 s0_27 H locs ls hF; exact (lm_lpz hF).elim
        | succ n ih27 =>
          intro x1_27 x2_27 x3_27 x4_27 x5_27 s0_27 H locs ls hF hN hl
          have hF : bX9_buyerOf_27 k11 (lm_lp (fun k a => bX9_buyerOf_27 k11 k a.1 a.2.1 a.2.2.1 a.2.2.2.1 a.2.2.2.2.1 a.2.2.2.2.2) n) x1_27 x2_27 x3_27 x4_27 x5_27 s0_27 = some R := lm_lps hF
          generalize lm_lp (fun k a => bX9_buyerOf_27 k11 k a.1 a.2.1 a.2.2.1 a.2.2.2.1 a.2.2.2.2.1 a.2.2.2.2.2) n = k27 at hF ih27
          have J124 : ∀ (x1_124 : Int32) (x2_124 : Int32) (x3_124 : Int32) (x4_124 : Int32) (s0_124 : lm_St) (H : Heap) (locs : List Loc) (ls : Array Slot), jX9_buyerOf_124 k11 x1_124 x2_124 x3_124 x4_124 s0_124 = some R → lm_N G A s (wX9 G q0 s0_124) H locs → lv_has ls 7 [(0, .ref (q0 0)), (1, .int x1_124), (2, .int x2_124), (3, .int x3_124), (4, .int x4_124)] → W p l e (lm_rk 3) s m ([.ref (q0 0), .int x1] : List Value).toArray below meth c H locs 0 0 (MQ below (lm_post G (wX9 G q0 R.2) (some (.int R.1)) A) ([.ref (q0 0), .int x1] : List Value).toArray s 0 0 A) (F0 m 124 ls []) := by
            intro x1_124 x2_124 x3_124 x4_124 s0_124 H locs ls hF hN hl
            have J137 : ∀ (x1_137 : Int32) (x3_137 : Int32) (x4_137 : Int32) (y0_137 : Int32) (y1_137 : Int32) (s0_137 : lm_St) (H : Heap) (locs : List Loc) (ls : Array Slot), jX9_buyerOf_137 k11 x1_137 x3_137 x4_137 y0_137 y1_137 s0_137 = some R → lm_N G A s (wX9 G q0 s0_137) H locs → lv_has ls 7 [(0, .ref (q0 0)), (1, .int x1_137), (3, .int x3_137), (4, .int x4_137)] → W p l e (lm_rk 3) s m ([.ref (q0 0), .int x1] : List Value).toArray below meth c H locs 0 0 (MQ below (lm_post G (wX9 G q0 R.2) (some (.int R.1)) A) ([.ref (q0 0), .int x1] : List Value).toArray s 0 0 A) (F0 m 137 ls [.int y0_137, .int y1_137]) := by
              intro x1_137 x3_137 x4_137 y0_137 y1_137 s0_137 H locs ls hF hN hl
              refine lv_ior hx hb dX9_buyerOf_137 ?_
              refine lv_istore_n (lv' := [(2, .int (y1_137 ||| y0_137)), (0, .ref (q0 0)), (1, .int x1_137), (3, .int x3_137), (4, .int x4_137)]) hx hb dX9_buyerOf_138 rfl hl (by decide) rfl (fun ls hl => ?_)
              refine lv_iinc (v := (x4_137 + 1)) (lv' := [(4, .int (x4_137 + 1)), (2, .int (y1_137 ||| y0_137)), (0, .ref (q0 0)), (1, .int x1_137), (3, .int x3_137)]) hx hb dX9_buyerOf_139 hl (k := 4) rfl rfl (by decide) rfl (fun ls hl => ?_)
              refine lv_goto (tgt := 11) hx hb dX9_buyerOf_142 (by decide) ?_
              exact ih11 _ _ _ _ _ _ _ _ hF hN (lv_sub hl [2, 3, 1, 4, 0] rfl)
            refine lv_iload_n hx hb dX9_buyerOf_124 rfl (lv_at hl 2 rfl) ?_
            refine lv_iload_n hx hb dX9_buyerOf_125 rfl (lv_at hl 3 rfl) ?_
            refine lv_iconst (v := -1) hx hb dX9_buyerOf_126 (by decide) ?_
            refine lv_icmp_ne (tgt := 134) hx hb dX9_buyerOf_127 (by decide) (fun c1 => ?_) (fun c1 => ?_)
            · have hF := lm_itn c1 hF
              refine lv_iconst (v := 1) hx hb dX9_buyerOf_134 (by decide) ?_
              refine lv_iload_n hx hb dX9_buyerOf_135 rfl (lv_at hl 3 rfl) ?_
              refine lv_ishl hx hb dX9_buyerOf_136 ?_
              exact J137 _ _ _ _ _ _ _ _ _ hF hN (lv_sub hl [0, 1, 3, 4] rfl)
            · have hF := lm_itp c1 hF
              refine lv_iconst (v := 0) hx hb dX9_buyerOf_130 (by decide) ?_
              refine lv_goto (tgt := 137) hx hb dX9_buyerOf_131 (by decide) ?_
              exact J137 _ _ _ _ _ _ _ _ _ hF hN (lv_sub hl [0, 1, 3, 4] rfl)
          have J57 : ∀ (x1_57 : Int32) (x2_57 : Int32) (x3_57 : Int32) (x4_57 : Int32) (x5_57 : Int32) (y0_57 : Int32) (s0_57 : lm_St) (H : Heap) (locs : List Loc) (ls : Array Slot), jX9_buyerOf_57 k11 k27 x1_57 x2_57 x3_57 x4_57 x5_57 y0_57 s0_57 = some R → lm_N G A s (wX9 G q0 s0_57) H locs → lv_has ls 7 [(0, .ref (q0 0)), (1, .int x1_57), (2, .int x2_57), (3, .int x3_57), (4, .int x4_57), (5, .int x5_57)] → W p l e (lm_rk 3) s m ([.ref (q0 0), .int x1] : List Value).toArray below meth c H locs 0 0 (MQ below (lm_post G (wX9 G q0 R.2) (some (.int R.1)) A) ([.ref (q0 0), .int x1] : List Value).toArray s 0 0 A) (F0 m 57 ls [.int y0_57]) := by
            intro x1_57 x2_57 x3_57 x4_57 x5_57 y0_57 s0_57 H locs ls hF hN hl
            have J117 : ∀ (x1_117 : Int32) (x2_117 : Int32) (x4_117 : Int32) (x5_117 : Int32) (y0_117 : Int32) (s0_117 : lm_St) (H : Heap) (locs : List Loc) (ls : Array Slot), jX9_buyerOf_117 k11 k27 x1_117 x2_117 x4_117 x5_117 y0_117 s0_117 = some R → lm_N G A s (wX9 G q0 s0_117) H locs → lv_has ls 7 [(0, .ref (q0 0)), (1, .int x1_117), (2, .int x2_117), (4, .int x4_117), (5, .int x5_117)] → W p l e (lm_rk 3) s m ([.ref (q0 0), .int x1] : List Value).toArray below meth c H locs 0 0 (MQ below (lm_post G (wX9 G q0 R.2) (some (.int R.1)) A) ([.ref (q0 0), .int x1] : List Value).toArray s 0 0 A) (F0 m 117 ls [.int y0_117]) := by
              intro x1_117 x2_117 x4_117 x5_117 y0_117 s0_117 H locs ls hF hN hl
              refine lv_istore_n (lv' := [(3, .int y0_117), (0, .ref (q0 0)), (1, .int x1_117), (2, .int x2_117), (4, .int x4_117), (5, .int x5_117)]) hx hb dX9_buyerOf_117 rfl hl (by decide) rfl (fun ls hl => ?_)
              refine lv_iinc (v := (x5_117 + (-1))) (lv' := [(5, .int (x5_117 + (-1))), (3, .int y0_117), (0, .ref (q0 0)), (1, .int x1_117), (2, .int x2_117), (4, .int x4_117)]) hx hb dX9_buyerOf_118 hl (k := 5) rfl rfl (by decide) rfl (fun ls hl => ?_)
              refine lv_goto (tgt := 27) hx hb dX9_buyerOf_121 (by decide) ?_
              exact ih27 _ _ _ _ _ _ _ _ _ hF hN (lv_sub hl [2, 3, 4, 1, 5, 0] rfl)
            have J116 : ∀ (x1_116 : Int32) (x2_116 : Int32) (x3_116 : Int32) (x4_116 : Int32) (x5_116 : Int32) (s0_116 : lm_St) (H : Heap) (locs : List Loc) (ls : Array Slot), jX9_buyerOf_116 k11 k27 x1_116 x2_116 x3_116 x4_116 x5_116 s0_116 = some R → lm_N G A s (wX9 G q0 s0_116) H locs → lv_has ls 7 [(0, .ref (q0 0)), (1, .int x1_116), (2, .int x2_116), (3, .int x3_116), (4, .int x4_116), (5, .int x5_116)] → W p l e (lm_rk 3) s m ([.ref (q0 0), .int x1] : List Value).toArray below meth c H locs 0 0 (MQ below (lm_post G (wX9 G q0 R.2) (some (.int R.1)) A) ([.ref (q0 0), .int x1] : List Value).toArray s 0 0 A) (F0 m 116 ls []) := by
              intro x1_116 x2_116 x3_116 x4_116 x5_116 s0_116 H locs ls hF hN hl
              refine lv_iload_n hx hb dX9_buyerOf_116 rfl (lv_at hl 3 rfl) ?_
              exact J117 _ _ _ _ _ _ _ _ _ hF hN (lv_sub hl [0, 1, 2, 4, 5] rfl)
            refine lv_istore (lv' := [(6, .int y0_57), (0, .ref (q0 0)), (1, .int x1_57), (2, .int x2_57), (3, .int x3_57), (4, .int x4_57), (5, .int x5_57)]) hx hb dX9_buyerOf_57 hl (by decide) rfl (fun ls hl => ?_)
            refine lv_iload hx hb dX9_buyerOf_59 (lv_at hl 0 rfl) ?_
            refine lv_if_eq (tgt := 116) hx hb dX9_buyerOf_61 (by decide) (fun c2 => ?_) (fun c2 => ?_)
            · have hF := lm_itp c2 hF
              exact J116 _ _ _ _ _ _ _ _ _ hF hN (lv_sub hl [1, 2, 3, 4, 5, 6] rfl)
            · have hF := lm_itn c2 hF
              refine lv_aload_n hx hb dX9_buyerOf_64 rfl (lv_at hl 1 rfl) ?_
              refine lv_iload hx hb dX9_buyerOf_65 (lv_at hl 6 rfl) ?_
              refine lv_iload hx hb dX9_buyerOf_67 (lv_at hl 5 rfl) ?_
              obtain ⟨⟨r3, t3_0⟩, hc3, hF⟩ := lm_bd hF
              have hF := lm_un2E hF
              refine lm_runA B hN (lm_hrV B hN hl.1 (lm_cutA B hN) (n := 2) (As := [.int x5_57, .int x4_57]) (rest := []) (hX9_wants l G q0 hc3) gX9_buyerOf_X9_wants rfl (by decide +kernel) rfl (by decide) (by decide) (ci := 9) (q0 := 0) rfl rfl rfl (Nat.le_of_ble_eq_true rfl) dX9_buyerOf_69) (fun H locs hN => ?_)
              refine lv_aload_n hx hb dX9_buyerOf_72 rfl (lv_at hl 1 rfl) ?_
              refine lm_get B hN (ci := 9) hiX9 0 rfl rfl 18 (by decide) (by decide +kernel) (v := .ref (q0 10)) rfl dX9_buyerOf_73 ?_
              refine lv_sipush (v := 128) hx hb dX9_buyerOf_76 (by decide) ?_
              refine lv_iload hx hb dX9_buyerOf_79 (lv_at hl 5 rfl) ?_
              refine lv_imul hx hb dX9_buyerOf_81 ?_
              refine lv_sipush (v := 128) hx hb dX9_buyerOf_82 (by decide) ?_
              refine lv_iadd hx hb dX9_buyerOf_85 ?_
              refine lv_iload_n hx hb dX9_buyerOf_86 rfl (lv_at hl 3 rfl) ?_
              refine lv_iconst (v := 1) hx hb dX9_buyerOf_87 (by decide) ?_
              refine lv_iload hx hb dX9_buyerOf_88 (lv_at hl 6 rfl) ?_
              refine lv_ishl hx hb dX9_buyerOf_90 ?_
              refine lv_ior hx hb dX9_buyerOf_91 ?_
              refine lv_iadd hx hb dX9_buyerOf_92 ?_
              obtain ⟨z4, hF⟩ := lm_gIe hF
              refine lm_ald B hN 10 (f := (t3_0.2.1 9)) rfl z4 dX9_buyerOf_93 ?_
              refine lv_iadd hx hb dX9_buyerOf_94 ?_
              refine lv_aload_n hx hb dX9_buyerOf_95 rfl (lv_at hl 1 rfl) ?_
              refine lm_get B hN (ci := 9) hiX9 0 rfl rfl 18 (by decide) (by decide +kernel) (v := .ref (q0 10)) rfl dX9_buyerOf_96 ?_
              refine lv_sipush (v := 128) hx hb dX9_buyerOf_99 (by decide) ?_
              refine lv_iload hx hb dX9_buyerOf_102 (lv_at hl 5 rfl) ?_
              refine lv_imul hx hb dX9_buyerOf_104 ?_
              refine lv_iload_n hx hb dX9_buyerOf_105 rfl (lv_at hl 3 rfl) ?_
              refine lv_iadd hx hb dX9_buyerOf_106 ?_
              obtain ⟨z5, hF⟩ := lm_gIe hF
              refine lm_ald B hN 10 (f := (t3_0.2.1 9)) rfl z5 dX9_buyerOf_107 ?_
              refine lv_icmp_ne (tgt := 116) hx hb dX9_buyerOf_108 (by decide) (fun c6 => ?_) (fun c6 => ?_)
              · have hF := lm_itn c6 hF
                exact J116 _ _ _ _ _ _ _ _ _ hF hN (lv_sub hl [1, 2, 3, 4, 5, 6] rfl)
              · have hF := lm_itp c6 hF
                refine lv_iload hx hb dX9_buyerOf_111 (lv_at hl 6 rfl) ?_
                refine lv_goto (tgt := 117) hx hb dX9_buyerOf_113 (by decide) ?_
                exact J117 _ _ _ _ _ _ _ _ _ hF hN (lv_sub hl [1, 2, 3, 5, 6] rfl)
          refine lv_iload hx hb dX9_buyerOf_27 (lv_at hl 5 rfl) ?_
          refine lv_if_lt (tgt := 124) hx hb dX9_buyerOf_29 (by decide) (fun c7 => ?_) (fun c7 => ?_)
          · have hF := lm_itp c7 hF
            exact J124 _ _ _ _ _ _ _ _ hF hN (lv_sub hl [0, 1, 2, 3, 4] rfl)
          · have hF := lm_itn c7 hF
            refine lv_aload_n hx hb dX9_buyerOf_32 rfl (lv_at hl 0 rfl) ?_
            refine lm_get B hN (ci := 9) hiX9 0 rfl rfl 12 (by decide) (by decide +kernel) (v := .ref (q0 6)) rfl dX9_buyerOf_33 ?_
            refine lv_iload hx hb dX9_buyerOf_36 (lv_at hl 4 rfl) ?_
            obtain ⟨z8, hF⟩ := lm_gIe hF
            refine lm_ald B hN 6 (f := (s0_27.2.1 5)) rfl z8 dX9_buyerOf_38 ?_
            refine lv_iconst (v := 1) hx hb dX9_buyerOf_39 (by decide) ?_
            refine lv_icmp_ne (tgt := 124) hx hb dX9_buyerOf_40 (by decide) (fun c9 => ?_) (fun c9 => ?_)
            · have hF := lm_itn c9 hF
              exact J124 _ _ _ _ _ _ _ _ hF hN (lv_sub hl [0, 1, 2, 3, 4] rfl)
            · have hF := lm_itp c9 hF
              refine lv_iload_n hx hb dX9_buyerOf_43 rfl (lv_at hl 2 rfl) ?_
              refine lv_iload hx hb dX9_buyerOf_44 (lv_at hl 5 rfl) ?_
              refine lv_ishr hx hb dX9_buyerOf_46 ?_
              refine lv_iconst (v := 1) hx hb dX9_buyerOf_47 (by decide) ?_
              refine lv_iand hx hb dX9_buyerOf_48 ?_
              refine lv_if_ne (tgt := 56) hx hb dX9_buyerOf_49 (by decide) (fun c10 => ?_) (fun c10 => ?_)
              · have hF := lm_itn c10 hF
                refine lv_iconst (v := 0) hx hb dX9_buyerOf_56 (by decide) ?_
                exact J57 _ _ _ _ _ _ _ _ _ _ hF hN (lv_sub hl [0, 1, 2, 3, 4, 5] rfl)
              · have hF := lm_itp c10 hF
                refine lv_iconst (v := 1) hx hb dX9_buyerOf_52 (by decide) ?_
                refine lv_goto (tgt := 57) hx hb dX9_buyerOf_53 (by decide) ?_
                exact J57 _ _ _ _ _ _ _ _ _ _ hF hN (lv_sub hl [0, 1, 2, 3, 4, 5] rfl)
      refine lv_iload hx hb dX9_buyerOf_11 (lv_at hl 4 rfl) ?_
      refine lv_iload_n hx hb dX9_buyerOf_13 rfl (lv_at hl 1 rfl) ?_
      refine lv_icmp_gt (tgt := 145) hx hb dX9_buyerOf_14 (by decide) (fun c11 => ?_) (fun c11 => ?_)
      · have hF := lm_itp c11 hF
        refine lv_iload_n hx hb dX9_buyerOf_145 rfl (lv_at hl 3 rfl) ?_
        cases hF
        exact lm_iret B hN dX9_buyerOf_146
      · have hF := lm_itn c11 hF
        refine lv_iconst (v := -1) hx hb dX9_buyerOf_17 (by decide) ?_
        refine lv_istore_n (lv' := [(3, .int (-1 : Int32)), (0, .ref (q0 0)), (1, .int x1_11), (2, .int x2_11), (4, .int x4_11)]) hx hb dX9_buyerOf_18 rfl hl (by decide) rfl (fun ls hl => ?_)
        refine lv_aload_n hx hb dX9_buyerOf_19 rfl (lv_at hl 1 rfl) ?_
        refine lm_get B hN (ci := 9) hiX9 0 rfl rfl 3 (by decide) (by decide +kernel) (v := .int (s0_11.1 2)) rfl dX9_buyerOf_20 ?_
        refine lv_iconst (v := 1) hx hb dX9_buyerOf_23 (by decide) ?_
        refine lv_isub hx hb dX9_buyerOf_24 ?_
        refine lv_istore (lv' := [(5, .int ((s0_11.1 2) - (1 : Int32))), (3, .int (-1 : Int32)), (0, .ref (q0 0)), (1, .int x1_11), (2, .int x2_11), (4, .int x4_11)]) hx hb dX9_buyerOf_25 hl (by decide) rfl (fun ls hl => ?_)
        exact L27 5000 _ _ _ _ _ _ _ _ _ hF hN (lv_sub hl [2, 3, 4, 1, 5, 0] rfl)
  refine lv_aload_n hx hb dX9_buyerOf_0 rfl (lv_at hl 0 rfl) ?_
  obtain ⟨t12_0, hc12, hF⟩ := lm_bd hF
  refine lm_runA B hN (lm_hrV B hN hl.1 (lm_cutA B hN) (n := 0) (As := []) (rest := []) (hX9_laySale l G q0 hc12) gX9_buyerOf_X9_laySale rfl (by decide +kernel) rfl (by decide) (by decide) (ci := 9) (q0 := 0) rfl rfl rfl (Nat.le_of_ble_eq_true rfl) dX9_buyerOf_1) (fun H locs hN => ?_)
  refine lv_iconst (v := 0) hx hb dX9_buyerOf_4 (by decide) ?_
  refine lv_istore_n (lv' := [(2, .int (0 : Int32)), (0, .ref (q0 0)), (1, .int x1)]) hx hb dX9_buyerOf_5 rfl hl (by decide) rfl (fun ls hl => ?_)
  refine lv_iconst (v := -1) hx hb dX9_buyerOf_6 (by decide) ?_
  refine lv_istore_n (lv' := [(3, .int (-1 : Int32)), (2, .int (0 : Int32)), (0, .ref (q0 0)), (1, .int x1)]) hx hb dX9_buyerOf_7 rfl hl (by decide) rfl (fun ls hl => ?_)
  refine lv_iconst (v := 0) hx hb dX9_buyerOf_8 (by decide) ?_
  refine lv_istore (lv' := [(4, .int (0 : Int32)), (3, .int (-1 : Int32)), (2, .int (0 : Int32)), (0, .ref (q0 0)), (1, .int x1)]) hx hb dX9_buyerOf_9 hl (by decide) rfl (fun ls hl => ?_)
  exact L11 5000 _ _ _ _ _ _ _ _ hF hN (lv_sub hl [3, 4, 2, 1, 0] rfl)
def fX9_change (s0 : lm_St) (x1 : Int32) (x2 : Int32) (x3 : Int32) : Option (Int32 × lm_St) := (fX9_isThing s0 x1).bind (fun v1 => lm_un2 v1 (fun r1 t1_0 => if r1 = 0 then (some ((-101 : Int32), t1_0)) else ((fX9_in x2.toInt64 (0 : Int64) (4 : Int64)).bind (fun r3 => if r3 = 0 then (some ((-102 : Int32), t1_0)) else ((fX9_in x3.toInt64 (1 : Int64) (9 : Int64)).bind (fun r5 => if r5 = 0 then (some ((-102 : Int32), t1_0)) else (lm_gI x1 7 (lm_gI x1 7 (lm_gI x1 7 (some (((t1_0.2.1 1) x1.toNatClampNeg), (lm_sA (lm_sA t1_0 1 (upd (t1_0.2.1 1) x1.toNatClampNeg x2)) 2 (upd (t1_0.2.1 2) x1.toNatClampNeg x3)))))))))))))
set_option maxHeartbeats 4000000 in
set_option maxRecDepth 100000 in
theorem hX9_change (l : Launch) (G : lm_G) (q0 : Nat → Nat) {s0 : lm_St} {x1 : Int32} {x2 : Int32} {x3 : Int32} {R : Int32 × lm_St} (hF : fX9_change s0 x1 x2 x3 = some R) : lm_C l G yX9_change wsX9_change 3 [.ref (q0 0), .int x1, .int x2, .int x3] (wX9 G q0 s0) (some (.int R.1)) (wX9 G q0 R.2) := by
  refine lm_C.of (cc := cX9_change) (maxL := 5) (ret := (some .int)) (by decide) rfl (Nat.le_of_ble_eq_true rfl) ?_
  intro p e s m below meth c A ls B hN hl
  have hx := B.1.1
  have hb := B.1.2.1
  have hown := B.1.2.2.2.1
  have hts := B.1.2.2.2.2
  have hiX9 : ∀ w ∈ wsX90, w ∈ wsX9_change := by decide +kernel
  have hl : lv_has ls 5 [(0, .ref (q0 0)), (1, .int x1), (2, .int x2), (3, .int x3)] := hl
  refine lv_aload_n hx hb dX9_change_0 rfl (lv_at hl 0 rfl) ?_
  refine lv_iload_n hx hb dX9_change_1 rfl (lv_at hl 1 rfl) ?_
  obtain ⟨⟨r1, t1_0⟩, hc1, hF⟩ := lm_bd hF
  have hF := lm_un2E hF
  refine lm_runA B hN (lm_hrV B hN hl.1 (lm_cutA B hN) (n := 1) (As := [.int x1]) (rest := []) (hX9_isThing l G q0 hc1) gX9_change_X9_isThing rfl (by decide +kernel) rfl (by decide) (by decide) (ci := 9) (q0 := 0) rfl rfl rfl (Nat.le_of_ble_eq_true rfl) dX9_change_2) (fun H locs hN => ?_)
  refine lv_if_ne (tgt := 11) hx hb dX9_change_5 (by decide) (fun c2 => ?_) (fun c2 => ?_)
  · have hF := lm_itn c2 hF
    refine lv_iload_n hx hb dX9_change_11 rfl (lv_at hl 2 rfl) ?_
    refine lv_i2l hx hb dX9_change_12 rfl ?_
    refine lv_lconst (v := 0) hx hb dX9_change_13 (by decide) ?_
    refine lv_ldc2 (v := 4) hx hb hown (hts (.constantLong RX9 149 (4)) (by decide +kernel)) dX9_change_14 ?_
    obtain ⟨r3, hc3, hF⟩ := lm_bd hF
    refine lm_run0 B hN (lm_hrT B hN hl.1 (lm_cut0 B hN) (n := 3) (As := [.long x2.toInt64, .long (0 : Int64), .long (4 : Int64)]) (rest := []) (hX9_in l G hc3) gX9_change_X9_in rfl (by decide +kernel) rfl (by decide) (by decide) rfl (Nat.le_of_ble_eq_true rfl) dX9_change_17) (fun H locs hN => ?_)
    refine lv_if_eq (tgt := 35) hx hb dX9_change_20 (by decide) (fun c4 => ?_) (fun c4 => ?_)
    · have hF := lm_itp c4 hF
      refine lv_bipush (v := -102) hx hb dX9_change_35 (by decide) ?_
      cases hF
      exact lm_iret B hN dX9_change_37
    · have hF := lm_itn c4 hF
      refine lv_iload_n hx hb dX9_change_23 rfl (lv_at hl 3 rfl) ?_
      refine lv_i2l hx hb dX9_change_24 rfl ?_
      refine lv_lconst (v := 1) hx hb dX9_change_25 (by decide) ?_
      refine lv_ldc2 (v := 9) hx hb hown (hts (.constantLong RX9 170 (9)) (by decide +kernel)) dX9_change_26 ?_
      obtain ⟨r5, hc5, hF⟩ := lm_bd hF
      refine lm_run0 B hN (lm_hrT B hN hl.1 (lm_cut0 B hN) (n := 3) (As := [.long x3.toInt64, .long (1 : Int64), .long (9 : Int64)]) (rest := []) (hX9_in l G hc5) gX9_change_X9_in rfl (by decide +kernel) rfl (by decide) (by decide) rfl (Nat.le_of_ble_eq_true rfl) dX9_change_29) (fun H locs hN => ?_)
      refine lv_if_ne (tgt := 38) hx hb dX9_change_32 (by decide) (fun c6 => ?_) (fun c6 => ?_)
      · have hF := lm_itn c6 hF
        refine lv_aload_n hx hb dX9_change_38 rfl (lv_at hl 0 rfl) ?_
        refine lm_get B hN (ci := 9) hiX9 0 rfl rfl 8 (by decide) (by decide +kernel) (v := .ref (q0 2)) rfl dX9_change_39 ?_
        refine lv_iload_n hx hb dX9_change_42 rfl (lv_at hl 1 rfl) ?_
        obtain ⟨z7, hF⟩ := lm_gIe hF
        refine lm_ald B hN 2 (f := (t1_0.2.1 1)) rfl z7 dX9_change_43 ?_
        refine lv_istore (lv' := [(4, .int ((t1_0.2.1 1) x1.toNatClampNeg)), (0, .ref (q0 0)), (1, .int x1), (2, .int x2), (3, .int x3)]) hx hb dX9_change_44 hl (by decide) rfl (fun ls hl => ?_)
        refine lv_aload_n hx hb dX9_change_46 rfl (lv_at hl 1 rfl) ?_
        refine lm_get B hN (ci := 9) hiX9 0 rfl rfl 8 (by decide) (by decide +kernel) (v := .ref (q0 2)) rfl dX9_change_47 ?_
        refine lv_iload_n hx hb dX9_change_50 rfl (lv_at hl 2 rfl) ?_
        refine lv_iload_n hx hb dX9_change_51 rfl (lv_at hl 3 rfl) ?_
        obtain ⟨z8, hF⟩ := lm_gIe hF
        refine lm_ast B hN 2 (f := (t1_0.2.1 1)) rfl z8 (wX9 G q0 (lm_sA t1_0 1 (upd (t1_0.2.1 1) x1.toNatClampNeg x2))) (wX9_r0a1 _ _ _ _) dX9_change_52 (fun H locs hN => ?_)
        refine lv_aload_n hx hb dX9_change_53 rfl (lv_at hl 1 rfl) ?_
        refine lm_get B hN (ci := 9) hiX9 0 rfl rfl 9 (by decide) (by decide +kernel) (v := .ref (q0 3)) rfl dX9_change_54 ?_
        refine lv_iload_n hx hb dX9_change_57 rfl (lv_at hl 2 rfl) ?_
        refine lv_iload_n hx hb dX9_change_58 rfl (lv_at hl 4 rfl) ?_
        obtain ⟨z9, hF⟩ := lm_gIe hF
        refine lm_ast B hN 3 (f := (t1_0.2.1 2)) rfl z9 (wX9 G q0 (lm_sA (lm_sA t1_0 1 (upd (t1_0.2.1 1) x1.toNatClampNeg x2)) 2 (upd (t1_0.2.1 2) x1.toNatClampNeg x3))) (wX9_r0a2 _ _ _ _) dX9_change_59 (fun H locs hN => ?_)
        refine lv_iload hx hb dX9_change_60 (lv_at hl 0 rfl) ?_
        cases hF
        exact lm_iret B hN dX9_change_62
      · have hF := lm_itp c6 hF
        refine lv_bipush (v := -102) hx hb dX9_change_35 (by decide) ?_
        cases hF
        exact lm_iret B hN dX9_change_37
  · have hF := lm_itp c2 hF
    refine lv_bipush (v := -101) hx hb dX9_change_8 (by decide) ?_
    cases hF
    exact lm_iret B hN dX9_change_10
def fX9_day (s0 : lm_St) : Option (Int32 × lm_St) := (fX9_lacks s0).bind (fun v1 => lm_un2 v1 (fun r1 t1_0 => if r1 = 0 then (if (t1_0.1 4) = (999 : Int32) then (some ((-104 : Int32), t1_0)) else ((fX9_begin t1_0).bind (fun t4_0 => (fX9_dayThen t4_0).bind (fun t5_0 => (fX9_keep t5_0).bind (fun t6_0 => some (((t6_0.1 4) + (1 : Int32)), (lm_sF t6_0 4 ((t6_0.1 4) + (1 : Int32))))))))) else (some ((-103 : Int32), t1_0))))
set_option maxHeartbeats 4000000 in
set_option maxRecDepth 100000 in
theorem hX9_day (l : Launch) (G : lm_G) (q0 : Nat → Nat) {s0 : lm_St} {R : Int32 × lm_St} (hF : fX9_day s0 = some R) : lm_C l G yX9_day wsX9_day 3 [.ref (q0 0)] (wX9 G q0 s0) (some (.int R.1)) (wX9 G q0 R.2) := by
  refine lm_C.of (cc := cX9_day) (maxL := 1) (ret := (some .int)) (by decide) rfl (Nat.le_of_ble_eq_true rfl) ?_
  intro p e s m below meth c A ls B hN hl
  have hx := B.1.1
  have hb := B.1.2.1
  have hown := B.1.2.2.2.1
  have hts := B.1.2.2.2.2
  have hiX9 : ∀ w ∈ wsX90, w ∈ wsX9_day := by decide +kernel
  have hl : lv_has ls 1 [(0, .ref (q0 0))] := hl
  refine lv_aload_n hx hb dX9_day_0 rfl (lv_at hl 0 rfl) ?_
  obtain ⟨⟨r1, t1_0⟩, hc1, hF⟩ := lm_bd hF
  have hF := lm_un2E hF
  refine lm_runA B hN (lm_hrV B hN hl.1 (lm_cutA B hN) (n := 0) (As := []) (rest := []) (hX9_lacks l G q0 hc1) gX9_day_X9_lacks rfl (by decide +kernel) rfl (by decide) (by decide) (ci := 9) (q0 := 0) rfl rfl rfl (Nat.le_of_ble_eq_true rfl) dX9_day_1) (fun H locs hN => ?_)
  refine lv_if_eq (tgt := 10) hx hb dX9_day_4 (by decide) (fun c2 => ?_) (fun c2 => ?_)
  · have hF := lm_itp c2 hF
    refine lv_aload_n hx hb dX9_day_10 rfl (lv_at hl 0 rfl) ?_
    refine lm_get B hN (ci := 9) hiX9 0 rfl rfl 5 (by decide) (by decide +kernel) (v := .int (t1_0.1 4)) rfl dX9_day_11 ?_
    refine lv_sipush (v := 999) hx hb dX9_day_14 (by decide) ?_
    refine lv_icmp_ne (tgt := 23) hx hb dX9_day_17 (by decide) (fun c3 => ?_) (fun c3 => ?_)
    · have hF := lm_itn c3 hF
      refine lv_aload_n hx hb dX9_day_23 rfl (lv_at hl 0 rfl) ?_
      obtain ⟨t4_0, hc4, hF⟩ := lm_bd hF
      refine lm_runA B hN (lm_hrV B hN hl.1 (lm_cutA B hN) (n := 0) (As := []) (rest := []) (hX9_begin l G q0 hc4) gX9_day_X9_begin rfl (by decide +kernel) rfl (by decide) (by decide) (ci := 9) (q0 := 0) rfl rfl rfl (Nat.le_of_ble_eq_true rfl) dX9_day_24) (fun H locs hN => ?_)
      refine lv_aload_n hx hb dX9_day_27 rfl (lv_at hl 0 rfl) ?_
      obtain ⟨t5_0, hc5, hF⟩ := lm_bd hF
      refine lm_runA B hN (lm_hrV B hN hl.1 (lm_cutA B hN) (n := 0) (As := []) (rest := []) (hX9_dayThen l G q0 hc5) gX9_day_X9_dayThen rfl (by decide +kernel) rfl (by decide) (by decide) (ci := 9) (q0 := 0) rfl rfl rfl (Nat.le_of_ble_eq_true rfl) dX9_day_28) (fun H locs hN => ?_)
      refine lv_aload_n hx hb dX9_day_31 rfl (lv_at hl 0 rfl) ?_
      obtain ⟨t6_0, hc6, hF⟩ := lm_bd hF
      refine lm_runA B hN (lm_hrV B hN hl.1 (lm_cutA B hN) (n := 0) (As := []) (rest := []) (hX9_keep l G q0 hc6) gX9_day_X9_keep rfl (by decide +kernel) rfl (by decide) (by decide) (ci := 9) (q0 := 0) rfl rfl rfl (Nat.le_of_ble_eq_true rfl) dX9_day_32) (fun H locs hN => ?_)
      refine lv_aload_n hx hb dX9_day_35 rfl (lv_at hl 0 rfl) ?_
      refine lv_dup hx hb dX9_day_36 rfl ?_
      refine lm_get B hN (ci := 9) hiX9 0 rfl rfl 5 (by decide) (by decide +kernel) (v := .int (t6_0.1 4)) rfl dX9_day_37 ?_
      refine lv_iconst (v := 1) hx hb dX9_day_40 (by decide) ?_
      refine lv_iadd hx hb dX9_day_41 ?_
      refine lm_put B hN (ci := 9) hiX9 tyX9 tyX9_ok nmX9 0 rfl rfl 5 (by decide) (by decide +kernel) (by decide) (v := .int ((t6_0.1 4) + (1 : Int32))) rfl rfl (Nat.le_of_ble_eq_true rfl) (wX9 G q0 (lm_sF t6_0 4 ((t6_0.1 4) + (1 : Int32)))) (wX9_r0f4 _ _ _ _) dX9_day_42 (fun H locs hN => ?_)
      refine lv_aload_n hx hb dX9_day_45 rfl (lv_at hl 0 rfl) ?_
      refine lm_get B hN (ci := 9) hiX9 0 rfl rfl 5 (by decide) (by decide +kernel) (v := .int ((t6_0.1 4) + (1 : Int32))) rfl dX9_day_46 ?_
      cases hF
      exact lm_iret B hN dX9_day_49
    · have hF := lm_itp c3 hF
      refine lv_bipush (v := -104) hx hb dX9_day_20 (by decide) ?_
      cases hF
      exact lm_iret B hN dX9_day_22
  · have hF := lm_itn c2 hF
    refine lv_bipush (v := -103) hx hb dX9_day_7 (by decide) ?_
    cases hF
    exact lm_iret B hN dX9_day_9
def bX9_faultOf_7 (k7 : Int32 × lm_St → Option (Int32 × lm_St)) (x1_7 : Int32) (s0_7 : lm_St) : Option (Int32 × lm_St) := if (s0_7.1 0) ≤ x1_7 then (some (x1_7, s0_7)) else ((fX9_isGood s0_7 x1_7).bind (fun v2 => lm_un2 v2 (fun r2 t2_0 => if r2 = 0 then (some (x1_7, t2_0)) else (k7 ((x1_7 + 1), t2_0)))))
def fX9_faultOf (s0 : lm_St) : Option (Int32 × lm_St) := lm_lp (fun k a => bX9_faultOf_7 k a.1 a.2) 5000 ((0 : Int32), (lm_sF s0 1 (0 : Int32)))
set_option maxHeartbeats 4000000 in
set_option maxRecDepth 100000 in
theorem hX9_faultOf (l : Launch) (G : lm_G) (q0 : Nat → Nat) {s0 : lm_St} {R : Int32 × lm_St} (hF : fX9_faultOf s0 = some R) : lm_C l G yX9_faultOf wsX9_faultOf 3 [.ref (q0 0)] (wX9 G q0 s0) (some (.int R.1)) (wX9 G q0 R.2) := by
  refine lm_C.of (cc := cX9_faultOf) (maxL := 2) (ret := (some .int)) (by decide) rfl (Nat.le_of_ble_eq_true rfl) ?_
  intro p e s m below meth c A ls B hN hl
  have hx := B.1.1
  have hb := B.1.2.1
  have hown := B.1.2.2.2.1
  have hts := B.1.2.2.2.2
  have hiX9 : ∀ w ∈ wsX90, w ∈ wsX9_faultOf := by decide +kernel
  have hl : lv_has ls 2 [(0, .ref (q0 0))] := hl
  have L7 : ∀ (n : Nat) (x1_7 : Int32) (s0_7 : lm_St) (H : Heap) (locs : List Loc) (ls : Array Slot), lm_lp (fun k a => bX9_faultOf_7 k a.1 a.2) n (x1_7, s0_7) = some R → lm_N G A s (wX9 G q0 s0_7) H locs → lv_has ls 2 [(0, .ref (q0 0)), (1, .int x1_7)] → W p l e (lm_rk 3) s m ([.ref (q0 0)] : List Value).toArray below meth c H locs 0 0 (MQ below (lm_post G (wX9 G q0 R.2) (some (.int R.1)) A) ([.ref (q0 0)] : List Value).toArray s 0 0 A) (F0 m 7 ls []) := by
    intro n
    induction n with
    | zero => intro x1_7 s0_7 H locs ls hF; exact (lm_lpz hF).elim
    | succ n ih7 =>
      intro x1_7 s0_7 H locs ls hF hN hl
      have hF : bX9_faultOf_7 (lm_lp (fun k a => bX9_faultOf_7 k a.1 a.2) n) x1_7 s0_7 = some R := lm_lps hF
      generalize lm_lp (fun k a => bX9_faultOf_7 k a.1 a.2) n = k7 at hF ih7
      refine lv_iload_n hx hb dX9_faultOf_7 rfl (lv_at hl 1 rfl) ?_
      refine lv_aload_n hx hb dX9_faultOf_8 rfl (lv_at hl 0 rfl) ?_
      refine lm_get B hN (ci := 9) hiX9 0 rfl rfl 1 (by decide) (by decide +kernel) (v := .int (s0_7.1 0)) rfl dX9_faultOf_9 ?_
      refine lv_icmp_ge (tgt := 29) hx hb dX9_faultOf_12 (by decide) (fun c1 => ?_) (fun c1 => ?_)
      · have hF := lm_itp c1 hF
        refine lv_iload_n hx hb dX9_faultOf_29 rfl (lv_at hl 1 rfl) ?_
        cases hF
        exact lm_iret B hN dX9_faultOf_30
      · have hF := lm_itn c1 hF
        refine lv_aload_n hx hb dX9_faultOf_15 rfl (lv_at hl 0 rfl) ?_
        refine lv_iload_n hx hb dX9_faultOf_16 rfl (lv_at hl 1 rfl) ?_
        obtain ⟨⟨r2, t2_0⟩, hc2, hF⟩ := lm_bd hF
        have hF := lm_un2E hF
        refine lm_runA B hN (lm_hrV B hN hl.1 (lm_cutA B hN) (n := 1) (As := [.int x1_7]) (rest := []) (hX9_isGood l G q0 hc2) gX9_faultOf_X9_isGood rfl (by decide +kernel) rfl (by decide) (by decide) (ci := 9) (q0 := 0) rfl rfl rfl (Nat.le_of_ble_eq_true rfl) dX9_faultOf_17) (fun H locs hN => ?_)
        refine lv_if_eq (tgt := 29) hx hb dX9_faultOf_20 (by decide) (fun c3 => ?_) (fun c3 => ?_)
        · have hF := lm_itp c3 hF
          refine lv_iload_n hx hb dX9_faultOf_29 rfl (lv_at hl 1 rfl) ?_
          cases hF
          exact lm_iret B hN dX9_faultOf_30
        · have hF := lm_itn c3 hF
          refine lv_iinc (v := (x1_7 + 1)) (lv' := [(1, .int (x1_7 + 1)), (0, .ref (q0 0))]) hx hb dX9_faultOf_23 hl (k := 1) rfl rfl (by decide) rfl (fun ls hl => ?_)
          refine lv_goto (tgt := 7) hx hb dX9_faultOf_26 (by decide) ?_
          exact ih7 _ _ _ _ _ hF hN (lv_sub hl [1, 0] rfl)
  refine lv_aload_n hx hb dX9_faultOf_0 rfl (lv_at hl 0 rfl) ?_
  refine lv_iconst (v := 0) hx hb dX9_faultOf_1 (by decide) ?_
  refine lm_put B hN (ci := 9) hiX9 tyX9 tyX9_ok nmX9 0 rfl rfl 2 (by decide) (by decide +kernel) (by decide) (v := .int (0 : Int32)) rfl rfl (Nat.le_of_ble_eq_true rfl) (wX9 G q0 (lm_sF s0 1 (0 : Int32))) (wX9_r0f1 _ _ _ _) dX9_faultOf_2 (fun H locs hN => ?_)
  refine lv_iconst (v := 0) hx hb dX9_faultOf_5 (by decide) ?_
  refine lv_istore_n (lv' := [(1, .int (0 : Int32)), (0, .ref (q0 0))]) hx hb dX9_faultOf_6 rfl hl (by decide) rfl (fun ls hl => ?_)
  exact L7 5000 _ _ _ _ _ hF hN (lv_sub hl [1, 0] rfl)
def jX9_looksOf_96 (k4 : Int32 × Int32 × Int32 × lm_St → Option (Int32 × lm_St)) (x1_96 : Int32) (x3_96 : Int32) (y0_96 : Int32) (y1_96 : Int32) (s0_96 : lm_St) : Option (Int32 × lm_St) := k4 (x1_96, (y1_96 ||| y0_96), (x3_96 + 1), s0_96)
def jX9_looksOf_75 (k4 : Int32 × Int32 × Int32 × lm_St → Option (Int32 × lm_St)) (k16 : Int32 × Int32 × Int32 × Int32 × Int32 × lm_St → Option (Int32 × lm_St)) (x1_75 : Int32) (x2_75 : Int32) (x3_75 : Int32) (x5_75 : Int32) (y0_75 : Int32) (s0_75 : lm_St) : Option (Int32 × lm_St) := k16 (x1_75, x2_75, x3_75, y0_75, (x5_75 + 3), s0_75)
def jX9_looksOf_74 (k4 : Int32 × Int32 × Int32 × lm_St → Option (Int32 × lm_St)) (k16 : Int32 × Int32 × Int32 × Int32 × Int32 × lm_St → Option (Int32 × lm_St)) (x1_74 : Int32) (x2_74 : Int32) (x3_74 : Int32) (x5_74 : Int32) (s0_74 : lm_St) : Option (Int32 × lm_St) := jX9_looksOf_75 k4 k16 x1_74 x2_74 x3_74 x5_74 (0 : Int32) s0_74
def jX9_looksOf_70 (k4 : Int32 × Int32 × Int32 × lm_St → Option (Int32 × lm_St)) (k16 : Int32 × Int32 × Int32 × Int32 × Int32 × lm_St → Option (Int32 × lm_St)) (x1_70 : Int32) (x2_70 : Int32) (x3_70 : Int32) (x5_70 : Int32) (s0_70 : lm_St) : Option (Int32 × lm_St) := jX9_looksOf_75 k4 k16 x1_70 x2_70 x3_70 x5_70 (1 : Int32) s0_70
def bX9_looksOf_16 (k4 : Int32 × Int32 × Int32 × lm_St → Option (Int32 × lm_St)) (k16 : Int32 × Int32 × Int32 × Int32 × Int32 × lm_St → Option (Int32 × lm_St)) (x1_16 : Int32) (x2_16 : Int32) (x3_16 : Int32) (x4_16 : Int32) (x5_16 : Int32) (s0_16 : lm_St) : Option (Int32 × lm_St) := if ((3 : Int32) * (s0_16.1 9)) ≤ x5_16 then (if x4_16 = 0 then (jX9_looksOf_96 k4 x1_16 x3_16 (0 : Int32) x2_16 s0_16) else (jX9_looksOf_96 k4 x1_16 x3_16 ((1 : Int32) <<< (x3_16 &&& 31)) x2_16 s0_16)) else (if x4_16 = 0 then (jX9_looksOf_74 k4 k16 x1_16 x2_16 x3_16 x5_16 s0_16) else (lm_gI x5_16 18 (if ((s0_16.2.1 10) x5_16.toNatClampNeg) = x1_16 then (lm_gI (x5_16 + (1 : Int32)) 18 ((fX9_missedIf s0_16 x1_16 x3_16 ((s0_16.2.1 10) (x5_16 + (1 : Int32)).toNatClampNeg)).bind (fun v7 => lm_un2 v7 (fun r7 t7_0 => lm_gI (x5_16 + (2 : Int32)) 18 (if r7 = ((t7_0.2.1 10) (x5_16 + (2 : Int32)).toNatClampNeg) then (jX9_looksOf_70 k4 k16 x1_16 x2_16 x3_16 x5_16 t7_0) else (jX9_looksOf_74 k4 k16 x1_16 x2_16 x3_16 x5_16 t7_0)))))) else (jX9_looksOf_70 k4 k16 x1_16 x2_16 x3_16 x5_16 s0_16))))
def bX9_looksOf_4 (k4 : Int32 × Int32 × Int32 × lm_St → Option (Int32 × lm_St)) (x1_4 : Int32) (x2_4 : Int32) (x3_4 : Int32) (s0_4 : lm_St) : Option (Int32 × lm_St) := if (21 : Int32) ≤ x3_4 then (some (x2_4, s0_4)) else (lm_lp (fun k a => bX9_looksOf_16 k4 k a.1 a.2.1 a.2.2.1 a.2.2.2.1 a.2.2.2.2.1 a.2.2.2.2.2) 5000 (x1_4, x2_4, x3_4, (1 : Int32), (0 : Int32), s0_4))
def fX9_looksOf (s0 : lm_St) (x1 : Int32) : Option (Int32 × lm_St) := lm_lp (fun k a => bX9_looksOf_4 k a.1 a.2.1 a.2.2.1 a.2.2.2) 5000 (x1, (0 : Int32), (0 : Int32), s0)
set_option maxHeartbeats 4000000 in
set_option maxRecDepth 100000 in
theorem hX9_looksOf (l : Launch) (G : lm_G) (q0 : Nat → Nat) {s0 : lm_St} {x1 : Int32} {R : Int32 × lm_St} (hF : fX9_looksOf s0 x1 = some R) : lm_C l G yX9_looksOf wsX9_looksOf 3 [.ref (q0 0), .int x1] (wX9 G q0 s0) (some (.int R.1)) (wX9 G q0 R.2) := by
  refine lm_C.of (cc := cX9_looksOf) (maxL := 6) (ret := (some .int)) (by decide) rfl (Nat.le_of_ble_eq_true rfl) ?_
  intro p e s m below meth c A ls B hN hl
  have hx := B.1.1
  have hb := B.1.2.1
  have hown := B.1.2.2.2.1
  have hts := B.1.2.2.2.2
  have hiX9 : ∀ w ∈ wsX90, w ∈ wsX9_looksOf := by decide +kernel
  have hl : lv_has ls 6 [(0, .ref (q0 0)), (1, .int x1)] := hl
  have L4 : ∀ (n : Nat) (x1_4 : Int32) (x2_4 : Int32) (x3_4 : Int32) (s0_4 : lm_St) (H : Heap) (locs : List Loc) (ls : Array Slot), lm_lp (fun k a => bX9_looksOf_4 k a.1 a.2.1 a.2.2.1 a.2.2.2) n (x1_4, x2_4, x3_4, s0_4) = some R → lm_N G A s (wX9 G q0 s0_4) H locs → lv_has ls 6 [(0, .ref (q0 0)), (1, .int x1_4), (2, .int x2_4), (3, .int x3_4)] → W p l e (lm_rk 3) s m ([.ref (q0 0), .int x1] : List Value).toArray below meth c H locs 0 0 (MQ below (lm_post G (wX9 G q0 R.2) (some (.int R.1)) A) ([.ref (q0 0), .int x1] : List Value).toArray s 0 0 A) (F0 m 4 ls []) := by
    intro n
    induction n with
    | zero => intro x1_4 x2_4 x3_4 s0_4 H locs ls hF; exact (lm_lpz hF).elim
    | succ n ih4 =>
      intro x1_4 x2_4 x3_4 s0_4 H locs ls hF hN hl
      have hF : bX9_looksOf_4 (lm_lp (fun k a => bX9_looksOf_4 k a.1 a.2.1 a.2.2.1 a.2.2.2) n) x1_4 x2_4 x3_4 s0_4 = some R := lm_lps hF
      generalize lm_lp (fun k a => bX9_looksOf_4 k a.1 a.2.1 a.2.2.1 a.2.2.2) n = k4 at hF ih4
      have L16 : ∀ (n : Nat) (x1_16 : Int32) (x2_16 : Int32) (x3_16 : Int32) (x4_16 : Int32) (x5_16 : Int32) (s0_16 : lm_St) (H : Heap) (locs : List Loc) (ls : Array Slot), lm_lp (fun k a => bX9_looksOf_16 k4 k a.1 a.2.1 a.2.2.1 a.2.2.2.1 a.2.2.2.2.1 a.2.2.2.2.2) n (x1_16, x2_16, x3_16, x4_16, x5_16, s0_16) = some R → lm_N G A s (wX9 G q0 s0_16) H locs → lv_has ls 6 [(0, .ref (q0 0)), (1, .int x1_16), (2, .int x2_16), (3, .int x3_16), (4, .int x4_16), (5, .int x5_16)] → W p l e (lm_rk 3) s m ([.ref (q0 0), .int x1] : List Value).toArray below meth c H locs 0 0 (MQ below (lm_post G (wX9 G q0 R.2) (some (.int R.1)) A) ([.ref (q0 0), .int x1] : List Value).toArray s 0 0 A) (F0 m 16 ls []) := by
        intro n
        induction n with
        | zero => intro x1_16 x2_16 x3_16 x4_16 x5_16 s0_16 H locs ls hF; exact (lm_lpz hF).elim
        | succ n ih16 =>
          intro x1_16 x2_16 x3_16 x4_16 x5_16 s0_16 H locs ls hF hN hl
          have hF : bX9_looksOf_16 k4 (lm_lp (fun k a => bX9_looksOf_16 k4 k a.1 a.2.1 a.2.2.1 a.2.2.2.1 a.2.2.2.2.1 a.2.2.2.2.2) n) x1_16 x2_16 x3_16 x4_16 x5_16 s0_16 = some R := lm_lps hF
          generalize lm_lp (fun k a => bX9_looksOf_16 k4 k a.1 a.2.1 a.2.2.1 a.2.2.2.1 a.2.2.2.2.1 a.2.2.2.2.2) n = k16 at hF ih16
          have J96 : ∀ (x1_96 : Int32) (x3_96 : Int32) (y0_96 : Int32) (y1_96 : Int32) (s0_96 : lm_St) (H : Heap) (locs : List Loc) (ls : Array Slot), jX9_looksOf_96 k4 x1_96 x3_96 y0_96 y1_96 s0_96 = some R → lm_N G A s (wX9 G q0 s0_96) H locs → lv_has ls 6 [(0, .ref (q0 0)), (1, .int x1_96), (3, .int x3_96)] → W p l e (lm_rk 3) s m ([.ref (q0 0), .int x1] : List Value).toArray below meth c H locs 0 0 (MQ below (lm_post G (wX9 G q0 R.2) (some (.int R.1)) A) ([.ref (q0 0), .int x1] : List Value).toArray s 0 0 A) (F0 m 96 ls [.int y0_96, .int y1_96]) := by
            intro x1_96 x3_96 y0_96 y1_96 s0_96 H locs ls hF hN hl
            refine lv_ior hx hb dX9_looksOf_96 ?_
            refine lv_istore_n (lv' := [(2, .int (y1_96 ||| y0_96)), (0, .ref (q0 0)), (1, .int x1_96), (3, .int x3_96)]) hx hb dX9_looksOf_97 rfl hl (by decide) rfl (fun ls hl => ?_)
            refine lv_iinc (v := (x3_96 + 1)) (lv' := [(3, .int (x3_96 + 1)), (2, .int (y1_96 ||| y0_96)), (0, .ref (q0 0)), (1, .int x1_96)]) hx hb dX9_looksOf_98 hl (k := 3) rfl rfl (by decide) rfl (fun ls hl => ?_)
            refine lv_goto (tgt := 4) hx hb dX9_looksOf_101 (by decide) ?_
            exact ih4 _ _ _ _ _ _ _ hF hN (lv_sub hl [2, 3, 1, 0] rfl)
          have J75 : ∀ (x1_75 : Int32) (x2_75 : Int32) (x3_75 : Int32) (x5_75 : Int32) (y0_75 : Int32) (s0_75 : lm_St) (H : Heap) (locs : List Loc) (ls : Array Slot), jX9_looksOf_75 k4 k16 x1_75 x2_75 x3_75 x5_75 y0_75 s0_75 = some R → lm_N G A s (wX9 G q0 s0_75) H locs → lv_has ls 6 [(0, .ref (q0 0)), (1, .int x1_75), (2, .int x2_75), (3, .int x3_75), (5, .int x5_75)] → W p l e (lm_rk 3) s m ([.ref (q0 0), .int x1] : List Value).toArray below meth c H locs 0 0 (MQ below (lm_post G (wX9 G q0 R.2) (some (.int R.1)) A) ([.ref (q0 0), .int x1] : List Value).toArray s 0 0 A) (F0 m 75 ls [.int y0_75]) := by
            intro x1_75 x2_75 x3_75 x5_75 y0_75 s0_75 H locs ls hF hN hl
            refine lv_istore (lv' := [(4, .int y0_75), (0, .ref (q0 0)), (1, .int x1_75), (2, .int x2_75), (3, .int x3_75), (5, .int x5_75)]) hx hb dX9_looksOf_75 hl (by decide) rfl (fun ls hl => ?_)
            refine lv_iinc (v := (x5_75 + 3)) (lv' := [(5, .int (x5_75 + 3)), (4, .int y0_75), (0, .ref (q0 0)), (1, .int x1_75), (2, .int x2_75), (3, .int x3_75)]) hx hb dX9_looksOf_77 hl (k := 5) rfl rfl (by decide) rfl (fun ls hl => ?_)
            refine lv_goto (tgt := 16) hx hb dX9_looksOf_80 (by decide) ?_
            exact ih16 _ _ _ _ _ _ _ _ _ hF hN (lv_sub hl [2, 3, 4, 5, 1, 0] rfl)
          have J74 : ∀ (x1_74 : Int32) (x2_74 : Int32) (x3_74 : Int32) (x5_74 : Int32) (s0_74 : lm_St) (H : Heap) (locs : List Loc) (ls : Array Slot), jX9_looksOf_74 k4 k16 x1_74 x2_74 x3_74 x5_74 s0_74 = some R → lm_N G A s (wX9 G q0 s0_74) H locs → lv_has ls 6 [(0, .ref (q0 0)), (1, .int x1_74), (2, .int x2_74), (3, .int x3_74), (5, .int x5_74)] → W p l e (lm_rk 3) s m ([.ref (q0 0), .int x1] : List Value).toArray below meth c H locs 0 0 (MQ below (lm_post G (wX9 G q0 R.2) (some (.int R.1)) A) ([.ref (q0 0), .int x1] : List Value).toArray s 0 0 A) (F0 m 74 ls []) := by
            intro x1_74 x2_74 x3_74 x5_74 s0_74 H locs ls hF hN hl
            refine lv_iconst (v := 0) hx hb dX9_looksOf_74 (by decide) ?_
            exact J75 _ _ _ _ _ _ _ _ _ hF hN (lv_sub hl [0, 1, 2, 3, 4] rfl)
          have J70 : ∀ (x1_70 : Int32) (x2_70 : Int32) (x3_70 : Int32) (x5_70 : Int32) (s0_70 : lm_St) (H : Heap) (locs : List Loc) (ls : Array Slot), jX9_looksOf_70 k4 k16 x1_70 x2_70 x3_70 x5_70 s0_70 = some R → lm_N G A s (wX9 G q0 s0_70) H locs → lv_has ls 6 [(0, .ref (q0 0)), (1, .int x1_70), (2, .int x2_70), (3, .int x3_70), (5, .int x5_70)] → W p l e (lm_rk 3) s m ([.ref (q0 0), .int x1] : List Value).toArray below meth c H locs 0 0 (MQ below (lm_post G (wX9 G q0 R.2) (some (.int R.1)) A) ([.ref (q0 0), .int x1] : List Value).toArray s 0 0 A) (F0 m 70 ls []) := by
            intro x1_70 x2_70 x3_70 x5_70 s0_70 H locs ls hF hN hl
            refine lv_iconst (v := 1) hx hb dX9_looksOf_70 (by decide) ?_
            refine lv_goto (tgt := 75) hx hb dX9_looksOf_71 (by decide) ?_
            exact J75 _ _ _ _ _ _ _ _ _ hF hN (lv_sub hl [0, 1, 2, 3, 4] rfl)
          refine lv_iload hx hb dX9_looksOf_16 (lv_at hl 5 rfl) ?_
          refine lv_iconst (v := 3) hx hb dX9_looksOf_18 (by decide) ?_
          refine lv_aload_n hx hb dX9_looksOf_19 rfl (lv_at hl 0 rfl) ?_
          refine lm_get B hN (ci := 9) hiX9 0 rfl rfl 19 (by decide) (by decide +kernel) (v := .int (s0_16.1 9)) rfl dX9_looksOf_20 ?_
          refine lv_imul hx hb dX9_looksOf_23 ?_
          refine lv_icmp_ge (tgt := 83) hx hb dX9_looksOf_24 (by decide) (fun c1 => ?_) (fun c1 => ?_)
          · have hF := lm_itp c1 hF
            refine lv_iload_n hx hb dX9_looksOf_83 rfl (lv_at hl 2 rfl) ?_
            refine lv_iload hx hb dX9_looksOf_84 (lv_at hl 4 rfl) ?_
            refine lv_if_eq (tgt := 95) hx hb dX9_looksOf_86 (by decide) (fun c2 => ?_) (fun c2 => ?_)
            · have hF := lm_itp c2 hF
              refine lv_iconst (v := 0) hx hb dX9_looksOf_95 (by decide) ?_
              exact J96 _ _ _ _ _ _ _ _ hF hN (lv_sub hl [0, 1, 3] rfl)
            · have hF := lm_itn c2 hF
              refine lv_iconst (v := 1) hx hb dX9_looksOf_89 (by decide) ?_
              refine lv_iload_n hx hb dX9_looksOf_90 rfl (lv_at hl 3 rfl) ?_
              refine lv_ishl hx hb dX9_looksOf_91 ?_
              refine lv_goto (tgt := 96) hx hb dX9_looksOf_92 (by decide) ?_
              exact J96 _ _ _ _ _ _ _ _ hF hN (lv_sub hl [0, 1, 3] rfl)
          · have hF := lm_itn c1 hF
            refine lv_iload hx hb dX9_looksOf_27 (lv_at hl 4 rfl) ?_
            refine lv_if_eq (tgt := 74) hx hb dX9_looksOf_29 (by decide) (fun c3 => ?_) (fun c3 => ?_)
            · have hF := lm_itp c3 hF
              exact J74 _ _ _ _ _ _ _ _ hF hN (lv_sub hl [0, 1, 2, 3, 5] rfl)
            · have hF := lm_itn c3 hF
              refine lv_aload_n hx hb dX9_looksOf_32 rfl (lv_at hl 0 rfl) ?_
              refine lm_get B hN (ci := 9) hiX9 0 rfl rfl 20 (by decide) (by decide +kernel) (v := .ref (q0 11)) rfl dX9_looksOf_33 ?_
              refine lv_iload hx hb dX9_looksOf_36 (lv_at hl 5 rfl) ?_
              obtain ⟨z4, hF⟩ := lm_gIe hF
              refine lm_ald B hN 11 (f := (s0_16.2.1 10)) rfl z4 dX9_looksOf_38 ?_
              refine lv_iload_n hx hb dX9_looksOf_39 rfl (lv_at hl 1 rfl) ?_
              refine lv_icmp_ne (tgt := 70) hx hb dX9_looksOf_40 (by decide) (fun c5 => ?_) (fun c5 => ?_)
              · have hF := lm_itn c5 hF
                exact J70 _ _ _ _ _ _ _ _ hF hN (lv_sub hl [0, 1, 2, 3, 5] rfl)
              · have hF := lm_itp c5 hF
                refine lv_aload_n hx hb dX9_looksOf_43 rfl (lv_at hl 0 rfl) ?_
                refine lv_iload_n hx hb dX9_looksOf_44 rfl (lv_at hl 1 rfl) ?_
                refine lv_iload_n hx hb dX9_looksOf_45 rfl (lv_at hl 3 rfl) ?_
                refine lv_aload_n hx hb dX9_looksOf_46 rfl (lv_at hl 0 rfl) ?_
                refine lm_get B hN (ci := 9) hiX9 0 rfl rfl 20 (by decide) (by decide +kernel) (v := .ref (q0 11)) rfl dX9_looksOf_47 ?_
                refine lv_iload hx hb dX9_looksOf_50 (lv_at hl 5 rfl) ?_
                refine lv_iconst (v := 1) hx hb dX9_looksOf_52 (by decide) ?_
                refine lv_iadd hx hb dX9_looksOf_53 ?_
                obtain ⟨z6, hF⟩ := lm_gIe hF
                refine lm_ald B hN 11 (f := (s0_16.2.1 10)) rfl z6 dX9_looksOf_54 ?_
                obtain ⟨⟨r7, t7_0⟩, hc7, hF⟩ := lm_bd hF
                have hF := lm_un2E hF
                refine lm_runA B hN (lm_hrV B hN hl.1 (lm_cutA B hN) (n := 3) (As := [.int x1_16, .int x3_16, .int ((s0_16.2.1 10) (x5_16 + (1 : Int32)).toNatClampNeg)]) (rest := []) (hX9_missedIf l G q0 hc7) gX9_looksOf_X9_missedIf rfl (by decide +kernel) rfl (by decide) (by decide) (ci := 9) (q0 := 0) rfl rfl rfl (Nat.le_of_ble_eq_true rfl) dX9_looksOf_55) (fun H locs hN => ?_)
                refine lv_aload_n hx hb dX9_looksOf_58 rfl (lv_at hl 0 rfl) ?_
                refine lm_get B hN (ci := 9) hiX9 0 rfl rfl 20 (by decide) (by decide +kernel) (v := .ref (q0 11)) rfl dX9_looksOf_59 ?_
                refine lv_iload hx hb dX9_looksOf_62 (lv_at hl 5 rfl) ?_
                refine lv_iconst (v := 2) hx hb dX9_looksOf_64 (by decide) ?_
                refine lv_iadd hx hb dX9_looksOf_65 ?_
                obtain ⟨z8, hF⟩ := lm_gIe hF
                refine lm_ald B hN 11 (f := (t7_0.2.1 10)) rfl z8 dX9_looksOf_66 ?_
                refine lv_icmp_ne (tgt := 74) hx hb dX9_looksOf_67 (by decide) (fun c9 => ?_) (fun c9 => ?_)
                · have hF := lm_itn c9 hF
                  exact J74 _ _ _ _ _ _ _ _ hF hN (lv_sub hl [0, 1, 2, 3, 5] rfl)
                · have hF := lm_itp c9 hF
                  exact J70 _ _ _ _ _ _ _ _ hF hN (lv_sub hl [0, 1, 2, 3, 5] rfl)
      refine lv_iload_n hx hb dX9_looksOf_4 rfl (lv_at hl 3 rfl) ?_
      refine lv_bipush (v := 21) hx hb dX9_looksOf_5 (by decide) ?_
      refine lv_icmp_ge (tgt := 104) hx hb dX9_looksOf_7 (by decide) (fun c10 => ?_) (fun c10 => ?_)
      · have hF := lm_itp c10 hF
        refine lv_iload_n hx hb dX9_looksOf_104 rfl (lv_at hl 2 rfl) ?_
        cases hF
        exact lm_iret B hN dX9_looksOf_105
      · have hF := lm_itn c10 hF
        refine lv_iconst (v := 1) hx hb dX9_looksOf_10 (by decide) ?_
        refine lv_istore (lv' := [(4, .int (1 : Int32)), (0, .ref (q0 0)), (1, .int x1_4), (2, .int x2_4), (3, .int x3_4)]) hx hb dX9_looksOf_11 hl (by decide) rfl (fun ls hl => ?_)
        refine lv_iconst (v := 0) hx hb dX9_looksOf_13 (by decide) ?_
        refine lv_istore (lv' := [(5, .int (0 : Int32)), (4, .int (1 : Int32)), (0, .ref (q0 0)), (1, .int x1_4), (2, .int x2_4), (3, .int x3_4)]) hx hb dX9_looksOf_14 hl (by decide) rfl (fun ls hl => ?_)
        exact L16 5000 _ _ _ _ _ _ _ _ _ hF hN (lv_sub hl [2, 3, 4, 5, 1, 0] rfl)
  refine lv_iconst (v := 0) hx hb dX9_looksOf_0 (by decide) ?_
  refine lv_istore_n (lv' := [(2, .int (0 : Int32)), (0, .ref (q0 0)), (1, .int x1)]) hx hb dX9_looksOf_1 rfl hl (by decide) rfl (fun ls hl => ?_)
  refine lv_iconst (v := 0) hx hb dX9_looksOf_2 (by decide) ?_
  refine lv_istore_n (lv' := [(3, .int (0 : Int32)), (2, .int (0 : Int32)), (0, .ref (q0 0)), (1, .int x1)]) hx hb dX9_looksOf_3 rfl hl (by decide) rfl (fun ls hl => ?_)
  exact L4 5000 _ _ _ _ _ _ _ hF hN (lv_sub hl [2, 3, 1, 0] rfl)
def jX9_missedLeft_31 (k4 : Int32 × Int32 × lm_St → Option (Int32 × lm_St)) (x2_31 : Int32) (y0_31 : Int32) (y1_31 : Int32) (s0_31 : lm_St) : Option (Int32 × lm_St) := k4 ((y1_31 + y0_31), (x2_31 + 1), s0_31)
def bX9_missedLeft_4 (k4 : Int32 × Int32 × lm_St → Option (Int32 × lm_St)) (x1_4 : Int32) (x2_4 : Int32) (s0_4 : lm_St) : Option (Int32 × lm_St) := if (s0_4.1 2) ≤ x2_4 then (some (x1_4, s0_4)) else (lm_gI x2_4 7 (if ((s0_4.2.1 8) x2_4.toNatClampNeg) = 0 then ((fX9_missedThen s0_4 x2_4).bind (fun v4 => lm_un2 v4 (fun r4 t4_0 => jX9_missedLeft_31 k4 x2_4 r4 x1_4 t4_0))) else (jX9_missedLeft_31 k4 x2_4 (0 : Int32) x1_4 s0_4)))
def fX9_missedLeft (s0 : lm_St) : Option (Int32 × lm_St) := lm_lp (fun k a => bX9_missedLeft_4 k a.1 a.2.1 a.2.2) 5000 ((0 : Int32), (0 : Int32), s0)
set_option maxHeartbeats 4000000 in
set_option maxRecDepth 100000 in
theorem hX9_missedLeft (l : Launch) (G : lm_G) (q0 : Nat → Nat) {s0 : lm_St} {R : Int32 × lm_St} (hF : fX9_missedLeft s0 = some R) : lm_C l G yX9_missedLeft wsX9_missedLeft 3 [.ref (q0 0)] (wX9 G q0 s0) (some (.int R.1)) (wX9 G q0 R.2) := by
  refine lm_C.of (cc := cX9_missedLeft) (maxL := 3) (ret := (some .int)) (by decide) rfl (Nat.le_of_ble_eq_true rfl) ?_
  intro p e s m below meth c A ls B hN hl
  have hx := B.1.1
  have hb := B.1.2.1
  have hown := B.1.2.2.2.1
  have hts := B.1.2.2.2.2
  have hiX9 : ∀ w ∈ wsX90, w ∈ wsX9_missedLeft := by decide +kernel
  have hl : lv_has ls 3 [(0, .ref (q0 0))] := hl
  have L4 : ∀ (n : Nat) (x1_4 : Int32) (x2_4 : Int32) (s0_4 : lm_St) (H : Heap) (locs : List Loc) (ls : Array Slot), lm_lp (fun k a => bX9_missedLeft_4 k a.1 a.2.1 a.2.2) n (x1_4, x2_4, s0_4) = some R → lm_N G A s (wX9 G q0 s0_4) H locs → lv_has ls 3 [(0, .ref (q0 0)), (1, .int x1_4), (2, .int x2_4)] → W p l e (lm_rk 3) s m ([.ref (q0 0)] : List Value).toArray below meth c H locs 0 0 (MQ below (lm_post G (wX9 G q0 R.2) (some (.int R.1)) A) ([.ref (q0 0)] : List Value).toArray s 0 0 A) (F0 m 4 ls []) := by
    intro n
    induction n with
    | zero => intro x1_4 x2_4 s0_4 H locs ls hF; exact (lm_lpz hF).elim
    | succ n ih4 =>
      intro x1_4 x2_4 s0_4 H locs ls hF hN hl
      have hF : bX9_missedLeft_4 (lm_lp (fun k a => bX9_missedLeft_4 k a.1 a.2.1 a.2.2) n) x1_4 x2_4 s0_4 = some R := lm_lps hF
      generalize lm_lp (fun k a => bX9_missedLeft_4 k a.1 a.2.1 a.2.2) n = k4 at hF ih4
      have J31 : ∀ (x2_31 : Int32) (y0_31 : Int32) (y1_31 : Int32) (s0_31 : lm_St) (H : Heap) (locs : List Loc) (ls : Array Slot), jX9_missedLeft_31 k4 x2_31 y0_31 y1_31 s0_31 = some R → lm_N G A s (wX9 G q0 s0_31) H locs → lv_has ls 3 [(0, .ref (q0 0)), (2, .int x2_31)] → W p l e (lm_rk 3) s m ([.ref (q0 0)] : List Value).toArray below meth c H locs 0 0 (MQ below (lm_post G (wX9 G q0 R.2) (some (.int R.1)) A) ([.ref (q0 0)] : List Value).toArray s 0 0 A) (F0 m 31 ls [.int y0_31, .int y1_31]) := by
        intro x2_31 y0_31 y1_31 s0_31 H locs ls hF hN hl
        refine lv_iadd hx hb dX9_missedLeft_31 ?_
        refine lv_istore_n (lv' := [(1, .int (y1_31 + y0_31)), (0, .ref (q0 0)), (2, .int x2_31)]) hx hb dX9_missedLeft_32 rfl hl (by decide) rfl (fun ls hl => ?_)
        refine lv_iinc (v := (x2_31 + 1)) (lv' := [(2, .int (x2_31 + 1)), (1, .int (y1_31 + y0_31)), (0, .ref (q0 0))]) hx hb dX9_missedLeft_33 hl (k := 2) rfl rfl (by decide) rfl (fun ls hl => ?_)
        refine lv_goto (tgt := 4) hx hb dX9_missedLeft_36 (by decide) ?_
        exact ih4 _ _ _ _ _ _ hF hN (lv_sub hl [2, 1, 0] rfl)
      refine lv_iload_n hx hb dX9_missedLeft_4 rfl (lv_at hl 2 rfl) ?_
      refine lv_aload_n hx hb dX9_missedLeft_5 rfl (lv_at hl 0 rfl) ?_
      refine lm_get B hN (ci := 9) hiX9 0 rfl rfl 3 (by decide) (by decide +kernel) (v := .int (s0_4.1 2)) rfl dX9_missedLeft_6 ?_
      refine lv_icmp_ge (tgt := 39) hx hb dX9_missedLeft_9 (by decide) (fun c1 => ?_) (fun c1 => ?_)
      · have hF := lm_itp c1 hF
        refine lv_iload_n hx hb dX9_missedLeft_39 rfl (lv_at hl 1 rfl) ?_
        cases hF
        exact lm_iret B hN dX9_missedLeft_40
      · have hF := lm_itn c1 hF
        refine lv_iload_n hx hb dX9_missedLeft_12 rfl (lv_at hl 1 rfl) ?_
        refine lv_aload_n hx hb dX9_missedLeft_13 rfl (lv_at hl 0 rfl) ?_
        refine lm_get B hN (ci := 9) hiX9 0 rfl rfl 15 (by decide) (by decide +kernel) (v := .ref (q0 9)) rfl dX9_missedLeft_14 ?_
        refine lv_iload_n hx hb dX9_missedLeft_17 rfl (lv_at hl 2 rfl) ?_
        obtain ⟨z2, hF⟩ := lm_gIe hF
        refine lm_ald B hN 9 (f := (s0_4.2.1 8)) rfl z2 dX9_missedLeft_18 ?_
        refine lv_if_ne (tgt := 30) hx hb dX9_missedLeft_19 (by decide) (fun c3 => ?_) (fun c3 => ?_)
        · have hF := lm_itn c3 hF
          refine lv_iconst (v := 0) hx hb dX9_missedLeft_30 (by decide) ?_
          exact J31 _ _ _ _ _ _ _ hF hN (lv_sub hl [0, 2] rfl)
        · have hF := lm_itp c3 hF
          refine lv_aload_n hx hb dX9_missedLeft_22 rfl (lv_at hl 0 rfl) ?_
          refine lv_iload_n hx hb dX9_missedLeft_23 rfl (lv_at hl 2 rfl) ?_
          obtain ⟨⟨r4, t4_0⟩, hc4, hF⟩ := lm_bd hF
          have hF := lm_un2E hF
          refine lm_runA B hN (lm_hrV B hN hl.1 (lm_cutA B hN) (n := 1) (As := [.int x2_4]) (rest := [.int x1_4]) (hX9_missedThen l G q0 hc4) gX9_missedLeft_X9_missedThen rfl (by decide +kernel) rfl (by decide) (by decide) (ci := 9) (q0 := 0) rfl rfl rfl (Nat.le_of_ble_eq_true rfl) dX9_missedLeft_24) (fun H locs hN => ?_)
          refine lv_goto (tgt := 31) hx hb dX9_missedLeft_27 (by decide) ?_
          exact J31 _ _ _ _ _ _ _ hF hN (lv_sub hl [0, 2] rfl)
  refine lv_iconst (v := 0) hx hb dX9_missedLeft_0 (by decide) ?_
  refine lv_istore_n (lv' := [(1, .int (0 : Int32)), (0, .ref (q0 0))]) hx hb dX9_missedLeft_1 rfl hl (by decide) rfl (fun ls hl => ?_)
  refine lv_iconst (v := 0) hx hb dX9_missedLeft_2 (by decide) ?_
  refine lv_istore_n (lv' := [(2, .int (0 : Int32)), (1, .int (0 : Int32)), (0, .ref (q0 0))]) hx hb dX9_missedLeft_3 rfl hl (by decide) rfl (fun ls hl => ?_)
  exact L4 5000 _ _ _ _ _ _ hF hN (lv_sub hl [2, 1, 0] rfl)
def jX9_missedOf_31 (k4 : Int32 × Int32 × Int32 × lm_St → Option (Int32 × lm_St)) (x1_31 : Int32) (x3_31 : Int32) (y0_31 : Int32) (y1_31 : Int32) (s0_31 : lm_St) : Option (Int32 × lm_St) := k4 (x1_31, (y1_31 + y0_31), (x3_31 + 1), s0_31)
def bX9_missedOf_4 (k4 : Int32 × Int32 × Int32 × lm_St → Option (Int32 × lm_St)) (x1_4 : Int32) (x2_4 : Int32) (x3_4 : Int32) (s0_4 : lm_St) : Option (Int32 × lm_St) := if (s0_4.1 2) ≤ x3_4 then (some (x2_4, s0_4)) else (if ((x1_4 >>> (x3_4 &&& 31)) &&& (1 : Int32)) = (1 : Int32) then ((fX9_missedThen s0_4 x3_4).bind (fun v3 => lm_un2 v3 (fun r3 t3_0 => jX9_missedOf_31 k4 x1_4 x3_4 r3 x2_4 t3_0))) else (jX9_missedOf_31 k4 x1_4 x3_4 (0 : Int32) x2_4 s0_4))
def fX9_missedOf (s0 : lm_St) (x1 : Int32) : Option (Int32 × lm_St) := lm_lp (fun k a => bX9_missedOf_4 k a.1 a.2.1 a.2.2.1 a.2.2.2) 5000 (x1, (0 : Int32), (0 : Int32), s0)
set_option maxHeartbeats 4000000 in
set_option maxRecDepth 100000 in
theorem hX9_missedOf (l : Launch) (G : lm_G) (q0 : Nat → Nat) {s0 : lm_St} {x1 : Int32} {R : Int32 × lm_St} (hF : fX9_missedOf s0 x1 = some R) : lm_C l G yX9_missedOf wsX9_missedOf 3 [.ref (q0 0), .int x1] (wX9 G q0 s0) (some (.int R.1)) (wX9 G q0 R.2) := by
  refine lm_C.of (cc := cX9_missedOf) (maxL := 4) (ret := (some .int)) (by decide) rfl (Nat.le_of_ble_eq_true rfl) ?_
  intro p e s m below meth c A ls B hN hl
  have hx := B.1.1
  have hb := B.1.2.1
  have hown := B.1.2.2.2.1
  have hts := B.1.2.2.2.2
  have hiX9 : ∀ w ∈ wsX90, w ∈ wsX9_missedOf := by decide +kernel
  have hl : lv_has ls 4 [(0, .ref (q0 0)), (1, .int x1)] := hl
  have L4 : ∀ (n : Nat) (x1_4 : Int32) (x2_4 : Int32) (x3_4 : Int32) (s0_4 : lm_St) (H : Heap) (locs : List Loc) (ls : Array Slot), lm_lp (fun k a => bX9_missedOf_4 k a.1 a.2.1 a.2.2.1 a.2.2.2) n (x1_4, x2_4, x3_4, s0_4) = some R → lm_N G A s (wX9 G q0 s0_4) H locs → lv_has ls 4 [(0, .ref (q0 0)), (1, .int x1_4), (2, .int x2_4), (3, .int x3_4)] → W p l e (lm_rk 3) s m ([.ref (q0 0), .int x1] : List Value).toArray below meth c H locs 0 0 (MQ below (lm_post G (wX9 G q0 R.2) (some (.int R.1)) A) ([.ref (q0 0), .int x1] : List Value).toArray s 0 0 A) (F0 m 4 ls []) := by
    intro n
    induction n with
    | zero => intro x1_4 x2_4 x3_4 s0_4 H locs ls hF; exact (lm_lpz hF).elim
    | succ n ih4 =>
      intro x1_4 x2_4 x3_4 s0_4 H locs ls hF hN hl
      have hF : bX9_missedOf_4 (lm_lp (fun k a => bX9_missedOf_4 k a.1 a.2.1 a.2.2.1 a.2.2.2) n) x1_4 x2_4 x3_4 s0_4 = some R := lm_lps hF
      generalize lm_lp (fun k a => bX9_missedOf_4 k a.1 a.2.1 a.2.2.1 a.2.2.2) n = k4 at hF ih4
      have J31 : ∀ (x1_31 : Int32) (x3_31 : Int32) (y0_31 : Int32) (y1_31 : Int32) (s0_31 : lm_St) (H : Heap) (locs : List Loc) (ls : Array Slot), jX9_missedOf_31 k4 x1_31 x3_31 y0_31 y1_31 s0_31 = some R → lm_N G A s (wX9 G q0 s0_31) H locs → lv_has ls 4 [(0, .ref (q0 0)), (1, .int x1_31), (3, .int x3_31)] → W p l e (lm_rk 3) s m ([.ref (q0 0), .int x1] : List Value).toArray below meth c H locs 0 0 (MQ below (lm_post G (wX9 G q0 R.2) (some (.int R.1)) A) ([.ref (q0 0), .int x1] : List Value).toArray s 0 0 A) (F0 m 31 ls [.int y0_31, .int y1_31]) := by
        intro x1_31 x3_31 y0_31 y1_31 s0_31 H locs ls hF hN hl
        refine lv_iadd hx hb dX9_missedOf_31 ?_
        refine lv_istore_n (lv' := [(2, .int (y1_31 + y0_31)), (0, .ref (q0 0)), (1, .int x1_31), (3, .int x3_31)]) hx hb dX9_missedOf_32 rfl hl (by decide) rfl (fun ls hl => ?_)
        refine lv_iinc (v := (x3_31 + 1)) (lv' := [(3, .int (x3_31 + 1)), (2, .int (y1_31 + y0_31)), (0, .ref (q0 0)), (1, .int x1_31)]) hx hb dX9_missedOf_33 hl (k := 3) rfl rfl (by decide) rfl (fun ls hl => ?_)
        refine lv_goto (tgt := 4) hx hb dX9_missedOf_36 (by decide) ?_
        exact ih4 _ _ _ _ _ _ _ hF hN (lv_sub hl [2, 3, 1, 0] rfl)
      refine lv_iload_n hx hb dX9_missedOf_4 rfl (lv_at hl 3 rfl) ?_
      refine lv_aload_n hx hb dX9_missedOf_5 rfl (lv_at hl 0 rfl) ?_
      refine lm_get B hN (ci := 9) hiX9 0 rfl rfl 3 (by decide) (by decide +kernel) (v := .int (s0_4.1 2)) rfl dX9_missedOf_6 ?_
      refine lv_icmp_ge (tgt := 39) hx hb dX9_missedOf_9 (by decide) (fun c1 => ?_) (fun c1 => ?_)
      · have hF := lm_itp c1 hF
        refine lv_iload_n hx hb dX9_missedOf_39 rfl (lv_at hl 2 rfl) ?_
        cases hF
        exact lm_iret B hN dX9_missedOf_40
      · have hF := lm_itn c1 hF
        refine lv_iload_n hx hb dX9_missedOf_12 rfl (lv_at hl 2 rfl) ?_
        refine lv_iload_n hx hb dX9_missedOf_13 rfl (lv_at hl 1 rfl) ?_
        refine lv_iload_n hx hb dX9_missedOf_14 rfl (lv_at hl 3 rfl) ?_
        refine lv_ishr hx hb dX9_missedOf_15 ?_
        refine lv_iconst (v := 1) hx hb dX9_missedOf_16 (by decide) ?_
        refine lv_iand hx hb dX9_missedOf_17 ?_
        refine lv_iconst (v := 1) hx hb dX9_missedOf_18 (by decide) ?_
        refine lv_icmp_ne (tgt := 30) hx hb dX9_missedOf_19 (by decide) (fun c2 => ?_) (fun c2 => ?_)
        · have hF := lm_itn c2 hF
          refine lv_iconst (v := 0) hx hb dX9_missedOf_30 (by decide) ?_
          exact J31 _ _ _ _ _ _ _ _ hF hN (lv_sub hl [0, 1, 3] rfl)
        · have hF := lm_itp c2 hF
          refine lv_aload_n hx hb dX9_missedOf_22 rfl (lv_at hl 0 rfl) ?_
          refine lv_iload_n hx hb dX9_missedOf_23 rfl (lv_at hl 3 rfl) ?_
          obtain ⟨⟨r3, t3_0⟩, hc3, hF⟩ := lm_bd hF
          have hF := lm_un2E hF
          refine lm_runA B hN (lm_hrV B hN hl.1 (lm_cutA B hN) (n := 1) (As := [.int x3_4]) (rest := [.int x2_4]) (hX9_missedThen l G q0 hc3) gX9_missedOf_X9_missedThen rfl (by decide +kernel) rfl (by decide) (by decide) (ci := 9) (q0 := 0) rfl rfl rfl (Nat.le_of_ble_eq_true rfl) dX9_missedOf_24) (fun H locs hN => ?_)
          refine lv_goto (tgt := 31) hx hb dX9_missedOf_27 (by decide) ?_
          exact J31 _ _ _ _ _ _ _ _ hF hN (lv_sub hl [0, 1, 3] rfl)
  refine lv_iconst (v := 0) hx hb dX9_missedOf_0 (by decide) ?_
  refine lv_istore_n (lv' := [(2, .int (0 : Int32)), (0, .ref (q0 0)), (1, .int x1)]) hx hb dX9_missedOf_1 rfl hl (by decide) rfl (fun ls hl => ?_)
  refine lv_iconst (v := 0) hx hb dX9_missedOf_2 (by decide) ?_
  refine lv_istore_n (lv' := [(3, .int (0 : Int32)), (2, .int (0 : Int32)), (0, .ref (q0 0)), (1, .int x1)]) hx hb dX9_missedOf_3 rfl hl (by decide) rfl (fun ls hl => ?_)
  exact L4 5000 _ _ _ _ _ _ _ hF hN (lv_sub hl [2, 3, 1, 0] rfl)
def jX9_nextThen_48 (k4 : Int32 × Int32 × lm_St → Option (Int32 × lm_St)) (x1_48 : Int32) (x2_48 : Int32) (s0_48 : lm_St) : Option (Int32 × lm_St) := k4 (x1_48, (x2_48 + 1), s0_48)
def jX9_nextThen_46 (k4 : Int32 × Int32 × lm_St → Option (Int32 × lm_St)) (x2_46 : Int32) (s0_46 : lm_St) : Option (Int32 × lm_St) := jX9_nextThen_48 k4 x2_46 x2_46 s0_46
def bX9_nextThen_4 (k4 : Int32 × Int32 × lm_St → Option (Int32 × lm_St)) (x1_4 : Int32) (x2_4 : Int32) (s0_4 : lm_St) : Option (Int32 × lm_St) := if (s0_4.1 2) ≤ x2_4 then (some (x1_4, s0_4)) else (if (s0_4.1 7) ≤ 0 then (some (x1_4, s0_4)) else (lm_gI x2_4 7 (if ((s0_4.2.1 8) x2_4.toNatClampNeg) = 0 then (if x1_4 = (-1 : Int32) then (jX9_nextThen_46 k4 x2_4 s0_4) else ((fX9_missedThen s0_4 x2_4).bind (fun v6 => lm_un2 v6 (fun r6 t6_0 => (fX9_missedThen t6_0 x1_4).bind (fun v7 => lm_un2 v7 (fun r7 t7_0 => if r7 ≤ r6 then (jX9_nextThen_48 k4 x1_4 x2_4 t7_0) else (jX9_nextThen_46 k4 x2_4 t7_0))))))) else (jX9_nextThen_48 k4 x1_4 x2_4 s0_4))))
def fX9_nextThen (s0 : lm_St) : Option (Int32 × lm_St) := lm_lp (fun k a => bX9_nextThen_4 k a.1 a.2.1 a.2.2) 5000 ((-1 : Int32), (0 : Int32), s0)
set_option maxHeartbeats 4000000 in
set_option maxRecDepth 100000 in
theorem hX9_nextThen (l : Launch) (G : lm_G) (q0 : Nat → Nat) {s0 : lm_St} {R : Int32 × lm_St} (hF : fX9_nextThen s0 = some R) : lm_C l G yX9_nextThen wsX9_nextThen 3 [.ref (q0 0)] (wX9 G q0 s0) (some (.int R.1)) (wX9 G q0 R.2) := by
  refine lm_C.of (cc := cX9_nextThen) (maxL := 3) (ret := (some .int)) (by decide) rfl (Nat.le_of_ble_eq_true rfl) ?_
  intro p e s m below meth c A ls B hN hl
  have hx := B.1.1
  have hb := B.1.2.1
  have hown := B.1.2.2.2.1
  have hts := B.1.2.2.2.2
  have hiX9 : ∀ w ∈ wsX90, w ∈ wsX9_nextThen := by decide +kernel
  have hl : lv_has ls 3 [(0, .ref (q0 0))] := hl
  have L4 : ∀ (n : Nat) (x1_4 : Int32) (x2_4 : Int32) (s0_4 : lm_St) (H : Heap) (locs : List Loc) (ls : Array Slot), lm_lp (fun k a => bX9_nextThen_4 k a.1 a.2.1 a.2.2) n (x1_4, x2_4, s0_4) = some R → lm_N G A s (wX9 G q0 s0_4) H locs → lv_has ls 3 [(0, .ref (q0 0)), (1, .int x1_4), (2, .int x2_4)] → W p l e (lm_rk 3) s m ([.ref (q0 0)] : List Value).toArray below meth c H locs 0 0 (MQ below (lm_post G (wX9 G q0 R.2) (some (.int R.1)) A) ([.ref (q0 0)] : List Value).toArray s 0 0 A) (F0 m 4 ls []) := by
    intro n
    induction n with
    | zero => intro x1_4 x2_4 s0_4 H locs ls hF; exact (lm_lpz hF).elim
    | succ n ih4 =>
      intro x1_4 x2_4 s0_4 H locs ls hF hN hl
      have hF : bX9_nextThen_4 (lm_lp (fun k a => bX9_nextThen_4 k a.1 a.2.1 a.2.2) n) x1_4 x2_4 s0_4 = some R := lm_lps hF
      generalize lm_lp (fun k a => bX9_nextThen_4 k a.1 a.2.1 a.2.2) n = k4 at hF ih4
      have J48 : ∀ (x1_48 : Int32) (x2_48 : Int32) (s0_48 : lm_St) (H : Heap) (locs : List Loc) (ls : Array Slot), jX9_nextThen_48 k4 x1_48 x2_48 s0_48 = some R → lm_N G A s (wX9 G q0 s0_48) H locs → lv_has ls 3 [(0, .ref (q0 0)), (1, .int x1_48), (2, .int x2_48)] → W p l e (lm_rk 3) s m ([.ref (q0 0)] : List Value).toArray below meth c H locs 0 0 (MQ below (lm_post G (wX9 G q0 R.2) (some (.int R.1)) A) ([.ref (q0 0)] : List Value).toArray s 0 0 A) (F0 m 48 ls []) := by
        intro x1_48 x2_48 s0_48 H locs ls hF hN hl
        refine lv_iinc (v := (x2_48 + 1)) (lv' := [(2, .int (x2_48 + 1)), (0, .ref (q0 0)), (1, .int x1_48)]) hx hb dX9_nextThen_48 hl (k := 2) rfl rfl (by decide) rfl (fun ls hl => ?_)
        refine lv_goto (tgt := 4) hx hb dX9_nextThen_51 (by decide) ?_
        exact ih4 _ _ _ _ _ _ hF hN (lv_sub hl [1, 2, 0] rfl)
      have J46 : ∀ (x2_46 : Int32) (s0_46 : lm_St) (H : Heap) (locs : List Loc) (ls : Array Slot), jX9_nextThen_46 k4 x2_46 s0_46 = some R → lm_N G A s (wX9 G q0 s0_46) H locs → lv_has ls 3 [(0, .ref (q0 0)), (2, .int x2_46)] → W p l e (lm_rk 3) s m ([.ref (q0 0)] : List Value).toArray below meth c H locs 0 0 (MQ below (lm_post G (wX9 G q0 R.2) (some (.int R.1)) A) ([.ref (q0 0)] : List Value).toArray s 0 0 A) (F0 m 46 ls []) := by
        intro x2_46 s0_46 H locs ls hF hN hl
        refine lv_iload_n hx hb dX9_nextThen_46 rfl (lv_at hl 1 rfl) ?_
        refine lv_istore_n (lv' := [(1, .int x2_46), (0, .ref (q0 0)), (2, .int x2_46)]) hx hb dX9_nextThen_47 rfl hl (by decide) rfl (fun ls hl => ?_)
        exact J48 _ _ _ _ _ _ hF hN (lv_sub hl [1, 0, 2] rfl)
      refine lv_iload_n hx hb dX9_nextThen_4 rfl (lv_at hl 2 rfl) ?_
      refine lv_aload_n hx hb dX9_nextThen_5 rfl (lv_at hl 0 rfl) ?_
      refine lm_get B hN (ci := 9) hiX9 0 rfl rfl 3 (by decide) (by decide +kernel) (v := .int (s0_4.1 2)) rfl dX9_nextThen_6 ?_
      refine lv_icmp_ge (tgt := 54) hx hb dX9_nextThen_9 (by decide) (fun c1 => ?_) (fun c1 => ?_)
      · have hF := lm_itp c1 hF
        refine lv_iload_n hx hb dX9_nextThen_54 rfl (lv_at hl 1 rfl) ?_
        cases hF
        exact lm_iret B hN dX9_nextThen_55
      · have hF := lm_itn c1 hF
        refine lv_aload_n hx hb dX9_nextThen_12 rfl (lv_at hl 0 rfl) ?_
        refine lm_get B hN (ci := 9) hiX9 0 rfl rfl 16 (by decide) (by decide +kernel) (v := .int (s0_4.1 7)) rfl dX9_nextThen_13 ?_
        refine lv_if_le (tgt := 54) hx hb dX9_nextThen_16 (by decide) (fun c2 => ?_) (fun c2 => ?_)
        · have hF := lm_itp c2 hF
          refine lv_iload_n hx hb dX9_nextThen_54 rfl (lv_at hl 1 rfl) ?_
          cases hF
          exact lm_iret B hN dX9_nextThen_55
        · have hF := lm_itn c2 hF
          refine lv_aload_n hx hb dX9_nextThen_19 rfl (lv_at hl 0 rfl) ?_
          refine lm_get B hN (ci := 9) hiX9 0 rfl rfl 15 (by decide) (by decide +kernel) (v := .ref (q0 9)) rfl dX9_nextThen_20 ?_
          refine lv_iload_n hx hb dX9_nextThen_23 rfl (lv_at hl 2 rfl) ?_
          obtain ⟨z3, hF⟩ := lm_gIe hF
          refine lm_ald B hN 9 (f := (s0_4.2.1 8)) rfl z3 dX9_nextThen_24 ?_
          refine lv_if_ne (tgt := 48) hx hb dX9_nextThen_25 (by decide) (fun c4 => ?_) (fun c4 => ?_)
          · have hF := lm_itn c4 hF
            exact J48 _ _ _ _ _ _ hF hN (lv_sub hl [0, 1, 2] rfl)
          · have hF := lm_itp c4 hF
            refine lv_iload_n hx hb dX9_nextThen_28 rfl (lv_at hl 1 rfl) ?_
            refine lv_iconst (v := -1) hx hb dX9_nextThen_29 (by decide) ?_
            refine lv_icmp_eq (tgt := 46) hx hb dX9_nextThen_30 (by decide) (fun c5 => ?_) (fun c5 => ?_)
            · have hF := lm_itp c5 hF
              exact J46 _ _ _ _ _ hF hN (lv_sub hl [0, 2] rfl)
            · have hF := lm_itn c5 hF
              refine lv_aload_n hx hb dX9_nextThen_33 rfl (lv_at hl 0 rfl) ?_
              refine lv_iload_n hx hb dX9_nextThen_34 rfl (lv_at hl 2 rfl) ?_
              obtain ⟨⟨r6, t6_0⟩, hc6, hF⟩ := lm_bd hF
              have hF := lm_un2E hF
              refine lm_runA B hN (lm_hrV B hN hl.1 (lm_cutA B hN) (n := 1) (As := [.int x2_4]) (rest := []) (hX9_missedThen l G q0 hc6) gX9_nextThen_X9_missedThen rfl (by decide +kernel) rfl (by decide) (by decide) (ci := 9) (q0 := 0) rfl rfl rfl (Nat.le_of_ble_eq_true rfl) dX9_nextThen_35) (fun H locs hN => ?_)
              refine lv_aload_n hx hb dX9_nextThen_38 rfl (lv_at hl 0 rfl) ?_
              refine lv_iload_n hx hb dX9_nextThen_39 rfl (lv_at hl 1 rfl) ?_
              obtain ⟨⟨r7, t7_0⟩, hc7, hF⟩ := lm_bd hF
              have hF := lm_un2E hF
              refine lm_runA B hN (lm_hrV B hN hl.1 (lm_cutA B hN) (n := 1) (As := [.int x1_4]) (rest := [.int r6]) (hX9_missedThen l G q0 hc7) gX9_nextThen_X9_missedThen rfl (by decide +kernel) rfl (by decide) (by decide) (ci := 9) (q0 := 0) rfl rfl rfl (Nat.le_of_ble_eq_true rfl) dX9_nextThen_40) (fun H locs hN => ?_)
              refine lv_icmp_ge (tgt := 48) hx hb dX9_nextThen_43 (by decide) (fun c8 => ?_) (fun c8 => ?_)
              · have hF := lm_itp c8 hF
                exact J48 _ _ _ _ _ _ hF hN (lv_sub hl [0, 1, 2] rfl)
              · have hF := lm_itn c8 hF
                exact J46 _ _ _ _ _ hF hN (lv_sub hl [0, 2] rfl)
  refine lv_iconst (v := -1) hx hb dX9_nextThen_0 (by decide) ?_
  refine lv_istore_n (lv' := [(1, .int (-1 : Int32)), (0, .ref (q0 0))]) hx hb dX9_nextThen_1 rfl hl (by decide) rfl (fun ls hl => ?_)
  refine lv_iconst (v := 0) hx hb dX9_nextThen_2 (by decide) ?_
  refine lv_istore_n (lv' := [(2, .int (0 : Int32)), (1, .int (-1 : Int32)), (0, .ref (q0 0))]) hx hb dX9_nextThen_3 rfl hl (by decide) rfl (fun ls hl => ?_)
  exact L4 5000 _ _ _ _ _ _ hF hN (lv_sub hl [2, 1, 0] rfl)
def fX9_redeem (s0 : lm_St) (x1 : Int32) : Option (Int32 × lm_St) := (fX9_isThing s0 x1).bind (fun v1 => lm_un2 v1 (fun r1 t1_0 => if r1 = 0 then (some ((-101 : Int32), t1_0)) else (lm_gI x1 7 (if ((t1_0.2.1 5) x1.toNatClampNeg) = 0 then (some ((-103 : Int32), t1_0)) else (lm_gI x1 7 (if ((t1_0.1 3) + ((t1_0.2.1 2) x1.toNatClampNeg)) ≤ (99 : Int32) then (lm_gI x1 7 (lm_gI x1 7 (some (((t1_0.1 3) + ((t1_0.2.1 2) x1.toNatClampNeg)), (lm_sF (lm_sA t1_0 5 (upd (t1_0.2.1 5) x1.toNatClampNeg (0 : Int32))) 3 ((t1_0.1 3) + ((t1_0.2.1 2) x1.toNatClampNeg))))))) else (some ((-104 : Int32), t1_0))))))))
set_option maxHeartbeats 4000000 in
set_option maxRecDepth 100000 in
theorem hX9_redeem (l : Launch) (G : lm_G) (q0 : Nat → Nat) {s0 : lm_St} {x1 : Int32} {R : Int32 × lm_St} (hF : fX9_redeem s0 x1 = some R) : lm_C l G yX9_redeem wsX9_redeem 3 [.ref (q0 0), .int x1] (wX9 G q0 s0) (some (.int R.1)) (wX9 G q0 R.2) := by
  refine lm_C.of (cc := cX9_redeem) (maxL := 2) (ret := (some .int)) (by decide) rfl (Nat.le_of_ble_eq_true rfl) ?_
  intro p e s m below meth c A ls B hN hl
  have hx := B.1.1
  have hb := B.1.2.1
  have hown := B.1.2.2.2.1
  have hts := B.1.2.2.2.2
  have hiX9 : ∀ w ∈ wsX90, w ∈ wsX9_redeem := by decide +kernel
  have hl : lv_has ls 2 [(0, .ref (q0 0)), (1, .int x1)] := hl
  refine lv_aload_n hx hb dX9_redeem_0 rfl (lv_at hl 0 rfl) ?_
  refine lv_iload_n hx hb dX9_redeem_1 rfl (lv_at hl 1 rfl) ?_
  obtain ⟨⟨r1, t1_0⟩, hc1, hF⟩ := lm_bd hF
  have hF := lm_un2E hF
  refine lm_runA B hN (lm_hrV B hN hl.1 (lm_cutA B hN) (n := 1) (As := [.int x1]) (rest := []) (hX9_isThing l G q0 hc1) gX9_redeem_X9_isThing rfl (by decide +kernel) rfl (by decide) (by decide) (ci := 9) (q0 := 0) rfl rfl rfl (Nat.le_of_ble_eq_true rfl) dX9_redeem_2) (fun H locs hN => ?_)
  refine lv_if_ne (tgt := 11) hx hb dX9_redeem_5 (by decide) (fun c2 => ?_) (fun c2 => ?_)
  · have hF := lm_itn c2 hF
    refine lv_aload_n hx hb dX9_redeem_11 rfl (lv_at hl 0 rfl) ?_
    refine lm_get B hN (ci := 9) hiX9 0 rfl rfl 12 (by decide) (by decide +kernel) (v := .ref (q0 6)) rfl dX9_redeem_12 ?_
    refine lv_iload_n hx hb dX9_redeem_15 rfl (lv_at hl 1 rfl) ?_
    obtain ⟨z3, hF⟩ := lm_gIe hF
    refine lm_ald B hN 6 (f := (t1_0.2.1 5)) rfl z3 dX9_redeem_16 ?_
    refine lv_if_ne (tgt := 23) hx hb dX9_redeem_17 (by decide) (fun c4 => ?_) (fun c4 => ?_)
    · have hF := lm_itn c4 hF
      refine lv_aload_n hx hb dX9_redeem_23 rfl (lv_at hl 0 rfl) ?_
      refine lm_get B hN (ci := 9) hiX9 0 rfl rfl 4 (by decide) (by decide +kernel) (v := .int (t1_0.1 3)) rfl dX9_redeem_24 ?_
      refine lv_aload_n hx hb dX9_redeem_27 rfl (lv_at hl 0 rfl) ?_
      refine lm_get B hN (ci := 9) hiX9 0 rfl rfl 9 (by decide) (by decide +kernel) (v := .ref (q0 3)) rfl dX9_redeem_28 ?_
      refine lv_iload_n hx hb dX9_redeem_31 rfl (lv_at hl 1 rfl) ?_
      obtain ⟨z5, hF⟩ := lm_gIe hF
      refine lm_ald B hN 3 (f := (t1_0.2.1 2)) rfl z5 dX9_redeem_32 ?_
      refine lv_iadd hx hb dX9_redeem_33 ?_
      refine lv_bipush (v := 99) hx hb dX9_redeem_34 (by decide) ?_
      refine lv_icmp_le (tgt := 42) hx hb dX9_redeem_36 (by decide) (fun c6 => ?_) (fun c6 => ?_)
      · have hF := lm_itp c6 hF
        refine lv_aload_n hx hb dX9_redeem_42 rfl (lv_at hl 0 rfl) ?_
        refine lm_get B hN (ci := 9) hiX9 0 rfl rfl 12 (by decide) (by decide +kernel) (v := .ref (q0 6)) rfl dX9_redeem_43 ?_
        refine lv_iload_n hx hb dX9_redeem_46 rfl (lv_at hl 1 rfl) ?_
        refine lv_iconst (v := 0) hx hb dX9_redeem_47 (by decide) ?_
        obtain ⟨z7, hF⟩ := lm_gIe hF
        refine lm_ast B hN 6 (f := (t1_0.2.1 5)) rfl z7 (wX9 G q0 (lm_sA t1_0 5 (upd (t1_0.2.1 5) x1.toNatClampNeg (0 : Int32)))) (wX9_r0a5 _ _ _ _) dX9_redeem_48 (fun H locs hN => ?_)
        refine lv_aload_n hx hb dX9_redeem_49 rfl (lv_at hl 0 rfl) ?_
        refine lv_dup hx hb dX9_redeem_50 rfl ?_
        refine lm_get B hN (ci := 9) hiX9 0 rfl rfl 4 (by decide) (by decide +kernel) (v := .int (t1_0.1 3)) rfl dX9_redeem_51 ?_
        refine lv_aload_n hx hb dX9_redeem_54 rfl (lv_at hl 0 rfl) ?_
        refine lm_get B hN (ci := 9) hiX9 0 rfl rfl 9 (by decide) (by decide +kernel) (v := .ref (q0 3)) rfl dX9_redeem_55 ?_
        refine lv_iload_n hx hb dX9_redeem_58 rfl (lv_at hl 1 rfl) ?_
        obtain ⟨z8, hF⟩ := lm_gIe hF
        refine lm_ald B hN 3 (f := (t1_0.2.1 2)) rfl z8 dX9_redeem_59 ?_
        refine lv_iadd hx hb dX9_redeem_60 ?_
        refine lm_put B hN (ci := 9) hiX9 tyX9 tyX9_ok nmX9 0 rfl rfl 4 (by decide) (by decide +kernel) (by decide) (v := .int ((t1_0.1 3) + ((t1_0.2.1 2) x1.toNatClampNeg))) rfl rfl (Nat.le_of_ble_eq_true rfl) (wX9 G q0 (lm_sF (lm_sA t1_0 5 (upd (t1_0.2.1 5) x1.toNatClampNeg (0 : Int32))) 3 ((t1_0.1 3) + ((t1_0.2.1 2) x1.toNatClampNeg)))) (wX9_r0f3 _ _ _ _) dX9_redeem_61 (fun H locs hN => ?_)
        refine lv_aload_n hx hb dX9_redeem_64 rfl (lv_at hl 0 rfl) ?_
        refine lm_get B hN (ci := 9) hiX9 0 rfl rfl 4 (by decide) (by decide +kernel) (v := .int ((t1_0.1 3) + ((t1_0.2.1 2) x1.toNatClampNeg))) rfl dX9_redeem_65 ?_
        cases hF
        exact lm_iret B hN dX9_redeem_68
      · have hF := lm_itn c6 hF
        refine lv_bipush (v := -104) hx hb dX9_redeem_39 (by decide) ?_
        cases hF
        exact lm_iret B hN dX9_redeem_41
    · have hF := lm_itp c4 hF
      refine lv_bipush (v := -103) hx hb dX9_redeem_20 (by decide) ?_
      cases hF
      exact lm_iret B hN dX9_redeem_22
  · have hF := lm_itp c2 hF
    refine lv_bipush (v := -101) hx hb dX9_redeem_8 (by decide) ?_
    cases hF
    exact lm_iret B hN dX9_redeem_10
def fX9_sale (s0 : lm_St) : Option (Int32 × lm_St) := (fX9_lacks s0).bind (fun v1 => lm_un2 v1 (fun r1 t1_0 => if r1 = 0 then (if (t1_0.1 8) = (16 : Int32) then (some ((-103 : Int32), t1_0)) else ((fX9_laySale (lm_sF t1_0 8 ((t1_0.1 8) + (1 : Int32)))).bind (fun t4_0 => lm_gI (0 : Int32) 1024 (some (((t4_0.2.1 9) (0 : Int32).toNatClampNeg), t4_0))))) else (some ((-103 : Int32), t1_0))))
set_option maxHeartbeats 4000000 in
set_option maxRecDepth 100000 in
theorem hX9_sale (l : Launch) (G : lm_G) (q0 : Nat → Nat) {s0 : lm_St} {R : Int32 × lm_St} (hF : fX9_sale s0 = some R) : lm_C l G yX9_sale wsX9_sale 3 [.ref (q0 0)] (wX9 G q0 s0) (some (.int R.1)) (wX9 G q0 R.2) := by
  refine lm_C.of (cc := cX9_sale) (maxL := 1) (ret := (some .int)) (by decide) rfl (Nat.le_of_ble_eq_true rfl) ?_
  intro p e s m below meth c A ls B hN hl
  have hx := B.1.1
  have hb := B.1.2.1
  have hown := B.1.2.2.2.1
  have hts := B.1.2.2.2.2
  have hiX9 : ∀ w ∈ wsX90, w ∈ wsX9_sale := by decide +kernel
  have hl : lv_has ls 1 [(0, .ref (q0 0))] := hl
  refine lv_aload_n hx hb dX9_sale_0 rfl (lv_at hl 0 rfl) ?_
  obtain ⟨⟨r1, t1_0⟩, hc1, hF⟩ := lm_bd hF
  have hF := lm_un2E hF
  refine lm_runA B hN (lm_hrV B hN hl.1 (lm_cutA B hN) (n := 0) (As := []) (rest := []) (hX9_lacks l G q0 hc1) gX9_sale_X9_lacks rfl (by decide +kernel) rfl (by decide) (by decide) (ci := 9) (q0 := 0) rfl rfl rfl (Nat.le_of_ble_eq_true rfl) dX9_sale_1) (fun H locs hN => ?_)
  refine lv_if_ne (tgt := 16) hx hb dX9_sale_4 (by decide) (fun c2 => ?_) (fun c2 => ?_)
  · have hF := lm_itn c2 hF
    refine lv_bipush (v := -103) hx hb dX9_sale_16 (by decide) ?_
    cases hF
    exact lm_iret B hN dX9_sale_18
  · have hF := lm_itp c2 hF
    refine lv_aload_n hx hb dX9_sale_7 rfl (lv_at hl 0 rfl) ?_
    refine lm_get B hN (ci := 9) hiX9 0 rfl rfl 17 (by decide) (by decide +kernel) (v := .int (t1_0.1 8)) rfl dX9_sale_8 ?_
    refine lv_bipush (v := 16) hx hb dX9_sale_11 (by decide) ?_
    refine lv_icmp_ne (tgt := 19) hx hb dX9_sale_13 (by decide) (fun c3 => ?_) (fun c3 => ?_)
    · have hF := lm_itn c3 hF
      refine lv_aload_n hx hb dX9_sale_19 rfl (lv_at hl 0 rfl) ?_
      refine lv_dup hx hb dX9_sale_20 rfl ?_
      refine lm_get B hN (ci := 9) hiX9 0 rfl rfl 17 (by decide) (by decide +kernel) (v := .int (t1_0.1 8)) rfl dX9_sale_21 ?_
      refine lv_iconst (v := 1) hx hb dX9_sale_24 (by decide) ?_
      refine lv_iadd hx hb dX9_sale_25 ?_
      refine lm_put B hN (ci := 9) hiX9 tyX9 tyX9_ok nmX9 0 rfl rfl 17 (by decide) (by decide +kernel) (by decide) (v := .int ((t1_0.1 8) + (1 : Int32))) rfl rfl (Nat.le_of_ble_eq_true rfl) (wX9 G q0 (lm_sF t1_0 8 ((t1_0.1 8) + (1 : Int32)))) (wX9_r0f8 _ _ _ _) dX9_sale_26 (fun H locs hN => ?_)
      refine lv_aload_n hx hb dX9_sale_29 rfl (lv_at hl 0 rfl) ?_
      obtain ⟨t4_0, hc4, hF⟩ := lm_bd hF
      refine lm_runA B hN (lm_hrV B hN hl.1 (lm_cutA B hN) (n := 0) (As := []) (rest := []) (hX9_laySale l G q0 hc4) gX9_sale_X9_laySale rfl (by decide +kernel) rfl (by decide) (by decide) (ci := 9) (q0 := 0) rfl rfl rfl (Nat.le_of_ble_eq_true rfl) dX9_sale_30) (fun H locs hN => ?_)
      refine lv_aload_n hx hb dX9_sale_33 rfl (lv_at hl 0 rfl) ?_
      refine lm_get B hN (ci := 9) hiX9 0 rfl rfl 18 (by decide) (by decide +kernel) (v := .ref (q0 10)) rfl dX9_sale_34 ?_
      refine lv_iconst (v := 0) hx hb dX9_sale_37 (by decide) ?_
      obtain ⟨z5, hF⟩ := lm_gIe hF
      refine lm_ald B hN 10 (f := (t4_0.2.1 9)) rfl z5 dX9_sale_38 ?_
      cases hF
      exact lm_iret B hN dX9_sale_39
    · have hF := lm_itp c3 hF
      refine lv_bipush (v := -103) hx hb dX9_sale_16 (by decide) ?_
      cases hF
      exact lm_iret B hN dX9_sale_18
def fX9_see (s0 : lm_St) (x1 : Int32) (x2 : Int32) (x3 : Int32) : Option (Int32 × lm_St) := (fX9_isThing s0 x1).bind (fun v1 => lm_un2 v1 (fun r1 t1_0 => if r1 = 0 then (some ((-101 : Int32), t1_0)) else ((fX9_in x2.toInt64 (0 : Int64) (9 : Int64)).bind (fun r3 => if r3 = 0 then (some ((-102 : Int32), t1_0)) else ((fX9_in x3.toInt64 (0 : Int64) (20 : Int64)).bind (fun r5 => if r5 = 0 then (some ((-102 : Int32), t1_0)) else (if (t1_0.1 9) = (6 : Int32) then (some ((-104 : Int32), t1_0)) else (lm_gI ((3 : Int32) * (t1_0.1 9)) 18 (lm_gI (((3 : Int32) * (t1_0.1 9)) + (1 : Int32)) 18 (lm_gI (((3 : Int32) * (t1_0.1 9)) + (2 : Int32)) 18 (some (((t1_0.1 9) + (1 : Int32)), (lm_sF (lm_sA (lm_sA (lm_sA t1_0 10 (upd (t1_0.2.1 10) ((3 : Int32) * (t1_0.1 9)).toNatClampNeg x1)) 10 (upd (upd (t1_0.2.1 10) ((3 : Int32) * (t1_0.1 9)).toNatClampNeg x1) (((3 : Int32) * (t1_0.1 9)) + (1 : Int32)).toNatClampNeg x2)) 10 (upd (upd (upd (t1_0.2.1 10) ((3 : Int32) * (t1_0.1 9)).toNatClampNeg x1) (((3 : Int32) * (t1_0.1 9)) + (1 : Int32)).toNatClampNeg x2) (((3 : Int32) * (t1_0.1 9)) + (2 : Int32)).toNatClampNeg x3)) 9 ((t1_0.1 9) + (1 : Int32)))))))))))))))
set_option maxHeartbeats 4000000 in
set_option maxRecDepth 100000 in
theorem hX9_see (l : Launch) (G : lm_G) (q0 : Nat → Nat) {s0 : lm_St} {x1 : Int32} {x2 : Int32} {x3 : Int32} {R : Int32 × lm_St} (hF : fX9_see s0 x1 x2 x3 = some R) : lm_C l G yX9_see wsX9_see 3 [.ref (q0 0), .int x1, .int x2, .int x3] (wX9 G q0 s0) (some (.int R.1)) (wX9 G q0 R.2) := by
  refine lm_C.of (cc := cX9_see) (maxL := 4) (ret := (some .int)) (by decide) rfl (Nat.le_of_ble_eq_true rfl) ?_
  intro p e s m below meth c A ls B hN hl
  have hx := B.1.1
  have hb := B.1.2.1
  have hown := B.1.2.2.2.1
  have hts := B.1.2.2.2.2
  have hiX9 : ∀ w ∈ wsX90, w ∈ wsX9_see := by decide +kernel
  have hl : lv_has ls 4 [(0, .ref (q0 0)), (1, .int x1), (2, .int x2), (3, .int x3)] := hl
  refine lv_aload_n hx hb dX9_see_0 rfl (lv_at hl 0 rfl) ?_
  refine lv_iload_n hx hb dX9_see_1 rfl (lv_at hl 1 rfl) ?_
  obtain ⟨⟨r1, t1_0⟩, hc1, hF⟩ := lm_bd hF
  have hF := lm_un2E hF
  refine lm_runA B hN (lm_hrV B hN hl.1 (lm_cutA B hN) (n := 1) (As := [.int x1]) (rest := []) (hX9_isThing l G q0 hc1) gX9_see_X9_isThing rfl (by decide +kernel) rfl (by decide) (by decide) (ci := 9) (q0 := 0) rfl rfl rfl (Nat.le_of_ble_eq_true rfl) dX9_see_2) (fun H locs hN => ?_)
  refine lv_if_ne (tgt := 11) hx hb dX9_see_5 (by decide) (fun c2 => ?_) (fun c2 => ?_)
  · have hF := lm_itn c2 hF
    refine lv_iload_n hx hb dX9_see_11 rfl (lv_at hl 2 rfl) ?_
    refine lv_i2l hx hb dX9_see_12 rfl ?_
    refine lv_lconst (v := 0) hx hb dX9_see_13 (by decide) ?_
    refine lv_ldc2 (v := 9) hx hb hown (hts (.constantLong RX9 170 (9)) (by decide +kernel)) dX9_see_14 ?_
    obtain ⟨r3, hc3, hF⟩ := lm_bd hF
    refine lm_run0 B hN (lm_hrT B hN hl.1 (lm_cut0 B hN) (n := 3) (As := [.long x2.toInt64, .long (0 : Int64), .long (9 : Int64)]) (rest := []) (hX9_in l G hc3) gX9_see_X9_in rfl (by decide +kernel) rfl (by decide) (by decide) rfl (Nat.le_of_ble_eq_true rfl) dX9_see_17) (fun H locs hN => ?_)
    refine lv_if_eq (tgt := 35) hx hb dX9_see_20 (by decide) (fun c4 => ?_) (fun c4 => ?_)
    · have hF := lm_itp c4 hF
      refine lv_bipush (v := -102) hx hb dX9_see_35 (by decide) ?_
      cases hF
      exact lm_iret B hN dX9_see_37
    · have hF := lm_itn c4 hF
      refine lv_iload_n hx hb dX9_see_23 rfl (lv_at hl 3 rfl) ?_
      refine lv_i2l hx hb dX9_see_24 rfl ?_
      refine lv_lconst (v := 0) hx hb dX9_see_25 (by decide) ?_
      refine lv_ldc2 (v := 20) hx hb hown (hts (.constantLong RX9 172 (20)) (by decide +kernel)) dX9_see_26 ?_
      obtain ⟨r5, hc5, hF⟩ := lm_bd hF
      refine lm_run0 B hN (lm_hrT B hN hl.1 (lm_cut0 B hN) (n := 3) (As := [.long x3.toInt64, .long (0 : Int64), .long (20 : Int64)]) (rest := []) (hX9_in l G hc5) gX9_see_X9_in rfl (by decide +kernel) rfl (by decide) (by decide) rfl (Nat.le_of_ble_eq_true rfl) dX9_see_29) (fun H locs hN => ?_)
      refine lv_if_ne (tgt := 38) hx hb dX9_see_32 (by decide) (fun c6 => ?_) (fun c6 => ?_)
      · have hF := lm_itn c6 hF
        refine lv_aload_n hx hb dX9_see_38 rfl (lv_at hl 0 rfl) ?_
        refine lm_get B hN (ci := 9) hiX9 0 rfl rfl 19 (by decide) (by decide +kernel) (v := .int (t1_0.1 9)) rfl dX9_see_39 ?_
        refine lv_bipush (v := 6) hx hb dX9_see_42 (by decide) ?_
        refine lv_icmp_ne (tgt := 50) hx hb dX9_see_44 (by decide) (fun c7 => ?_) (fun c7 => ?_)
        · have hF := lm_itn c7 hF
          refine lv_aload_n hx hb dX9_see_50 rfl (lv_at hl 0 rfl) ?_
          refine lm_get B hN (ci := 9) hiX9 0 rfl rfl 20 (by decide) (by decide +kernel) (v := .ref (q0 11)) rfl dX9_see_51 ?_
          refine lv_iconst (v := 3) hx hb dX9_see_54 (by decide) ?_
          refine lv_aload_n hx hb dX9_see_55 rfl (lv_at hl 0 rfl) ?_
          refine lm_get B hN (ci := 9) hiX9 0 rfl rfl 19 (by decide) (by decide +kernel) (v := .int (t1_0.1 9)) rfl dX9_see_56 ?_
          refine lv_imul hx hb dX9_see_59 ?_
          refine lv_iload_n hx hb dX9_see_60 rfl (lv_at hl 1 rfl) ?_
          obtain ⟨z8, hF⟩ := lm_gIe hF
          refine lm_ast B hN 11 (f := (t1_0.2.1 10)) rfl z8 (wX9 G q0 (lm_sA t1_0 10 (upd (t1_0.2.1 10) ((3 : Int32) * (t1_0.1 9)).toNatClampNeg x1))) (wX9_r0a10 _ _ _ _) dX9_see_61 (fun H locs hN => ?_)
          refine lv_aload_n hx hb dX9_see_62 rfl (lv_at hl 0 rfl) ?_
          refine lm_get B hN (ci := 9) hiX9 0 rfl rfl 20 (by decide) (by decide +kernel) (v := .ref (q0 11)) rfl dX9_see_63 ?_
          refine lv_iconst (v := 3) hx hb dX9_see_66 (by decide) ?_
          refine lv_aload_n hx hb dX9_see_67 rfl (lv_at hl 0 rfl) ?_
          refine lm_get B hN (ci := 9) hiX9 0 rfl rfl 19 (by decide) (by decide +kernel) (v := .int (t1_0.1 9)) rfl dX9_see_68 ?_
          refine lv_imul hx hb dX9_see_71 ?_
          refine lv_iconst (v := 1) hx hb dX9_see_72 (by decide) ?_
          refine lv_iadd hx hb dX9_see_73 ?_
          refine lv_iload_n hx hb dX9_see_74 rfl (lv_at hl 2 rfl) ?_
          obtain ⟨z9, hF⟩ := lm_gIe hF
          refine lm_ast B hN 11 (f := (upd (t1_0.2.1 10) ((3 : Int32) * (t1_0.1 9)).toNatClampNeg x1)) rfl z9 (wX9 G q0 (lm_sA (lm_sA t1_0 10 (upd (t1_0.2.1 10) ((3 : Int32) * (t1_0.1 9)).toNatClampNeg x1)) 10 (upd (upd (t1_0.2.1 10) ((3 : Int32) * (t1_0.1 9)).toNatClampNeg x1) (((3 : Int32) * (t1_0.1 9)) + (1 : Int32)).toNatClampNeg x2))) (wX9_r0a10 _ _ _ _) dX9_see_75 (fun H locs hN => ?_)
          refine lv_aload_n hx hb dX9_see_76 rfl (lv_at hl 0 rfl) ?_
          refine lm_get B hN (ci := 9) hiX9 0 rfl rfl 20 (by decide) (by decide +kernel) (v := .ref (q0 11)) rfl dX9_see_77 ?_
          refine lv_iconst (v := 3) hx hb dX9_see_80 (by decide) ?_
          refine lv_aload_n hx hb dX9_see_81 rfl (lv_at hl 0 rfl) ?_
          refine lm_get B hN (ci := 9) hiX9 0 rfl rfl 19 (by decide) (by decide +kernel) (v := .int (t1_0.1 9)) rfl dX9_see_82 ?_
          refine lv_imul hx hb dX9_see_85 ?_
          refine lv_iconst (v := 2) hx hb dX9_see_86 (by decide) ?_
          refine lv_iadd hx hb dX9_see_87 ?_
          refine lv_iload_n hx hb dX9_see_88 rfl (lv_at hl 3 rfl) ?_
          obtain ⟨z10, hF⟩ := lm_gIe hF
          refine lm_ast B hN 11 (f := (upd (upd (t1_0.2.1 10) ((3 : Int32) * (t1_0.1 9)).toNatClampNeg x1) (((3 : Int32) * (t1_0.1 9)) + (1 : Int32)).toNatClampNeg x2)) rfl z10 (wX9 G q0 (lm_sA (lm_sA (lm_sA t1_0 10 (upd (t1_0.2.1 10) ((3 : Int32) * (t1_0.1 9)).toNatClampNeg x1)) 10 (upd (upd (t1_0.2.1 10) ((3 : Int32) * (t1_0.1 9)).toNatClampNeg x1) (((3 : Int32) * (t1_0.1 9)) + (1 : Int32)).toNatClampNeg x2)) 10 (upd (upd (upd (t1_0.2.1 10) ((3 : Int32) * (t1_0.1 9)).toNatClampNeg x1) (((3 : Int32) * (t1_0.1 9)) + (1 : Int32)).toNatClampNeg x2) (((3 : Int32) * (t1_0.1 9)) + (2 : Int32)).toNatClampNeg x3))) (wX9_r0a10 _ _ _ _) dX9_see_89 (fun H locs hN => ?_)
          refine lv_aload_n hx hb dX9_see_90 rfl (lv_at hl 0 rfl) ?_
          refine lv_dup hx hb dX9_see_91 rfl ?_
          refine lm_get B hN (ci := 9) hiX9 0 rfl rfl 19 (by decide) (by decide +kernel) (v := .int (t1_0.1 9)) rfl dX9_see_92 ?_
          refine lv_iconst (v := 1) hx hb dX9_see_95 (by decide) ?_
          refine lv_iadd hx hb dX9_see_96 ?_
          refine lm_put B hN (ci := 9) hiX9 tyX9 tyX9_ok nmX9 0 rfl rfl 19 (by decide) (by decide +kernel) (by decide) (v := .int ((t1_0.1 9) + (1 : Int32))) rfl rfl (Nat.le_of_ble_eq_true rfl) (wX9 G q0 (lm_sF (lm_sA (lm_sA (lm_sA t1_0 10 (upd (t1_0.2.1 10) ((3 : Int32) * (t1_0.1 9)).toNatClampNeg x1)) 10 (upd (upd (t1_0.2.1 10) ((3 : Int32) * (t1_0.1 9)).toNatClampNeg x1) (((3 : Int32) * (t1_0.1 9)) + (1 : Int32)).toNatClampNeg x2)) 10 (upd (upd (upd (t1_0.2.1 10) ((3 : Int32) * (t1_0.1 9)).toNatClampNeg x1) (((3 : Int32) * (t1_0.1 9)) + (1 : Int32)).toNatClampNeg x2) (((3 : Int32) * (t1_0.1 9)) + (2 : Int32)).toNatClampNeg x3)) 9 ((t1_0.1 9) + (1 : Int32)))) (wX9_r0f9 _ _ _ _) dX9_see_97 (fun H locs hN => ?_)
          refine lv_aload_n hx hb dX9_see_100 rfl (lv_at hl 0 rfl) ?_
          refine lm_get B hN (ci := 9) hiX9 0 rfl rfl 19 (by decide) (by decide +kernel) (v := .int ((t1_0.1 9) + (1 : Int32))) rfl dX9_see_101 ?_
          cases hF
          exact lm_iret B hN dX9_see_104
        · have hF := lm_itp c7 hF
          refine lv_bipush (v := -104) hx hb dX9_see_47 (by decide) ?_
          cases hF
          exact lm_iret B hN dX9_see_49
      · have hF := lm_itp c6 hF
        refine lv_bipush (v := -102) hx hb dX9_see_35 (by decide) ?_
        cases hF
        exact lm_iret B hN dX9_see_37
  · have hF := lm_itp c2 hF
    refine lv_bipush (v := -101) hx hb dX9_see_8 (by decide) ?_
    cases hF
    exact lm_iret B hN dX9_see_10
def fX9_touch (s0 : lm_St) (x1 : Int32) : Option (Int32 × lm_St) := (fX9_isThing s0 x1).bind (fun v1 => lm_un2 v1 (fun r1 t1_0 => if r1 = 0 then (some ((-101 : Int32), t1_0)) else (lm_gI x1 7 (if ((t1_0.2.1 5) x1.toNatClampNeg) = (1 : Int32) then (some ((-103 : Int32), t1_0)) else (if (t1_0.1 5) = (999 : Int32) then (some ((-104 : Int32), t1_0)) else ((fX9_begin t1_0).bind (fun t6_0 => (fX9_touchThen t6_0 x1).bind (fun t7_0 => (fX9_keep t7_0).bind (fun t8_0 => (fX9_missedThen (lm_sF t8_0 5 ((t8_0.1 5) + (1 : Int32))) x1).bind (fun v9 => lm_un2 v9 (fun r9 t9_0 => some (r9, t9_0))))))))))))
set_option maxHeartbeats 4000000 in
set_option maxRecDepth 100000 in
theorem hX9_touch (l : Launch) (G : lm_G) (q0 : Nat → Nat) {s0 : lm_St} {x1 : Int32} {R : Int32 × lm_St} (hF : fX9_touch s0 x1 = some R) : lm_C l G yX9_touch wsX9_touch 3 [.ref (q0 0), .int x1] (wX9 G q0 s0) (some (.int R.1)) (wX9 G q0 R.2) := by
  refine lm_C.of (cc := cX9_touch) (maxL := 2) (ret := (some .int)) (by decide) rfl (Nat.le_of_ble_eq_true rfl) ?_
  intro p e s m below meth c A ls B hN hl
  have hx := B.1.1
  have hb := B.1.2.1
  have hown := B.1.2.2.2.1
  have hts := B.1.2.2.2.2
  have hiX9 : ∀ w ∈ wsX90, w ∈ wsX9_touch := by decide +kernel
  have hl : lv_has ls 2 [(0, .ref (q0 0)), (1, .int x1)] := hl
  refine lv_aload_n hx hb dX9_touch_0 rfl (lv_at hl 0 rfl) ?_
  refine lv_iload_n hx hb dX9_touch_1 rfl (lv_at hl 1 rfl) ?_
  obtain ⟨⟨r1, t1_0⟩, hc1, hF⟩ := lm_bd hF
  have hF := lm_un2E hF
  refine lm_runA B hN (lm_hrV B hN hl.1 (lm_cutA B hN) (n := 1) (As := [.int x1]) (rest := []) (hX9_isThing l G q0 hc1) gX9_touch_X9_isThing rfl (by decide +kernel) rfl (by decide) (by decide) (ci := 9) (q0 := 0) rfl rfl rfl (Nat.le_of_ble_eq_true rfl) dX9_touch_2) (fun H locs hN => ?_)
  refine lv_if_ne (tgt := 11) hx hb dX9_touch_5 (by decide) (fun c2 => ?_) (fun c2 => ?_)
  · have hF := lm_itn c2 hF
    refine lv_aload_n hx hb dX9_touch_11 rfl (lv_at hl 0 rfl) ?_
    refine lm_get B hN (ci := 9) hiX9 0 rfl rfl 12 (by decide) (by decide +kernel) (v := .ref (q0 6)) rfl dX9_touch_12 ?_
    refine lv_iload_n hx hb dX9_touch_15 rfl (lv_at hl 1 rfl) ?_
    obtain ⟨z3, hF⟩ := lm_gIe hF
    refine lm_ald B hN 6 (f := (t1_0.2.1 5)) rfl z3 dX9_touch_16 ?_
    refine lv_iconst (v := 1) hx hb dX9_touch_17 (by decide) ?_
    refine lv_icmp_ne (tgt := 24) hx hb dX9_touch_18 (by decide) (fun c4 => ?_) (fun c4 => ?_)
    · have hF := lm_itn c4 hF
      refine lv_aload_n hx hb dX9_touch_24 rfl (lv_at hl 0 rfl) ?_
      refine lm_get B hN (ci := 9) hiX9 0 rfl rfl 6 (by decide) (by decide +kernel) (v := .int (t1_0.1 5)) rfl dX9_touch_25 ?_
      refine lv_sipush (v := 999) hx hb dX9_touch_28 (by decide) ?_
      refine lv_icmp_ne (tgt := 37) hx hb dX9_touch_31 (by decide) (fun c5 => ?_) (fun c5 => ?_)
      · have hF := lm_itn c5 hF
        refine lv_aload_n hx hb dX9_touch_37 rfl (lv_at hl 0 rfl) ?_
        obtain ⟨t6_0, hc6, hF⟩ := lm_bd hF
        refine lm_runA B hN (lm_hrV B hN hl.1 (lm_cutA B hN) (n := 0) (As := []) (rest := []) (hX9_begin l G q0 hc6) gX9_touch_X9_begin rfl (by decide +kernel) rfl (by decide) (by decide) (ci := 9) (q0 := 0) rfl rfl rfl (Nat.le_of_ble_eq_true rfl) dX9_touch_38) (fun H locs hN => ?_)
        refine lv_aload_n hx hb dX9_touch_41 rfl (lv_at hl 0 rfl) ?_
        refine lv_iload_n hx hb dX9_touch_42 rfl (lv_at hl 1 rfl) ?_
        obtain ⟨t7_0, hc7, hF⟩ := lm_bd hF
        refine lm_runA B hN (lm_hrV B hN hl.1 (lm_cutA B hN) (n := 1) (As := [.int x1]) (rest := []) (hX9_touchThen l G q0 hc7) gX9_touch_X9_touchThen rfl (by decide +kernel) rfl (by decide) (by decide) (ci := 9) (q0 := 0) rfl rfl rfl (Nat.le_of_ble_eq_true rfl) dX9_touch_43) (fun H locs hN => ?_)
        refine lv_aload_n hx hb dX9_touch_46 rfl (lv_at hl 0 rfl) ?_
        obtain ⟨t8_0, hc8, hF⟩ := lm_bd hF
        refine lm_runA B hN (lm_hrV B hN hl.1 (lm_cutA B hN) (n := 0) (As := []) (rest := []) (hX9_keep l G q0 hc8) gX9_touch_X9_keep rfl (by decide +kernel) rfl (by decide) (by decide) (ci := 9) (q0 := 0) rfl rfl rfl (Nat.le_of_ble_eq_true rfl) dX9_touch_47) (fun H locs hN => ?_)
        refine lv_aload_n hx hb dX9_touch_50 rfl (lv_at hl 0 rfl) ?_
        refine lv_dup hx hb dX9_touch_51 rfl ?_
        refine lm_get B hN (ci := 9) hiX9 0 rfl rfl 6 (by decide) (by decide +kernel) (v := .int (t8_0.1 5)) rfl dX9_touch_52 ?_
        refine lv_iconst (v := 1) hx hb dX9_touch_55 (by decide) ?_
        refine lv_iadd hx hb dX9_touch_56 ?_
        refine lm_put B hN (ci := 9) hiX9 tyX9 tyX9_ok nmX9 0 rfl rfl 6 (by decide) (by decide +kernel) (by decide) (v := .int ((t8_0.1 5) + (1 : Int32))) rfl rfl (Nat.le_of_ble_eq_true rfl) (wX9 G q0 (lm_sF t8_0 5 ((t8_0.1 5) + (1 : Int32)))) (wX9_r0f5 _ _ _ _) dX9_touch_57 (fun H locs hN => ?_)
        refine lv_aload_n hx hb dX9_touch_60 rfl (lv_at hl 0 rfl) ?_
        refine lv_iload_n hx hb dX9_touch_61 rfl (lv_at hl 1 rfl) ?_
        obtain ⟨⟨r9, t9_0⟩, hc9, hF⟩ := lm_bd hF
        have hF := lm_un2E hF
        refine lm_runA B hN (lm_hrV B hN hl.1 (lm_cutA B hN) (n := 1) (As := [.int x1]) (rest := []) (hX9_missedThen l G q0 hc9) gX9_touch_X9_missedThen rfl (by decide +kernel) rfl (by decide) (by decide) (ci := 9) (q0 := 0) rfl rfl rfl (Nat.le_of_ble_eq_true rfl) dX9_touch_62) (fun H locs hN => ?_)
        cases hF
        exact lm_iret B hN dX9_touch_65
      · have hF := lm_itp c5 hF
        refine lv_bipush (v := -104) hx hb dX9_touch_34 (by decide) ?_
        cases hF
        exact lm_iret B hN dX9_touch_36
    · have hF := lm_itp c4 hF
      refine lv_bipush (v := -103) hx hb dX9_touch_21 (by decide) ?_
      cases hF
      exact lm_iret B hN dX9_touch_23
  · have hF := lm_itp c2 hF
    refine lv_bipush (v := -101) hx hb dX9_touch_8 (by decide) ?_
    cases hF
    exact lm_iret B hN dX9_touch_10
