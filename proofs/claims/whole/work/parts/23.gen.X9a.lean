def bX9_copy (n : Nat) (f : Nat → Int32) (k : Int32 × (Nat → Int32) → Option (Nat → Int32)) (x : Int32) (g : Nat → Int32) : Option (Nat → Int32) := if Int32.ofNat n ≤ x then some g else lm_gI x n (lm_gI x n (k (x + 1, upd g x.toNatClampNeg (f x.toNatClampNeg))))
def fX9_copy (n : Nat) (f g : Nat → Int32) : Option (Nat → Int32) := lm_lp (fun k a => bX9_copy n f k a.1 a.2) 5000 ((0 : Int32), g)
set_option maxHeartbeats 4000000 in
set_option maxRecDepth 100000 in
theorem hX9_copy (l : Launch) (G : lm_G) (a0 a1 n : Nat) {f g R : Nat → Int32} (hF : fX9_copy n f g = some R) : lm_C l G yX9_copy wsX9_copy 1 [.ref a0, .ref a1] [(a0, .inl (G.2.1, n, .inl f)), (a1, .inl (G.2.1, n, .inl g))] none [(a0, .inl (G.2.1, n, .inl f)), (a1, .inl (G.2.1, n, .inl R))] := by
  refine lm_C.of (cc := cX9_copy) (maxL := 3) (ret := none) (by decide) rfl (Nat.le_of_ble_eq_true rfl) ?_
  intro p e s m below meth c A ls B hN hl
  have hx := B.1.1
  have hb := B.1.2.1
  have hl : lv_has ls 3 [(0, .ref a0), (1, .ref a1)] := hl
  have L2 : ∀ (n2 : Nat) (x : Int32) (g : Nat → Int32) (H : Heap) (locs : List Loc) (ls : Array Slot), lm_lp (fun k a => bX9_copy n f k a.1 a.2) n2 (x, g) = some R → lm_N G A s [(a0, .inl (G.2.1, n, .inl f)), (a1, .inl (G.2.1, n, .inl g))] H locs → lv_has ls 3 [(0, .ref a0), (1, .ref a1), (2, .int x)] → W p l e (lm_rk 1) s m ([.ref a0, .ref a1] : List Value).toArray below meth c H locs 0 0 (MQ below (lm_post G [(a0, .inl (G.2.1, n, .inl f)), (a1, .inl (G.2.1, n, .inl R))] none A) ([.ref a0, .ref a1] : List Value).toArray s 0 0 A) (F0 m 2 ls []) := by
    intro n2
    induction n2 with
    | zero => intro x g H locs ls hF; exact (lm_lpz hF).elim
    | succ n2 ih2 =>
      intro x g H locs ls hF hN hl
      have hF : bX9_copy n f (lm_lp (fun k a => bX9_copy n f k a.1 a.2) n2) x g = some R := lm_lps hF
      generalize lm_lp (fun k a => bX9_copy n f k a.1 a.2) n2 = k2 at hF ih2
      refine lv_iload_n hx hb dX9_copy_2 rfl (lv_at hl 2 rfl) ?_
      refine lv_aload_n hx hb dX9_copy_3 rfl (lv_at hl 0 rfl) ?_
      refine lm_alen B hN 0 rfl (v := Int32.ofNat n) rfl dX9_copy_4 ?_
      refine lv_icmp_ge (tgt := 20) hx hb dX9_copy_5 (by decide) (fun c1 => ?_) (fun c1 => ?_)
      · have hF := lm_itp c1 hF
        cases hF
        exact lm_vret B hN dX9_copy_20
      · have hF := lm_itn c1 hF
        refine lv_aload_n hx hb dX9_copy_8 rfl (lv_at hl 1 rfl) ?_
        refine lv_iload_n hx hb dX9_copy_9 rfl (lv_at hl 2 rfl) ?_
        refine lv_aload_n hx hb dX9_copy_10 rfl (lv_at hl 0 rfl) ?_
        refine lv_iload_n hx hb dX9_copy_11 rfl (lv_at hl 2 rfl) ?_
        obtain ⟨z1, hF⟩ := lm_gIe hF
        refine lm_ald B hN 0 (f := f) rfl z1 dX9_copy_12 ?_
        obtain ⟨z2, hF⟩ := lm_gIe hF
        refine lm_ast B hN 1 (f := g) rfl z2 ([(a0, .inl (G.2.1, n, .inl f)), (a1, .inl (G.2.1, n, .inl (upd g x.toNatClampNeg (f x.toNatClampNeg))))]) rfl dX9_copy_13 (fun H locs hN => ?_)
        refine lv_iinc (v := (x + 1)) (lv' := [(2, .int (x + 1)), (0, .ref a0), (1, .ref a1)]) hx hb dX9_copy_14 hl (k := 2) rfl rfl (by decide) rfl (fun ls hl => ?_)
        refine lv_goto (tgt := 2) hx hb dX9_copy_17 (by decide) ?_
        exact ih2 _ _ _ _ _ hF hN (lv_sub hl [1, 2, 0] rfl)
  refine lv_iconst (v := 0) hx hb dX9_copy_0 (by decide) ?_
  refine lv_istore_n (lv' := [(2, .int 0), (0, .ref a0), (1, .ref a1)]) hx hb dX9_copy_1 rfl hl (by decide) rfl (fun ls hl => ?_)
  exact L2 5000 _ _ _ _ _ hF hN (lv_sub hl [1, 2, 0] rfl)
def fX9_blank (s0 : lm_St) : Option (Int32 × lm_St) := some ((s0.1 0), (lm_sF s0 0 (0 : Int32)))
set_option maxHeartbeats 4000000 in
set_option maxRecDepth 100000 in
theorem hX9_blank (l : Launch) (G : lm_G) (q0 : Nat → Nat) {s0 : lm_St} {R : Int32 × lm_St} (hF : fX9_blank s0 = some R) : lm_C l G yX9_blank wsX9_blank 1 [.ref (q0 0)] (wX9 G q0 s0) (some (.int R.1)) (wX9 G q0 R.2) := by
  refine lm_C.of (cc := cX9_blank) (maxL := 2) (ret := (some .int)) (by decide) rfl (Nat.le_of_ble_eq_true rfl) ?_
  intro p e s m below meth c A ls B hN hl
  have hx := B.1.1
  have hb := B.1.2.1
  have hown := B.1.2.2.2.1
  have hts := B.1.2.2.2.2
  have hiX9 : ∀ w ∈ wsX90, w ∈ wsX9_blank := by decide +kernel
  have hl : lv_has ls 2 [(0, .ref (q0 0))] := hl
  refine lv_aload_n hx hb dX9_blank_0 rfl (lv_at hl 0 rfl) ?_
  refine lm_get B hN (ci := 9) hiX9 0 rfl rfl 1 (by decide) (by decide +kernel) (v := .int (s0.1 0)) rfl dX9_blank_1 ?_
  refine lv_istore_n (lv' := [(1, .int (s0.1 0)), (0, .ref (q0 0))]) hx hb dX9_blank_4 rfl hl (by decide) rfl (fun ls hl => ?_)
  refine lv_aload_n hx hb dX9_blank_5 rfl (lv_at hl 1 rfl) ?_
  refine lv_iconst (v := 0) hx hb dX9_blank_6 (by decide) ?_
  refine lm_put B hN (ci := 9) hiX9 tyX9 tyX9_ok nmX9 0 rfl rfl 1 (by decide) (by decide +kernel) (by decide) (v := .int (0 : Int32)) rfl rfl (Nat.le_of_ble_eq_true rfl) (wX9 G q0 (lm_sF s0 0 (0 : Int32))) (wX9_r0f0 _ _ _ _) dX9_blank_7 (fun H locs hN => ?_)
  refine lv_iload_n hx hb dX9_blank_10 rfl (lv_at hl 0 rfl) ?_
  cases hF
  exact lm_iret B hN dX9_blank_11
def jX9_dayThen_42 (k2 : Int32 × lm_St → Option (lm_St)) (x1_42 : Int32) (y0_42 : Int32) (y1_42 : Int32) (y2_42 : Int32) (s0_42 : lm_St) : Option (lm_St) := lm_gI y2_42 7 (k2 ((x1_42 + 1), (lm_sA s0_42 7 (upd (s0_42.2.1 7) y2_42.toNatClampNeg (y1_42 + y0_42)))))
def jX9_dayThen_41 (k2 : Int32 × lm_St → Option (lm_St)) (x1_41 : Int32) (y0_41 : Int32) (y1_41 : Int32) (s0_41 : lm_St) : Option (lm_St) := jX9_dayThen_42 k2 x1_41 (0 : Int32) y0_41 y1_41 s0_41
def bX9_dayThen_2 (k2 : Int32 × lm_St → Option (lm_St)) (x1_2 : Int32) (s0_2 : lm_St) : Option (lm_St) := if (s0_2.1 2) ≤ x1_2 then (some s0_2) else (lm_gI x1_2 7 (lm_gI x1_2 7 (if ((s0_2.2.1 8) x1_2.toNatClampNeg) = 0 then (lm_gI x1_2 7 (if (20 : Int32) ≤ ((s0_2.2.1 7) x1_2.toNatClampNeg) then (jX9_dayThen_41 k2 x1_2 ((s0_2.2.1 7) x1_2.toNatClampNeg) x1_2 s0_2) else (jX9_dayThen_42 k2 x1_2 (1 : Int32) ((s0_2.2.1 7) x1_2.toNatClampNeg) x1_2 s0_2))) else (jX9_dayThen_41 k2 x1_2 ((s0_2.2.1 7) x1_2.toNatClampNeg) x1_2 s0_2))))
def fX9_dayThen (s0 : lm_St) : Option (lm_St) := lm_lp (fun k a => bX9_dayThen_2 k a.1 a.2) 5000 ((0 : Int32), s0)
set_option maxHeartbeats 4000000 in
set_option maxRecDepth 100000 in
theorem hX9_dayThen (l : Launch) (G : lm_G) (q0 : Nat → Nat) {s0 : lm_St} {R : lm_St} (hF : fX9_dayThen s0 = some R) : lm_C l G yX9_dayThen wsX9_dayThen 1 [.ref (q0 0)] (wX9 G q0 s0) none (wX9 G q0 R) := by
  refine lm_C.of (cc := cX9_dayThen) (maxL := 2) (ret := none) (by decide) rfl (Nat.le_of_ble_eq_true rfl) ?_
  intro p e s m below meth c A ls B hN hl
  have hx := B.1.1
  have hb := B.1.2.1
  have hown := B.1.2.2.2.1
  have hts := B.1.2.2.2.2
  have hiX9 : ∀ w ∈ wsX90, w ∈ wsX9_dayThen := by decide +kernel
  have hl : lv_has ls 2 [(0, .ref (q0 0))] := hl
  have L2 : ∀ (n : Nat) (x1_2 : Int32) (s0_2 : lm_St) (H : Heap) (locs : List Loc) (ls : Array Slot), lm_lp (fun k a => bX9_dayThen_2 k a.1 a.2) n (x1_2, s0_2) = some R → lm_N G A s (wX9 G q0 s0_2) H locs → lv_has ls 2 [(0, .ref (q0 0)), (1, .int x1_2)] → W p l e (lm_rk 1) s m ([.ref (q0 0)] : List Value).toArray below meth c H locs 0 0 (MQ below (lm_post G (wX9 G q0 R) none A) ([.ref (q0 0)] : List Value).toArray s 0 0 A) (F0 m 2 ls []) := by
    intro n
    induction n with
    | zero => intro x1_2 s0_2 H locs ls hF; exact (lm_lpz hF).elim
    | succ n ih2 =>
      intro x1_2 s0_2 H locs ls hF hN hl
      have hF : bX9_dayThen_2 (lm_lp (fun k a => bX9_dayThen_2 k a.1 a.2) n) x1_2 s0_2 = some R := lm_lps hF
      generalize lm_lp (fun k a => bX9_dayThen_2 k a.1 a.2) n = k2 at hF ih2
      have J42 : ∀ (x1_42 : Int32) (y0_42 : Int32) (y1_42 : Int32) (y2_42 : Int32) (s0_42 : lm_St) (H : Heap) (locs : List Loc) (ls : Array Slot), jX9_dayThen_42 k2 x1_42 y0_42 y1_42 y2_42 s0_42 = some R → lm_N G A s (wX9 G q0 s0_42) H locs → lv_has ls 2 [(0, .ref (q0 0)), (1, .int x1_42)] → W p l e (lm_rk 1) s m ([.ref (q0 0)] : List Value).toArray below meth c H locs 0 0 (MQ below (lm_post G (wX9 G q0 R) none A) ([.ref (q0 0)] : List Value).toArray s 0 0 A) (F0 m 42 ls [.int y0_42, .int y1_42, .int y2_42, .ref (q0 8)]) := by
        intro x1_42 y0_42 y1_42 y2_42 s0_42 H locs ls hF hN hl
        refine lv_iadd hx hb dX9_dayThen_42 ?_
        obtain ⟨z1, hF⟩ := lm_gIe hF
        refine lm_ast B hN 8 (f := (s0_42.2.1 7)) rfl z1 (wX9 G q0 (lm_sA s0_42 7 (upd (s0_42.2.1 7) y2_42.toNatClampNeg (y1_42 + y0_42)))) (wX9_r0a7 _ _ _ _) dX9_dayThen_43 (fun H locs hN => ?_)
        refine lv_iinc (v := (x1_42 + 1)) (lv' := [(1, .int (x1_42 + 1)), (0, .ref (q0 0))]) hx hb dX9_dayThen_44 hl (k := 1) rfl rfl (by decide) rfl (fun ls hl => ?_)
        refine lv_goto (tgt := 2) hx hb dX9_dayThen_47 (by decide) ?_
        exact ih2 _ _ _ _ _ hF hN (lv_sub hl [1, 0] rfl)
      have J41 : ∀ (x1_41 : Int32) (y0_41 : Int32) (y1_41 : Int32) (s0_41 : lm_St) (H : Heap) (locs : List Loc) (ls : Array Slot), jX9_dayThen_41 k2 x1_41 y0_41 y1_41 s0_41 = some R → lm_N G A s (wX9 G q0 s0_41) H locs → lv_has ls 2 [(0, .ref (q0 0)), (1, .int x1_41)] → W p l e (lm_rk 1) s m ([.ref (q0 0)] : List Value).toArray below meth c H locs 0 0 (MQ below (lm_post G (wX9 G q0 R) none A) ([.ref (q0 0)] : List Value).toArray s 0 0 A) (F0 m 41 ls [.int y0_41, .int y1_41, .ref (q0 8)]) := by
        intro x1_41 y0_41 y1_41 s0_41 H locs ls hF hN hl
        refine lv_iconst (v := 0) hx hb dX9_dayThen_41 (by decide) ?_
        exact J42 _ _ _ _ _ _ _ _ hF hN (lv_sub hl [0, 1] rfl)
      refine lv_iload_n hx hb dX9_dayThen_2 rfl (lv_at hl 1 rfl) ?_
      refine lv_aload_n hx hb dX9_dayThen_3 rfl (lv_at hl 0 rfl) ?_
      refine lm_get B hN (ci := 9) hiX9 0 rfl rfl 3 (by decide) (by decide +kernel) (v := .int (s0_2.1 2)) rfl dX9_dayThen_4 ?_
      refine lv_icmp_ge (tgt := 50) hx hb dX9_dayThen_7 (by decide) (fun c2 => ?_) (fun c2 => ?_)
      · have hF := lm_itp c2 hF
        cases hF
        exact lm_vret B hN dX9_dayThen_50
      · have hF := lm_itn c2 hF
        refine lv_aload_n hx hb dX9_dayThen_10 rfl (lv_at hl 0 rfl) ?_
        refine lm_get B hN (ci := 9) hiX9 0 rfl rfl 14 (by decide) (by decide +kernel) (v := .ref (q0 8)) rfl dX9_dayThen_11 ?_
        refine lv_iload_n hx hb dX9_dayThen_14 rfl (lv_at hl 1 rfl) ?_
        refine lv_dup2_11 hx hb dX9_dayThen_15 rfl rfl ?_
        obtain ⟨z3, hF⟩ := lm_gIe hF
        refine lm_ald B hN 8 (f := (s0_2.2.1 7)) rfl z3 dX9_dayThen_16 ?_
        refine lv_aload_n hx hb dX9_dayThen_17 rfl (lv_at hl 0 rfl) ?_
        refine lm_get B hN (ci := 9) hiX9 0 rfl rfl 15 (by decide) (by decide +kernel) (v := .ref (q0 9)) rfl dX9_dayThen_18 ?_
        refine lv_iload_n hx hb dX9_dayThen_21 rfl (lv_at hl 1 rfl) ?_
        obtain ⟨z4, hF⟩ := lm_gIe hF
        refine lm_ald B hN 9 (f := (s0_2.2.1 8)) rfl z4 dX9_dayThen_22 ?_
        refine lv_if_ne (tgt := 41) hx hb dX9_dayThen_23 (by decide) (fun c5 => ?_) (fun c5 => ?_)
        · have hF := lm_itn c5 hF
          exact J41 _ _ _ _ _ _ _ hF hN (lv_sub hl [0, 1] rfl)
        · have hF := lm_itp c5 hF
          refine lv_aload_n hx hb dX9_dayThen_26 rfl (lv_at hl 0 rfl) ?_
          refine lm_get B hN (ci := 9) hiX9 0 rfl rfl 14 (by decide) (by decide +kernel) (v := .ref (q0 8)) rfl dX9_dayThen_27 ?_
          refine lv_iload_n hx hb dX9_dayThen_30 rfl (lv_at hl 1 rfl) ?_
          obtain ⟨z6, hF⟩ := lm_gIe hF
          refine lm_ald B hN 8 (f := (s0_2.2.1 7)) rfl z6 dX9_dayThen_31 ?_
          refine lv_bipush (v := 20) hx hb dX9_dayThen_32 (by decide) ?_
          refine lv_icmp_ge (tgt := 41) hx hb dX9_dayThen_34 (by decide) (fun c7 => ?_) (fun c7 => ?_)
          · have hF := lm_itp c7 hF
            exact J41 _ _ _ _ _ _ _ hF hN (lv_sub hl [0, 1] rfl)
          · have hF := lm_itn c7 hF
            refine lv_iconst (v := 1) hx hb dX9_dayThen_37 (by decide) ?_
            refine lv_goto (tgt := 42) hx hb dX9_dayThen_38 (by decide) ?_
            exact J42 _ _ _ _ _ _ _ _ hF hN (lv_sub hl [0, 1] rfl)
  refine lv_iconst (v := 0) hx hb dX9_dayThen_0 (by decide) ?_
  refine lv_istore_n (lv' := [(1, .int (0 : Int32)), (0, .ref (q0 0))]) hx hb dX9_dayThen_1 rfl hl (by decide) rfl (fun ls hl => ?_)
  exact L2 5000 _ _ _ _ _ hF hN (lv_sub hl [1, 0] rfl)
def fX9_draw (s0 : lm_St) (x1 : Int32) : Option (Int32 × lm_St) := lm_gZ x1 (some (((((((1103515245 : Int64) * (s0.1 10).toInt64) + (12345 : Int64)) &&& (2147483647 : Int64)).toInt32 / (65536 : Int32)) - (((((1103515245 : Int64) * (s0.1 10).toInt64) + (12345 : Int64)) &&& (2147483647 : Int64)).toInt32 / (65536 : Int32)) / x1 * x1), (lm_sF s0 10 (((((1103515245 : Int64) * (s0.1 10).toInt64) + (12345 : Int64)) &&& (2147483647 : Int64)).toInt32))))
set_option maxHeartbeats 4000000 in
set_option maxRecDepth 100000 in
theorem hX9_draw (l : Launch) (G : lm_G) (q0 : Nat → Nat) {s0 : lm_St} {x1 : Int32} {R : Int32 × lm_St} (hF : fX9_draw s0 x1 = some R) : lm_C l G yX9_draw wsX9_draw 1 [.ref (q0 0), .int x1] (wX9 G q0 s0) (some (.int R.1)) (wX9 G q0 R.2) := by
  refine lm_C.of (cc := cX9_draw) (maxL := 2) (ret := (some .int)) (by decide) rfl (Nat.le_of_ble_eq_true rfl) ?_
  intro p e s m below meth c A ls B hN hl
  have hx := B.1.1
  have hb := B.1.2.1
  have hown := B.1.2.2.2.1
  have hts := B.1.2.2.2.2
  have hiX9 : ∀ w ∈ wsX90, w ∈ wsX9_draw := by decide +kernel
  have hl : lv_has ls 2 [(0, .ref (q0 0)), (1, .int x1)] := hl
  refine lv_aload_n hx hb dX9_draw_0 rfl (lv_at hl 0 rfl) ?_
  refine lv_ldc2 (v := 1103515245) hx hb hown (hts (.constantLong RX9 226 (1103515245)) (by decide +kernel)) dX9_draw_1 ?_
  refine lv_aload_n hx hb dX9_draw_4 rfl (lv_at hl 0 rfl) ?_
  refine lm_get B hN (ci := 9) hiX9 0 rfl rfl 21 (by decide) (by decide +kernel) (v := .int (s0.1 10)) rfl dX9_draw_5 ?_
  refine lv_i2l hx hb dX9_draw_8 rfl ?_
  refine lv_lmul hx hb dX9_draw_9 ?_
  refine lv_ldc2 (v := 12345) hx hb hown (hts (.constantLong RX9 231 (12345)) (by decide +kernel)) dX9_draw_10 ?_
  refine lv_ladd hx hb dX9_draw_13 ?_
  refine lv_ldc2 (v := 2147483647) hx hb hown (hts (.constantLong RX9 233 (2147483647)) (by decide +kernel)) dX9_draw_14 ?_
  refine lv_land hx hb dX9_draw_17 ?_
  refine lv_l2i hx hb dX9_draw_18 rfl ?_
  refine lm_put B hN (ci := 9) hiX9 tyX9 tyX9_ok nmX9 0 rfl rfl 21 (by decide) (by decide +kernel) (by decide) (v := .int (((((1103515245 : Int64) * (s0.1 10).toInt64) + (12345 : Int64)) &&& (2147483647 : Int64)).toInt32)) rfl rfl (Nat.le_of_ble_eq_true rfl) (wX9 G q0 (lm_sF s0 10 (((((1103515245 : Int64) * (s0.1 10).toInt64) + (12345 : Int64)) &&& (2147483647 : Int64)).toInt32))) (wX9_r0f10 _ _ _ _) dX9_draw_19 (fun H locs hN => ?_)
  refine lv_aload_n hx hb dX9_draw_22 rfl (lv_at hl 0 rfl) ?_
  refine lm_get B hN (ci := 9) hiX9 0 rfl rfl 21 (by decide) (by decide +kernel) (v := .int (((((1103515245 : Int64) * (s0.1 10).toInt64) + (12345 : Int64)) &&& (2147483647 : Int64)).toInt32)) rfl dX9_draw_23 ?_
  refine lv_ldc (v := 65536) hx hb hown (hts (.constant RX9 235 (65536)) (by decide +kernel)) dX9_draw_26 ?_
  refine lv_idiv hx hb dX9_draw_28 (by decide) ?_
  refine lv_iload_n hx hb dX9_draw_29 rfl (lv_at hl 1 rfl) ?_
  obtain ⟨z1, hF⟩ := lm_gZe hF
  refine lv_irem hx hb dX9_draw_30 z1 ?_
  cases hF
  exact lm_iret B hN dX9_draw_31
def fX9_figure (x0 : Int32) (x1 : Int32) (x2 : Int32) : Option (Int32) := some ((x0 >>> (((3 : Int32) * ((x1 - (1 : Int32)) - x2)) &&& 31)) &&& (7 : Int32))
set_option maxHeartbeats 4000000 in
set_option maxRecDepth 100000 in
theorem hX9_figure (l : Launch) (G : lm_G) {x0 : Int32} {x1 : Int32} {x2 : Int32} {R : Int32} (hF : fX9_figure x0 x1 x2 = some R) : lm_C l G yX9_figure wsX9_figure 1 [.int x0, .int x1, .int x2] ([]) (some (.int R)) ([]) := by
  refine lm_C.of (cc := cX9_figure) (maxL := 3) (ret := (some .int)) (by decide) rfl (Nat.le_of_ble_eq_true rfl) ?_
  intro p e s m below meth c A ls B hN hl
  have hx := B.1.1
  have hb := B.1.2.1
  have hown := B.1.2.2.2.1
  have hts := B.1.2.2.2.2
  have hl : lv_has ls 3 [(0, .int x0), (1, .int x1), (2, .int x2)] := hl
  refine lv_iload_n hx hb dX9_figure_0 rfl (lv_at hl 0 rfl) ?_
  refine lv_iconst (v := 3) hx hb dX9_figure_1 (by decide) ?_
  refine lv_iload_n hx hb dX9_figure_2 rfl (lv_at hl 1 rfl) ?_
  refine lv_iconst (v := 1) hx hb dX9_figure_3 (by decide) ?_
  refine lv_isub hx hb dX9_figure_4 ?_
  refine lv_iload_n hx hb dX9_figure_5 rfl (lv_at hl 2 rfl) ?_
  refine lv_isub hx hb dX9_figure_6 ?_
  refine lv_imul hx hb dX9_figure_7 ?_
  refine lv_ishr hx hb dX9_figure_8 ?_
  refine lv_bipush (v := 7) hx hb dX9_figure_9 (by decide) ?_
  refine lv_iand hx hb dX9_figure_11 ?_
  cases hF
  exact lm_iret B hN dX9_figure_12
def fX9_forget (s0 : lm_St) : Option (Int32 × lm_St) := some ((s0.1 9), (lm_sF s0 9 (0 : Int32)))
set_option maxHeartbeats 4000000 in
set_option maxRecDepth 100000 in
theorem hX9_forget (l : Launch) (G : lm_G) (q0 : Nat → Nat) {s0 : lm_St} {R : Int32 × lm_St} (hF : fX9_forget s0 = some R) : lm_C l G yX9_forget wsX9_forget 1 [.ref (q0 0)] (wX9 G q0 s0) (some (.int R.1)) (wX9 G q0 R.2) := by
  refine lm_C.of (cc := cX9_forget) (maxL := 2) (ret := (some .int)) (by decide) rfl (Nat.le_of_ble_eq_true rfl) ?_
  intro p e s m below meth c A ls B hN hl
  have hx := B.1.1
  have hb := B.1.2.1
  have hown := B.1.2.2.2.1
  have hts := B.1.2.2.2.2
  have hiX9 : ∀ w ∈ wsX90, w ∈ wsX9_forget := by decide +kernel
  have hl : lv_has ls 2 [(0, .ref (q0 0))] := hl
  refine lv_aload_n hx hb dX9_forget_0 rfl (lv_at hl 0 rfl) ?_
  refine lm_get B hN (ci := 9) hiX9 0 rfl rfl 19 (by decide) (by decide +kernel) (v := .int (s0.1 9)) rfl dX9_forget_1 ?_
  refine lv_istore_n (lv' := [(1, .int (s0.1 9)), (0, .ref (q0 0))]) hx hb dX9_forget_4 rfl hl (by decide) rfl (fun ls hl => ?_)
  refine lv_aload_n hx hb dX9_forget_5 rfl (lv_at hl 1 rfl) ?_
  refine lv_iconst (v := 0) hx hb dX9_forget_6 (by decide) ?_
  refine lm_put B hN (ci := 9) hiX9 tyX9 tyX9_ok nmX9 0 rfl rfl 19 (by decide) (by decide +kernel) (by decide) (v := .int (0 : Int32)) rfl rfl (Nat.le_of_ble_eq_true rfl) (wX9 G q0 (lm_sF s0 9 (0 : Int32))) (wX9_r0f9 _ _ _ _) dX9_forget_7 (fun H locs hN => ?_)
  refine lv_iload_n hx hb dX9_forget_10 rfl (lv_at hl 0 rfl) ?_
  cases hF
  exact lm_iret B hN dX9_forget_11
def fX9_in (x0 : Int64) (x2 : Int64) (x4 : Int64) : Option (Int32) := if (lg_cmp x0 x2) < 0 then (lm_gB (0 : Int32) (some (0 : Int32))) else (if 0 < (lg_cmp x0 x4) then (lm_gB (0 : Int32) (some (0 : Int32))) else (lm_gB (1 : Int32) (some (1 : Int32))))
set_option maxHeartbeats 4000000 in
set_option maxRecDepth 100000 in
theorem hX9_in (l : Launch) (G : lm_G) {x0 : Int64} {x2 : Int64} {x4 : Int64} {R : Int32} (hF : fX9_in x0 x2 x4 = some R) : lm_C l G yX9_in wsX9_in 1 [.long x0, .long x2, .long x4] ([]) (some (.int R)) ([]) := by
  refine lm_C.of (cc := cX9_in) (maxL := 6) (ret := (some .boolean)) (by decide) rfl (Nat.le_of_ble_eq_true rfl) ?_
  intro p e s m below meth c A ls B hN hl
  have hx := B.1.1
  have hb := B.1.2.1
  have hown := B.1.2.2.2.1
  have hts := B.1.2.2.2.2
  have hl : lv_has ls 6 [(0, .long x0), (2, .long x2), (4, .long x4)] := hl
  refine lv_lload_n hx hb dX9_in_0 rfl (lv_at hl 0 rfl) ?_
  refine lv_lload_n hx hb dX9_in_1 rfl (lv_at hl 1 rfl) ?_
  refine W.lcmp hx hb dX9_in_2 ?_
  refine lv_if_lt (tgt := 17) hx hb dX9_in_3 (by decide) (fun c1 => ?_) (fun c1 => ?_)
  · have hF := lm_itp c1 hF
    refine lv_iconst (v := 0) hx hb dX9_in_17 (by decide) ?_
    obtain ⟨z2, hF⟩ := lm_gBe hF
    cases hF
    exact lm_zret B hN z2 dX9_in_18
  · have hF := lm_itn c1 hF
    refine lv_lload_n hx hb dX9_in_6 rfl (lv_at hl 0 rfl) ?_
    refine lv_lload hx hb dX9_in_7 (lv_at hl 2 rfl) ?_
    refine W.lcmp hx hb dX9_in_9 ?_
    refine lv_if_gt (tgt := 17) hx hb dX9_in_10 (by decide) (fun c3 => ?_) (fun c3 => ?_)
    · have hF := lm_itp c3 hF
      refine lv_iconst (v := 0) hx hb dX9_in_17 (by decide) ?_
      obtain ⟨z4, hF⟩ := lm_gBe hF
      cases hF
      exact lm_zret B hN z4 dX9_in_18
    · have hF := lm_itn c3 hF
      refine lv_iconst (v := 1) hx hb dX9_in_13 (by decide) ?_
      refine lv_goto (tgt := 18) hx hb dX9_in_14 (by decide) ?_
      obtain ⟨z5, hF⟩ := lm_gBe hF
      cases hF
      exact lm_zret B hN z5 dX9_in_18
def fX9_kindBy (x0 : Int32) : Option (Int32) := if x0 = 99 then (some (1 : Int32)) else (if x0 = 112 then (some (3 : Int32)) else (if x0 = 115 then (some (4 : Int32)) else (if x0 = 116 then (some (0 : Int32)) else (if x0 = 117 then (some (2 : Int32)) else (some (-1 : Int32))))))
set_option maxHeartbeats 4000000 in
set_option maxRecDepth 100000 in
theorem hX9_kindBy (l : Launch) (G : lm_G) {x0 : Int32} {R : Int32} (hF : fX9_kindBy x0 = some R) : lm_C l G yX9_kindBy wsX9_kindBy 1 [.int x0] ([]) (some (.int R)) ([]) := by
  refine lm_C.of (cc := cX9_kindBy) (maxL := 1) (ret := (some .int)) (by decide) rfl (Nat.le_of_ble_eq_true rfl) ?_
  intro p e s m below meth c A ls B hN hl
  have hx := B.1.1
  have hb := B.1.2.1
  have hown := B.1.2.2.2.1
  have hts := B.1.2.2.2.2
  have hl : lv_has ls 1 [(0, .int x0)] := hl
  refine lv_iload_n hx hb dX9_kindBy_0 rfl (lv_at hl 0 rfl) ?_
  by_cases c1_99 : x0 = 99
  · have hF := lm_itp c1_99 hF
    refine lv_lookup (tgt := 54) hx hb dX9_kindBy_1 (by decide) (by rw [c1_99]; first | done | rfl) (by decide) ?_
    refine lv_iconst (v := 1) hx hb dX9_kindBy_54 (by decide) ?_
    cases hF
    exact lm_iret B hN dX9_kindBy_55
  have hF := lm_itn c1_99 hF
  by_cases c1_112 : x0 = 112
  · have hF := lm_itp c1_112 hF
    refine lv_lookup (tgt := 58) hx hb dX9_kindBy_1 (by decide) (by rw [c1_112]; first | done | rfl) (by decide) ?_
    refine lv_iconst (v := 3) hx hb dX9_kindBy_58 (by decide) ?_
    cases hF
    exact lm_iret B hN dX9_kindBy_59
  have hF := lm_itn c1_112 hF
  by_cases c1_115 : x0 = 115
  · have hF := lm_itp c1_115 hF
    refine lv_lookup (tgt := 60) hx hb dX9_kindBy_1 (by decide) (by rw [c1_115]; first | done | rfl) (by decide) ?_
    refine lv_iconst (v := 4) hx hb dX9_kindBy_60 (by decide) ?_
    cases hF
    exact lm_iret B hN dX9_kindBy_61
  have hF := lm_itn c1_115 hF
  by_cases c1_116 : x0 = 116
  · have hF := lm_itp c1_116 hF
    refine lv_lookup (tgt := 52) hx hb dX9_kindBy_1 (by decide) (by rw [c1_116]; first | done | rfl) (by decide) ?_
    refine lv_iconst (v := 0) hx hb dX9_kindBy_52 (by decide) ?_
    cases hF
    exact lm_iret B hN dX9_kindBy_53
  have hF := lm_itn c1_116 hF
  by_cases c1_117 : x0 = 117
  · have hF := lm_itp c1_117 hF
    refine lv_lookup (tgt := 56) hx hb dX9_kindBy_1 (by decide) (by rw [c1_117]; first | done | rfl) (by decide) ?_
    refine lv_iconst (v := 2) hx hb dX9_kindBy_56 (by decide) ?_
    cases hF
    exact lm_iret B hN dX9_kindBy_57
  have hF := lm_itn c1_117 hF
  have ic1_99 := lm_ti (n := 99) (by decide) c1_99
  have ic1_112 := lm_ti (n := 112) (by decide) c1_112
  have ic1_115 := lm_ti (n := 115) (by decide) c1_115
  have ic1_116 := lm_ti (n := 116) (by decide) c1_116
  have ic1_117 := lm_ti (n := 117) (by decide) c1_117
  refine lv_lookup (tgt := 62) hx hb dX9_kindBy_1 (by decide) (by show Op.lookupswitch.offset [(99, 53), (112, 57), (115, 59), (116, 51), (117, 55)] (61) _ = (61); simp only [Op.lookupswitch.offset, if_neg (Ne.symm ic1_99), if_neg (Ne.symm ic1_112), if_neg (Ne.symm ic1_115), if_neg (Ne.symm ic1_116), if_neg (Ne.symm ic1_117)]) (by decide) ?_
  refine lv_iconst (v := -1) hx hb dX9_kindBy_62 (by decide) ?_
  cases hF
  exact lm_iret B hN dX9_kindBy_63
def fX9_lacks (s0 : lm_St) : Option (Int32 × lm_St) := if (s0.1 2) = 0 then (lm_gB (1 : Int32) (some ((1 : Int32), s0))) else (lm_gB (0 : Int32) (some ((0 : Int32), s0)))
set_option maxHeartbeats 4000000 in
set_option maxRecDepth 100000 in
theorem hX9_lacks (l : Launch) (G : lm_G) (q0 : Nat → Nat) {s0 : lm_St} {R : Int32 × lm_St} (hF : fX9_lacks s0 = some R) : lm_C l G yX9_lacks wsX9_lacks 1 [.ref (q0 0)] (wX9 G q0 s0) (some (.int R.1)) (wX9 G q0 R.2) := by
  refine lm_C.of (cc := cX9_lacks) (maxL := 1) (ret := (some .boolean)) (by decide) rfl (Nat.le_of_ble_eq_true rfl) ?_
  intro p e s m below meth c A ls B hN hl
  have hx := B.1.1
  have hb := B.1.2.1
  have hown := B.1.2.2.2.1
  have hts := B.1.2.2.2.2
  have hiX9 : ∀ w ∈ wsX90, w ∈ wsX9_lacks := by decide +kernel
  have hl : lv_has ls 1 [(0, .ref (q0 0))] := hl
  refine lv_aload_n hx hb dX9_lacks_0 rfl (lv_at hl 0 rfl) ?_
  refine lm_get B hN (ci := 9) hiX9 0 rfl rfl 3 (by decide) (by decide +kernel) (v := .int (s0.1 2)) rfl dX9_lacks_1 ?_
  refine lv_if_ne (tgt := 11) hx hb dX9_lacks_4 (by decide) (fun c1 => ?_) (fun c1 => ?_)
  · have hF := lm_itn c1 hF
    refine lv_iconst (v := 0) hx hb dX9_lacks_11 (by decide) ?_
    obtain ⟨z2, hF⟩ := lm_gBe hF
    cases hF
    exact lm_zret B hN z2 dX9_lacks_12
  · have hF := lm_itp c1 hF
    refine lv_iconst (v := 1) hx hb dX9_lacks_7 (by decide) ?_
    refine lv_goto (tgt := 12) hx hb dX9_lacks_8 (by decide) ?_
    obtain ⟨z3, hF⟩ := lm_gBe hF
    cases hF
    exact lm_zret B hN z3 dX9_lacks_12
def jX9_missedBy_68 (x3_68 : Int32) : Option (Int32) := if x3_68 ≤ 0 then (some (0 : Int32)) else (some x3_68)
def fX9_missedBy (x0 : Int32) (x1 : Int32) (x2 : Int32) : Option (Int32) := if x0 = 1 then (jX9_missedBy_68 (x1 - ((2 : Int32) * x2))) else (if x0 = 2 then (jX9_missedBy_68 x1) else (if x0 = 3 then (jX9_missedBy_68 ((x1 / (2 : Int32)) - x2)) else (if x0 = 4 then (jX9_missedBy_68 (x1 - ((4 : Int32) * x2))) else (jX9_missedBy_68 (x1 - x2)))))
set_option maxHeartbeats 4000000 in
set_option maxRecDepth 100000 in
theorem hX9_missedBy (l : Launch) (G : lm_G) {x0 : Int32} {x1 : Int32} {x2 : Int32} {R : Int32} (hF : fX9_missedBy x0 x1 x2 = some R) : lm_C l G yX9_missedBy wsX9_missedBy 1 [.int x0, .int x1, .int x2] ([]) (some (.int R)) ([]) := by
  refine lm_C.of (cc := cX9_missedBy) (maxL := 4) (ret := (some .int)) (by decide) rfl (Nat.le_of_ble_eq_true rfl) ?_
  intro p e s m below meth c A ls B hN hl
  have hx := B.1.1
  have hb := B.1.2.1
  have hown := B.1.2.2.2.1
  have hts := B.1.2.2.2.2
  have hl : lv_has ls 4 [(0, .int x0), (1, .int x1), (2, .int x2)] := hl
  have J68 : ∀ (x3_68 : Int32) (H : Heap) (locs : List Loc) (ls : Array Slot), jX9_missedBy_68 x3_68 = some R → lm_N G A s ([]) H locs → lv_has ls 4 [(3, .int x3_68)] → W p l e (lm_rk 1) s m ([.int x0, .int x1, .int x2] : List Value).toArray below meth c H locs 0 0 (MQ below (lm_post G ([]) (some (.int R)) A) ([.int x0, .int x1, .int x2] : List Value).toArray s 0 0 A) (F0 m 68 ls []) := by
    intro x3_68 H locs ls hF hN hl
    refine lv_iload_n hx hb dX9_missedBy_68 rfl (lv_at hl 0 rfl) ?_
    refine lv_if_le (tgt := 76) hx hb dX9_missedBy_69 (by decide) (fun c1 => ?_) (fun c1 => ?_)
    · have hF := lm_itp c1 hF
      refine lv_iconst (v := 0) hx hb dX9_missedBy_76 (by decide) ?_
      cases hF
      exact lm_iret B hN dX9_missedBy_77
    · have hF := lm_itn c1 hF
      refine lv_iload_n hx hb dX9_missedBy_72 rfl (lv_at hl 0 rfl) ?_
      refine lv_goto (tgt := 77) hx hb dX9_missedBy_73 (by decide) ?_
      cases hF
      exact lm_iret B hN dX9_missedBy_77
  refine lv_iload_n hx hb dX9_missedBy_0 rfl (lv_at hl 1 rfl) ?_
  refine lv_iload_n hx hb dX9_missedBy_1 rfl (lv_at hl 2 rfl) ?_
  refine lv_isub hx hb dX9_missedBy_2 ?_
  refine lv_istore_n (lv' := [(3, .int (x1 - x2)), (0, .int x0), (1, .int x1), (2, .int x2)]) hx hb dX9_missedBy_3 rfl hl (by decide) rfl (fun ls hl => ?_)
  refine lv_iload_n hx hb dX9_missedBy_4 rfl (lv_at hl 1 rfl) ?_
  by_cases c2_1 : x0 = 1
  · have hF := lm_itp c2_1 hF
    refine lv_tableIn (tgt := 36) hx hb dX9_missedBy_5 (by rw [c2_1]; decide) (by rw [c2_1]; decide) (by rw [c2_1]; rfl) (by decide) ?_
    refine lv_iload_n hx hb dX9_missedBy_36 rfl (lv_at hl 2 rfl) ?_
    refine lv_iconst (v := 2) hx hb dX9_missedBy_37 (by decide) ?_
    refine lv_iload_n hx hb dX9_missedBy_38 rfl (lv_at hl 3 rfl) ?_
    refine lv_imul hx hb dX9_missedBy_39 ?_
    refine lv_isub hx hb dX9_missedBy_40 ?_
    refine lv_istore_n (lv' := [(3, .int (x1 - ((2 : Int32) * x2))), (0, .int x0), (1, .int x1), (2, .int x2)]) hx hb dX9_missedBy_41 rfl hl (by decide) rfl (fun ls hl => ?_)
    refine lv_goto (tgt := 68) hx hb dX9_missedBy_42 (by decide) ?_
    exact J68 _ _ _ _ hF hN (lv_sub hl [0] rfl)
  have hF := lm_itn c2_1 hF
  by_cases c2_2 : x0 = 2
  · have hF := lm_itp c2_2 hF
    refine lv_tableIn (tgt := 45) hx hb dX9_missedBy_5 (by rw [c2_2]; decide) (by rw [c2_2]; decide) (by rw [c2_2]; rfl) (by decide) ?_
    refine lv_iload_n hx hb dX9_missedBy_45 rfl (lv_at hl 2 rfl) ?_
    refine lv_istore_n (lv' := [(3, .int x1), (0, .int x0), (1, .int x1), (2, .int x2)]) hx hb dX9_missedBy_46 rfl hl (by decide) rfl (fun ls hl => ?_)
    refine lv_goto (tgt := 68) hx hb dX9_missedBy_47 (by decide) ?_
    exact J68 _ _ _ _ hF hN (lv_sub hl [0] rfl)
  have hF := lm_itn c2_2 hF
  by_cases c2_3 : x0 = 3
  · have hF := lm_itp c2_3 hF
    refine lv_tableIn (tgt := 50) hx hb dX9_missedBy_5 (by rw [c2_3]; decide) (by rw [c2_3]; decide) (by rw [c2_3]; rfl) (by decide) ?_
    refine lv_iload_n hx hb dX9_missedBy_50 rfl (lv_at hl 2 rfl) ?_
    refine lv_iconst (v := 2) hx hb dX9_missedBy_51 (by decide) ?_
    refine lv_idiv hx hb dX9_missedBy_52 (by decide) ?_
    refine lv_iload_n hx hb dX9_missedBy_53 rfl (lv_at hl 3 rfl) ?_
    refine lv_isub hx hb dX9_missedBy_54 ?_
    refine lv_istore_n (lv' := [(3, .int ((x1 / (2 : Int32)) - x2)), (0, .int x0), (1, .int x1), (2, .int x2)]) hx hb dX9_missedBy_55 rfl hl (by decide) rfl (fun ls hl => ?_)
    refine lv_goto (tgt := 68) hx hb dX9_missedBy_56 (by decide) ?_
    exact J68 _ _ _ _ hF hN (lv_sub hl [0] rfl)
  have hF := lm_itn c2_3 hF
  by_cases c2_4 : x0 = 4
  · have hF := lm_itp c2_4 hF
    refine lv_tableIn (tgt := 59) hx hb dX9_missedBy_5 (by rw [c2_4]; decide) (by rw [c2_4]; decide) (by rw [c2_4]; rfl) (by decide) ?_
    refine lv_iload_n hx hb dX9_missedBy_59 rfl (lv_at hl 2 rfl) ?_
    refine lv_iconst (v := 4) hx hb dX9_missedBy_60 (by decide) ?_
    refine lv_iload_n hx hb dX9_missedBy_61 rfl (lv_at hl 3 rfl) ?_
    refine lv_imul hx hb dX9_missedBy_62 ?_
    refine lv_isub hx hb dX9_missedBy_63 ?_
    refine lv_istore_n (lv' := [(3, .int (x1 - ((4 : Int32) * x2))), (0, .int x0), (1, .int x1), (2, .int x2)]) hx hb dX9_missedBy_64 rfl hl (by decide) rfl (fun ls hl => ?_)
    refine lv_goto (tgt := 68) hx hb dX9_missedBy_65 (by decide) ?_
    exact J68 _ _ _ _ hF hN (lv_sub hl [0] rfl)
  have hF := lm_itn c2_4 hF
  have ic2_1 := lm_ti (n := 1) (by decide) c2_1
  have ic2_2 := lm_ti (n := 2) (by decide) c2_2
  have ic2_3 := lm_ti (n := 3) (by decide) c2_3
  have ic2_4 := lm_ti (n := 4) (by decide) c2_4
  refine lv_tableOut (tgt := 68) hx hb dX9_missedBy_5 (by omega) (by decide) ?_
  exact J68 _ _ _ _ hF hN (lv_sub hl [0] rfl)
def fX9_say (s0 : lm_St) (x1 : Int64) : Option (lm_St) := some (lm_sL s0 (((31 : Int64) * s0.2.2) + x1))
set_option maxHeartbeats 4000000 in
set_option maxRecDepth 100000 in
theorem hX9_say (l : Launch) (G : lm_G) (q0 : Nat → Nat) {s0 : lm_St} {x1 : Int64} {R : lm_St} (hF : fX9_say s0 x1 = some R) : lm_C l G yX9_say wsX9_say 1 [.ref (q0 0), .long x1] (wX9 G q0 s0) none (wX9 G q0 R) := by
  refine lm_C.of (cc := cX9_say) (maxL := 3) (ret := none) (by decide) rfl (Nat.le_of_ble_eq_true rfl) ?_
  intro p e s m below meth c A ls B hN hl
  have hx := B.1.1
  have hb := B.1.2.1
  have hown := B.1.2.2.2.1
  have hts := B.1.2.2.2.2
  have hiX9 : ∀ w ∈ wsX90, w ∈ wsX9_say := by decide +kernel
  have hl : lv_has ls 3 [(0, .ref (q0 0)), (1, .long x1)] := hl
  refine lv_aload_n hx hb dX9_say_0 rfl (lv_at hl 0 rfl) ?_
  refine lv_ldc2 (v := 31) hx hb hown (hts (.constantLong RX9 259 (31)) (by decide +kernel)) dX9_say_1 ?_
  refine lv_aload_n hx hb dX9_say_4 rfl (lv_at hl 0 rfl) ?_
  refine lm_get B hN (ci := 9) hiX9 0 rfl rfl 33 (by decide) (by decide +kernel) (v := .long s0.2.2) rfl dX9_say_5 ?_
  refine lv_lmul hx hb dX9_say_8 ?_
  refine lv_lload_n hx hb dX9_say_9 rfl (lv_at hl 1 rfl) ?_
  refine lv_ladd hx hb dX9_say_10 ?_
  refine lm_put B hN (ci := 9) hiX9 tyX9 tyX9_ok nmX9 0 rfl rfl 33 (by decide) (by decide +kernel) (by decide) (v := .long (((31 : Int64) * s0.2.2) + x1)) rfl rfl (Nat.le_of_ble_eq_true rfl) (wX9 G q0 (lm_sL s0 (((31 : Int64) * s0.2.2) + x1))) (wX9_r0l _ _ _ _) dX9_say_11 (fun H locs hN => ?_)
  cases hF
  exact lm_vret B hN dX9_say_14
def bX9_takenMany_4 (k4 : Int32 × Int32 × lm_St → Option (Int32 × lm_St)) (x1_4 : Int32) (x2_4 : Int32) (s0_4 : lm_St) : Option (Int32 × lm_St) := if (s0_4.1 2) ≤ x2_4 then (some (x1_4, s0_4)) else (lm_gI x2_4 7 (k4 ((x1_4 + ((s0_4.2.1 5) x2_4.toNatClampNeg)), (x2_4 + 1), s0_4)))
def fX9_takenMany (s0 : lm_St) : Option (Int32 × lm_St) := lm_lp (fun k a => bX9_takenMany_4 k a.1 a.2.1 a.2.2) 5000 ((0 : Int32), (0 : Int32), s0)
set_option maxHeartbeats 4000000 in
set_option maxRecDepth 100000 in
theorem hX9_takenMany (l : Launch) (G : lm_G) (q0 : Nat → Nat) {s0 : lm_St} {R : Int32 × lm_St} (hF : fX9_takenMany s0 = some R) : lm_C l G yX9_takenMany wsX9_takenMany 1 [.ref (q0 0)] (wX9 G q0 s0) (some (.int R.1)) (wX9 G q0 R.2) := by
  refine lm_C.of (cc := cX9_takenMany) (maxL := 3) (ret := (some .int)) (by decide) rfl (Nat.le_of_ble_eq_true rfl) ?_
  intro p e s m below meth c A ls B hN hl
  have hx := B.1.1
  have hb := B.1.2.1
  have hown := B.1.2.2.2.1
  have hts := B.1.2.2.2.2
  have hiX9 : ∀ w ∈ wsX90, w ∈ wsX9_takenMany := by decide +kernel
  have hl : lv_has ls 3 [(0, .ref (q0 0))] := hl
  have L4 : ∀ (n : Nat) (x1_4 : Int32) (x2_4 : Int32) (s0_4 : lm_St) (H : Heap) (locs : List Loc) (ls : Array Slot), lm_lp (fun k a => bX9_takenMany_4 k a.1 a.2.1 a.2.2) n (x1_4, x2_4, s0_4) = some R → lm_N G A s (wX9 G q0 s0_4) H locs → lv_has ls 3 [(0, .ref (q0 0)), (1, .int x1_4), (2, .int x2_4)] → W p l e (lm_rk 1) s m ([.ref (q0 0)] : List Value).toArray below meth c H locs 0 0 (MQ below (lm_post G (wX9 G q0 R.2) (some (.int R.1)) A) ([.ref (q0 0)] : List Value).toArray s 0 0 A) (F0 m 4 ls []) := by
    intro n
    induction n with
    | zero => intro x1_4 x2_4 s0_4 H locs ls hF; exact (lm_lpz hF).elim
    | succ n ih4 =>
      intro x1_4 x2_4 s0_4 H locs ls hF hN hl
      have hF : bX9_takenMany_4 (lm_lp (fun k a => bX9_takenMany_4 k a.1 a.2.1 a.2.2) n) x1_4 x2_4 s0_4 = some R := lm_lps hF
      generalize lm_lp (fun k a => bX9_takenMany_4 k a.1 a.2.1 a.2.2) n = k4 at hF ih4
      refine lv_iload_n hx hb dX9_takenMany_4 rfl (lv_at hl 2 rfl) ?_
      refine lv_aload_n hx hb dX9_takenMany_5 rfl (lv_at hl 0 rfl) ?_
      refine lm_get B hN (ci := 9) hiX9 0 rfl rfl 3 (by decide) (by decide +kernel) (v := .int (s0_4.1 2)) rfl dX9_takenMany_6 ?_
      refine lv_icmp_ge (tgt := 27) hx hb dX9_takenMany_9 (by decide) (fun c1 => ?_) (fun c1 => ?_)
      · have hF := lm_itp c1 hF
        refine lv_iload_n hx hb dX9_takenMany_27 rfl (lv_at hl 1 rfl) ?_
        cases hF
        exact lm_iret B hN dX9_takenMany_28
      · have hF := lm_itn c1 hF
        refine lv_iload_n hx hb dX9_takenMany_12 rfl (lv_at hl 1 rfl) ?_
        refine lv_aload_n hx hb dX9_takenMany_13 rfl (lv_at hl 0 rfl) ?_
        refine lm_get B hN (ci := 9) hiX9 0 rfl rfl 12 (by decide) (by decide +kernel) (v := .ref (q0 6)) rfl dX9_takenMany_14 ?_
        refine lv_iload_n hx hb dX9_takenMany_17 rfl (lv_at hl 2 rfl) ?_
        obtain ⟨z2, hF⟩ := lm_gIe hF
        refine lm_ald B hN 6 (f := (s0_4.2.1 5)) rfl z2 dX9_takenMany_18 ?_
        refine lv_iadd hx hb dX9_takenMany_19 ?_
        refine lv_istore_n (lv' := [(1, .int (x1_4 + ((s0_4.2.1 5) x2_4.toNatClampNeg))), (0, .ref (q0 0)), (2, .int x2_4)]) hx hb dX9_takenMany_20 rfl hl (by decide) rfl (fun ls hl => ?_)
        refine lv_iinc (v := (x2_4 + 1)) (lv' := [(2, .int (x2_4 + 1)), (1, .int (x1_4 + ((s0_4.2.1 5) x2_4.toNatClampNeg))), (0, .ref (q0 0))]) hx hb dX9_takenMany_21 hl (k := 2) rfl rfl (by decide) rfl (fun ls hl => ?_)
        refine lv_goto (tgt := 4) hx hb dX9_takenMany_24 (by decide) ?_
        exact ih4 _ _ _ _ _ _ hF hN (lv_sub hl [2, 1, 0] rfl)
  refine lv_iconst (v := 0) hx hb dX9_takenMany_0 (by decide) ?_
  refine lv_istore_n (lv' := [(1, .int (0 : Int32)), (0, .ref (q0 0))]) hx hb dX9_takenMany_1 rfl hl (by decide) rfl (fun ls hl => ?_)
  refine lv_iconst (v := 0) hx hb dX9_takenMany_2 (by decide) ?_
  refine lv_istore_n (lv' := [(2, .int (0 : Int32)), (1, .int (0 : Int32)), (0, .ref (q0 0))]) hx hb dX9_takenMany_3 rfl hl (by decide) rfl (fun ls hl => ?_)
  exact L4 5000 _ _ _ _ _ _ hF hN (lv_sub hl [2, 1, 0] rfl)
def bX9_takenSet_4 (k4 : Int32 × Int32 × lm_St → Option (Int32 × lm_St)) (x1_4 : Int32) (x2_4 : Int32) (s0_4 : lm_St) : Option (Int32 × lm_St) := if (s0_4.1 2) ≤ x2_4 then (some (x1_4, s0_4)) else (lm_gI x2_4 7 (k4 ((x1_4 ||| (((s0_4.2.1 5) x2_4.toNatClampNeg) <<< (x2_4 &&& 31))), (x2_4 + 1), s0_4)))
def fX9_takenSet (s0 : lm_St) : Option (Int32 × lm_St) := lm_lp (fun k a => bX9_takenSet_4 k a.1 a.2.1 a.2.2) 5000 ((0 : Int32), (0 : Int32), s0)
set_option maxHeartbeats 4000000 in
set_option maxRecDepth 100000 in
theorem hX9_takenSet (l : Launch) (G : lm_G) (q0 : Nat → Nat) {s0 : lm_St} {R : Int32 × lm_St} (hF : fX9_takenSet s0 = some R) : lm_C l G yX9_takenSet wsX9_takenSet 1 [.ref (q0 0)] (wX9 G q0 s0) (some (.int R.1)) (wX9 G q0 R.2) := by
  refine lm_C.of (cc := cX9_takenSet) (maxL := 3) (ret := (some .int)) (by decide) rfl (Nat.le_of_ble_eq_true rfl) ?_
  intro p e s m below meth c A ls B hN hl
  have hx := B.1.1
  have hb := B.1.2.1
  have hown := B.1.2.2.2.1
  have hts := B.1.2.2.2.2
  have hiX9 : ∀ w ∈ wsX90, w ∈ wsX9_takenSet := by decide +kernel
  have hl : lv_has ls 3 [(0, .ref (q0 0))] := hl
  have L4 : ∀ (n : Nat) (x1_4 : Int32) (x2_4 : Int32) (s0_4 : lm_St) (H : Heap) (locs : List Loc) (ls : Array Slot), lm_lp (fun k a => bX9_takenSet_4 k a.1 a.2.1 a.2.2) n (x1_4, x2_4, s0_4) = some R → lm_N G A s (wX9 G q0 s0_4) H locs → lv_has ls 3 [(0, .ref (q0 0)), (1, .int x1_4), (2, .int x2_4)] → W p l e (lm_rk 1) s m ([.ref (q0 0)] : List Value).toArray below meth c H locs 0 0 (MQ below (lm_post G (wX9 G q0 R.2) (some (.int R.1)) A) ([.ref (q0 0)] : List Value).toArray s 0 0 A) (F0 m 4 ls []) := by
    intro n
    induction n with
    | zero => intro x1_4 x2_4 s0_4 H locs ls hF; exact (lm_lpz hF).elim
    | succ n ih4 =>
      intro x1_4 x2_4 s0_4 H locs ls hF hN hl
      have hF : bX9_takenSet_4 (lm_lp (fun k a => bX9_takenSet_4 k a.1 a.2.1 a.2.2) n) x1_4 x2_4 s0_4 = some R := lm_lps hF
      generalize lm_lp (fun k a => bX9_takenSet_4 k a.1 a.2.1 a.2.2) n = k4 at hF ih4
      refine lv_iload_n hx hb dX9_takenSet_4 rfl (lv_at hl 2 rfl) ?_
      refine lv_aload_n hx hb dX9_takenSet_5 rfl (lv_at hl 0 rfl) ?_
      refine lm_get B hN (ci := 9) hiX9 0 rfl rfl 3 (by decide) (by decide +kernel) (v := .int (s0_4.1 2)) rfl dX9_takenSet_6 ?_
      refine lv_icmp_ge (tgt := 29) hx hb dX9_takenSet_9 (by decide) (fun c1 => ?_) (fun c1 => ?_)
      · have hF := lm_itp c1 hF
        refine lv_iload_n hx hb dX9_takenSet_29 rfl (lv_at hl 1 rfl) ?_
        cases hF
        exact lm_iret B hN dX9_takenSet_30
      · have hF := lm_itn c1 hF
        refine lv_iload_n hx hb dX9_takenSet_12 rfl (lv_at hl 1 rfl) ?_
        refine lv_aload_n hx hb dX9_takenSet_13 rfl (lv_at hl 0 rfl) ?_
        refine lm_get B hN (ci := 9) hiX9 0 rfl rfl 12 (by decide) (by decide +kernel) (v := .ref (q0 6)) rfl dX9_takenSet_14 ?_
        refine lv_iload_n hx hb dX9_takenSet_17 rfl (lv_at hl 2 rfl) ?_
        obtain ⟨z2, hF⟩ := lm_gIe hF
        refine lm_ald B hN 6 (f := (s0_4.2.1 5)) rfl z2 dX9_takenSet_18 ?_
        refine lv_iload_n hx hb dX9_takenSet_19 rfl (lv_at hl 2 rfl) ?_
        refine lv_ishl hx hb dX9_takenSet_20 ?_
        refine lv_ior hx hb dX9_takenSet_21 ?_
        refine lv_istore_n (lv' := [(1, .int (x1_4 ||| (((s0_4.2.1 5) x2_4.toNatClampNeg) <<< (x2_4 &&& 31)))), (0, .ref (q0 0)), (2, .int x2_4)]) hx hb dX9_takenSet_22 rfl hl (by decide) rfl (fun ls hl => ?_)
        refine lv_iinc (v := (x2_4 + 1)) (lv' := [(2, .int (x2_4 + 1)), (1, .int (x1_4 ||| (((s0_4.2.1 5) x2_4.toNatClampNeg) <<< (x2_4 &&& 31)))), (0, .ref (q0 0))]) hx hb dX9_takenSet_23 hl (k := 2) rfl rfl (by decide) rfl (fun ls hl => ?_)
        refine lv_goto (tgt := 4) hx hb dX9_takenSet_26 (by decide) ?_
        exact ih4 _ _ _ _ _ _ hF hN (lv_sub hl [2, 1, 0] rfl)
  refine lv_iconst (v := 0) hx hb dX9_takenSet_0 (by decide) ?_
  refine lv_istore_n (lv' := [(1, .int (0 : Int32)), (0, .ref (q0 0))]) hx hb dX9_takenSet_1 rfl hl (by decide) rfl (fun ls hl => ?_)
  refine lv_iconst (v := 0) hx hb dX9_takenSet_2 (by decide) ?_
  refine lv_istore_n (lv' := [(2, .int (0 : Int32)), (1, .int (0 : Int32)), (0, .ref (q0 0))]) hx hb dX9_takenSet_3 rfl hl (by decide) rfl (fun ls hl => ?_)
  exact L4 5000 _ _ _ _ _ _ hF hN (lv_sub hl [2, 1, 0] rfl)
def jX9_touchThen_23 (x1_23 : Int32) (y0_23 : Int32) (y1_23 : Int32) (y2_23 : Int32) (s0_23 : lm_St) : Option (lm_St) := lm_gI y2_23 7 (lm_gI x1_23 7 (some (lm_sA (lm_sA s0_23 6 (upd (s0_23.2.1 6) y2_23.toNatClampNeg (y1_23 + y0_23))) 7 (upd (s0_23.2.1 7) x1_23.toNatClampNeg (0 : Int32)))))
def fX9_touchThen (s0 : lm_St) (x1 : Int32) : Option (lm_St) := lm_gI x1 7 (lm_gI x1 7 (if (20 : Int32) ≤ ((s0.2.1 6) x1.toNatClampNeg) then (jX9_touchThen_23 x1 (0 : Int32) ((s0.2.1 6) x1.toNatClampNeg) x1 s0) else (jX9_touchThen_23 x1 (1 : Int32) ((s0.2.1 6) x1.toNatClampNeg) x1 s0)))
set_option maxHeartbeats 4000000 in
set_option maxRecDepth 100000 in
theorem hX9_touchThen (l : Launch) (G : lm_G) (q0 : Nat → Nat) {s0 : lm_St} {x1 : Int32} {R : lm_St} (hF : fX9_touchThen s0 x1 = some R) : lm_C l G yX9_touchThen wsX9_touchThen 1 [.ref (q0 0), .int x1] (wX9 G q0 s0) none (wX9 G q0 R) := by
  refine lm_C.of (cc := cX9_touchThen) (maxL := 2) (ret := none) (by decide) rfl (Nat.le_of_ble_eq_true rfl) ?_
  intro p e s m below meth c A ls B hN hl
  have hx := B.1.1
  have hb := B.1.2.1
  have hown := B.1.2.2.2.1
  have hts := B.1.2.2.2.2
  have hiX9 : ∀ w ∈ wsX90, w ∈ wsX9_touchThen := by decide +kernel
  have hl : lv_has ls 2 [(0, .ref (q0 0)), (1, .int x1)] := hl
  have J23 : ∀ (x1_23 : Int32) (y0_23 : Int32) (y1_23 : Int32) (y2_23 : Int32) (s0_23 : lm_St) (H : Heap) (locs : List Loc) (ls : Array Slot), jX9_touchThen_23 x1_23 y0_23 y1_23 y2_23 s0_23 = some R → lm_N G A s (wX9 G q0 s0_23) H locs → lv_has ls 2 [(0, .ref (q0 0)), (1, .int x1_23)] → W p l e (lm_rk 1) s m ([.ref (q0 0), .int x1] : List Value).toArray below meth c H locs 0 0 (MQ below (lm_post G (wX9 G q0 R) none A) ([.ref (q0 0), .int x1] : List Value).toArray s 0 0 A) (F0 m 23 ls [.int y0_23, .int y1_23, .int y2_23, .ref (q0 7)]) := by
    intro x1_23 y0_23 y1_23 y2_23 s0_23 H locs ls hF hN hl
    refine lv_iadd hx hb dX9_touchThen_23 ?_
    obtain ⟨z1, hF⟩ := lm_gIe hF
    refine lm_ast B hN 7 (f := (s0_23.2.1 6)) rfl z1 (wX9 G q0 (lm_sA s0_23 6 (upd (s0_23.2.1 6) y2_23.toNatClampNeg (y1_23 + y0_23)))) (wX9_r0a6 _ _ _ _) dX9_touchThen_24 (fun H locs hN => ?_)
    refine lv_aload_n hx hb dX9_touchThen_25 rfl (lv_at hl 0 rfl) ?_
    refine lm_get B hN (ci := 9) hiX9 0 rfl rfl 14 (by decide) (by decide +kernel) (v := .ref (q0 8)) rfl dX9_touchThen_26 ?_
    refine lv_iload_n hx hb dX9_touchThen_29 rfl (lv_at hl 1 rfl) ?_
    refine lv_iconst (v := 0) hx hb dX9_touchThen_30 (by decide) ?_
    obtain ⟨z2, hF⟩ := lm_gIe hF
    refine lm_ast B hN 8 (f := (s0_23.2.1 7)) rfl z2 (wX9 G q0 (lm_sA (lm_sA s0_23 6 (upd (s0_23.2.1 6) y2_23.toNatClampNeg (y1_23 + y0_23))) 7 (upd (s0_23.2.1 7) x1_23.toNatClampNeg (0 : Int32)))) (wX9_r0a7 _ _ _ _) dX9_touchThen_31 (fun H locs hN => ?_)
    cases hF
    exact lm_vret B hN dX9_touchThen_32
  refine lv_aload_n hx hb dX9_touchThen_0 rfl (lv_at hl 0 rfl) ?_
  refine lm_get B hN (ci := 9) hiX9 0 rfl rfl 13 (by decide) (by decide +kernel) (v := .ref (q0 7)) rfl dX9_touchThen_1 ?_
  refine lv_iload_n hx hb dX9_touchThen_4 rfl (lv_at hl 1 rfl) ?_
  refine lv_dup2_11 hx hb dX9_touchThen_5 rfl rfl ?_
  obtain ⟨z3, hF⟩ := lm_gIe hF
  refine lm_ald B hN 7 (f := (s0.2.1 6)) rfl z3 dX9_touchThen_6 ?_
  refine lv_aload_n hx hb dX9_touchThen_7 rfl (lv_at hl 0 rfl) ?_
  refine lm_get B hN (ci := 9) hiX9 0 rfl rfl 13 (by decide) (by decide +kernel) (v := .ref (q0 7)) rfl dX9_touchThen_8 ?_
  refine lv_iload_n hx hb dX9_touchThen_11 rfl (lv_at hl 1 rfl) ?_
  obtain ⟨z4, hF⟩ := lm_gIe hF
  refine lm_ald B hN 7 (f := (s0.2.1 6)) rfl z4 dX9_touchThen_12 ?_
  refine lv_bipush (v := 20) hx hb dX9_touchThen_13 (by decide) ?_
  refine lv_icmp_ge (tgt := 22) hx hb dX9_touchThen_15 (by decide) (fun c5 => ?_) (fun c5 => ?_)
  · have hF := lm_itp c5 hF
    refine lv_iconst (v := 0) hx hb dX9_touchThen_22 (by decide) ?_
    exact J23 _ _ _ _ _ _ _ _ hF hN (lv_sub hl [0, 1] rfl)
  · have hF := lm_itn c5 hF
    refine lv_iconst (v := 1) hx hb dX9_touchThen_18 (by decide) ?_
    refine lv_goto (tgt := 23) hx hb dX9_touchThen_19 (by decide) ?_
    exact J23 _ _ _ _ _ _ _ _ hF hN (lv_sub hl [0, 1] rfl)
def fX9_wants (s0 : lm_St) (x1 : Int32) (x2 : Int32) : Option (Int32 × lm_St) := if x1 = x2 then (lm_gI x2 7 (some (((s0.2.1 3) x2.toNatClampNeg), s0))) else (if x1 ≤ x2 then (some ((x2 - x1), s0)) else (some ((x1 - x2), s0)))
set_option maxHeartbeats 4000000 in
set_option maxRecDepth 100000 in
theorem hX9_wants (l : Launch) (G : lm_G) (q0 : Nat → Nat) {s0 : lm_St} {x1 : Int32} {x2 : Int32} {R : Int32 × lm_St} (hF : fX9_wants s0 x1 x2 = some R) : lm_C l G yX9_wants wsX9_wants 1 [.ref (q0 0), .int x1, .int x2] (wX9 G q0 s0) (some (.int R.1)) (wX9 G q0 R.2) := by
  refine lm_C.of (cc := cX9_wants) (maxL := 3) (ret := (some .int)) (by decide) rfl (Nat.le_of_ble_eq_true rfl) ?_
  intro p e s m below meth c A ls B hN hl
  have hx := B.1.1
  have hb := B.1.2.1
  have hown := B.1.2.2.2.1
  have hts := B.1.2.2.2.2
  have hiX9 : ∀ w ∈ wsX90, w ∈ wsX9_wants := by decide +kernel
  have hl : lv_has ls 3 [(0, .ref (q0 0)), (1, .int x1), (2, .int x2)] := hl
  refine lv_iload_n hx hb dX9_wants_0 rfl (lv_at hl 1 rfl) ?_
  refine lv_iload_n hx hb dX9_wants_1 rfl (lv_at hl 2 rfl) ?_
  refine lv_icmp_ne (tgt := 14) hx hb dX9_wants_2 (by decide) (fun c1 => ?_) (fun c1 => ?_)
  · have hF := lm_itn c1 hF
    refine lv_iload_n hx hb dX9_wants_14 rfl (lv_at hl 1 rfl) ?_
    refine lv_iload_n hx hb dX9_wants_15 rfl (lv_at hl 2 rfl) ?_
    refine lv_icmp_le (tgt := 25) hx hb dX9_wants_16 (by decide) (fun c2 => ?_) (fun c2 => ?_)
    · have hF := lm_itp c2 hF
      refine lv_iload_n hx hb dX9_wants_25 rfl (lv_at hl 2 rfl) ?_
      refine lv_iload_n hx hb dX9_wants_26 rfl (lv_at hl 1 rfl) ?_
      refine lv_isub hx hb dX9_wants_27 ?_
      cases hF
      exact lm_iret B hN dX9_wants_28
    · have hF := lm_itn c2 hF
      refine lv_iload_n hx hb dX9_wants_19 rfl (lv_at hl 1 rfl) ?_
      refine lv_iload_n hx hb dX9_wants_20 rfl (lv_at hl 2 rfl) ?_
      refine lv_isub hx hb dX9_wants_21 ?_
      refine lv_goto (tgt := 28) hx hb dX9_wants_22 (by decide) ?_
      cases hF
      exact lm_iret B hN dX9_wants_28
  · have hF := lm_itp c1 hF
    refine lv_aload_n hx hb dX9_wants_5 rfl (lv_at hl 0 rfl) ?_
    refine lm_get B hN (ci := 9) hiX9 0 rfl rfl 10 (by decide) (by decide +kernel) (v := .ref (q0 4)) rfl dX9_wants_6 ?_
    refine lv_iload_n hx hb dX9_wants_9 rfl (lv_at hl 2 rfl) ?_
    obtain ⟨z3, hF⟩ := lm_gIe hF
    refine lm_ald B hN 4 (f := (s0.2.1 3)) rfl z3 dX9_wants_10 ?_
    refine lv_goto (tgt := 28) hx hb dX9_wants_11 (by decide) ?_
    cases hF
    exact lm_iret B hN dX9_wants_28
def jX9_worthOf_32 (k4 : Int32 × Int32 × Int32 × lm_St → Option (Int32 × lm_St)) (x1_32 : Int32) (x3_32 : Int32) (y0_32 : Int32) (y1_32 : Int32) (s0_32 : lm_St) : Option (Int32 × lm_St) := k4 (x1_32, (y1_32 + y0_32), (x3_32 + 1), s0_32)
def bX9_worthOf_4 (k4 : Int32 × Int32 × Int32 × lm_St → Option (Int32 × lm_St)) (x1_4 : Int32) (x2_4 : Int32) (x3_4 : Int32) (s0_4 : lm_St) : Option (Int32 × lm_St) := if (s0_4.1 2) ≤ x3_4 then (some (x2_4, s0_4)) else (if ((x1_4 >>> (x3_4 &&& 31)) &&& (1 : Int32)) = (1 : Int32) then (lm_gI x3_4 7 (jX9_worthOf_32 k4 x1_4 x3_4 ((s0_4.2.1 2) x3_4.toNatClampNeg) x2_4 s0_4)) else (jX9_worthOf_32 k4 x1_4 x3_4 (0 : Int32) x2_4 s0_4))
def fX9_worthOf (s0 : lm_St) (x1 : Int32) : Option (Int32 × lm_St) := lm_lp (fun k a => bX9_worthOf_4 k a.1 a.2.1 a.2.2.1 a.2.2.2) 5000 (x1, (0 : Int32), (0 : Int32), s0)
set_option maxHeartbeats 4000000 in
set_option maxRecDepth 100000 in
theorem hX9_worthOf (l : Launch) (G : lm_G) (q0 : Nat → Nat) {s0 : lm_St} {x1 : Int32} {R : Int32 × lm_St} (hF : fX9_worthOf s0 x1 = some R) : lm_C l G yX9_worthOf wsX9_worthOf 1 [.ref (q0 0), .int x1] (wX9 G q0 s0) (some (.int R.1)) (wX9 G q0 R.2) := by
  refine lm_C.of (cc := cX9_worthOf) (maxL := 4) (ret := (some .int)) (by decide) rfl (Nat.le_of_ble_eq_true rfl) ?_
  intro p e s m below meth c A ls B hN hl
  have hx := B.1.1
  have hb := B.1.2.1
  have hown := B.1.2.2.2.1
  have hts := B.1.2.2.2.2
  have hiX9 : ∀ w ∈ wsX90, w ∈ wsX9_worthOf := by decide +kernel
  have hl : lv_has ls 4 [(0, .ref (q0 0)), (1, .int x1)] := hl
  have L4 : ∀ (n : Nat) (x1_4 : Int32) (x2_4 : Int32) (x3_4 : Int32) (s0_4 : lm_St) (H : Heap) (locs : List Loc) (ls : Array Slot), lm_lp (fun k a => bX9_worthOf_4 k a.1 a.2.1 a.2.2.1 a.2.2.2) n (x1_4, x2_4, x3_4, s0_4) = some R → lm_N G A s (wX9 G q0 s0_4) H locs → lv_has ls 4 [(0, .ref (q0 0)), (1, .int x1_4), (2, .int x2_4), (3, .int x3_4)] → W p l e (lm_rk 1) s m ([.ref (q0 0), .int x1] : List Value).toArray below meth c H locs 0 0 (MQ below (lm_post G (wX9 G q0 R.2) (some (.int R.1)) A) ([.ref (q0 0), .int x1] : List Value).toArray s 0 0 A) (F0 m 4 ls []) := by
    intro n
    induction n with
    | zero => intro x1_4 x2_4 x3_4 s0_4 H locs ls hF; exact (lm_lpz hF).elim
    | succ n ih4 =>
      intro x1_4 x2_4 x3_4 s0_4 H locs ls hF hN hl
      have hF : bX9_worthOf_4 (lm_lp (fun k a => bX9_worthOf_4 k a.1 a.2.1 a.2.2.1 a.2.2.2) n) x1_4 x2_4 x3_4 s0_4 = some R := lm_lps hF
      generalize lm_lp (fun k a => bX9_worthOf_4 k a.1 a.2.1 a.2.2.1 a.2.2.2) n = k4 at hF ih4
      have J32 : ∀ (x1_32 : Int32) (x3_32 : Int32) (y0_32 : Int32) (y1_32 : Int32) (s0_32 : lm_St) (H : Heap) (locs : List Loc) (ls : Array Slot), jX9_worthOf_32 k4 x1_32 x3_32 y0_32 y1_32 s0_32 = some R → lm_N G A s (wX9 G q0 s0_32) H locs → lv_has ls 4 [(0, .ref (q0 0)), (1, .int x1_32), (3, .int x3_32)] → W p l e (lm_rk 1) s m ([.ref (q0 0), .int x1] : List Value).toArray below meth c H locs 0 0 (MQ below (lm_post G (wX9 G q0 R.2) (some (.int R.1)) A) ([.ref (q0 0), .int x1] : List Value).toArray s 0 0 A) (F0 m 32 ls [.int y0_32, .int y1_32]) := by
        intro x1_32 x3_32 y0_32 y1_32 s0_32 H locs ls hF hN hl
        refine lv_iadd hx hb dX9_worthOf_32 ?_
        refine lv_istore_n (lv' := [(2, .int (y1_32 + y0_32)), (0, .ref (q0 0)), (1, .int x1_32), (3, .int x3_32)]) hx hb dX9_worthOf_33 rfl hl (by decide) rfl (fun ls hl => ?_)
        refine lv_iinc (v := (x3_32 + 1)) (lv' := [(3, .int (x3_32 + 1)), (2, .int (y1_32 + y0_32)), (0, .ref (q0 0)), (1, .int x1_32)]) hx hb dX9_worthOf_34 hl (k := 3) rfl rfl (by decide) rfl (fun ls hl => ?_)
        refine lv_goto (tgt := 4) hx hb dX9_worthOf_37 (by decide) ?_
        exact ih4 _ _ _ _ _ _ _ hF hN (lv_sub hl [2, 3, 1, 0] rfl)
      refine lv_iload_n hx hb dX9_worthOf_4 rfl (lv_at hl 3 rfl) ?_
      refine lv_aload_n hx hb dX9_worthOf_5 rfl (lv_at hl 0 rfl) ?_
      refine lm_get B hN (ci := 9) hiX9 0 rfl rfl 3 (by decide) (by decide +kernel) (v := .int (s0_4.1 2)) rfl dX9_worthOf_6 ?_
      refine lv_icmp_ge (tgt := 40) hx hb dX9_worthOf_9 (by decide) (fun c1 => ?_) (fun c1 => ?_)
      · have hF := lm_itp c1 hF
        refine lv_iload_n hx hb dX9_worthOf_40 rfl (lv_at hl 2 rfl) ?_
        cases hF
        exact lm_iret B hN dX9_worthOf_41
      · have hF := lm_itn c1 hF
        refine lv_iload_n hx hb dX9_worthOf_12 rfl (lv_at hl 2 rfl) ?_
        refine lv_iload_n hx hb dX9_worthOf_13 rfl (lv_at hl 1 rfl) ?_
        refine lv_iload_n hx hb dX9_worthOf_14 rfl (lv_at hl 3 rfl) ?_
        refine lv_ishr hx hb dX9_worthOf_15 ?_
        refine lv_iconst (v := 1) hx hb dX9_worthOf_16 (by decide) ?_
        refine lv_iand hx hb dX9_worthOf_17 ?_
        refine lv_iconst (v := 1) hx hb dX9_worthOf_18 (by decide) ?_
        refine lv_icmp_ne (tgt := 31) hx hb dX9_worthOf_19 (by decide) (fun c2 => ?_) (fun c2 => ?_)
        · have hF := lm_itn c2 hF
          refine lv_iconst (v := 0) hx hb dX9_worthOf_31 (by decide) ?_
          exact J32 _ _ _ _ _ _ _ _ hF hN (lv_sub hl [0, 1, 3] rfl)
        · have hF := lm_itp c2 hF
          refine lv_aload_n hx hb dX9_worthOf_22 rfl (lv_at hl 0 rfl) ?_
          refine lm_get B hN (ci := 9) hiX9 0 rfl rfl 9 (by decide) (by decide +kernel) (v := .ref (q0 3)) rfl dX9_worthOf_23 ?_
          refine lv_iload_n hx hb dX9_worthOf_26 rfl (lv_at hl 3 rfl) ?_
          obtain ⟨z3, hF⟩ := lm_gIe hF
          refine lm_ald B hN 3 (f := (s0_4.2.1 2)) rfl z3 dX9_worthOf_27 ?_
          refine lv_goto (tgt := 32) hx hb dX9_worthOf_28 (by decide) ?_
          exact J32 _ _ _ _ _ _ _ _ hF hN (lv_sub hl [0, 1, 3] rfl)
  refine lv_iconst (v := 0) hx hb dX9_worthOf_0 (by decide) ?_
  refine lv_istore_n (lv' := [(2, .int (0 : Int32)), (0, .ref (q0 0)), (1, .int x1)]) hx hb dX9_worthOf_1 rfl hl (by decide) rfl (fun ls hl => ?_)
  refine lv_iconst (v := 0) hx hb dX9_worthOf_2 (by decide) ?_
  refine lv_istore_n (lv' := [(3, .int (0 : Int32)), (2, .int (0 : Int32)), (0, .ref (q0 0)), (1, .int x1)]) hx hb dX9_worthOf_3 rfl hl (by decide) rfl (fun ls hl => ?_)
  exact L4 5000 _ _ _ _ _ _ _ hF hN (lv_sub hl [2, 3, 1, 0] rfl)
def fX9_begin (s0 : lm_St) : Option (lm_St) := (fX9_copy 7 (s0.2.1 3) (s0.2.1 6)).bind (fun w1 => (fX9_copy 7 (s0.2.1 4) (s0.2.1 7)).bind (fun w2 => (fX9_copy 7 (s0.2.1 5) (s0.2.1 8)).bind (fun w3 => some (lm_sF (lm_sA (lm_sA (lm_sA s0 6 w1) 7 w2) 8 w3) 7 (s0.1 3)))))
set_option maxHeartbeats 4000000 in
set_option maxRecDepth 100000 in
theorem hX9_begin (l : Launch) (G : lm_G) (q0 : Nat → Nat) {s0 : lm_St} {R : lm_St} (hF : fX9_begin s0 = some R) : lm_C l G yX9_begin wsX9_begin 2 [.ref (q0 0)] (wX9 G q0 s0) none (wX9 G q0 R) := by
  refine lm_C.of (cc := cX9_begin) (maxL := 1) (ret := none) (by decide) rfl (Nat.le_of_ble_eq_true rfl) ?_
  intro p e s m below meth c A ls B hN hl
  have hx := B.1.1
  have hb := B.1.2.1
  have hown := B.1.2.2.2.1
  have hts := B.1.2.2.2.2
  have hiX9 : ∀ w ∈ wsX90, w ∈ wsX9_begin := by decide +kernel
  have hl : lv_has ls 1 [(0, .ref (q0 0))] := hl
  refine lv_aload_n hx hb dX9_begin_0 rfl (lv_at hl 0 rfl) ?_
  refine lm_get B hN (ci := 9) hiX9 0 rfl rfl 10 (by decide) (by decide +kernel) (v := .ref (q0 4)) rfl dX9_begin_1 ?_
  refine lv_aload_n hx hb dX9_begin_4 rfl (lv_at hl 0 rfl) ?_
  refine lm_get B hN (ci := 9) hiX9 0 rfl rfl 13 (by decide) (by decide +kernel) (v := .ref (q0 7)) rfl dX9_begin_5 ?_
  obtain ⟨w1, hc1, hF⟩ := lm_bd hF
  refine lm_runX B hN (lm_hrT B hN hl.1 (lm_cut B hN [4, 7] rfl (kc_wX9_c4_7 _ _ _)) (n := 2) (As := [.ref (q0 4), .ref (q0 7)]) (rest := []) (hX9_copy l G (q0 4) (q0 7) 7 (f := (s0.2.1 3)) (g := (s0.2.1 6)) hc1) gX9_begin_X9_copy rfl (by decide +kernel) rfl (by decide) (by decide) rfl (Nat.le_of_ble_eq_true rfl) dX9_begin_8) [4, 7] [0, 1, 2, 3, 5, 6, 8, 9, 10, 11, 12, 13, 14, 15, 16, 17] (kc_wX9_c4_7 _ _ _) (kr_wX9_c4_7 _ _ _) rfl (by decide) [0, 1, 2, 3, 16, 4, 5, 17, 6, 7, 8, 9, 10, 11, 12, 13, 14, 15] rfl (wX9 G q0 (lm_sA s0 6 w1)) (kj_wX9_c4_7 _ _ _ _) (fun H locs hN => ?_)
  refine lv_aload_n hx hb dX9_begin_11 rfl (lv_at hl 0 rfl) ?_
  refine lm_get B hN (ci := 9) hiX9 0 rfl rfl 11 (by decide) (by decide +kernel) (v := .ref (q0 5)) rfl dX9_begin_12 ?_
  refine lv_aload_n hx hb dX9_begin_15 rfl (lv_at hl 0 rfl) ?_
  refine lm_get B hN (ci := 9) hiX9 0 rfl rfl 14 (by decide) (by decide +kernel) (v := .ref (q0 8)) rfl dX9_begin_16 ?_
  obtain ⟨w2, hc2, hF⟩ := lm_bd hF
  refine lm_runX B hN (lm_hrT B hN hl.1 (lm_cut B hN [5, 8] rfl (kc_wX9_c5_8 _ _ _)) (n := 2) (As := [.ref (q0 5), .ref (q0 8)]) (rest := []) (hX9_copy l G (q0 5) (q0 8) 7 (f := (s0.2.1 4)) (g := (s0.2.1 7)) hc2) gX9_begin_X9_copy rfl (by decide +kernel) rfl (by decide) (by decide) rfl (Nat.le_of_ble_eq_true rfl) dX9_begin_19) [5, 8] [0, 1, 2, 3, 4, 6, 7, 9, 10, 11, 12, 13, 14, 15, 16, 17] (kc_wX9_c5_8 _ _ _) (kr_wX9_c5_8 _ _ _) rfl (by decide) [0, 1, 2, 3, 4, 16, 5, 6, 17, 7, 8, 9, 10, 11, 12, 13, 14, 15] rfl (wX9 G q0 (lm_sA (lm_sA s0 6 w1) 7 w2)) (kj_wX9_c5_8 _ _ _ _) (fun H locs hN => ?_)
  refine lv_aload_n hx hb dX9_begin_22 rfl (lv_at hl 0 rfl) ?_
  refine lm_get B hN (ci := 9) hiX9 0 rfl rfl 12 (by decide) (by decide +kernel) (v := .ref (q0 6)) rfl dX9_begin_23 ?_
  refine lv_aload_n hx hb dX9_begin_26 rfl (lv_at hl 0 rfl) ?_
  refine lm_get B hN (ci := 9) hiX9 0 rfl rfl 15 (by decide) (by decide +kernel) (v := .ref (q0 9)) rfl dX9_begin_27 ?_
  obtain ⟨w3, hc3, hF⟩ := lm_bd hF
  refine lm_runX B hN (lm_hrT B hN hl.1 (lm_cut B hN [6, 9] rfl (kc_wX9_c6_9 _ _ _)) (n := 2) (As := [.ref (q0 6), .ref (q0 9)]) (rest := []) (hX9_copy l G (q0 6) (q0 9) 7 (f := (s0.2.1 5)) (g := (s0.2.1 8)) hc3) gX9_begin_X9_copy rfl (by decide +kernel) rfl (by decide) (by decide) rfl (Nat.le_of_ble_eq_true rfl) dX9_begin_30) [6, 9] [0, 1, 2, 3, 4, 5, 7, 8, 10, 11, 12, 13, 14, 15, 16, 17] (kc_wX9_c6_9 _ _ _) (kr_wX9_c6_9 _ _ _) rfl (by decide) [0, 1, 2, 3, 4, 5, 16, 6, 7, 17, 8, 9, 10, 11, 12, 13, 14, 15] rfl (wX9 G q0 (lm_sA (lm_sA (lm_sA s0 6 w1) 7 w2) 8 w3)) (kj_wX9_c6_9 _ _ _ _) (fun H locs hN => ?_)
  refine lv_aload_n hx hb dX9_begin_33 rfl (lv_at hl 0 rfl) ?_
  refine lv_aload_n hx hb dX9_begin_34 rfl (lv_at hl 0 rfl) ?_
  refine lm_get B hN (ci := 9) hiX9 0 rfl rfl 4 (by decide) (by decide +kernel) (v := .int (s0.1 3)) rfl dX9_begin_35 ?_
  refine lm_put B hN (ci := 9) hiX9 tyX9 tyX9_ok nmX9 0 rfl rfl 16 (by decide) (by decide +kernel) (by decide) (v := .int (s0.1 3)) rfl rfl (Nat.le_of_ble_eq_true rfl) (wX9 G q0 (lm_sF (lm_sA (lm_sA (lm_sA s0 6 w1) 7 w2) 8 w3) 7 (s0.1 3))) (wX9_r0f7 _ _ _ _) dX9_begin_38 (fun H locs hN => ?_)
  cases hF
  exact lm_vret B hN dX9_begin_41
def fX9_borrow (s0 : lm_St) (x1 : Int32) : Option (Int32 × lm_St) := (fX9_in x1.toInt64 (1 : Int64) (50 : Int64)).bind (fun r1 => if r1 = 0 then (some ((-102 : Int32), s0)) else ((fX9_lacks s0).bind (fun v3 => lm_un2 v3 (fun r3 t3_0 => if r3 = 0 then (if ((t3_0.1 3) + x1) ≤ (99 : Int32) then (some (((t3_0.1 3) + x1), (lm_sF t3_0 3 ((t3_0.1 3) + x1)))) else (some ((-104 : Int32), t3_0))) else (some ((-103 : Int32), t3_0))))))
set_option maxHeartbeats 4000000 in
set_option maxRecDepth 100000 in
theorem hX9_borrow (l : Launch) (G : lm_G) (q0 : Nat → Nat) {s0 : lm_St} {x1 : Int32} {R : Int32 × lm_St} (hF : fX9_borrow s0 x1 = some R) : lm_C l G yX9_borrow wsX9_borrow 2 [.ref (q0 0), .int x1] (wX9 G q0 s0) (some (.int R.1)) (wX9 G q0 R.2) := by
  refine lm_C.of (cc := cX9_borrow) (maxL := 2) (ret := (some .int)) (by decide) rfl (Nat.le_of_ble_eq_true rfl) ?_
  intro p e s m below meth c A ls B hN hl
  have hx := B.1.1
  have hb := B.1.2.1
  have hown := B.1.2.2.2.1
  have hts := B.1.2.2.2.2
  have hiX9 : ∀ w ∈ wsX90, w ∈ wsX9_borrow := by decide +kernel
  have hl : lv_has ls 2 [(0, .ref (q0 0)), (1, .int x1)] := hl
  refine lv_iload_n hx hb dX9_borrow_0 rfl (lv_at hl 1 rfl) ?_
  refine lv_i2l hx hb dX9_borrow_1 rfl ?_
  refine lv_lconst (v := 1) hx hb dX9_borrow_2 (by decide) ?_
  refine lv_ldc2 (v := 50) hx hb hown (hts (.constantLong RX9 168 (50)) (by decide +kernel)) dX9_borrow_3 ?_
  obtain ⟨r1, hc1, hF⟩ := lm_bd hF
  refine lm_run0 B hN (lm_hrT B hN hl.1 (lm_cut0 B hN) (n := 3) (As := [.long x1.toInt64, .long (1 : Int64), .long (50 : Int64)]) (rest := []) (hX9_in l G hc1) gX9_borrow_X9_in rfl (by decide +kernel) rfl (by decide) (by decide) rfl (Nat.le_of_ble_eq_true rfl) dX9_borrow_6) (fun H locs hN => ?_)
  refine lv_if_ne (tgt := 15) hx hb dX9_borrow_9 (by decide) (fun c2 => ?_) (fun c2 => ?_)
  · have hF := lm_itn c2 hF
    refine lv_aload_n hx hb dX9_borrow_15 rfl (lv_at hl 0 rfl) ?_
    obtain ⟨⟨r3, t3_0⟩, hc3, hF⟩ := lm_bd hF
    have hF := lm_un2E hF
    refine lm_runA B hN (lm_hrV B hN hl.1 (lm_cutA B hN) (n := 0) (As := []) (rest := []) (hX9_lacks l G q0 hc3) gX9_borrow_X9_lacks rfl (by decide +kernel) rfl (by decide) (by decide) (ci := 9) (q0 := 0) rfl rfl rfl (Nat.le_of_ble_eq_true rfl) dX9_borrow_16) (fun H locs hN => ?_)
    refine lv_if_eq (tgt := 25) hx hb dX9_borrow_19 (by decide) (fun c4 => ?_) (fun c4 => ?_)
    · have hF := lm_itp c4 hF
      refine lv_aload_n hx hb dX9_borrow_25 rfl (lv_at hl 0 rfl) ?_
      refine lm_get B hN (ci := 9) hiX9 0 rfl rfl 4 (by decide) (by decide +kernel) (v := .int (t3_0.1 3)) rfl dX9_borrow_26 ?_
      refine lv_iload_n hx hb dX9_borrow_29 rfl (lv_at hl 1 rfl) ?_
      refine lv_iadd hx hb dX9_borrow_30 ?_
      refine lv_bipush (v := 99) hx hb dX9_borrow_31 (by decide) ?_
      refine lv_icmp_le (tgt := 39) hx hb dX9_borrow_33 (by decide) (fun c5 => ?_) (fun c5 => ?_)
      · have hF := lm_itp c5 hF
        refine lv_aload_n hx hb dX9_borrow_39 rfl (lv_at hl 0 rfl) ?_
        refine lv_dup hx hb dX9_borrow_40 rfl ?_
        refine lm_get B hN (ci := 9) hiX9 0 rfl rfl 4 (by decide) (by decide +kernel) (v := .int (t3_0.1 3)) rfl dX9_borrow_41 ?_
        refine lv_iload_n hx hb dX9_borrow_44 rfl (lv_at hl 1 rfl) ?_
        refine lv_iadd hx hb dX9_borrow_45 ?_
        refine lm_put B hN (ci := 9) hiX9 tyX9 tyX9_ok nmX9 0 rfl rfl 4 (by decide) (by decide +kernel) (by decide) (v := .int ((t3_0.1 3) + x1)) rfl rfl (Nat.le_of_ble_eq_true rfl) (wX9 G q0 (lm_sF t3_0 3 ((t3_0.1 3) + x1))) (wX9_r0f3 _ _ _ _) dX9_borrow_46 (fun H locs hN => ?_)
        refine lv_aload_n hx hb dX9_borrow_49 rfl (lv_at hl 0 rfl) ?_
        refine lm_get B hN (ci := 9) hiX9 0 rfl rfl 4 (by decide) (by decide +kernel) (v := .int ((t3_0.1 3) + x1)) rfl dX9_borrow_50 ?_
        cases hF
        exact lm_iret B hN dX9_borrow_53
      · have hF := lm_itn c5 hF
        refine lv_bipush (v := -104) hx hb dX9_borrow_36 (by decide) ?_
        cases hF
        exact lm_iret B hN dX9_borrow_38
    · have hF := lm_itn c4 hF
      refine lv_bipush (v := -103) hx hb dX9_borrow_22 (by decide) ?_
      cases hF
      exact lm_iret B hN dX9_borrow_24
  · have hF := lm_itp c2 hF
    refine lv_bipush (v := -102) hx hb dX9_borrow_12 (by decide) ?_
    cases hF
    exact lm_iret B hN dX9_borrow_14
def fX9_image (s0 : lm_St) : Option (Int32 × lm_St) := (fX9_lacks s0).bind (fun v1 => lm_un2 v1 (fun r1 t1_0 => if r1 = 0 then ((fX9_copy 7 (t1_0.2.1 1) (t1_0.2.1 11)).bind (fun w3 => (fX9_copy 7 (t1_0.2.1 2) (t1_0.2.1 12)).bind (fun w4 => (fX9_copy 7 (t1_0.2.1 3) (t1_0.2.1 13)).bind (fun w5 => (fX9_copy 7 (t1_0.2.1 4) (t1_0.2.1 14)).bind (fun w6 => (fX9_copy 7 (t1_0.2.1 5) (t1_0.2.1 15)).bind (fun w7 => (fX9_copy 18 (t1_0.2.1 10) (t1_0.2.1 16)).bind (fun w8 => some ((t1_0.1 4), (lm_sF (lm_sF (lm_sF (lm_sF (lm_sF (lm_sA (lm_sA (lm_sA (lm_sA (lm_sA (lm_sA t1_0 11 w3) 12 w4) 13 w5) 14 w6) 15 w7) 16 w8) 12 (t1_0.1 3)) 13 (t1_0.1 4)) 14 (t1_0.1 5)) 15 (t1_0.1 9)) 11 (t1_0.1 6)))))))))) else (some ((-103 : Int32), t1_0))))
set_option maxHeartbeats 4000000 in
set_option maxRecDepth 100000 in
theorem hX9_image (l : Launch) (G : lm_G) (q0 : Nat → Nat) {s0 : lm_St} {R : Int32 × lm_St} (hF : fX9_image s0 = some R) : lm_C l G yX9_image wsX9_image 2 [.ref (q0 0)] (wX9 G q0 s0) (some (.int R.1)) (wX9 G q0 R.2) := by
  refine lm_C.of (cc := cX9_image) (maxL := 1) (ret := (some .int)) (by decide) rfl (Nat.le_of_ble_eq_true rfl) ?_
  intro p e s m below meth c A ls B hN hl
  have hx := B.1.1
  have hb := B.1.2.1
  have hown := B.1.2.2.2.1
  have hts := B.1.2.2.2.2
  have hiX9 : ∀ w ∈ wsX90, w ∈ wsX9_image := by decide +kernel
  have hl : lv_has ls 1 [(0, .ref (q0 0))] := hl
  refine lv_aload_n hx hb dX9_image_0 rfl (lv_at hl 0 rfl) ?_
  obtain ⟨⟨r1, t1_0⟩, hc1, hF⟩ := lm_bd hF
  have hF := lm_un2E hF
  refine lm_runA B hN (lm_hrV B hN hl.1 (lm_cutA B hN) (n := 0) (As := []) (rest := []) (hX9_lacks l G q0 hc1) gX9_image_X9_lacks rfl (by decide +kernel) rfl (by decide) (by decide) (ci := 9) (q0 := 0) rfl rfl rfl (Nat.le_of_ble_eq_true rfl) dX9_image_1) (fun H locs hN => ?_)
  refine lv_if_eq (tgt := 10) hx hb dX9_image_4 (by decide) (fun c2 => ?_) (fun c2 => ?_)
  · have hF := lm_itp c2 hF
    refine lv_aload_n hx hb dX9_image_10 rfl (lv_at hl 0 rfl) ?_
    refine lm_get B hN (ci := 9) hiX9 0 rfl rfl 8 (by decide) (by decide +kernel) (v := .ref (q0 2)) rfl dX9_image_11 ?_
    refine lv_aload_n hx hb dX9_image_14 rfl (lv_at hl 0 rfl) ?_
    refine lm_get B hN (ci := 9) hiX9 0 rfl rfl 27 (by decide) (by decide +kernel) (v := .ref (q0 12)) rfl dX9_image_15 ?_
    obtain ⟨w3, hc3, hF⟩ := lm_bd hF
    refine lm_runX B hN (lm_hrT B hN hl.1 (lm_cut B hN [2, 12] rfl (kc_wX9_c2_12 _ _ _)) (n := 2) (As := [.ref (q0 2), .ref (q0 12)]) (rest := []) (hX9_copy l G (q0 2) (q0 12) 7 (f := (t1_0.2.1 1)) (g := (t1_0.2.1 11)) hc3) gX9_image_X9_copy rfl (by decide +kernel) rfl (by decide) (by decide) rfl (Nat.le_of_ble_eq_true rfl) dX9_image_18) [2, 12] [0, 1, 3, 4, 5, 6, 7, 8, 9, 10, 11, 13, 14, 15, 16, 17] (kc_wX9_c2_12 _ _ _) (kr_wX9_c2_12 _ _ _) rfl (by decide) [0, 1, 16, 2, 3, 4, 5, 6, 7, 8, 9, 10, 17, 11, 12, 13, 14, 15] rfl (wX9 G q0 (lm_sA t1_0 11 w3)) (kj_wX9_c2_12 _ _ _ _) (fun H locs hN => ?_)
    refine lv_aload_n hx hb dX9_image_21 rfl (lv_at hl 0 rfl) ?_
    refine lm_get B hN (ci := 9) hiX9 0 rfl rfl 9 (by decide) (by decide +kernel) (v := .ref (q0 3)) rfl dX9_image_22 ?_
    refine lv_aload_n hx hb dX9_image_25 rfl (lv_at hl 0 rfl) ?_
    refine lm_get B hN (ci := 9) hiX9 0 rfl rfl 28 (by decide) (by decide +kernel) (v := .ref (q0 13)) rfl dX9_image_26 ?_
    obtain ⟨w4, hc4, hF⟩ := lm_bd hF
    refine lm_runX B hN (lm_hrT B hN hl.1 (lm_cut B hN [3, 13] rfl (kc_wX9_c3_13 _ _ _)) (n := 2) (As := [.ref (q0 3), .ref (q0 13)]) (rest := []) (hX9_copy l G (q0 3) (q0 13) 7 (f := (t1_0.2.1 2)) (g := (t1_0.2.1 12)) hc4) gX9_image_X9_copy rfl (by decide +kernel) rfl (by decide) (by decide) rfl (Nat.le_of_ble_eq_true rfl) dX9_image_29) [3, 13] [0, 1, 2, 4, 5, 6, 7, 8, 9, 10, 11, 12, 14, 15, 16, 17] (kc_wX9_c3_13 _ _ _) (kr_wX9_c3_13 _ _ _) rfl (by decide) [0, 1, 2, 16, 3, 4, 5, 6, 7, 8, 9, 10, 11, 17, 12, 13, 14, 15] rfl (wX9 G q0 (lm_sA (lm_sA t1_0 11 w3) 12 w4)) (kj_wX9_c3_13 _ _ _ _) (fun H locs hN => ?_)
    refine lv_aload_n hx hb dX9_image_32 rfl (lv_at hl 0 rfl) ?_
    refine lm_get B hN (ci := 9) hiX9 0 rfl rfl 10 (by decide) (by decide +kernel) (v := .ref (q0 4)) rfl dX9_image_33 ?_
    refine lv_aload_n hx hb dX9_image_36 rfl (lv_at hl 0 rfl) ?_
    refine lm_get B hN (ci := 9) hiX9 0 rfl rfl 29 (by decide) (by decide +kernel) (v := .ref (q0 14)) rfl dX9_image_37 ?_
    obtain ⟨w5, hc5, hF⟩ := lm_bd hF
    refine lm_runX B hN (lm_hrT B hN hl.1 (lm_cut B hN [4, 14] rfl (kc_wX9_c4_14 _ _ _)) (n := 2) (As := [.ref (q0 4), .ref (q0 14)]) (rest := []) (hX9_copy l G (q0 4) (q0 14) 7 (f := (t1_0.2.1 3)) (g := (t1_0.2.1 13)) hc5) gX9_image_X9_copy rfl (by decide +kernel) rfl (by decide) (by decide) rfl (Nat.le_of_ble_eq_true rfl) dX9_image_40) [4, 14] [0, 1, 2, 3, 5, 6, 7, 8, 9, 10, 11, 12, 13, 15, 16, 17] (kc_wX9_c4_14 _ _ _) (kr_wX9_c4_14 _ _ _) rfl (by decide) [0, 1, 2, 3, 16, 4, 5, 6, 7, 8, 9, 10, 11, 12, 17, 13, 14, 15] rfl (wX9 G q0 (lm_sA (lm_sA (lm_sA t1_0 11 w3) 12 w4) 13 w5)) (kj_wX9_c4_14 _ _ _ _) (fun H locs hN => ?_)
    refine lv_aload_n hx hb dX9_image_43 rfl (lv_at hl 0 rfl) ?_
    refine lm_get B hN (ci := 9) hiX9 0 rfl rfl 11 (by decide) (by decide +kernel) (v := .ref (q0 5)) rfl dX9_image_44 ?_
    refine lv_aload_n hx hb dX9_image_47 rfl (lv_at hl 0 rfl) ?_
    refine lm_get B hN (ci := 9) hiX9 0 rfl rfl 30 (by decide) (by decide +kernel) (v := .ref (q0 15)) rfl dX9_image_48 ?_
    obtain ⟨w6, hc6, hF⟩ := lm_bd hF
    refine lm_runX B hN (lm_hrT B hN hl.1 (lm_cut B hN [5, 15] rfl (kc_wX9_c5_15 _ _ _)) (n := 2) (As := [.ref (q0 5), .ref (q0 15)]) (rest := []) (hX9_copy l G (q0 5) (q0 15) 7 (f := (t1_0.2.1 4)) (g := (t1_0.2.1 14)) hc6) gX9_image_X9_copy rfl (by decide +kernel) rfl (by decide) (by decide) rfl (Nat.le_of_ble_eq_true rfl) dX9_image_51) [5, 15] [0, 1, 2, 3, 4, 6, 7, 8, 9, 10, 11, 12, 13, 14, 16, 17] (kc_wX9_c5_15 _ _ _) (kr_wX9_c5_15 _ _ _) rfl (by decide) [0, 1, 2, 3, 4, 16, 5, 6, 7, 8, 9, 10, 11, 12, 13, 17, 14, 15] rfl (wX9 G q0 (lm_sA (lm_sA (lm_sA (lm_sA t1_0 11 w3) 12 w4) 13 w5) 14 w6)) (kj_wX9_c5_15 _ _ _ _) (fun H locs hN => ?_)
    refine lv_aload_n hx hb dX9_image_54 rfl (lv_at hl 0 rfl) ?_
    refine lm_get B hN (ci := 9) hiX9 0 rfl rfl 12 (by decide) (by decide +kernel) (v := .ref (q0 6)) rfl dX9_image_55 ?_
    refine lv_aload_n hx hb dX9_image_58 rfl (lv_at hl 0 rfl) ?_
    refine lm_get B hN (ci := 9) hiX9 0 rfl rfl 31 (by decide) (by decide +kernel) (v := .ref (q0 16)) rfl dX9_image_59 ?_
    obtain ⟨w7, hc7, hF⟩ := lm_bd hF
    refine lm_runX B hN (lm_hrT B hN hl.1 (lm_cut B hN [6, 16] rfl (kc_wX9_c6_16 _ _ _)) (n := 2) (As := [.ref (q0 6), .ref (q0 16)]) (rest := []) (hX9_copy l G (q0 6) (q0 16) 7 (f := (t1_0.2.1 5)) (g := (t1_0.2.1 15)) hc7) gX9_image_X9_copy rfl (by decide +kernel) rfl (by decide) (by decide) rfl (Nat.le_of_ble_eq_true rfl) dX9_image_62) [6, 16] [0, 1, 2, 3, 4, 5, 7, 8, 9, 10, 11, 12, 13, 14, 15, 17] (kc_wX9_c6_16 _ _ _) (kr_wX9_c6_16 _ _ _) rfl (by decide) [0, 1, 2, 3, 4, 5, 16, 6, 7, 8, 9, 10, 11, 12, 13, 14, 17, 15] rfl (wX9 G q0 (lm_sA (lm_sA (lm_sA (lm_sA (lm_sA t1_0 11 w3) 12 w4) 13 w5) 14 w6) 15 w7)) (kj_wX9_c6_16 _ _ _ _) (fun H locs hN => ?_)
    refine lv_aload_n hx hb dX9_image_65 rfl (lv_at hl 0 rfl) ?_
    refine lm_get B hN (ci := 9) hiX9 0 rfl rfl 20 (by decide) (by decide +kernel) (v := .ref (q0 11)) rfl dX9_image_66 ?_
    refine lv_aload_n hx hb dX9_image_69 rfl (lv_at hl 0 rfl) ?_
    refine lm_get B hN (ci := 9) hiX9 0 rfl rfl 32 (by decide) (by decide +kernel) (v := .ref (q0 17)) rfl dX9_image_70 ?_
    obtain ⟨w8, hc8, hF⟩ := lm_bd hF
    refine lm_runX B hN (lm_hrT B hN hl.1 (lm_cut B hN [11, 17] rfl (kc_wX9_c11_17 _ _ _)) (n := 2) (As := [.ref (q0 11), .ref (q0 17)]) (rest := []) (hX9_copy l G (q0 11) (q0 17) 18 (f := (t1_0.2.1 10)) (g := (t1_0.2.1 16)) hc8) gX9_image_X9_copy rfl (by decide +kernel) rfl (by decide) (by decide) rfl (Nat.le_of_ble_eq_true rfl) dX9_image_73) [11, 17] [0, 1, 2, 3, 4, 5, 6, 7, 8, 9, 10, 12, 13, 14, 15, 16] (kc_wX9_c11_17 _ _ _) (kr_wX9_c11_17 _ _ _) rfl (by decide) [0, 1, 2, 3, 4, 5, 6, 7, 8, 9, 10, 16, 11, 12, 13, 14, 15, 17] rfl (wX9 G q0 (lm_sA (lm_sA (lm_sA (lm_sA (lm_sA (lm_sA t1_0 11 w3) 12 w4) 13 w5) 14 w6) 15 w7) 16 w8)) (kj_wX9_c11_17 _ _ _ _) (fun H locs hN => ?_)
    refine lv_aload_n hx hb dX9_image_76 rfl (lv_at hl 0 rfl) ?_
    refine lv_aload_n hx hb dX9_image_77 rfl (lv_at hl 0 rfl) ?_
    refine lm_get B hN (ci := 9) hiX9 0 rfl rfl 4 (by decide) (by decide +kernel) (v := .int (t1_0.1 3)) rfl dX9_image_78 ?_
    refine lm_put B hN (ci := 9) hiX9 tyX9 tyX9_ok nmX9 0 rfl rfl 23 (by decide) (by decide +kernel) (by decide) (v := .int (t1_0.1 3)) rfl rfl (Nat.le_of_ble_eq_true rfl) (wX9 G q0 (lm_sF (lm_sA (lm_sA (lm_sA (lm_sA (lm_sA (lm_sA t1_0 11 w3) 12 w4) 13 w5) 14 w6) 15 w7) 16 w8) 12 (t1_0.1 3))) (wX9_r0f12 _ _ _ _) dX9_image_81 (fun H locs hN => ?_)
    refine lv_aload_n hx hb dX9_image_84 rfl (lv_at hl 0 rfl) ?_
    refine lv_aload_n hx hb dX9_image_85 rfl (lv_at hl 0 rfl) ?_
    refine lm_get B hN (ci := 9) hiX9 0 rfl rfl 5 (by decide) (by decide +kernel) (v := .int (t1_0.1 4)) rfl dX9_image_86 ?_
    refine lm_put B hN (ci := 9) hiX9 tyX9 tyX9_ok nmX9 0 rfl rfl 24 (by decide) (by decide +kernel) (by decide) (v := .int (t1_0.1 4)) rfl rfl (Nat.le_of_ble_eq_true rfl) (wX9 G q0 (lm_sF (lm_sF (lm_sA (lm_sA (lm_sA (lm_sA (lm_sA (lm_sA t1_0 11 w3) 12 w4) 13 w5) 14 w6) 15 w7) 16 w8) 12 (t1_0.1 3)) 13 (t1_0.1 4))) (wX9_r0f13 _ _ _ _) dX9_image_89 (fun H locs hN => ?_)
    refine lv_aload_n hx hb dX9_image_92 rfl (lv_at hl 0 rfl) ?_
    refine lv_aload_n hx hb dX9_image_93 rfl (lv_at hl 0 rfl) ?_
    refine lm_get B hN (ci := 9) hiX9 0 rfl rfl 6 (by decide) (by decide +kernel) (v := .int (t1_0.1 5)) rfl dX9_image_94 ?_
    refine lm_put B hN (ci := 9) hiX9 tyX9 tyX9_ok nmX9 0 rfl rfl 25 (by decide) (by decide +kernel) (by decide) (v := .int (t1_0.1 5)) rfl rfl (Nat.le_of_ble_eq_true rfl) (wX9 G q0 (lm_sF (lm_sF (lm_sF (lm_sA (lm_sA (lm_sA (lm_sA (lm_sA (lm_sA t1_0 11 w3) 12 w4) 13 w5) 14 w6) 15 w7) 16 w8) 12 (t1_0.1 3)) 13 (t1_0.1 4)) 14 (t1_0.1 5))) (wX9_r0f14 _ _ _ _) dX9_image_97 (fun H locs hN => ?_)
    refine lv_aload_n hx hb dX9_image_100 rfl (lv_at hl 0 rfl) ?_
    refine lv_aload_n hx hb dX9_image_101 rfl (lv_at hl 0 rfl) ?_
    refine lm_get B hN (ci := 9) hiX9 0 rfl rfl 19 (by decide) (by decide +kernel) (v := .int (t1_0.1 9)) rfl dX9_image_102 ?_
    refine lm_put B hN (ci := 9) hiX9 tyX9 tyX9_ok nmX9 0 rfl rfl 26 (by decide) (by decide +kernel) (by decide) (v := .int (t1_0.1 9)) rfl rfl (Nat.le_of_ble_eq_true rfl) (wX9 G q0 (lm_sF (lm_sF (lm_sF (lm_sF (lm_sA (lm_sA (lm_sA (lm_sA (lm_sA (lm_sA t1_0 11 w3) 12 w4) 13 w5) 14 w6) 15 w7) 16 w8) 12 (t1_0.1 3)) 13 (t1_0.1 4)) 14 (t1_0.1 5)) 15 (t1_0.1 9))) (wX9_r0f15 _ _ _ _) dX9_image_105 (fun H locs hN => ?_)
    refine lv_aload_n hx hb dX9_image_108 rfl (lv_at hl 0 rfl) ?_
    refine lv_aload_n hx hb dX9_image_109 rfl (lv_at hl 0 rfl) ?_
    refine lm_get B hN (ci := 9) hiX9 0 rfl rfl 7 (by decide) (by decide +kernel) (v := .int (t1_0.1 6)) rfl dX9_image_110 ?_
    refine lm_put B hN (ci := 9) hiX9 tyX9 tyX9_ok nmX9 0 rfl rfl 22 (by decide) (by decide +kernel) (by decide) (v := .int (t1_0.1 6)) rfl rfl (Nat.le_of_ble_eq_true rfl) (wX9 G q0 (lm_sF (lm_sF (lm_sF (lm_sF (lm_sF (lm_sA (lm_sA (lm_sA (lm_sA (lm_sA (lm_sA t1_0 11 w3) 12 w4) 13 w5) 14 w6) 15 w7) 16 w8) 12 (t1_0.1 3)) 13 (t1_0.1 4)) 14 (t1_0.1 5)) 15 (t1_0.1 9)) 11 (t1_0.1 6))) (wX9_r0f11 _ _ _ _) dX9_image_113 (fun H locs hN => ?_)
    refine lv_aload_n hx hb dX9_image_116 rfl (lv_at hl 0 rfl) ?_
    refine lm_get B hN (ci := 9) hiX9 0 rfl rfl 5 (by decide) (by decide +kernel) (v := .int (t1_0.1 4)) rfl dX9_image_117 ?_
    cases hF
    exact lm_iret B hN dX9_image_120
  · have hF := lm_itn c2 hF
    refine lv_bipush (v := -103) hx hb dX9_image_7 (by decide) ?_
    cases hF
    exact lm_iret B hN dX9_image_9
def jX9_isGood_128 (x1_128 : Int32) (x2_128 : Int32) (s0_128 : lm_St) : Option (Int32 × lm_St) := if x2_128 = (44 : Int32) then (if (27 : Int32) ≤ x1_128 then (lm_gB (0 : Int32) (some ((0 : Int32), s0_128))) else (lm_gB (1 : Int32) (some ((1 : Int32), s0_128)))) else (lm_gB (0 : Int32) (some ((0 : Int32), s0_128)))
def fX9_isGood (s0 : lm_St) (x1 : Int32) : Option (Int32 × lm_St) := lm_gI x1 32 (if (s0.1 1) ≤ 0 then (if (x1 - x1 / (4 : Int32) * (4 : Int32)) = 0 then ((fX9_kindBy ((s0.2.1 0) x1.toNatClampNeg)).bind (fun r9 => if r9 = (-1 : Int32) then (lm_gB (0 : Int32) (some ((0 : Int32), s0))) else (lm_gB (1 : Int32) (some ((1 : Int32), s0))))) else (if (x1 - x1 / (4 : Int32) * (4 : Int32)) = 1 then ((fX9_in (((s0.2.1 0) x1.toNatClampNeg).toInt64) (49 : Int64) (57 : Int64)).bind (fun r13 => lm_gB r13 (some (r13, s0)))) else (if (x1 - x1 / (4 : Int32) * (4 : Int32)) = 2 then ((fX9_in (((s0.2.1 0) x1.toNatClampNeg).toInt64) (48 : Int64) (57 : Int64)).bind (fun r15 => lm_gB r15 (some (r15, s0)))) else (if ((s0.2.1 0) x1.toNatClampNeg) = (59 : Int32) then (if x1 ≤ (3 : Int32) then (jX9_isGood_128 x1 ((s0.2.1 0) x1.toNatClampNeg) s0) else (lm_gB (1 : Int32) (some ((1 : Int32), (lm_sF s0 1 x1))))) else (jX9_isGood_128 x1 ((s0.2.1 0) x1.toNatClampNeg) s0))))) else (if ((s0.1 1) + (3 : Int32)) ≤ x1 then (lm_gB (0 : Int32) (some ((0 : Int32), s0))) else ((fX9_in (((s0.2.1 0) x1.toNatClampNeg).toInt64) (48 : Int64) (57 : Int64)).bind (fun r22 => if r22 = 0 then (lm_gB (0 : Int32) (some ((0 : Int32), s0))) else (lm_gB (1 : Int32) (some ((1 : Int32), s0)))))))
set_option maxHeartbeats 4000000 in
set_option maxRecDepth 100000 in
theorem hX9_isGood (l : Launch) (G : lm_G) (q0 : Nat → Nat) {s0 : lm_St} {x1 : Int32} {R : Int32 × lm_St} (hF : fX9_isGood s0 x1 = some R) : lm_C l G yX9_isGood wsX9_isGood 2 [.ref (q0 0), .int x1] (wX9 G q0 s0) (some (.int R.1)) (wX9 G q0 R.2) := by
  refine lm_C.of (cc := cX9_isGood) (maxL := 3) (ret := (some .boolean)) (by decide) rfl (Nat.le_of_ble_eq_true rfl) ?_
  intro p e s m below meth c A ls B hN hl
  have hx := B.1.1
  have hb := B.1.2.1
  have hown := B.1.2.2.2.1
  have hts := B.1.2.2.2.2
  have hiX9 : ∀ w ∈ wsX90, w ∈ wsX9_isGood := by decide +kernel
  have hl : lv_has ls 3 [(0, .ref (q0 0)), (1, .int x1)] := hl
  have J128 : ∀ (x1_128 : Int32) (x2_128 : Int32) (s0_128 : lm_St) (H : Heap) (locs : List Loc) (ls : Array Slot), jX9_isGood_128 x1_128 x2_128 s0_128 = some R → lm_N G A s (wX9 G q0 s0_128) H locs → lv_has ls 3 [(1, .int x1_128), (2, .int x2_128)] → W p l e (lm_rk 2) s m ([.ref (q0 0), .int x1] : List Value).toArray below meth c H locs 0 0 (MQ below (lm_post G (wX9 G q0 R.2) (some (.int R.1)) A) ([.ref (q0 0), .int x1] : List Value).toArray s 0 0 A) (F0 m 128 ls []) := by
    intro x1_128 x2_128 s0_128 H locs ls hF hN hl
    refine lv_iload_n hx hb dX9_isGood_128 rfl (lv_at hl 1 rfl) ?_
    refine lv_bipush (v := 44) hx hb dX9_isGood_129 (by decide) ?_
    refine lv_icmp_ne (tgt := 144) hx hb dX9_isGood_131 (by decide) (fun c1 => ?_) (fun c1 => ?_)
    · have hF := lm_itn c1 hF
      refine lv_iconst (v := 0) hx hb dX9_isGood_144 (by decide) ?_
      obtain ⟨z2, hF⟩ := lm_gBe hF
      cases hF
      exact lm_zret B hN z2 dX9_isGood_145
    · have hF := lm_itp c1 hF
      refine lv_iload_n hx hb dX9_isGood_134 rfl (lv_at hl 0 rfl) ?_
      refine lv_bipush (v := 27) hx hb dX9_isGood_135 (by decide) ?_
      refine lv_icmp_ge (tgt := 144) hx hb dX9_isGood_137 (by decide) (fun c3 => ?_) (fun c3 => ?_)
      · have hF := lm_itp c3 hF
        refine lv_iconst (v := 0) hx hb dX9_isGood_144 (by decide) ?_
        obtain ⟨z4, hF⟩ := lm_gBe hF
        cases hF
        exact lm_zret B hN z4 dX9_isGood_145
      · have hF := lm_itn c3 hF
        refine lv_iconst (v := 1) hx hb dX9_isGood_140 (by decide) ?_
        refine lv_goto (tgt := 145) hx hb dX9_isGood_141 (by decide) ?_
        obtain ⟨z5, hF⟩ := lm_gBe hF
        cases hF
        exact lm_zret B hN z5 dX9_isGood_145
  refine lv_aload_n hx hb dX9_isGood_0 rfl (lv_at hl 0 rfl) ?_
  refine lm_get B hN (ci := 9) hiX9 0 rfl rfl 0 (by decide) (by decide +kernel) (v := .ref (q0 1)) rfl dX9_isGood_1 ?_
  refine lv_iload_n hx hb dX9_isGood_4 rfl (lv_at hl 1 rfl) ?_
  obtain ⟨z6, hF⟩ := lm_gIe hF
  refine lm_ald B hN 1 (f := (s0.2.1 0)) rfl z6 dX9_isGood_5 ?_
  refine lv_istore_n (lv' := [(2, .int ((s0.2.1 0) x1.toNatClampNeg)), (0, .ref (q0 0)), (1, .int x1)]) hx hb dX9_isGood_6 rfl hl (by decide) rfl (fun ls hl => ?_)
  refine lv_aload_n hx hb dX9_isGood_7 rfl (lv_at hl 1 rfl) ?_
  refine lm_get B hN (ci := 9) hiX9 0 rfl rfl 2 (by decide) (by decide +kernel) (v := .int (s0.1 1)) rfl dX9_isGood_8 ?_
  refine lv_if_le (tgt := 44) hx hb dX9_isGood_11 (by decide) (fun c7 => ?_) (fun c7 => ?_)
  · have hF := lm_itp c7 hF
    refine lv_iload_n hx hb dX9_isGood_44 rfl (lv_at hl 2 rfl) ?_
    refine lv_iconst (v := 4) hx hb dX9_isGood_45 (by decide) ?_
    refine lv_irem hx hb dX9_isGood_46 (by decide) ?_
    by_cases c8_0 : (x1 - x1 / (4 : Int32) * (4 : Int32)) = 0
    · have hF := lm_itp c8_0 hF
      refine lv_tableIn (tgt := 72) hx hb dX9_isGood_47 (by rw [c8_0]; decide) (by rw [c8_0]; decide) (by rw [c8_0]; rfl) (by decide) ?_
      refine lv_iload_n hx hb dX9_isGood_72 rfl (lv_at hl 0 rfl) ?_
      obtain ⟨r9, hc9, hF⟩ := lm_bd hF
      refine lm_run0 B hN (lm_hrT B hN hl.1 (lm_cut0 B hN) (n := 1) (As := [.int ((s0.2.1 0) x1.toNatClampNeg)]) (rest := []) (hX9_kindBy l G hc9) gX9_isGood_X9_kindBy rfl (by decide +kernel) rfl (by decide) (by decide) rfl (Nat.le_of_ble_eq_true rfl) dX9_isGood_73) (fun H locs hN => ?_)
      refine lv_iconst (v := -1) hx hb dX9_isGood_76 (by decide) ?_
      refine lv_icmp_eq (tgt := 84) hx hb dX9_isGood_77 (by decide) (fun c10 => ?_) (fun c10 => ?_)
      · have hF := lm_itp c10 hF
        refine lv_iconst (v := 0) hx hb dX9_isGood_84 (by decide) ?_
        obtain ⟨z11, hF⟩ := lm_gBe hF
        cases hF
        exact lm_zret B hN z11 dX9_isGood_85
      · have hF := lm_itn c10 hF
        refine lv_iconst (v := 1) hx hb dX9_isGood_80 (by decide) ?_
        refine lv_goto (tgt := 85) hx hb dX9_isGood_81 (by decide) ?_
        obtain ⟨z12, hF⟩ := lm_gBe hF
        cases hF
        exact lm_zret B hN z12 dX9_isGood_85
    have hF := lm_itn c8_0 hF
    by_cases c8_1 : (x1 - x1 / (4 : Int32) * (4 : Int32)) = 1
    · have hF := lm_itp c8_1 hF
      refine lv_tableIn (tgt := 86) hx hb dX9_isGood_47 (by rw [c8_1]; decide) (by rw [c8_1]; decide) (by rw [c8_1]; rfl) (by decide) ?_
      refine lv_iload_n hx hb dX9_isGood_86 rfl (lv_at hl 0 rfl) ?_
      refine lv_i2l hx hb dX9_isGood_87 rfl ?_
      refine lv_ldc2 (v := 49) hx hb hown (hts (.constantLong RX9 85 (49)) (by decide +kernel)) dX9_isGood_88 ?_
      refine lv_ldc2 (v := 57) hx hb hown (hts (.constantLong RX9 79 (57)) (by decide +kernel)) dX9_isGood_91 ?_
      obtain ⟨r13, hc13, hF⟩ := lm_bd hF
      refine lm_run0 B hN (lm_hrT B hN hl.1 (lm_cut0 B hN) (n := 3) (As := [.long (((s0.2.1 0) x1.toNatClampNeg).toInt64), .long (49 : Int64), .long (57 : Int64)]) (rest := []) (hX9_in l G hc13) gX9_isGood_X9_in rfl (by decide +kernel) rfl (by decide) (by decide) rfl (Nat.le_of_ble_eq_true rfl) dX9_isGood_94) (fun H locs hN => ?_)
      obtain ⟨z14, hF⟩ := lm_gBe hF
      cases hF
      exact lm_zret B hN z14 dX9_isGood_97
    have hF := lm_itn c8_1 hF
    by_cases c8_2 : (x1 - x1 / (4 : Int32) * (4 : Int32)) = 2
    · have hF := lm_itp c8_2 hF
      refine lv_tableIn (tgt := 98) hx hb dX9_isGood_47 (by rw [c8_2]; decide) (by rw [c8_2]; decide) (by rw [c8_2]; rfl) (by decide) ?_
      refine lv_iload_n hx hb dX9_isGood_98 rfl (lv_at hl 0 rfl) ?_
      refine lv_i2l hx hb dX9_isGood_99 rfl ?_
      refine lv_ldc2 (v := 48) hx hb hown (hts (.constantLong RX9 77 (48)) (by decide +kernel)) dX9_isGood_100 ?_
      refine lv_ldc2 (v := 57) hx hb hown (hts (.constantLong RX9 79 (57)) (by decide +kernel)) dX9_isGood_103 ?_
      obtain ⟨r15, hc15, hF⟩ := lm_bd hF
      refine lm_run0 B hN (lm_hrT B hN hl.1 (lm_cut0 B hN) (n := 3) (As := [.long (((s0.2.1 0) x1.toNatClampNeg).toInt64), .long (48 : Int64), .long (57 : Int64)]) (rest := []) (hX9_in l G hc15) gX9_isGood_X9_in rfl (by decide +kernel) rfl (by decide) (by decide) rfl (Nat.le_of_ble_eq_true rfl) dX9_isGood_106) (fun H locs hN => ?_)
      obtain ⟨z16, hF⟩ := lm_gBe hF
      cases hF
      exact lm_zret B hN z16 dX9_isGood_109
    have hF := lm_itn c8_2 hF
    have ic8_0 := lm_ti (n := 0) (by decide) c8_0
    have ic8_1 := lm_ti (n := 1) (by decide) c8_1
    have ic8_2 := lm_ti (n := 2) (by decide) c8_2
    refine lv_tableOut (tgt := 110) hx hb dX9_isGood_47 (by omega) (by decide) ?_
    refine lv_iload_n hx hb dX9_isGood_110 rfl (lv_at hl 0 rfl) ?_
    refine lv_bipush (v := 59) hx hb dX9_isGood_111 (by decide) ?_
    refine lv_icmp_ne (tgt := 128) hx hb dX9_isGood_113 (by decide) (fun c17 => ?_) (fun c17 => ?_)
    · have hF := lm_itn c17 hF
      exact J128 _ _ _ _ _ _ hF hN (lv_sub hl [2, 0] rfl)
    · have hF := lm_itp c17 hF
      refine lv_iload_n hx hb dX9_isGood_116 rfl (lv_at hl 2 rfl) ?_
      refine lv_iconst (v := 3) hx hb dX9_isGood_117 (by decide) ?_
      refine lv_icmp_le (tgt := 128) hx hb dX9_isGood_118 (by decide) (fun c18 => ?_) (fun c18 => ?_)
      · have hF := lm_itp c18 hF
        exact J128 _ _ _ _ _ _ hF hN (lv_sub hl [2, 0] rfl)
      · have hF := lm_itn c18 hF
        refine lv_aload_n hx hb dX9_isGood_121 rfl (lv_at hl 1 rfl) ?_
        refine lv_iload_n hx hb dX9_isGood_122 rfl (lv_at hl 2 rfl) ?_
        refine lm_put B hN (ci := 9) hiX9 tyX9 tyX9_ok nmX9 0 rfl rfl 2 (by decide) (by decide +kernel) (by decide) (v := .int x1) rfl rfl (Nat.le_of_ble_eq_true rfl) (wX9 G q0 (lm_sF s0 1 x1)) (wX9_r0f1 _ _ _ _) dX9_isGood_123 (fun H locs hN => ?_)
        refine lv_iconst (v := 1) hx hb dX9_isGood_126 (by decide) ?_
        obtain ⟨z19, hF⟩ := lm_gBe hF
        cases hF
        exact lm_zret B hN z19 dX9_isGood_127
  · have hF := lm_itn c7 hF
    refine lv_iload_n hx hb dX9_isGood_14 rfl (lv_at hl 2 rfl) ?_
    refine lv_aload_n hx hb dX9_isGood_15 rfl (lv_at hl 1 rfl) ?_
    refine lm_get B hN (ci := 9) hiX9 0 rfl rfl 2 (by decide) (by decide +kernel) (v := .int (s0.1 1)) rfl dX9_isGood_16 ?_
    refine lv_iconst (v := 3) hx hb dX9_isGood_19 (by decide) ?_
    refine lv_iadd hx hb dX9_isGood_20 ?_
    refine lv_icmp_ge (tgt := 42) hx hb dX9_isGood_21 (by decide) (fun c20 => ?_) (fun c20 => ?_)
    · have hF := lm_itp c20 hF
      refine lv_iconst (v := 0) hx hb dX9_isGood_42 (by decide) ?_
      obtain ⟨z21, hF⟩ := lm_gBe hF
      cases hF
      exact lm_zret B hN z21 dX9_isGood_43
    · have hF := lm_itn c20 hF
      refine lv_iload_n hx hb dX9_isGood_24 rfl (lv_at hl 0 rfl) ?_
      refine lv_i2l hx hb dX9_isGood_25 rfl ?_
      refine lv_ldc2 (v := 48) hx hb hown (hts (.constantLong RX9 77 (48)) (by decide +kernel)) dX9_isGood_26 ?_
      refine lv_ldc2 (v := 57) hx hb hown (hts (.constantLong RX9 79 (57)) (by decide +kernel)) dX9_isGood_29 ?_
      obtain ⟨r22, hc22, hF⟩ := lm_bd hF
      refine lm_run0 B hN (lm_hrT B hN hl.1 (lm_cut0 B hN) (n := 3) (As := [.long (((s0.2.1 0) x1.toNatClampNeg).toInt64), .long (48 : Int64), .long (57 : Int64)]) (rest := []) (hX9_in l G hc22) gX9_isGood_X9_in rfl (by decide +kernel) rfl (by decide) (by decide) rfl (Nat.le_of_ble_eq_true rfl) dX9_isGood_32) (fun H locs hN => ?_)
      refine lv_if_eq (tgt := 42) hx hb dX9_isGood_35 (by decide) (fun c23 => ?_) (fun c23 => ?_)
      · have hF := lm_itp c23 hF
        refine lv_iconst (v := 0) hx hb dX9_isGood_42 (by decide) ?_
        obtain ⟨z24, hF⟩ := lm_gBe hF
        cases hF
        exact lm_zret B hN z24 dX9_isGood_43
      · have hF := lm_itn c23 hF
        refine lv_iconst (v := 1) hx hb dX9_isGood_38 (by decide) ?_
        refine lv_goto (tgt := 43) hx hb dX9_isGood_39 (by decide) ?_
        obtain ⟨z25, hF⟩ := lm_gBe hF
        cases hF
        exact lm_zret B hN z25 dX9_isGood_43
def fX9_isThing (s0 : lm_St) (x1 : Int32) : Option (Int32 × lm_St) := (fX9_in x1.toInt64 (0 : Int64) (((s0.1 2) - (1 : Int32)).toInt64)).bind (fun r1 => lm_gB r1 (some (r1, s0)))
set_option maxHeartbeats 4000000 in
set_option maxRecDepth 100000 in
theorem hX9_isThing (l : Launch) (G : lm_G) (q0 : Nat → Nat) {s0 : lm_St} {x1 : Int32} {R : Int32 × lm_St} (hF : fX9_isThing s0 x1 = some R) : lm_C l G yX9_isThing wsX9_isThing 2 [.ref (q0 0), .int x1] (wX9 G q0 s0) (some (.int R.1)) (wX9 G q0 R.2) := by
  refine lm_C.of (cc := cX9_isThing) (maxL := 2) (ret := (some .boolean)) (by decide) rfl (Nat.le_of_ble_eq_true rfl) ?_
  intro p e s m below meth c A ls B hN hl
  have hx := B.1.1
  have hb := B.1.2.1
  have hown := B.1.2.2.2.1
  have hts := B.1.2.2.2.2
  have hiX9 : ∀ w ∈ wsX90, w ∈ wsX9_isThing := by decide +kernel
  have hl : lv_has ls 2 [(0, .ref (q0 0)), (1, .int x1)] := hl
  refine lv_iload_n hx hb dX9_isThing_0 rfl (lv_at hl 1 rfl) ?_
  refine lv_i2l hx hb dX9_isThing_1 rfl ?_
  refine lv_lconst (v := 0) hx hb dX9_isThing_2 (by decide) ?_
  refine lv_aload_n hx hb dX9_isThing_3 rfl (lv_at hl 0 rfl) ?_
  refine lm_get B hN (ci := 9) hiX9 0 rfl rfl 3 (by decide) (by decide +kernel) (v := .int (s0.1 2)) rfl dX9_isThing_4 ?_
  refine lv_iconst (v := 1) hx hb dX9_isThing_7 (by decide) ?_
  refine lv_isub hx hb dX9_isThing_8 ?_
  refine lv_i2l hx hb dX9_isThing_9 rfl ?_
  obtain ⟨r1, hc1, hF⟩ := lm_bd hF
  refine lm_run0 B hN (lm_hrT B hN hl.1 (lm_cut0 B hN) (n := 3) (As := [.long x1.toInt64, .long (0 : Int64), .long (((s0.1 2) - (1 : Int32)).toInt64)]) (rest := []) (hX9_in l G hc1) gX9_isThing_X9_in rfl (by decide +kernel) rfl (by decide) (by decide) rfl (Nat.le_of_ble_eq_true rfl) dX9_isThing_10) (fun H locs hN => ?_)
  obtain ⟨z2, hF⟩ := lm_gBe hF
  cases hF
  exact lm_zret B hN z2 dX9_isThing_13
def fX9_keep (s0 : lm_St) : Option (lm_St) := (fX9_copy 7 (s0.2.1 6) (s0.2.1 3)).bind (fun w1 => (fX9_copy 7 (s0.2.1 7) (s0.2.1 4)).bind (fun w2 => (fX9_copy 7 (s0.2.1 8) (s0.2.1 5)).bind (fun w3 => some (lm_sF (lm_sA (lm_sA (lm_sA s0 3 w1) 4 w2) 5 w3) 3 (s0.1 7)))))
set_option maxHeartbeats 4000000 in
set_option maxRecDepth 100000 in
theorem hX9_keep (l : Launch) (G : lm_G) (q0 : Nat → Nat) {s0 : lm_St} {R : lm_St} (hF : fX9_keep s0 = some R) : lm_C l G yX9_keep wsX9_keep 2 [.ref (q0 0)] (wX9 G q0 s0) none (wX9 G q0 R) := by
  refine lm_C.of (cc := cX9_keep) (maxL := 1) (ret := none) (by decide) rfl (Nat.le_of_ble_eq_true rfl) ?_
  intro p e s m below meth c A ls B hN hl
  have hx := B.1.1
  have hb := B.1.2.1
  have hown := B.1.2.2.2.1
  have hts := B.1.2.2.2.2
  have hiX9 : ∀ w ∈ wsX90, w ∈ wsX9_keep := by decide +kernel
  have hl : lv_has ls 1 [(0, .ref (q0 0))] := hl
  refine lv_aload_n hx hb dX9_keep_0 rfl (lv_at hl 0 rfl) ?_
  refine lm_get B hN (ci := 9) hiX9 0 rfl rfl 13 (by decide) (by decide +kernel) (v := .ref (q0 7)) rfl dX9_keep_1 ?_
  refine lv_aload_n hx hb dX9_keep_4 rfl (lv_at hl 0 rfl) ?_
  refine lm_get B hN (ci := 9) hiX9 0 rfl rfl 10 (by decide) (by decide +kernel) (v := .ref (q0 4)) rfl dX9_keep_5 ?_
  obtain ⟨w1, hc1, hF⟩ := lm_bd hF
  refine lm_runX B hN (lm_hrT B hN hl.1 (lm_cut B hN [7, 4] rfl (kc_wX9_c7_4 _ _ _)) (n := 2) (As := [.ref (q0 7), .ref (q0 4)]) (rest := []) (hX9_copy l G (q0 7) (q0 4) 7 (f := (s0.2.1 6)) (g := (s0.2.1 3)) hc1) gX9_keep_X9_copy rfl (by decide +kernel) rfl (by decide) (by decide) rfl (Nat.le_of_ble_eq_true rfl) dX9_keep_8) [7, 4] [0, 1, 2, 3, 5, 6, 8, 9, 10, 11, 12, 13, 14, 15, 16, 17] (kc_wX9_c7_4 _ _ _) (kr_wX9_c7_4 _ _ _) rfl (by decide) [0, 1, 2, 3, 17, 4, 5, 16, 6, 7, 8, 9, 10, 11, 12, 13, 14, 15] rfl (wX9 G q0 (lm_sA s0 3 w1)) (kj_wX9_c7_4 _ _ _ _) (fun H locs hN => ?_)
  refine lv_aload_n hx hb dX9_keep_11 rfl (lv_at hl 0 rfl) ?_
  refine lm_get B hN (ci := 9) hiX9 0 rfl rfl 14 (by decide) (by decide +kernel) (v := .ref (q0 8)) rfl dX9_keep_12 ?_
  refine lv_aload_n hx hb dX9_keep_15 rfl (lv_at hl 0 rfl) ?_
  refine lm_get B hN (ci := 9) hiX9 0 rfl rfl 11 (by decide) (by decide +kernel) (v := .ref (q0 5)) rfl dX9_keep_16 ?_
  obtain ⟨w2, hc2, hF⟩ := lm_bd hF
  refine lm_runX B hN (lm_hrT B hN hl.1 (lm_cut B hN [8, 5] rfl (kc_wX9_c8_5 _ _ _)) (n := 2) (As := [.ref (q0 8), .ref (q0 5)]) (rest := []) (hX9_copy l G (q0 8) (q0 5) 7 (f := (s0.2.1 7)) (g := (s0.2.1 4)) hc2) gX9_keep_X9_copy rfl (by decide +kernel) rfl (by decide) (by decide) rfl (Nat.le_of_ble_eq_true rfl) dX9_keep_19) [8, 5] [0, 1, 2, 3, 4, 6, 7, 9, 10, 11, 12, 13, 14, 15, 16, 17] (kc_wX9_c8_5 _ _ _) (kr_wX9_c8_5 _ _ _) rfl (by decide) [0, 1, 2, 3, 4, 17, 5, 6, 16, 7, 8, 9, 10, 11, 12, 13, 14, 15] rfl (wX9 G q0 (lm_sA (lm_sA s0 3 w1) 4 w2)) (kj_wX9_c8_5 _ _ _ _) (fun H locs hN => ?_)
  refine lv_aload_n hx hb dX9_keep_22 rfl (lv_at hl 0 rfl) ?_
  refine lm_get B hN (ci := 9) hiX9 0 rfl rfl 15 (by decide) (by decide +kernel) (v := .ref (q0 9)) rfl dX9_keep_23 ?_
  refine lv_aload_n hx hb dX9_keep_26 rfl (lv_at hl 0 rfl) ?_
  refine lm_get B hN (ci := 9) hiX9 0 rfl rfl 12 (by decide) (by decide +kernel) (v := .ref (q0 6)) rfl dX9_keep_27 ?_
  obtain ⟨w3, hc3, hF⟩ := lm_bd hF
  refine lm_runX B hN (lm_hrT B hN hl.1 (lm_cut B hN [9, 6] rfl (kc_wX9_c9_6 _ _ _)) (n := 2) (As := [.ref (q0 9), .ref (q0 6)]) (rest := []) (hX9_copy l G (q0 9) (q0 6) 7 (f := (s0.2.1 8)) (g := (s0.2.1 5)) hc3) gX9_keep_X9_copy rfl (by decide +kernel) rfl (by decide) (by decide) rfl (Nat.le_of_ble_eq_true rfl) dX9_keep_30) [9, 6] [0, 1, 2, 3, 4, 5, 7, 8, 10, 11, 12, 13, 14, 15, 16, 17] (kc_wX9_c9_6 _ _ _) (kr_wX9_c9_6 _ _ _) rfl (by decide) [0, 1, 2, 3, 4, 5, 17, 6, 7, 16, 8, 9, 10, 11, 12, 13, 14, 15] rfl (wX9 G q0 (lm_sA (lm_sA (lm_sA s0 3 w1) 4 w2) 5 w3)) (kj_wX9_c9_6 _ _ _ _) (fun H locs hN => ?_)
  refine lv_aload_n hx hb dX9_keep_33 rfl (lv_at hl 0 rfl) ?_
  refine lv_aload_n hx hb dX9_keep_34 rfl (lv_at hl 0 rfl) ?_
  refine lm_get B hN (ci := 9) hiX9 0 rfl rfl 16 (by decide) (by decide +kernel) (v := .int (s0.1 7)) rfl dX9_keep_35 ?_
  refine lm_put B hN (ci := 9) hiX9 tyX9 tyX9_ok nmX9 0 rfl rfl 4 (by decide) (by decide +kernel) (by decide) (v := .int (s0.1 7)) rfl rfl (Nat.le_of_ble_eq_true rfl) (wX9 G q0 (lm_sF (lm_sA (lm_sA (lm_sA s0 3 w1) 4 w2) 5 w3) 3 (s0.1 7))) (wX9_r0f3 _ _ _ _) dX9_keep_38 (fun H locs hN => ?_)
  cases hF
  exact lm_vret B hN dX9_keep_41
def jX9_laySale_164 (k38 : Int32 × lm_St → Option (lm_St)) (k44 : Int32 × Int32 × lm_St → Option (lm_St)) (x1_164 : Int32) (x2_164 : Int32) (x3_164 : Int32) (s0_164 : lm_St) : Option (lm_St) := lm_gI (((128 : Int32) * x1_164) + x2_164) 1024 (k44 (x1_164, (x2_164 + 1), (lm_sA s0_164 9 (upd (s0_164.2.1 9) (((128 : Int32) * x1_164) + x2_164).toNatClampNeg x3_164))))
def jX9_laySale_158 (k38 : Int32 × lm_St → Option (lm_St)) (k44 : Int32 × Int32 × lm_St → Option (lm_St)) (k86 : Int32 × Int32 × Int32 × Int32 × lm_St → Option (lm_St)) (x1_158 : Int32) (x2_158 : Int32) (x3_158 : Int32) (x4_158 : Int32) (s0_158 : lm_St) : Option (lm_St) := k86 (x1_158, x2_158, x3_158, (x4_158 + 1), s0_158)
def jX9_laySale_157 (k38 : Int32 × lm_St → Option (lm_St)) (k44 : Int32 × Int32 × lm_St → Option (lm_St)) (k86 : Int32 × Int32 × Int32 × Int32 × lm_St → Option (lm_St)) (x1_157 : Int32) (x2_157 : Int32) (x4_157 : Int32) (y0_157 : Int32) (s0_157 : lm_St) : Option (lm_St) := jX9_laySale_158 k38 k44 k86 x1_157 x2_157 y0_157 x4_157 s0_157
def bX9_laySale_86 (k38 : Int32 × lm_St → Option (lm_St)) (k44 : Int32 × Int32 × lm_St → Option (lm_St)) (k86 : Int32 × Int32 × Int32 × Int32 × lm_St → Option (lm_St)) (x1_86 : Int32) (x2_86 : Int32) (x3_86 : Int32) (x4_86 : Int32) (s0_86 : lm_St) : Option (lm_St) := if (s0_86.1 2) ≤ x4_86 then (jX9_laySale_164 k38 k44 x1_86 x2_86 x3_86 s0_86) else (lm_gI x1_86 7 (if ((s0_86.2.1 5) x1_86.toNatClampNeg) = (1 : Int32) then (if ((x2_86 >>> (x4_86 &&& 31)) &&& (1 : Int32)) = 0 then ((fX9_wants s0_86 x4_86 x1_86).bind (fun v6 => lm_un2 v6 (fun r6 t6_0 => lm_gI ((((128 : Int32) * x1_86) + (128 : Int32)) + (x2_86 ||| ((1 : Int32) <<< (x4_86 &&& 31)))) 1024 (lm_nm (r6 + ((t6_0.2.1 9) ((((128 : Int32) * x1_86) + (128 : Int32)) + (x2_86 ||| ((1 : Int32) <<< (x4_86 &&& 31)))).toNatClampNeg)) (fun z8 => if z8 ≤ x3_86 then (jX9_laySale_157 k38 k44 k86 x1_86 x2_86 x4_86 x3_86 t6_0) else (jX9_laySale_157 k38 k44 k86 x1_86 x2_86 x4_86 z8 t6_0)))))) else (jX9_laySale_158 k38 k44 k86 x1_86 x2_86 x3_86 x4_86 s0_86)) else (jX9_laySale_164 k38 k44 x1_86 x2_86 x3_86 s0_86)))
def jX9_laySale_82 (k38 : Int32 × lm_St → Option (lm_St)) (k44 : Int32 × Int32 × lm_St → Option (lm_St)) (x1_82 : Int32) (x2_82 : Int32) (y0_82 : Int32) (s0_82 : lm_St) : Option (lm_St) := lm_lp (fun k a => bX9_laySale_86 k38 k44 k a.1 a.2.1 a.2.2.1 a.2.2.2.1 a.2.2.2.2) 5000 (x1_82, x2_82, y0_82, (0 : Int32), s0_82)
def bX9_laySale_44 (k38 : Int32 × lm_St → Option (lm_St)) (k44 : Int32 × Int32 × lm_St → Option (lm_St)) (x1_44 : Int32) (x2_44 : Int32) (s0_44 : lm_St) : Option (lm_St) := if (128 : Int32) ≤ x2_44 then (k38 ((x1_44 + (-1)), s0_44)) else (lm_gI x1_44 7 (if ((s0_44.2.1 5) x1_44.toNatClampNeg) = 0 then (lm_gI ((((128 : Int32) * x1_44) + (128 : Int32)) + x2_44) 1024 (jX9_laySale_82 k38 k44 x1_44 x2_44 ((s0_44.2.1 9) ((((128 : Int32) * x1_44) + (128 : Int32)) + x2_44).toNatClampNeg) s0_44)) else (jX9_laySale_82 k38 k44 x1_44 x2_44 (-1000 : Int32) s0_44)))
def bX9_laySale_38 (k38 : Int32 × lm_St → Option (lm_St)) (x1_38 : Int32) (s0_38 : lm_St) : Option (lm_St) := if x1_38 < 0 then (some s0_38) else (lm_lp (fun k a => bX9_laySale_44 k38 k a.1 a.2.1 a.2.2) 5000 (x1_38, (0 : Int32), s0_38))
def bX9_laySale_2 (k2 : Int32 × lm_St → Option (lm_St)) (x1_2 : Int32) (s0_2 : lm_St) : Option (lm_St) := if (128 : Int32) ≤ x1_2 then (lm_lp (fun k a => bX9_laySale_38 k a.1 a.2) 5000 (((s0_2.1 2) - (1 : Int32)), s0_2)) else (lm_gI (((128 : Int32) * (s0_2.1 2)) + x1_2) 1024 (k2 ((x1_2 + 1), (lm_sA s0_2 9 (upd (s0_2.2.1 9) (((128 : Int32) * (s0_2.1 2)) + x1_2).toNatClampNeg (0 : Int32))))))
def fX9_laySale (s0 : lm_St) : Option (lm_St) := lm_lp (fun k a => bX9_laySale_2 k a.1 a.2) 5000 ((0 : Int32), s0)
set_option maxHeartbeats 4000000 in
set_option maxRecDepth 100000 in
theorem hX9_laySale (l : Launch) (G : lm_G) (q0 : Nat → Nat) {s0 : lm_St} {R : lm_St} (hF : fX9_laySale s0 = some R) : lm_C l G yX9_laySale wsX9_laySale 2 [.ref (q0 0)] (wX9 G q0 s0) none (wX9 G q0 R) := by
  refine lm_C.of (cc := cX9_laySale) (maxL := 6) (ret := none) (by decide) rfl (Nat.le_of_ble_eq_true rfl) ?_
  intro p e s m below meth c A ls B hN hl
  have hx := B.1.1
  have hb := B.1.2.1
  have hown := B.1.2.2.2.1
  have hts := B.1.2.2.2.2
  have hiX9 : ∀ w ∈ wsX90, w ∈ wsX9_laySale := by decide +kernel
  have hl : lv_has ls 6 [(0, .ref (q0 0))] := hl
  have L2 : ∀ (n : Nat) (x1_2 : Int32) (s0_2 : lm_St) (H : Heap) (locs : List Loc) (ls : Array Slot), lm_lp (fun k a => bX9_laySale_2 k a.1 a.2) n (x1_2, s0_2) = some R → lm_N G A s (wX9 G q0 s0_2) H locs → lv_has ls 6 [(0, .ref (q0 0)), (1, .int x1_2)] → W p l e (lm_rk 2) s m ([.ref (q0 0)] : List Value).toArray below meth c H locs 0 0 (MQ below (lm_post G (wX9 G q0 R) none A) ([.ref (q0 0)] : List Value).toArray s 0 0 A) (F0 m 2 ls []) := by
    intro n
    induction n with
    | zero => intro x1_2 s0_2 H locs ls hF; exact (lm_lpz hF).elim
    | succ n ih2 =>
      intro x1_2 s0_2 H locs ls hF hN hl
      have hF : bX9_laySale_2 (lm_lp (fun k a => bX9_laySale_2 k a.1 a.2) n) x1_2 s0_2 = some R := lm_lps hF
      generalize lm_lp (fun k a => bX9_laySale_2 k a.1 a.2) n = k2 at hF ih2
      have L38 : ∀ (n : Nat) (x1_38 : Int32) (s0_38 : lm_St) (H : Heap) (locs : List Loc) (ls : Array Slot), lm_lp (fun k a => bX9_laySale_38 k a.1 a.2) n (x1_38, s0_38) = some R → lm_N G A s (wX9 G q0 s0_38) H locs → lv_has ls 6 [(0, .ref (q0 0)), (1, .int x1_38)] → W p l e (lm_rk 2) s m ([.ref (q0 0)] : List Value).toArray below meth c H locs 0 0 (MQ below (lm_post G (wX9 G q0 R) none A) ([.ref (q0 0)] : List Value).toArray s 0 0 A) (F0 m 38 ls []) := by
        intro n
        induction n with
        | zero => intro x1_38 s0_38 H locs ls hF; exact (lm_lpz hF).elim
        | succ n ih38 =>
          intro x1_38 s0_38 H locs ls hF hN hl
          have hF : bX9_laySale_38 (lm_lp (fun k a => bX9_laySale_38 k a.1 a.2) n) x1_38 s0_38 = some R := lm_lps hF
          generalize lm_lp (fun k a => bX9_laySale_38 k a.1 a.2) n = k38 at hF ih38
          have L44 : ∀ (n : Nat) (x1_44 : Int32) (x2_44 : Int32) (s0_44 : lm_St) (H : Heap) (locs : List Loc) (ls : Array Slot), lm_lp (fun k a => bX9_laySale_44 k38 k a.1 a.2.1 a.2.2) n (x1_44, x2_44, s0_44) = some R → lm_N G A s (wX9 G q0 s0_44) H locs → lv_has ls 6 [(0, .ref (q0 0)), (1, .int x1_44), (2, .int x2_44)] → W p l e (lm_rk 2) s m ([.ref (q0 0)] : List Value).toArray below meth c H locs 0 0 (MQ below (lm_post G (wX9 G q0 R) none A) ([.ref (q0 0)] : List Value).toArray s 0 0 A) (F0 m 44 ls []) := by
            intro n
            induction n with
            | zero => intro x1_44 x2_44 s0_44 H locs ls hF; exact (lm_lpz hF).elim
            | succ n ih44 =>
              intro x1_44 x2_44 s0_44 H locs ls hF hN hl
              have hF : bX9_laySale_44 k38 (lm_lp (fun k a => bX9_laySale_44 k38 k a.1 a.2.1 a.2.2) n) x1_44 x2_44 s0_44 = some R := lm_lps hF
              generalize lm_lp (fun k a => bX9_laySale_44 k38 k a.1 a.2.1 a.2.2) n = k44 at hF ih44
              have J82 : ∀ (x1_82 : Int32) (x2_82 : Int32) (y0_82 : Int32) (s0_82 : lm_St) (H : Heap) (locs : List Loc) (ls : Array Slot), jX9_laySale_82 k38 k44 x1_82 x2_82 y0_82 s0_82 = some R → lm_N G A s (wX9 G q0 s0_82) H locs → lv_has ls 6 [(0, .ref (q0 0)), (1, .int x1_82), (2, .int x2_82)] → W p l e (lm_rk 2) s m ([.ref (q0 0)] : List Value).toArray below meth c H locs 0 0 (MQ below (lm_post G (wX9 G q0 R) none A) ([.ref (q0 0)] : List Value).toArray s 0 0 A) (F0 m 82 ls [.int y0_82]) := by
                intro x1_82 x2_82 y0_82 s0_82 H locs ls hF hN hl
                have L86 : ∀ (n : Nat) (x1_86 : Int32) (x2_86 : Int32) (x3_86 : Int32) (x4_86 : Int32) (s0_86 : lm_St) (H : Heap) (locs : List Loc) (ls : Array Slot), lm_lp (fun k a => bX9_laySale_86 k38 k44 k a.1 a.2.1 a.2.2.1 a.2.2.2.1 a.2.2.2.2) n (x1_86, x2_86, x3_86, x4_86, s0_86) = some R → lm_N G A s (wX9 G q0 s0_86) H locs → lv_has ls 6 [(0, .ref (q0 0)), (1, .int x1_86), (2, .int x2_86), (3, .int x3_86), (4, .int x4_86)] → W p l e (lm_rk 2) s m ([.ref (q0 0)] : List Value).toArray below meth c H locs 0 0 (MQ below (lm_post G (wX9 G q0 R) none A) ([.ref (q0 0)] : List Value).toArray s 0 0 A) (F0 m 86 ls []) := by
                  intro n
                  induction n with
                  | zero => intro x1_86 x2_86 x3_86 x4_86 s0_86 H locs ls hF; exact (lm_lpz hF).elim
                  | succ n ih86 =>
                    intro x1_86 x2_86 x3_86 x4_86 s0_86 H locs ls hF hN hl
                    have hF : bX9_laySale_86 k38 k44 (lm_lp (fun k a => bX9_laySale_86 k38 k44 k a.1 a.2.1 a.2.2.1 a.2.2.2.1 a.2.2.2.2) n) x1_86 x2_86 x3_86 x4_86 s0_86 = some R := lm_lps hF
                    generalize lm_lp (fun k a => bX9_laySale_86 k38 k44 k a.1 a.2.1 a.2.2.1 a.2.2.2.1 a.2.2.2.2) n = k86 at hF ih86
                    have J164 : ∀ (x1_164 : Int32) (x2_164 : Int32) (x3_164 : Int32) (s0_164 : lm_St) (H : Heap) (locs : List Loc) (ls : Array Slot), jX9_laySale_164 k38 k44 x1_164 x2_164 x3_164 s0_164 = some R → lm_N G A s (wX9 G q0 s0_164) H locs → lv_has ls 6 [(0, .ref (q0 0)), (1, .int x1_164), (2, .int x2_164), (3, .int x3_164)] → W p l e (lm_rk 2) s m ([.ref (q0 0)] : List Value).toArray below meth c H locs 0 0 (MQ below (lm_post G (wX9 G q0 R) none A) ([.ref (q0 0)] : List Value).toArray s 0 0 A) (F0 m 164 ls []) := by
                      intro x1_164 x2_164 x3_164 s0_164 H locs ls hF hN hl
                      refine lv_aload_n hx hb dX9_laySale_164 rfl (lv_at hl 0 rfl) ?_
                      refine lm_get B hN (ci := 9) hiX9 0 rfl rfl 18 (by decide) (by decide +kernel) (v := .ref (q0 10)) rfl dX9_laySale_165 ?_
                      refine lv_sipush (v := 128) hx hb dX9_laySale_168 (by decide) ?_
                      refine lv_iload_n hx hb dX9_laySale_171 rfl (lv_at hl 1 rfl) ?_
                      refine lv_imul hx hb dX9_laySale_172 ?_
                      refine lv_iload_n hx hb dX9_laySale_173 rfl (lv_at hl 2 rfl) ?_
                      refine lv_iadd hx hb dX9_laySale_174 ?_
                      refine lv_iload_n hx hb dX9_laySale_175 rfl (lv_at hl 3 rfl) ?_
                      obtain ⟨z1, hF⟩ := lm_gIe hF
                      refine lm_ast B hN 10 (f := (s0_164.2.1 9)) rfl z1 (wX9 G q0 (lm_sA s0_164 9 (upd (s0_164.2.1 9) (((128 : Int32) * x1_164) + x2_164).toNatClampNeg x3_164))) (wX9_r0a9 _ _ _ _) dX9_laySale_176 (fun H locs hN => ?_)
                      refine lv_iinc (v := (x2_164 + 1)) (lv' := [(2, .int (x2_164 + 1)), (0, .ref (q0 0)), (1, .int x1_164), (3, .int x3_164)]) hx hb dX9_laySale_177 hl (k := 2) rfl rfl (by decide) rfl (fun ls hl => ?_)
                      refine lv_goto (tgt := 44) hx hb dX9_laySale_180 (by decide) ?_
                      exact ih44 _ _ _ _ _ _ hF hN (lv_sub hl [1, 2, 0] rfl)
                    have J158 : ∀ (x1_158 : Int32) (x2_158 : Int32) (x3_158 : Int32) (x4_158 : Int32) (s0_158 : lm_St) (H : Heap) (locs : List Loc) (ls : Array Slot), jX9_laySale_158 k38 k44 k86 x1_158 x2_158 x3_158 x4_158 s0_158 = some R → lm_N G A s (wX9 G q0 s0_158) H locs → lv_has ls 6 [(0, .ref (q0 0)), (1, .int x1_158), (2, .int x2_158), (3, .int x3_158), (4, .int x4_158)] → W p l e (lm_rk 2) s m ([.ref (q0 0)] : List Value).toArray below meth c H locs 0 0 (MQ below (lm_post G (wX9 G q0 R) none A) ([.ref (q0 0)] : List Value).toArray s 0 0 A) (F0 m 158 ls []) := by
                      intro x1_158 x2_158 x3_158 x4_158 s0_158 H locs ls hF hN hl
                      refine lv_iinc (v := (x4_158 + 1)) (lv' := [(4, .int (x4_158 + 1)), (0, .ref (q0 0)), (1, .int x1_158), (2, .int x2_158), (3, .int x3_158)]) hx hb dX9_laySale_158 hl (k := 4) rfl rfl (by decide) rfl (fun ls hl => ?_)
                      refine lv_goto (tgt := 86) hx hb dX9_laySale_161 (by decide) ?_
                      exact ih86 _ _ _ _ _ _ _ _ hF hN (lv_sub hl [1, 2, 3, 4, 0] rfl)
                    have J157 : ∀ (x1_157 : Int32) (x2_157 : Int32) (x4_157 : Int32) (y0_157 : Int32) (s0_157 : lm_St) (H : Heap) (locs : List Loc) (ls : Array Slot), jX9_laySale_157 k38 k44 k86 x1_157 x2_157 x4_157 y0_157 s0_157 = some R → lm_N G A s (wX9 G q0 s0_157) H locs → lv_has ls 6 [(0, .ref (q0 0)), (1, .int x1_157), (2, .int x2_157), (4, .int x4_157)] → W p l e (lm_rk 2) s m ([.ref (q0 0)] : List Value).toArray below meth c H locs 0 0 (MQ below (lm_post G (wX9 G q0 R) none A) ([.ref (q0 0)] : List Value).toArray s 0 0 A) (F0 m 157 ls [.int y0_157]) := by
                      intro x1_157 x2_157 x4_157 y0_157 s0_157 H locs ls hF hN hl
                      refine lv_istore_n (lv' := [(3, .int y0_157), (0, .ref (q0 0)), (1, .int x1_157), (2, .int x2_157), (4, .int x4_157)]) hx hb dX9_laySale_157 rfl hl (by decide) rfl (fun ls hl => ?_)
                      exact J158 _ _ _ _ _ _ _ _ hF hN (lv_sub hl [1, 2, 3, 0, 4] rfl)
                    refine lv_iload hx hb dX9_laySale_86 (lv_at hl 4 rfl) ?_
                    refine lv_aload_n hx hb dX9_laySale_88 rfl (lv_at hl 0 rfl) ?_
                    refine lm_get B hN (ci := 9) hiX9 0 rfl rfl 3 (by decide) (by decide +kernel) (v := .int (s0_86.1 2)) rfl dX9_laySale_89 ?_
                    refine lv_icmp_ge (tgt := 164) hx hb dX9_laySale_92 (by decide) (fun c2 => ?_) (fun c2 => ?_)
                    · have hF := lm_itp c2 hF
                      exact J164 _ _ _ _ _ _ _ hF hN (lv_sub hl [0, 1, 2, 3] rfl)
                    · have hF := lm_itn c2 hF
                      refine lv_aload_n hx hb dX9_laySale_95 rfl (lv_at hl 0 rfl) ?_
                      refine lm_get B hN (ci := 9) hiX9 0 rfl rfl 12 (by decide) (by decide +kernel) (v := .ref (q0 6)) rfl dX9_laySale_96 ?_
                      refine lv_iload_n hx hb dX9_laySale_99 rfl (lv_at hl 1 rfl) ?_
                      obtain ⟨z3, hF⟩ := lm_gIe hF
                      refine lm_ald B hN 6 (f := (s0_86.2.1 5)) rfl z3 dX9_laySale_100 ?_
                      refine lv_iconst (v := 1) hx hb dX9_laySale_101 (by decide) ?_
                      refine lv_icmp_ne (tgt := 164) hx hb dX9_laySale_102 (by decide) (fun c4 => ?_) (fun c4 => ?_)
                      · have hF := lm_itn c4 hF
                        exact J164 _ _ _ _ _ _ _ hF hN (lv_sub hl [0, 1, 2, 3] rfl)
                      · have hF := lm_itp c4 hF
                        refine lv_iload_n hx hb dX9_laySale_105 rfl (lv_at hl 2 rfl) ?_
                        refine lv_iload hx hb dX9_laySale_106 (lv_at hl 4 rfl) ?_
                        refine lv_ishr hx hb dX9_laySale_108 ?_
                        refine lv_iconst (v := 1) hx hb dX9_laySale_109 (by decide) ?_
                        refine lv_iand hx hb dX9_laySale_110 ?_
                        refine lv_if_ne (tgt := 158) hx hb dX9_laySale_111 (by decide) (fun c5 => ?_) (fun c5 => ?_)
                        · have hF := lm_itn c5 hF
                          exact J158 _ _ _ _ _ _ _ _ hF hN (lv_sub hl [0, 1, 2, 3, 4] rfl)
                        · have hF := lm_itp c5 hF
                          refine lv_aload_n hx hb dX9_laySale_114 rfl (lv_at hl 0 rfl) ?_
                          refine lv_iload hx hb dX9_laySale_115 (lv_at hl 4 rfl) ?_
                          refine lv_iload_n hx hb dX9_laySale_117 rfl (lv_at hl 1 rfl) ?_
                          obtain ⟨⟨r6, t6_0⟩, hc6, hF⟩ := lm_bd hF
                          have hF := lm_un2E hF
                          refine lm_runA B hN (lm_hrV B hN hl.1 (lm_cutA B hN) (n := 2) (As := [.int x4_86, .int x1_86]) (rest := []) (hX9_wants l G q0 hc6) gX9_laySale_X9_wants rfl (by decide +kernel) rfl (by decide) (by decide) (ci := 9) (q0 := 0) rfl rfl rfl (Nat.le_of_ble_eq_true rfl) dX9_laySale_118) (fun H locs hN => ?_)
                          refine lv_aload_n hx hb dX9_laySale_121 rfl (lv_at hl 0 rfl) ?_
                          refine lm_get B hN (ci := 9) hiX9 0 rfl rfl 18 (by decide) (by decide +kernel) (v := .ref (q0 10)) rfl dX9_laySale_122 ?_
                          refine lv_sipush (v := 128) hx hb dX9_laySale_125 (by decide) ?_
                          refine lv_iload_n hx hb dX9_laySale_128 rfl (lv_at hl 1 rfl) ?_
                          refine lv_imul hx hb dX9_laySale_129 ?_
                          refine lv_sipush (v := 128) hx hb dX9_laySale_130 (by decide) ?_
                          refine lv_iadd hx hb dX9_laySale_133 ?_
                          refine lv_iload_n hx hb dX9_laySale_134 rfl (lv_at hl 2 rfl) ?_
                          refine lv_iconst (v := 1) hx hb dX9_laySale_135 (by decide) ?_
                          refine lv_iload hx hb dX9_laySale_136 (lv_at hl 4 rfl) ?_
                          refine lv_ishl hx hb dX9_laySale_138 ?_
                          refine lv_ior hx hb dX9_laySale_139 ?_
                          refine lv_iadd hx hb dX9_laySale_140 ?_
                          obtain ⟨z7, hF⟩ := lm_gIe hF
                          refine lm_ald B hN 10 (f := (t6_0.2.1 9)) rfl z7 dX9_laySale_141 ?_
                          refine lv_iadd hx hb dX9_laySale_142 ?_
                          refine lv_topi (fun z8 ez8 => ?_)
                          have hF := lm_nmE ez8 hF
                          refine lv_istore (lv' := [(5, .int z8), (0, .ref (q0 0)), (1, .int x1_86), (2, .int x2_86), (3, .int x3_86), (4, .int x4_86)]) hx hb dX9_laySale_143 hl (by decide) rfl (fun ls hl => ?_)
                          refine lv_iload hx hb dX9_laySale_145 (lv_at hl 0 rfl) ?_
                          refine lv_iload_n hx hb dX9_laySale_147 rfl (lv_at hl 4 rfl) ?_
                          refine lv_icmp_le (tgt := 156) hx hb dX9_laySale_148 (by decide) (fun c9 => ?_) (fun c9 => ?_)
                          · have hF := lm_itp c9 hF
                            refine lv_iload_n hx hb dX9_laySale_156 rfl (lv_at hl 4 rfl) ?_
                            exact J157 _ _ _ _ _ _ _ _ hF hN (lv_sub hl [1, 2, 3, 5] rfl)
                          · have hF := lm_itn c9 hF
                            refine lv_iload hx hb dX9_laySale_151 (lv_at hl 0 rfl) ?_
                            refine lv_goto (tgt := 157) hx hb dX9_laySale_153 (by decide) ?_
                            exact J157 _ _ _ _ _ _ _ _ hF hN (lv_sub hl [1, 2, 3, 5] rfl)
                refine lv_istore_n (lv' := [(3, .int y0_82), (0, .ref (q0 0)), (1, .int x1_82), (2, .int x2_82)]) hx hb dX9_laySale_82 rfl hl (by decide) rfl (fun ls hl => ?_)
                refine lv_iconst (v := 0) hx hb dX9_laySale_83 (by decide) ?_
                refine lv_istore (lv' := [(4, .int (0 : Int32)), (3, .int y0_82), (0, .ref (q0 0)), (1, .int x1_82), (2, .int x2_82)]) hx hb dX9_laySale_84 hl (by decide) rfl (fun ls hl => ?_)
                exact L86 5000 _ _ _ _ _ _ _ _ hF hN (lv_sub hl [2, 3, 4, 1, 0] rfl)
              refine lv_iload_n hx hb dX9_laySale_44 rfl (lv_at hl 2 rfl) ?_
              refine lv_sipush (v := 128) hx hb dX9_laySale_45 (by decide) ?_
              refine lv_icmp_ge (tgt := 183) hx hb dX9_laySale_48 (by decide) (fun c10 => ?_) (fun c10 => ?_)
              · have hF := lm_itp c10 hF
                refine lv_iinc (v := (x1_44 + (-1))) (lv' := [(1, .int (x1_44 + (-1))), (0, .ref (q0 0)), (2, .int x2_44)]) hx hb dX9_laySale_183 hl (k := 1) rfl rfl (by decide) rfl (fun ls hl => ?_)
                refine lv_goto (tgt := 38) hx hb dX9_laySale_186 (by decide) ?_
                exact ih38 _ _ _ _ _ hF hN (lv_sub hl [1, 0] rfl)
              · have hF := lm_itn c10 hF
                refine lv_aload_n hx hb dX9_laySale_51 rfl (lv_at hl 0 rfl) ?_
                refine lm_get B hN (ci := 9) hiX9 0 rfl rfl 12 (by decide) (by decide +kernel) (v := .ref (q0 6)) rfl dX9_laySale_52 ?_
                refine lv_iload_n hx hb dX9_laySale_55 rfl (lv_at hl 1 rfl) ?_
                obtain ⟨z11, hF⟩ := lm_gIe hF
                refine lm_ald B hN 6 (f := (s0_44.2.1 5)) rfl z11 dX9_laySale_56 ?_
                refine lv_if_ne (tgt := 79) hx hb dX9_laySale_57 (by decide) (fun c12 => ?_) (fun c12 => ?_)
                · have hF := lm_itn c12 hF
                  refine lv_sipush (v := -1000) hx hb dX9_laySale_79 (by decide) ?_
                  exact J82 _ _ _ _ _ _ _ hF hN (lv_sub hl [0, 1, 2] rfl)
                · have hF := lm_itp c12 hF
                  refine lv_aload_n hx hb dX9_laySale_60 rfl (lv_at hl 0 rfl) ?_
                  refine lm_get B hN (ci := 9) hiX9 0 rfl rfl 18 (by decide) (by decide +kernel) (v := .ref (q0 10)) rfl dX9_laySale_61 ?_
                  refine lv_sipush (v := 128) hx hb dX9_laySale_64 (by decide) ?_
                  refine lv_iload_n hx hb dX9_laySale_67 rfl (lv_at hl 1 rfl) ?_
                  refine lv_imul hx hb dX9_laySale_68 ?_
                  refine lv_sipush (v := 128) hx hb dX9_laySale_69 (by decide) ?_
                  refine lv_iadd hx hb dX9_laySale_72 ?_
                  refine lv_iload_n hx hb dX9_laySale_73 rfl (lv_at hl 2 rfl) ?_
                  refine lv_iadd hx hb dX9_laySale_74 ?_
                  obtain ⟨z13, hF⟩ := lm_gIe hF
                  refine lm_ald B hN 10 (f := (s0_44.2.1 9)) rfl z13 dX9_laySale_75 ?_
                  refine lv_goto (tgt := 82) hx hb dX9_laySale_76 (by decide) ?_
                  exact J82 _ _ _ _ _ _ _ hF hN (lv_sub hl [0, 1, 2] rfl)
          refine lv_iload_n hx hb dX9_laySale_38 rfl (lv_at hl 1 rfl) ?_
          refine lv_if_lt (tgt := 189) hx hb dX9_laySale_39 (by decide) (fun c14 => ?_) (fun c14 => ?_)
          · have hF := lm_itp c14 hF
            cases hF
            exact lm_vret B hN dX9_laySale_189
          · have hF := lm_itn c14 hF
            refine lv_iconst (v := 0) hx hb dX9_laySale_42 (by decide) ?_
            refine lv_istore_n (lv' := [(2, .int (0 : Int32)), (0, .ref (q0 0)), (1, .int x1_38)]) hx hb dX9_laySale_43 rfl hl (by decide) rfl (fun ls hl => ?_)
            exact L44 5000 _ _ _ _ _ _ hF hN (lv_sub hl [1, 2, 0] rfl)
      refine lv_iload_n hx hb dX9_laySale_2 rfl (lv_at hl 1 rfl) ?_
      refine lv_sipush (v := 128) hx hb dX9_laySale_3 (by decide) ?_
      refine lv_icmp_ge (tgt := 31) hx hb dX9_laySale_6 (by decide) (fun c15 => ?_) (fun c15 => ?_)
      · have hF := lm_itp c15 hF
        refine lv_aload_n hx hb dX9_laySale_31 rfl (lv_at hl 0 rfl) ?_
        refine lm_get B hN (ci := 9) hiX9 0 rfl rfl 3 (by decide) (by decide +kernel) (v := .int (s0_2.1 2)) rfl dX9_laySale_32 ?_
        refine lv_iconst (v := 1) hx hb dX9_laySale_35 (by decide) ?_
        refine lv_isub hx hb dX9_laySale_36 ?_
        refine lv_istore_n (lv' := [(1, .int ((s0_2.1 2) - (1 : Int32))), (0, .ref (q0 0))]) hx hb dX9_laySale_37 rfl hl (by decide) rfl (fun ls hl => ?_)
        exact L38 5000 _ _ _ _ _ hF hN (lv_sub hl [1, 0] rfl)
      · have hF := lm_itn c15 hF
        refine lv_aload_n hx hb dX9_laySale_9 rfl (lv_at hl 0 rfl) ?_
        refine lm_get B hN (ci := 9) hiX9 0 rfl rfl 18 (by decide) (by decide +kernel) (v := .ref (q0 10)) rfl dX9_laySale_10 ?_
        refine lv_sipush (v := 128) hx hb dX9_laySale_13 (by decide) ?_
        refine lv_aload_n hx hb dX9_laySale_16 rfl (lv_at hl 0 rfl) ?_
        refine lm_get B hN (ci := 9) hiX9 0 rfl rfl 3 (by decide) (by decide +kernel) (v := .int (s0_2.1 2)) rfl dX9_laySale_17 ?_
        refine lv_imul hx hb dX9_laySale_20 ?_
        refine lv_iload_n hx hb dX9_laySale_21 rfl (lv_at hl 1 rfl) ?_
        refine lv_iadd hx hb dX9_laySale_22 ?_
        refine lv_iconst (v := 0) hx hb dX9_laySale_23 (by decide) ?_
        obtain ⟨z16, hF⟩ := lm_gIe hF
        refine lm_ast B hN 10 (f := (s0_2.2.1 9)) rfl z16 (wX9 G q0 (lm_sA s0_2 9 (upd (s0_2.2.1 9) (((128 : Int32) * (s0_2.1 2)) + x1_2).toNatClampNeg (0 : Int32)))) (wX9_r0a9 _ _ _ _) dX9_laySale_24 (fun H locs hN => ?_)
        refine lv_iinc (v := (x1_2 + 1)) (lv' := [(1, .int (x1_2 + 1)), (0, .ref (q0 0))]) hx hb dX9_laySale_25 hl (k := 1) rfl rfl (by decide) rfl (fun ls hl => ?_)
        refine lv_goto (tgt := 2) hx hb dX9_laySale_28 (by decide) ?_
        exact ih2 _ _ _ _ _ hF hN (lv_sub hl [1, 0] rfl)
  refine lv_iconst (v := 0) hx hb dX9_laySale_0 (by decide) ?_
  refine lv_istore_n (lv' := [(1, .int (0 : Int32)), (0, .ref (q0 0))]) hx hb dX9_laySale_1 rfl hl (by decide) rfl (fun ls hl => ?_)
  exact L2 5000 _ _ _ _ _ hF hN (lv_sub hl [1, 0] rfl)
def fX9_letter (s0 : lm_St) (x1 : Int32) : Option (Int32 × lm_St) := (fX9_in x1.toInt64 (1 : Int64) (126 : Int64)).bind (fun r1 => if r1 = 0 then (some ((-102 : Int32), s0)) else (if (s0.1 0) = (32 : Int32) then (some ((-104 : Int32), s0)) else (lm_gI (s0.1 0) 32 (some (((s0.1 0) + (1 : Int32)), (lm_sF (lm_sA s0 0 (upd (s0.2.1 0) (s0.1 0).toNatClampNeg x1)) 0 ((s0.1 0) + (1 : Int32))))))))
set_option maxHeartbeats 4000000 in
set_option maxRecDepth 100000 in
theorem hX9_letter (l : Launch) (G : lm_G) (q0 : Nat → Nat) {s0 : lm_St} {x1 : Int32} {R : Int32 × lm_St} (hF : fX9_letter s0 x1 = some R) : lm_C l G yX9_letter wsX9_letter 2 [.ref (q0 0), .int x1] (wX9 G q0 s0) (some (.int R.1)) (wX9 G q0 R.2) := by
  refine lm_C.of (cc := cX9_letter) (maxL := 2) (ret := (some .int)) (by decide) rfl (Nat.le_of_ble_eq_true rfl) ?_
  intro p e s m below meth c A ls B hN hl
  have hx := B.1.1
  have hb := B.1.2.1
  have hown := B.1.2.2.2.1
  have hts := B.1.2.2.2.2
  have hiX9 : ∀ w ∈ wsX90, w ∈ wsX9_letter := by decide +kernel
  have hl : lv_has ls 2 [(0, .ref (q0 0)), (1, .int x1)] := hl
  refine lv_iload_n hx hb dX9_letter_0 rfl (lv_at hl 1 rfl) ?_
  refine lv_i2l hx hb dX9_letter_1 rfl ?_
  refine lv_lconst (v := 1) hx hb dX9_letter_2 (by decide) ?_
  refine lv_ldc2 (v := 126) hx hb hown (hts (.constantLong RX9 65 (126)) (by decide +kernel)) dX9_letter_3 ?_
  obtain ⟨r1, hc1, hF⟩ := lm_bd hF
  refine lm_run0 B hN (lm_hrT B hN hl.1 (lm_cut0 B hN) (n := 3) (As := [.long x1.toInt64, .long (1 : Int64), .long (126 : Int64)]) (rest := []) (hX9_in l G hc1) gX9_letter_X9_in rfl (by decide +kernel) rfl (by decide) (by decide) rfl (Nat.le_of_ble_eq_true rfl) dX9_letter_6) (fun H locs hN => ?_)
  refine lv_if_ne (tgt := 15) hx hb dX9_letter_9 (by decide) (fun c2 => ?_) (fun c2 => ?_)
  · have hF := lm_itn c2 hF
    refine lv_aload_n hx hb dX9_letter_15 rfl (lv_at hl 0 rfl) ?_
    refine lm_get B hN (ci := 9) hiX9 0 rfl rfl 1 (by decide) (by decide +kernel) (v := .int (s0.1 0)) rfl dX9_letter_16 ?_
    refine lv_bipush (v := 32) hx hb dX9_letter_19 (by decide) ?_
    refine lv_icmp_ne (tgt := 27) hx hb dX9_letter_21 (by decide) (fun c3 => ?_) (fun c3 => ?_)
    · have hF := lm_itn c3 hF
      refine lv_aload_n hx hb dX9_letter_27 rfl (lv_at hl 0 rfl) ?_
      refine lm_get B hN (ci := 9) hiX9 0 rfl rfl 0 (by decide) (by decide +kernel) (v := .ref (q0 1)) rfl dX9_letter_28 ?_
      refine lv_aload_n hx hb dX9_letter_31 rfl (lv_at hl 0 rfl) ?_
      refine lm_get B hN (ci := 9) hiX9 0 rfl rfl 1 (by decide) (by decide +kernel) (v := .int (s0.1 0)) rfl dX9_letter_32 ?_
      refine lv_iload_n hx hb dX9_letter_35 rfl (lv_at hl 1 rfl) ?_
      obtain ⟨z4, hF⟩ := lm_gIe hF
      refine lm_ast B hN 1 (f := (s0.2.1 0)) rfl z4 (wX9 G q0 (lm_sA s0 0 (upd (s0.2.1 0) (s0.1 0).toNatClampNeg x1))) (wX9_r0a0 _ _ _ _) dX9_letter_36 (fun H locs hN => ?_)
      refine lv_aload_n hx hb dX9_letter_37 rfl (lv_at hl 0 rfl) ?_
      refine lv_dup hx hb dX9_letter_38 rfl ?_
      refine lm_get B hN (ci := 9) hiX9 0 rfl rfl 1 (by decide) (by decide +kernel) (v := .int (s0.1 0)) rfl dX9_letter_39 ?_
      refine lv_iconst (v := 1) hx hb dX9_letter_42 (by decide) ?_
      refine lv_iadd hx hb dX9_letter_43 ?_
      refine lm_put B hN (ci := 9) hiX9 tyX9 tyX9_ok nmX9 0 rfl rfl 1 (by decide) (by decide +kernel) (by decide) (v := .int ((s0.1 0) + (1 : Int32))) rfl rfl (Nat.le_of_ble_eq_true rfl) (wX9 G q0 (lm_sF (lm_sA s0 0 (upd (s0.2.1 0) (s0.1 0).toNatClampNeg x1)) 0 ((s0.1 0) + (1 : Int32)))) (wX9_r0f0 _ _ _ _) dX9_letter_44 (fun H locs hN => ?_)
      refine lv_aload_n hx hb dX9_letter_47 rfl (lv_at hl 0 rfl) ?_
      refine lm_get B hN (ci := 9) hiX9 0 rfl rfl 1 (by decide) (by decide +kernel) (v := .int ((s0.1 0) + (1 : Int32))) rfl dX9_letter_48 ?_
      cases hF
      exact lm_iret B hN dX9_letter_51
    · have hF := lm_itp c3 hF
      refine lv_bipush (v := -104) hx hb dX9_letter_24 (by decide) ?_
      cases hF
      exact lm_iret B hN dX9_letter_26
  · have hF := lm_itp c2 hF
    refine lv_bipush (v := -102) hx hb dX9_letter_12 (by decide) ?_
    cases hF
    exact lm_iret B hN dX9_letter_14
def jX9_missedIf_50 (y0_50 : Int32) (y1_50 : Int32) (y2_50 : Int32) (s0_50 : lm_St) : Option (Int32 × lm_St) := (fX9_missedBy y2_50 y1_50 y0_50).bind (fun r1 => some (r1, s0_50))
def jX9_missedIf_27 (x1_27 : Int32) (x2_27 : Int32) (y0_27 : Int32) (s0_27 : lm_St) : Option (Int32 × lm_St) := lm_gI x1_27 7 (if y0_27 ≤ (20 : Int32) then (jX9_missedIf_50 y0_27 x2_27 ((s0_27.2.1 1) x1_27.toNatClampNeg) s0_27) else (jX9_missedIf_50 (20 : Int32) x2_27 ((s0_27.2.1 1) x1_27.toNatClampNeg) s0_27))
def fX9_missedIf (s0 : lm_St) (x1 : Int32) (x2 : Int32) (x3 : Int32) : Option (Int32 × lm_St) := lm_gI x1 7 (if ((s0.2.1 5) x1.toNatClampNeg) = (1 : Int32) then (lm_gI x1 7 (jX9_missedIf_27 x1 x2 ((s0.2.1 4) x1.toNatClampNeg) s0)) else (lm_gI x1 7 (jX9_missedIf_27 x1 x2 (((s0.2.1 4) x1.toNatClampNeg) + x3) s0)))
set_option maxHeartbeats 4000000 in
set_option maxRecDepth 100000 in
theorem hX9_missedIf (l : Launch) (G : lm_G) (q0 : Nat → Nat) {s0 : lm_St} {x1 : Int32} {x2 : Int32} {x3 : Int32} {R : Int32 × lm_St} (hF : fX9_missedIf s0 x1 x2 x3 = some R) : lm_C l G yX9_missedIf wsX9_missedIf 2 [.ref (q0 0), .int x1, .int x2, .int x3] (wX9 G q0 s0) (some (.int R.1)) (wX9 G q0 R.2) := by
  refine lm_C.of (cc := cX9_missedIf) (maxL := 5) (ret := (some .int)) (by decide) rfl (Nat.le_of_ble_eq_true rfl) ?_
  intro p e s m below meth c A ls B hN hl
  have hx := B.1.1
  have hb := B.1.2.1
  have hown := B.1.2.2.2.1
  have hts := B.1.2.2.2.2
  have hiX9 : ∀ w ∈ wsX90, w ∈ wsX9_missedIf := by decide +kernel
  have hl : lv_has ls 5 [(0, .ref (q0 0)), (1, .int x1), (2, .int x2), (3, .int x3)] := hl
  have J27 : ∀ (x1_27 : Int32) (x2_27 : Int32) (y0_27 : Int32) (s0_27 : lm_St) (H : Heap) (locs : List Loc) (ls : Array Slot), jX9_missedIf_27 x1_27 x2_27 y0_27 s0_27 = some R → lm_N G A s (wX9 G q0 s0_27) H locs → lv_has ls 5 [(0, .ref (q0 0)), (1, .int x1_27), (2, .int x2_27)] → W p l e (lm_rk 2) s m ([.ref (q0 0), .int x1, .int x2, .int x3] : List Value).toArray below meth c H locs 0 0 (MQ below (lm_post G (wX9 G q0 R.2) (some (.int R.1)) A) ([.ref (q0 0), .int x1, .int x2, .int x3] : List Value).toArray s 0 0 A) (F0 m 27 ls [.int y0_27]) := by
    intro x1_27 x2_27 y0_27 s0_27 H locs ls hF hN hl
    have J50 : ∀ (y0_50 : Int32) (y1_50 : Int32) (y2_50 : Int32) (s0_50 : lm_St) (H : Heap) (locs : List Loc) (ls : Array Slot), jX9_missedIf_50 y0_50 y1_50 y2_50 s0_50 = some R → lm_N G A s (wX9 G q0 s0_50) H locs → lv_has ls 5 [] → W p l e (lm_rk 2) s m ([.ref (q0 0), .int x1, .int x2, .int x3] : List Value).toArray below meth c H locs 0 0 (MQ below (lm_post G (wX9 G q0 R.2) (some (.int R.1)) A) ([.ref (q0 0), .int x1, .int x2, .int x3] : List Value).toArray s 0 0 A) (F0 m 50 ls [.int y0_50, .int y1_50, .int y2_50]) := by
      intro y0_50 y1_50 y2_50 s0_50 H locs ls hF hN hl
      obtain ⟨r1, hc1, hF⟩ := lm_bd hF
      refine lm_run0 B hN (lm_hrT B hN hl.1 (lm_cut0 B hN) (n := 3) (As := [.int y2_50, .int y1_50, .int y0_50]) (rest := []) (hX9_missedBy l G hc1) gX9_missedIf_X9_missedBy rfl (by decide +kernel) rfl (by decide) (by decide) rfl (Nat.le_of_ble_eq_true rfl) dX9_missedIf_50) (fun H locs hN => ?_)
      cases hF
      exact lm_iret B hN dX9_missedIf_53
    refine lv_istore (lv' := [(4, .int y0_27), (0, .ref (q0 0)), (1, .int x1_27), (2, .int x2_27)]) hx hb dX9_missedIf_27 hl (by decide) rfl (fun ls hl => ?_)
    refine lv_aload_n hx hb dX9_missedIf_29 rfl (lv_at hl 1 rfl) ?_
    refine lm_get B hN (ci := 9) hiX9 0 rfl rfl 8 (by decide) (by decide +kernel) (v := .ref (q0 2)) rfl dX9_missedIf_30 ?_
    refine lv_iload_n hx hb dX9_missedIf_33 rfl (lv_at hl 2 rfl) ?_
    obtain ⟨z2, hF⟩ := lm_gIe hF
    refine lm_ald B hN 2 (f := (s0_27.2.1 1)) rfl z2 dX9_missedIf_34 ?_
    refine lv_iload_n hx hb dX9_missedIf_35 rfl (lv_at hl 3 rfl) ?_
    refine lv_iload hx hb dX9_missedIf_36 (lv_at hl 0 rfl) ?_
    refine lv_bipush (v := 20) hx hb dX9_missedIf_38 (by decide) ?_
    refine lv_icmp_le (tgt := 48) hx hb dX9_missedIf_40 (by decide) (fun c3 => ?_) (fun c3 => ?_)
    · have hF := lm_itp c3 hF
      refine lv_iload hx hb dX9_missedIf_48 (lv_at hl 0 rfl) ?_
      exact J50 _ _ _ _ _ _ _ hF hN (lv_sub hl [] rfl)
    · have hF := lm_itn c3 hF
      refine lv_bipush (v := 20) hx hb dX9_missedIf_43 (by decide) ?_
      refine lv_goto (tgt := 50) hx hb dX9_missedIf_45 (by decide) ?_
      exact J50 _ _ _ _ _ _ _ hF hN (lv_sub hl [] rfl)
  refine lv_aload_n hx hb dX9_missedIf_0 rfl (lv_at hl 0 rfl) ?_
  refine lm_get B hN (ci := 9) hiX9 0 rfl rfl 12 (by decide) (by decide +kernel) (v := .ref (q0 6)) rfl dX9_missedIf_1 ?_
  refine lv_iload_n hx hb dX9_missedIf_4 rfl (lv_at hl 1 rfl) ?_
  obtain ⟨z4, hF⟩ := lm_gIe hF
  refine lm_ald B hN 6 (f := (s0.2.1 5)) rfl z4 dX9_missedIf_5 ?_
  refine lv_iconst (v := 1) hx hb dX9_missedIf_6 (by decide) ?_
  refine lv_icmp_ne (tgt := 19) hx hb dX9_missedIf_7 (by decide) (fun c5 => ?_) (fun c5 => ?_)
  · have hF := lm_itn c5 hF
    refine lv_aload_n hx hb dX9_missedIf_19 rfl (lv_at hl 0 rfl) ?_
    refine lm_get B hN (ci := 9) hiX9 0 rfl rfl 11 (by decide) (by decide +kernel) (v := .ref (q0 5)) rfl dX9_missedIf_20 ?_
    refine lv_iload_n hx hb dX9_missedIf_23 rfl (lv_at hl 1 rfl) ?_
    obtain ⟨z6, hF⟩ := lm_gIe hF
    refine lm_ald B hN 5 (f := (s0.2.1 4)) rfl z6 dX9_missedIf_24 ?_
    refine lv_iload_n hx hb dX9_missedIf_25 rfl (lv_at hl 3 rfl) ?_
    refine lv_iadd hx hb dX9_missedIf_26 ?_
    exact J27 _ _ _ _ _ _ _ hF hN (lv_sub hl [0, 1, 2] rfl)
  · have hF := lm_itp c5 hF
    refine lv_aload_n hx hb dX9_missedIf_10 rfl (lv_at hl 0 rfl) ?_
    refine lm_get B hN (ci := 9) hiX9 0 rfl rfl 11 (by decide) (by decide +kernel) (v := .ref (q0 5)) rfl dX9_missedIf_11 ?_
    refine lv_iload_n hx hb dX9_missedIf_14 rfl (lv_at hl 1 rfl) ?_
    obtain ⟨z7, hF⟩ := lm_gIe hF
    refine lm_ald B hN 5 (f := (s0.2.1 4)) rfl z7 dX9_missedIf_15 ?_
    refine lv_goto (tgt := 27) hx hb dX9_missedIf_16 (by decide) ?_
    exact J27 _ _ _ _ _ _ _ hF hN (lv_sub hl [0, 1, 2] rfl)
def fX9_missedThen (s0 : lm_St) (x1 : Int32) : Option (Int32 × lm_St) := lm_gI x1 7 (lm_gI x1 7 (lm_gI x1 7 ((fX9_missedBy ((s0.2.1 1) x1.toNatClampNeg) ((s0.2.1 6) x1.toNatClampNeg) ((s0.2.1 7) x1.toNatClampNeg)).bind (fun r4 => some (r4, s0)))))
set_option maxHeartbeats 4000000 in
set_option maxRecDepth 100000 in
theorem hX9_missedThen (l : Launch) (G : lm_G) (q0 : Nat → Nat) {s0 : lm_St} {x1 : Int32} {R : Int32 × lm_St} (hF : fX9_missedThen s0 x1 = some R) : lm_C l G yX9_missedThen wsX9_missedThen 2 [.ref (q0 0), .int x1] (wX9 G q0 s0) (some (.int R.1)) (wX9 G q0 R.2) := by
  refine lm_C.of (cc := cX9_missedThen) (maxL := 2) (ret := (some .int)) (by decide) rfl (Nat.le_of_ble_eq_true rfl) ?_
  intro p e s m below meth c A ls B hN hl
  have hx := B.1.1
  have hb := B.1.2.1
  have hown := B.1.2.2.2.1
  have hts := B.1.2.2.2.2
  have hiX9 : ∀ w ∈ wsX90, w ∈ wsX9_missedThen := by decide +kernel
  have hl : lv_has ls 2 [(0, .ref (q0 0)), (1, .int x1)] := hl
  refine lv_aload_n hx hb dX9_missedThen_0 rfl (lv_at hl 0 rfl) ?_
  refine lm_get B hN (ci := 9) hiX9 0 rfl rfl 8 (by decide) (by decide +kernel) (v := .ref (q0 2)) rfl dX9_missedThen_1 ?_
  refine lv_iload_n hx hb dX9_missedThen_4 rfl (lv_at hl 1 rfl) ?_
  obtain ⟨z1, hF⟩ := lm_gIe hF
  refine lm_ald B hN 2 (f := (s0.2.1 1)) rfl z1 dX9_missedThen_5 ?_
  refine lv_aload_n hx hb dX9_missedThen_6 rfl (lv_at hl 0 rfl) ?_
  refine lm_get B hN (ci := 9) hiX9 0 rfl rfl 13 (by decide) (by decide +kernel) (v := .ref (q0 7)) rfl dX9_missedThen_7 ?_
  refine lv_iload_n hx hb dX9_missedThen_10 rfl (lv_at hl 1 rfl) ?_
  obtain ⟨z2, hF⟩ := lm_gIe hF
  refine lm_ald B hN 7 (f := (s0.2.1 6)) rfl z2 dX9_missedThen_11 ?_
  refine lv_aload_n hx hb dX9_missedThen_12 rfl (lv_at hl 0 rfl) ?_
  refine lm_get B hN (ci := 9) hiX9 0 rfl rfl 14 (by decide) (by decide +kernel) (v := .ref (q0 8)) rfl dX9_missedThen_13 ?_
  refine lv_iload_n hx hb dX9_missedThen_16 rfl (lv_at hl 1 rfl) ?_
  obtain ⟨z3, hF⟩ := lm_gIe hF
  refine lm_ald B hN 8 (f := (s0.2.1 7)) rfl z3 dX9_missedThen_17 ?_
  obtain ⟨r4, hc4, hF⟩ := lm_bd hF
  refine lm_run0 B hN (lm_hrT B hN hl.1 (lm_cut0 B hN) (n := 3) (As := [.int ((s0.2.1 1) x1.toNatClampNeg), .int ((s0.2.1 6) x1.toNatClampNeg), .int ((s0.2.1 7) x1.toNatClampNeg)]) (rest := []) (hX9_missedBy l G hc4) gX9_missedThen_X9_missedBy rfl (by decide +kernel) rfl (by decide) (by decide) rfl (Nat.le_of_ble_eq_true rfl) dX9_missedThen_18) (fun H locs hN => ?_)
  cases hF
  exact lm_iret B hN dX9_missedThen_21
def fX9_restore (s0 : lm_St) : Option (Int32 × lm_St) := if (s0.1 11) = (s0.1 6) then ((fX9_copy 7 (s0.2.1 11) (s0.2.1 1)).bind (fun w2 => (fX9_copy 7 (s0.2.1 12) (s0.2.1 2)).bind (fun w3 => (fX9_copy 7 (s0.2.1 13) (s0.2.1 3)).bind (fun w4 => (fX9_copy 7 (s0.2.1 14) (s0.2.1 4)).bind (fun w5 => (fX9_copy 7 (s0.2.1 15) (s0.2.1 5)).bind (fun w6 => (fX9_copy 18 (s0.2.1 16) (s0.2.1 10)).bind (fun w7 => some ((s0.1 13), (lm_sF (lm_sF (lm_sF (lm_sF (lm_sA (lm_sA (lm_sA (lm_sA (lm_sA (lm_sA s0 1 w2) 2 w3) 3 w4) 4 w5) 5 w6) 10 w7) 3 (s0.1 12)) 4 (s0.1 13)) 5 (s0.1 14)) 9 (s0.1 15)))))))))) else (some ((-103 : Int32), s0))
set_option maxHeartbeats 4000000 in
set_option maxRecDepth 100000 in
theorem hX9_restore (l : Launch) (G : lm_G) (q0 : Nat → Nat) {s0 : lm_St} {R : Int32 × lm_St} (hF : fX9_restore s0 = some R) : lm_C l G yX9_restore wsX9_restore 2 [.ref (q0 0)] (wX9 G q0 s0) (some (.int R.1)) (wX9 G q0 R.2) := by
  refine lm_C.of (cc := cX9_restore) (maxL := 1) (ret := (some .int)) (by decide) rfl (Nat.le_of_ble_eq_true rfl) ?_
  intro p e s m below meth c A ls B hN hl
  have hx := B.1.1
  have hb := B.1.2.1
  have hown := B.1.2.2.2.1
  have hts := B.1.2.2.2.2
  have hiX9 : ∀ w ∈ wsX90, w ∈ wsX9_restore := by decide +kernel
  have hl : lv_has ls 1 [(0, .ref (q0 0))] := hl
  refine lv_aload_n hx hb dX9_restore_0 rfl (lv_at hl 0 rfl) ?_
  refine lm_get B hN (ci := 9) hiX9 0 rfl rfl 22 (by decide) (by decide +kernel) (v := .int (s0.1 11)) rfl dX9_restore_1 ?_
  refine lv_aload_n hx hb dX9_restore_4 rfl (lv_at hl 0 rfl) ?_
  refine lm_get B hN (ci := 9) hiX9 0 rfl rfl 7 (by decide) (by decide +kernel) (v := .int (s0.1 6)) rfl dX9_restore_5 ?_
  refine lv_icmp_eq (tgt := 14) hx hb dX9_restore_8 (by decide) (fun c1 => ?_) (fun c1 => ?_)
  · have hF := lm_itp c1 hF
    refine lv_aload_n hx hb dX9_restore_14 rfl (lv_at hl 0 rfl) ?_
    refine lm_get B hN (ci := 9) hiX9 0 rfl rfl 27 (by decide) (by decide +kernel) (v := .ref (q0 12)) rfl dX9_restore_15 ?_
    refine lv_aload_n hx hb dX9_restore_18 rfl (lv_at hl 0 rfl) ?_
    refine lm_get B hN (ci := 9) hiX9 0 rfl rfl 8 (by decide) (by decide +kernel) (v := .ref (q0 2)) rfl dX9_restore_19 ?_
    obtain ⟨w2, hc2, hF⟩ := lm_bd hF
    refine lm_runX B hN (lm_hrT B hN hl.1 (lm_cut B hN [12, 2] rfl (kc_wX9_c12_2 _ _ _)) (n := 2) (As := [.ref (q0 12), .ref (q0 2)]) (rest := []) (hX9_copy l G (q0 12) (q0 2) 7 (f := (s0.2.1 11)) (g := (s0.2.1 1)) hc2) gX9_restore_X9_copy rfl (by decide +kernel) rfl (by decide) (by decide) rfl (Nat.le_of_ble_eq_true rfl) dX9_restore_22) [12, 2] [0, 1, 3, 4, 5, 6, 7, 8, 9, 10, 11, 13, 14, 15, 16, 17] (kc_wX9_c12_2 _ _ _) (kr_wX9_c12_2 _ _ _) rfl (by decide) [0, 1, 17, 2, 3, 4, 5, 6, 7, 8, 9, 10, 16, 11, 12, 13, 14, 15] rfl (wX9 G q0 (lm_sA s0 1 w2)) (kj_wX9_c12_2 _ _ _ _) (fun H locs hN => ?_)
    refine lv_aload_n hx hb dX9_restore_25 rfl (lv_at hl 0 rfl) ?_
    refine lm_get B hN (ci := 9) hiX9 0 rfl rfl 28 (by decide) (by decide +kernel) (v := .ref (q0 13)) rfl dX9_restore_26 ?_
    refine lv_aload_n hx hb dX9_restore_29 rfl (lv_at hl 0 rfl) ?_
    refine lm_get B hN (ci := 9) hiX9 0 rfl rfl 9 (by decide) (by decide +kernel) (v := .ref (q0 3)) rfl dX9_restore_30 ?_
    obtain ⟨w3, hc3, hF⟩ := lm_bd hF
    refine lm_runX B hN (lm_hrT B hN hl.1 (lm_cut B hN [13, 3] rfl (kc_wX9_c13_3 _ _ _)) (n := 2) (As := [.ref (q0 13), .ref (q0 3)]) (rest := []) (hX9_copy l G (q0 13) (q0 3) 7 (f := (s0.2.1 12)) (g := (s0.2.1 2)) hc3) gX9_restore_X9_copy rfl (by decide +kernel) rfl (by decide) (by decide) rfl (Nat.le_of_ble_eq_true rfl) dX9_restore_33) [13, 3] [0, 1, 2, 4, 5, 6, 7, 8, 9, 10, 11, 12, 14, 15, 16, 17] (kc_wX9_c13_3 _ _ _) (kr_wX9_c13_3 _ _ _) rfl (by decide) [0, 1, 2, 17, 3, 4, 5, 6, 7, 8, 9, 10, 11, 16, 12, 13, 14, 15] rfl (wX9 G q0 (lm_sA (lm_sA s0 1 w2) 2 w3)) (kj_wX9_c13_3 _ _ _ _) (fun H locs hN => ?_)
    refine lv_aload_n hx hb dX9_restore_36 rfl (lv_at hl 0 rfl) ?_
    refine lm_get B hN (ci := 9) hiX9 0 rfl rfl 29 (by decide) (by decide +kernel) (v := .ref (q0 14)) rfl dX9_restore_37 ?_
    refine lv_aload_n hx hb dX9_restore_40 rfl (lv_at hl 0 rfl) ?_
    refine lm_get B hN (ci := 9) hiX9 0 rfl rfl 10 (by decide) (by decide +kernel) (v := .ref (q0 4)) rfl dX9_restore_41 ?_
    obtain ⟨w4, hc4, hF⟩ := lm_bd hF
    refine lm_runX B hN (lm_hrT B hN hl.1 (lm_cut B hN [14, 4] rfl (kc_wX9_c14_4 _ _ _)) (n := 2) (As := [.ref (q0 14), .ref (q0 4)]) (rest := []) (hX9_copy l G (q0 14) (q0 4) 7 (f := (s0.2.1 13)) (g := (s0.2.1 3)) hc4) gX9_restore_X9_copy rfl (by decide +kernel) rfl (by decide) (by decide) rfl (Nat.le_of_ble_eq_true rfl) dX9_restore_44) [14, 4] [0, 1, 2, 3, 5, 6, 7, 8, 9, 10, 11, 12, 13, 15, 16, 17] (kc_wX9_c14_4 _ _ _) (kr_wX9_c14_4 _ _ _) rfl (by decide) [0, 1, 2, 3, 17, 4, 5, 6, 7, 8, 9, 10, 11, 12, 16, 13, 14, 15] rfl (wX9 G q0 (lm_sA (lm_sA (lm_sA s0 1 w2) 2 w3) 3 w4)) (kj_wX9_c14_4 _ _ _ _) (fun H locs hN => ?_)
    refine lv_aload_n hx hb dX9_restore_47 rfl (lv_at hl 0 rfl) ?_
    refine lm_get B hN (ci := 9) hiX9 0 rfl rfl 30 (by decide) (by decide +kernel) (v := .ref (q0 15)) rfl dX9_restore_48 ?_
    refine lv_aload_n hx hb dX9_restore_51 rfl (lv_at hl 0 rfl) ?_
    refine lm_get B hN (ci := 9) hiX9 0 rfl rfl 11 (by decide) (by decide +kernel) (v := .ref (q0 5)) rfl dX9_restore_52 ?_
    obtain ⟨w5, hc5, hF⟩ := lm_bd hF
    refine lm_runX B hN (lm_hrT B hN hl.1 (lm_cut B hN [15, 5] rfl (kc_wX9_c15_5 _ _ _)) (n := 2) (As := [.ref (q0 15), .ref (q0 5)]) (rest := []) (hX9_copy l G (q0 15) (q0 5) 7 (f := (s0.2.1 14)) (g := (s0.2.1 4)) hc5) gX9_restore_X9_copy rfl (by decide +kernel) rfl (by decide) (by decide) rfl (Nat.le_of_ble_eq_true rfl) dX9_restore_55) [15, 5] [0, 1, 2, 3, 4, 6, 7, 8, 9, 10, 11, 12, 13, 14, 16, 17] (kc_wX9_c15_5 _ _ _) (kr_wX9_c15_5 _ _ _) rfl (by decide) [0, 1, 2, 3, 4, 17, 5, 6, 7, 8, 9, 10, 11, 12, 13, 16, 14, 15] rfl (wX9 G q0 (lm_sA (lm_sA (lm_sA (lm_sA s0 1 w2) 2 w3) 3 w4) 4 w5)) (kj_wX9_c15_5 _ _ _ _) (fun H locs hN => ?_)
    refine lv_aload_n hx hb dX9_restore_58 rfl (lv_at hl 0 rfl) ?_
    refine lm_get B hN (ci := 9) hiX9 0 rfl rfl 31 (by decide) (by decide +kernel) (v := .ref (q0 16)) rfl dX9_restore_59 ?_
    refine lv_aload_n hx hb dX9_restore_62 rfl (lv_at hl 0 rfl) ?_
    refine lm_get B hN (ci := 9) hiX9 0 rfl rfl 12 (by decide) (by decide +kernel) (v := .ref (q0 6)) rfl dX9_restore_63 ?_
    obtain ⟨w6, hc6, hF⟩ := lm_bd hF
    refine lm_runX B hN (lm_hrT B hN hl.1 (lm_cut B hN [16, 6] rfl (kc_wX9_c16_6 _ _ _)) (n := 2) (As := [.ref (q0 16), .ref (q0 6)]) (rest := []) (hX9_copy l G (q0 16) (q0 6) 7 (f := (s0.2.1 15)) (g := (s0.2.1 5)) hc6) gX9_restore_X9_copy rfl (by decide +kernel) rfl (by decide) (by decide) rfl (Nat.le_of_ble_eq_true rfl) dX9_restore_66) [16, 6] [0, 1, 2, 3, 4, 5, 7, 8, 9, 10, 11, 12, 13, 14, 15, 17] (kc_wX9_c16_6 _ _ _) (kr_wX9_c16_6 _ _ _) rfl (by decide) [0, 1, 2, 3, 4, 5, 17, 6, 7, 8, 9, 10, 11, 12, 13, 14, 16, 15] rfl (wX9 G q0 (lm_sA (lm_sA (lm_sA (lm_sA (lm_sA s0 1 w2) 2 w3) 3 w4) 4 w5) 5 w6)) (kj_wX9_c16_6 _ _ _ _) (fun H locs hN => ?_)
    refine lv_aload_n hx hb dX9_restore_69 rfl (lv_at hl 0 rfl) ?_
    refine lm_get B hN (ci := 9) hiX9 0 rfl rfl 32 (by decide) (by decide +kernel) (v := .ref (q0 17)) rfl dX9_restore_70 ?_
    refine lv_aload_n hx hb dX9_restore_73 rfl (lv_at hl 0 rfl) ?_
    refine lm_get B hN (ci := 9) hiX9 0 rfl rfl 20 (by decide) (by decide +kernel) (v := .ref (q0 11)) rfl dX9_restore_74 ?_
    obtain ⟨w7, hc7, hF⟩ := lm_bd hF
    refine lm_runX B hN (lm_hrT B hN hl.1 (lm_cut B hN [17, 11] rfl (kc_wX9_c17_11 _ _ _)) (n := 2) (As := [.ref (q0 17), .ref (q0 11)]) (rest := []) (hX9_copy l G (q0 17) (q0 11) 18 (f := (s0.2.1 16)) (g := (s0.2.1 10)) hc7) gX9_restore_X9_copy rfl (by decide +kernel) rfl (by decide) (by decide) rfl (Nat.le_of_ble_eq_true rfl) dX9_restore_77) [17, 11] [0, 1, 2, 3, 4, 5, 6, 7, 8, 9, 10, 12, 13, 14, 15, 16] (kc_wX9_c17_11 _ _ _) (kr_wX9_c17_11 _ _ _) rfl (by decide) [0, 1, 2, 3, 4, 5, 6, 7, 8, 9, 10, 17, 11, 12, 13, 14, 15, 16] rfl (wX9 G q0 (lm_sA (lm_sA (lm_sA (lm_sA (lm_sA (lm_sA s0 1 w2) 2 w3) 3 w4) 4 w5) 5 w6) 10 w7)) (kj_wX9_c17_11 _ _ _ _) (fun H locs hN => ?_)
    refine lv_aload_n hx hb dX9_restore_80 rfl (lv_at hl 0 rfl) ?_
    refine lv_aload_n hx hb dX9_restore_81 rfl (lv_at hl 0 rfl) ?_
    refine lm_get B hN (ci := 9) hiX9 0 rfl rfl 23 (by decide) (by decide +kernel) (v := .int (s0.1 12)) rfl dX9_restore_82 ?_
    refine lm_put B hN (ci := 9) hiX9 tyX9 tyX9_ok nmX9 0 rfl rfl 4 (by decide) (by decide +kernel) (by decide) (v := .int (s0.1 12)) rfl rfl (Nat.le_of_ble_eq_true rfl) (wX9 G q0 (lm_sF (lm_sA (lm_sA (lm_sA (lm_sA (lm_sA (lm_sA s0 1 w2) 2 w3) 3 w4) 4 w5) 5 w6) 10 w7) 3 (s0.1 12))) (wX9_r0f3 _ _ _ _) dX9_restore_85 (fun H locs hN => ?_)
    refine lv_aload_n hx hb dX9_restore_88 rfl (lv_at hl 0 rfl) ?_
    refine lv_aload_n hx hb dX9_restore_89 rfl (lv_at hl 0 rfl) ?_
    refine lm_get B hN (ci := 9) hiX9 0 rfl rfl 24 (by decide) (by decide +kernel) (v := .int (s0.1 13)) rfl dX9_restore_90 ?_
    refine lm_put B hN (ci := 9) hiX9 tyX9 tyX9_ok nmX9 0 rfl rfl 5 (by decide) (by decide +kernel) (by decide) (v := .int (s0.1 13)) rfl rfl (Nat.le_of_ble_eq_true rfl) (wX9 G q0 (lm_sF (lm_sF (lm_sA (lm_sA (lm_sA (lm_sA (lm_sA (lm_sA s0 1 w2) 2 w3) 3 w4) 4 w5) 5 w6) 10 w7) 3 (s0.1 12)) 4 (s0.1 13))) (wX9_r0f4 _ _ _ _) dX9_restore_93 (fun H locs hN => ?_)
    refine lv_aload_n hx hb dX9_restore_96 rfl (lv_at hl 0 rfl) ?_
    refine lv_aload_n hx hb dX9_restore_97 rfl (lv_at hl 0 rfl) ?_
    refine lm_get B hN (ci := 9) hiX9 0 rfl rfl 25 (by decide) (by decide +kernel) (v := .int (s0.1 14)) rfl dX9_restore_98 ?_
    refine lm_put B hN (ci := 9) hiX9 tyX9 tyX9_ok nmX9 0 rfl rfl 6 (by decide) (by decide +kernel) (by decide) (v := .int (s0.1 14)) rfl rfl (Nat.le_of_ble_eq_true rfl) (wX9 G q0 (lm_sF (lm_sF (lm_sF (lm_sA (lm_sA (lm_sA (lm_sA (lm_sA (lm_sA s0 1 w2) 2 w3) 3 w4) 4 w5) 5 w6) 10 w7) 3 (s0.1 12)) 4 (s0.1 13)) 5 (s0.1 14))) (wX9_r0f5 _ _ _ _) dX9_restore_101 (fun H locs hN => ?_)
    refine lv_aload_n hx hb dX9_restore_104 rfl (lv_at hl 0 rfl) ?_
    refine lv_aload_n hx hb dX9_restore_105 rfl (lv_at hl 0 rfl) ?_
    refine lm_get B hN (ci := 9) hiX9 0 rfl rfl 26 (by decide) (by decide +kernel) (v := .int (s0.1 15)) rfl dX9_restore_106 ?_
    refine lm_put B hN (ci := 9) hiX9 tyX9 tyX9_ok nmX9 0 rfl rfl 19 (by decide) (by decide +kernel) (by decide) (v := .int (s0.1 15)) rfl rfl (Nat.le_of_ble_eq_true rfl) (wX9 G q0 (lm_sF (lm_sF (lm_sF (lm_sF (lm_sA (lm_sA (lm_sA (lm_sA (lm_sA (lm_sA s0 1 w2) 2 w3) 3 w4) 4 w5) 5 w6) 10 w7) 3 (s0.1 12)) 4 (s0.1 13)) 5 (s0.1 14)) 9 (s0.1 15))) (wX9_r0f9 _ _ _ _) dX9_restore_109 (fun H locs hN => ?_)
    refine lv_aload_n hx hb dX9_restore_112 rfl (lv_at hl 0 rfl) ?_
    refine lm_get B hN (ci := 9) hiX9 0 rfl rfl 5 (by decide) (by decide +kernel) (v := .int (s0.1 13)) rfl dX9_restore_113 ?_
    cases hF
    exact lm_iret B hN dX9_restore_116
  · have hF := lm_itn c1 hF
    refine lv_bipush (v := -103) hx hb dX9_restore_11 (by decide) ?_
    cases hF
    exact lm_iret B hN dX9_restore_13
