def fJ0_isLatin1_aae02 : Option (Int32) := if (1 : Int32) = 0 then (lm_gB (0 : Int32) (some (0 : Int32))) else (if (0 : Int32) = 0 then (lm_gB (1 : Int32) (some (1 : Int32))) else (lm_gB (0 : Int32) (some (0 : Int32))))
set_option maxHeartbeats 4000000 in
set_option maxRecDepth 100000 in
theorem hJ0_isLatin1_aae02 (l : Launch) (G : lm_G) {R : Int32} (hF : fJ0_isLatin1_aae02 = some R) : lm_C l G yJ0_isLatin1_aae02 wsJ0_isLatin1_aae02 1 [.ref G.2.2.1] ([]) (some (.int R)) ([]) := by
  refine lm_C.of (cc := cJ0_isLatin1_aae02) (maxL := 1) (ret := (some .boolean)) (by decide) rfl (Nat.le_of_ble_eq_true rfl) ?_
  intro p e s m below meth c A ls B hN hl
  have hx := B.1.1
  have hb := B.1.2.1
  have hown := B.1.2.2.2.1
  have hts := B.1.2.2.2.2
  have hE := B.2.2.2.2.2
  have hl : lv_has ls 1 [(0, .ref G.2.2.1)] := hl
  refine va_gets hx hb hE.2.2.2 hN.2.2 hown (hts (.fieldLink RJ0 38 "java/lang/String" "COMPACT_STRINGS" "Z") (by decide +kernel)) (fun _ h => h) dJ0_isLatin1_aae02_0 ?_
  refine lv_if_eq (tgt := 17) hx hb dJ0_isLatin1_aae02_3 (by decide) (fun c1 => ?_) (fun c1 => ?_)
  · have hF := lm_itp c1 hF
    refine lv_iconst (v := 0) hx hb dJ0_isLatin1_aae02_17 (by decide) ?_
    obtain ⟨z2, hF⟩ := lm_gBe hF
    cases hF
    exact lm_zret B hN z2 dJ0_isLatin1_aae02_18
  · have hF := lm_itn c1 hF
    refine lv_aload_n hx hb dJ0_isLatin1_aae02_6 rfl (lv_at hl 0 rfl) ?_
    refine vk_getf hx hb (hE.2.2.1.1 0 (by decide)).2.1 hN.2.2 hown (hts (.fieldLink RJ0 15 "java/lang/String" "coder" "B") (by decide +kernel)) (fun _ h => h) dJ0_isLatin1_aae02_7 ?_
    refine lv_if_ne (tgt := 17) hx hb dJ0_isLatin1_aae02_10 (by decide) (fun c3 => ?_) (fun c3 => ?_)
    · have hF := lm_itn c3 hF
      refine lv_iconst (v := 0) hx hb dJ0_isLatin1_aae02_17 (by decide) ?_
      obtain ⟨z4, hF⟩ := lm_gBe hF
      cases hF
      exact lm_zret B hN z4 dJ0_isLatin1_aae02_18
    · have hF := lm_itp c3 hF
      refine lv_iconst (v := 1) hx hb dJ0_isLatin1_aae02_13 (by decide) ?_
      refine lv_goto (tgt := 18) hx hb dJ0_isLatin1_aae02_14 (by decide) ?_
      obtain ⟨z5, hF⟩ := lm_gBe hF
      cases hF
      exact lm_zret B hN z5 dJ0_isLatin1_aae02_18
def fJ0_coder_7d493 : Option (Int32) := if (1 : Int32) = 0 then (some (1 : Int32)) else (some (0 : Int32))
set_option maxHeartbeats 4000000 in
set_option maxRecDepth 100000 in
theorem hJ0_coder_7d493 (l : Launch) (G : lm_G) {R : Int32} (hF : fJ0_coder_7d493 = some R) : lm_C l G yJ0_coder_7d493 wsJ0_coder_7d493 1 [.ref G.2.2.1] ([]) (some (.int R)) ([]) := by
  refine lm_C.of (cc := cJ0_coder_7d493) (maxL := 1) (ret := (some .byte)) (by decide) rfl (Nat.le_of_ble_eq_true rfl) ?_
  intro p e s m below meth c A ls B hN hl
  have hx := B.1.1
  have hb := B.1.2.1
  have hown := B.1.2.2.2.1
  have hts := B.1.2.2.2.2
  have hE := B.2.2.2.2.2
  have hl : lv_has ls 1 [(0, .ref G.2.2.1)] := hl
  refine va_gets hx hb hE.2.2.2 hN.2.2 hown (hts (.fieldLink RJ0 38 "java/lang/String" "COMPACT_STRINGS" "Z") (by decide +kernel)) (fun _ h => h) dJ0_coder_7d493_0 ?_
  refine lv_if_eq (tgt := 13) hx hb dJ0_coder_7d493_3 (by decide) (fun c1 => ?_) (fun c1 => ?_)
  · have hF := lm_itp c1 hF
    refine lv_iconst (v := 1) hx hb dJ0_coder_7d493_13 (by decide) ?_
    cases hF
    exact lm_bret B hN rfl dJ0_coder_7d493_14
  · have hF := lm_itn c1 hF
    refine lv_aload_n hx hb dJ0_coder_7d493_6 rfl (lv_at hl 0 rfl) ?_
    refine vk_getf hx hb (hE.2.2.1.1 0 (by decide)).2.1 hN.2.2 hown (hts (.fieldLink RJ0 15 "java/lang/String" "coder" "B") (by decide +kernel)) (fun _ h => h) dJ0_coder_7d493_7 ?_
    refine lv_goto (tgt := 14) hx hb dJ0_coder_7d493_10 (by decide) ?_
    cases hF
    exact lm_bret B hN rfl dJ0_coder_7d493_14
def fJ0_length_8abf5 : Option (Int32) := (fJ0_coder_7d493).bind (fun r1 => some ((5 : Int32) >>> (r1 &&& 31)))
set_option maxHeartbeats 4000000 in
set_option maxRecDepth 100000 in
theorem hJ0_length_8abf5 (l : Launch) (G : lm_G) {R : Int32} (hF : fJ0_length_8abf5 = some R) : lm_C l G yJ0_length_8abf5 wsJ0_length_8abf5 2 [.ref G.2.2.1] ([]) (some (.int R)) ([]) := by
  refine lm_C.of (cc := cJ0_length_8abf5) (maxL := 1) (ret := (some .int)) (by decide) rfl (Nat.le_of_ble_eq_true rfl) ?_
  intro p e s m below meth c A ls B hN hl
  have hx := B.1.1
  have hb := B.1.2.1
  have hown := B.1.2.2.2.1
  have hts := B.1.2.2.2.2
  have hE := B.2.2.2.2.2
  have hl : lv_has ls 1 [(0, .ref G.2.2.1)] := hl
  refine lv_aload_n hx hb dJ0_length_8abf5_0 rfl (lv_at hl 0 rfl) ?_
  refine vk_getf hx hb (hE.2.2.1.1 0 (by decide)).2.2.1 hN.2.2 hown (hts (.fieldLink RJ0 9 "java/lang/String" "value" "[B") (by decide +kernel)) (fun _ h => h) dJ0_length_8abf5_1 ?_
  refine va_tlen hx hb (hE.2.2.1.1 0 (by decide)).2.2.2 hN.2.2 (v := 5) rfl dJ0_length_8abf5_4 ?_
  refine lv_aload_n hx hb dJ0_length_8abf5_5 rfl (lv_at hl 0 rfl) ?_
  obtain ⟨r1, hc1, hF⟩ := lm_bd hF
  refine lm_runA B hN (lm_hrU B hN hl.1 (lm_cutA B hN) (n := 0) (As := []) (rest := [.int (5 : Int32)]) (hJ0_coder_7d493 l G hc1) gJ0_length_8abf5_J0_coder_7d493 rfl (by decide +kernel) rfl (by decide) (by decide) rfl (Nat.le_of_ble_eq_true rfl) dJ0_length_8abf5_6) (fun H locs hN => ?_)
  refine lv_ishr hx hb dJ0_length_8abf5_9 ?_
  cases hF
  exact lm_iret B hN dJ0_length_8abf5_10
def fJ1_canEncode_9a6ad (x0 : Int32) : Option (Int32) := if x0 < 0 then (lm_gB (0 : Int32) (some (0 : Int32))) else (if (255 : Int32) < x0 then (lm_gB (0 : Int32) (some (0 : Int32))) else (lm_gB (1 : Int32) (some (1 : Int32))))
set_option maxHeartbeats 4000000 in
set_option maxRecDepth 100000 in
theorem hJ1_canEncode_9a6ad (l : Launch) (G : lm_G) {x0 : Int32} {R : Int32} (hF : fJ1_canEncode_9a6ad x0 = some R) : lm_C l G yJ1_canEncode_9a6ad wsJ1_canEncode_9a6ad 1 [.int x0] ([]) (some (.int R)) ([]) := by
  refine lm_C.of (cc := cJ1_canEncode_9a6ad) (maxL := 1) (ret := (some .boolean)) (by decide) rfl (Nat.le_of_ble_eq_true rfl) ?_
  intro p e s m below meth c A ls B hN hl
  have hx := B.1.1
  have hb := B.1.2.1
  have hown := B.1.2.2.2.1
  have hts := B.1.2.2.2.2
  have hE := B.2.2.2.2.2
  have hl : lv_has ls 1 [(0, .int x0)] := hl
  refine lv_iload_n hx hb dJ1_canEncode_9a6ad_0 rfl (lv_at hl 0 rfl) ?_
  refine lv_if_lt (tgt := 15) hx hb dJ1_canEncode_9a6ad_1 (by decide) (fun c1 => ?_) (fun c1 => ?_)
  · have hF := lm_itp c1 hF
    refine lv_iconst (v := 0) hx hb dJ1_canEncode_9a6ad_15 (by decide) ?_
    obtain ⟨z2, hF⟩ := lm_gBe hF
    cases hF
    exact lm_zret B hN z2 dJ1_canEncode_9a6ad_16
  · have hF := lm_itn c1 hF
    refine lv_iload_n hx hb dJ1_canEncode_9a6ad_4 rfl (lv_at hl 0 rfl) ?_
    refine lv_sipush (v := 255) hx hb dJ1_canEncode_9a6ad_5 (by decide) ?_
    refine lv_icmp_gt (tgt := 15) hx hb dJ1_canEncode_9a6ad_8 (by decide) (fun c3 => ?_) (fun c3 => ?_)
    · have hF := lm_itp c3 hF
      refine lv_iconst (v := 0) hx hb dJ1_canEncode_9a6ad_15 (by decide) ?_
      obtain ⟨z4, hF⟩ := lm_gBe hF
      cases hF
      exact lm_zret B hN z4 dJ1_canEncode_9a6ad_16
    · have hF := lm_itn c3 hF
      refine lv_iconst (v := 1) hx hb dJ1_canEncode_9a6ad_11 (by decide) ?_
      refine lv_goto (tgt := 16) hx hb dJ1_canEncode_9a6ad_12 (by decide) ?_
      obtain ⟨z5, hF⟩ := lm_gBe hF
      cases hF
      exact lm_zret B hN z5 dJ1_canEncode_9a6ad_16
def bJ1_indexOfChar_4cfef_7 (k7 : Int32 × Int32 × Int32 → Option (Int32)) (x3_7 : Int32) (x4_7 : Int32) (x5_7 : Int32) : Option (Int32) := if x3_7 ≤ x5_7 then (some (-1 : Int32)) else (lm_gI x5_7 5 (if (lm_tx x5_7.toNatClampNeg) = x4_7 then (some x5_7) else (k7 (x3_7, x4_7, (x5_7 + 1)))))
def fJ1_indexOfChar_4cfef (x1 : Int32) (x2 : Int32) (x3 : Int32) : Option (Int32) := lm_lp (fun k a => bJ1_indexOfChar_4cfef_7 k a.1 a.2.1 a.2.2) 5000 (x3, x1.toInt8.toInt32, x2)
set_option maxHeartbeats 4000000 in
set_option maxRecDepth 100000 in
theorem hJ1_indexOfChar_4cfef (l : Launch) (G : lm_G) {x1 : Int32} {x2 : Int32} {x3 : Int32} {R : Int32} (hF : fJ1_indexOfChar_4cfef x1 x2 x3 = some R) : lm_C l G yJ1_indexOfChar_4cfef wsJ1_indexOfChar_4cfef 1 [.ref G.2.2.2, .int x1, .int x2, .int x3] ([]) (some (.int R)) ([]) := by
  refine lm_C.of (cc := cJ1_indexOfChar_4cfef) (maxL := 6) (ret := (some .int)) (by decide) rfl (Nat.le_of_ble_eq_true rfl) ?_
  intro p e s m below meth c A ls B hN hl
  have hx := B.1.1
  have hb := B.1.2.1
  have hown := B.1.2.2.2.1
  have hts := B.1.2.2.2.2
  have hE := B.2.2.2.2.2
  have hl : lv_has ls 6 [(0, .ref G.2.2.2), (1, .int x1), (2, .int x2), (3, .int x3)] := hl
  have L7 : ∀ (n : Nat) (x3_7 : Int32) (x4_7 : Int32) (x5_7 : Int32) (H : Heap) (locs : List Loc) (ls : Array Slot), lm_lp (fun k a => bJ1_indexOfChar_4cfef_7 k a.1 a.2.1 a.2.2) n (x3_7, x4_7, x5_7) = some R → lm_N G A s ([]) H locs → lv_has ls 6 [(0, .ref G.2.2.2), (3, .int x3_7), (4, .int x4_7), (5, .int x5_7)] → W p l e (lm_rk 1) s m ([.ref G.2.2.2, .int x1, .int x2, .int x3] : List Value).toArray below meth c H locs 0 0 (MQ below (lm_post G ([]) (some (.int R)) A) ([.ref G.2.2.2, .int x1, .int x2, .int x3] : List Value).toArray s 0 0 A) (F0 m 7 ls []) := by
    intro n
    induction n with
    | zero => intro x3_7 x4_7 x5_7 H locs ls hF; exact (lm_lpz hF).elim
    | succ n ih7 =>
      intro x3_7 x4_7 x5_7 H locs ls hF hN hl
      have hF : bJ1_indexOfChar_4cfef_7 (lm_lp (fun k a => bJ1_indexOfChar_4cfef_7 k a.1 a.2.1 a.2.2) n) x3_7 x4_7 x5_7 = some R := lm_lps hF
      generalize lm_lp (fun k a => bJ1_indexOfChar_4cfef_7 k a.1 a.2.1 a.2.2) n = k7 at hF ih7
      refine lv_iload hx hb dJ1_indexOfChar_4cfef_7 (lv_at hl 3 rfl) ?_
      refine lv_iload_n hx hb dJ1_indexOfChar_4cfef_9 rfl (lv_at hl 1 rfl) ?_
      refine lv_icmp_ge (tgt := 31) hx hb dJ1_indexOfChar_4cfef_10 (by decide) (fun c1 => ?_) (fun c1 => ?_)
      · have hF := lm_itp c1 hF
        refine lv_iconst (v := -1) hx hb dJ1_indexOfChar_4cfef_31 (by decide) ?_
        cases hF
        exact lm_iret B hN dJ1_indexOfChar_4cfef_32
      · have hF := lm_itn c1 hF
        refine lv_aload_n hx hb dJ1_indexOfChar_4cfef_13 rfl (lv_at hl 0 rfl) ?_
        refine lv_iload hx hb dJ1_indexOfChar_4cfef_14 (lv_at hl 3 rfl) ?_
        obtain ⟨z2, hF⟩ := lm_gIe hF
        refine va_tb hx hb (hE.2.2.1.1 0 (by decide)).2.2.2 hN.2.2 z2 (v := .int (lm_tx x5_7.toNatClampNeg)) rfl dJ1_indexOfChar_4cfef_16 ?_
        refine lv_iload hx hb dJ1_indexOfChar_4cfef_17 (lv_at hl 2 rfl) ?_
        refine lv_icmp_ne (tgt := 25) hx hb dJ1_indexOfChar_4cfef_19 (by decide) (fun c3 => ?_) (fun c3 => ?_)
        · have hF := lm_itn c3 hF
          refine lv_iinc (v := (x5_7 + 1)) (lv' := [(5, .int (x5_7 + 1)), (0, .ref G.2.2.2), (3, .int x3_7), (4, .int x4_7)]) hx hb dJ1_indexOfChar_4cfef_25 hl (k := 3) rfl rfl (by decide) rfl (fun ls hl => ?_)
          refine lv_goto (tgt := 7) hx hb dJ1_indexOfChar_4cfef_28 (by decide) ?_
          exact ih7 _ _ _ _ _ _ hF hN (lv_sub hl [1, 2, 3, 0] rfl)
        · have hF := lm_itp c3 hF
          refine lv_iload hx hb dJ1_indexOfChar_4cfef_22 (lv_at hl 3 rfl) ?_
          cases hF
          exact lm_iret B hN dJ1_indexOfChar_4cfef_24
  refine lv_iload_n hx hb dJ1_indexOfChar_4cfef_0 rfl (lv_at hl 1 rfl) ?_
  refine lv_i2b hx hb dJ1_indexOfChar_4cfef_1 rfl ?_
  refine lv_istore (lv' := [(4, .int x1.toInt8.toInt32), (0, .ref G.2.2.2), (1, .int x1), (2, .int x2), (3, .int x3)]) hx hb dJ1_indexOfChar_4cfef_2 hl (by decide) rfl (fun ls hl => ?_)
  refine lv_iload_n hx hb dJ1_indexOfChar_4cfef_4 rfl (lv_at hl 3 rfl) ?_
  refine lv_istore (lv' := [(5, .int x2), (4, .int x1.toInt8.toInt32), (0, .ref G.2.2.2), (1, .int x1), (2, .int x2), (3, .int x3)]) hx hb dJ1_indexOfChar_4cfef_5 hl (by decide) rfl (fun ls hl => ?_)
  exact L7 5000 _ _ _ _ _ _ hF hN (lv_sub hl [2, 5, 1, 0] rfl)
def fJ1_indexOf_4cfef (x1 : Int32) (x2 : Int32) (x3 : Int32) : Option (Int32) := (fJ1_canEncode_9a6ad x1).bind (fun r1 => if r1 = 0 then (some (-1 : Int32)) else (if (if x2 < (0 : Int32) then (0 : Int32) else x2) < (if (5 : Int32) < x3 then (5 : Int32) else x3) then ((fJ1_indexOfChar_4cfef x1 (if x2 < (0 : Int32) then (0 : Int32) else x2) (if (5 : Int32) < x3 then (5 : Int32) else x3)).bind (fun r4 => some r4)) else (some (-1 : Int32))))
set_option maxHeartbeats 4000000 in
set_option maxRecDepth 100000 in
theorem hJ1_indexOf_4cfef (l : Launch) (G : lm_G) {x1 : Int32} {x2 : Int32} {x3 : Int32} {R : Int32} (hF : fJ1_indexOf_4cfef x1 x2 x3 = some R) : lm_C l G yJ1_indexOf_4cfef wsJ1_indexOf_4cfef 2 [.ref G.2.2.2, .int x1, .int x2, .int x3] ([]) (some (.int R)) ([]) := by
  refine lm_C.of (cc := cJ1_indexOf_4cfef) (maxL := 4) (ret := (some .int)) (by decide) rfl (Nat.le_of_ble_eq_true rfl) ?_
  intro p e s m below meth c A ls B hN hl
  have hx := B.1.1
  have hb := B.1.2.1
  have hown := B.1.2.2.2.1
  have hts := B.1.2.2.2.2
  have hE := B.2.2.2.2.2
  have hl : lv_has ls 4 [(0, .ref G.2.2.2), (1, .int x1), (2, .int x2), (3, .int x3)] := hl
  refine lv_iload_n hx hb dJ1_indexOf_4cfef_0 rfl (lv_at hl 1 rfl) ?_
  obtain ⟨r1, hc1, hF⟩ := lm_bd hF
  refine lm_runA B hN (lm_hrT B hN hl.1 (lm_cutA B hN) (n := 1) (As := [.int x1]) (rest := []) (hJ1_canEncode_9a6ad l G hc1) gJ1_indexOf_4cfef_J1_canEncode_9a6ad rfl (by decide +kernel) rfl (by decide) (by decide) rfl (Nat.le_of_ble_eq_true rfl) dJ1_indexOf_4cfef_1) (fun H locs hN => ?_)
  refine lv_if_ne (tgt := 9) hx hb dJ1_indexOf_4cfef_4 (by decide) (fun c2 => ?_) (fun c2 => ?_)
  · have hF := lm_itn c2 hF
    refine lv_iload_n hx hb dJ1_indexOf_4cfef_9 rfl (lv_at hl 2 rfl) ?_
    refine lv_iconst (v := 0) hx hb dJ1_indexOf_4cfef_10 (by decide) ?_
    refine lm_mmax B hl.1 (by decide +kernel) (by decide +kernel) (by decide +kernel) (by decide +kernel) (by decide) (Nat.le_of_ble_eq_true rfl) dJ1_indexOf_4cfef_11 ?_
    refine lv_istore_n (lv' := [(2, .int (if x2 < (0 : Int32) then (0 : Int32) else x2)), (0, .ref G.2.2.2), (1, .int x1), (3, .int x3)]) hx hb dJ1_indexOf_4cfef_14 rfl hl (by decide) rfl (fun ls hl => ?_)
    refine lv_iload_n hx hb dJ1_indexOf_4cfef_15 rfl (lv_at hl 3 rfl) ?_
    refine lv_aload_n hx hb dJ1_indexOf_4cfef_16 rfl (lv_at hl 1 rfl) ?_
    refine va_tlen hx hb (hE.2.2.1.1 0 (by decide)).2.2.2 hN.2.2 (v := 5) rfl dJ1_indexOf_4cfef_17 ?_
    refine lm_mmin B hl.1 (by decide +kernel) (by decide +kernel) (by decide +kernel) (by decide +kernel) (by decide) (Nat.le_of_ble_eq_true rfl) dJ1_indexOf_4cfef_18 ?_
    refine lv_istore_n (lv' := [(3, .int (if (5 : Int32) < x3 then (5 : Int32) else x3)), (2, .int (if x2 < (0 : Int32) then (0 : Int32) else x2)), (0, .ref G.2.2.2), (1, .int x1)]) hx hb dJ1_indexOf_4cfef_21 rfl hl (by decide) rfl (fun ls hl => ?_)
    refine lv_iload_n hx hb dJ1_indexOf_4cfef_22 rfl (lv_at hl 1 rfl) ?_
    refine lv_iload_n hx hb dJ1_indexOf_4cfef_23 rfl (lv_at hl 0 rfl) ?_
    refine lv_icmp_lt (tgt := 29) hx hb dJ1_indexOf_4cfef_24 (by decide) (fun c3 => ?_) (fun c3 => ?_)
    · have hF := lm_itp c3 hF
      refine lv_aload_n hx hb dJ1_indexOf_4cfef_29 rfl (lv_at hl 2 rfl) ?_
      refine lv_iload_n hx hb dJ1_indexOf_4cfef_30 rfl (lv_at hl 3 rfl) ?_
      refine lv_iload_n hx hb dJ1_indexOf_4cfef_31 rfl (lv_at hl 1 rfl) ?_
      refine lv_iload_n hx hb dJ1_indexOf_4cfef_32 rfl (lv_at hl 0 rfl) ?_
      obtain ⟨r4, hc4, hF⟩ := lm_bd hF
      refine lm_runA B hN (lm_hrT B hN hl.1 (lm_cutA B hN) (n := 4) (As := [.ref G.2.2.2, .int x1, .int (if x2 < (0 : Int32) then (0 : Int32) else x2), .int (if (5 : Int32) < x3 then (5 : Int32) else x3)]) (rest := []) (hJ1_indexOfChar_4cfef l G hc4) gJ1_indexOf_4cfef_J1_indexOfChar_4cfef rfl (by decide +kernel) rfl (by decide) (by decide) rfl (Nat.le_of_ble_eq_true rfl) dJ1_indexOf_4cfef_33) (fun H locs hN => ?_)
      cases hF
      exact lm_iret B hN dJ1_indexOf_4cfef_36
    · have hF := lm_itn c3 hF
      refine lv_iconst (v := -1) hx hb dJ1_indexOf_4cfef_27 (by decide) ?_
      cases hF
      exact lm_iret B hN dJ1_indexOf_4cfef_28
  · have hF := lm_itp c2 hF
    refine lv_iconst (v := -1) hx hb dJ1_indexOf_4cfef_7 (by decide) ?_
    cases hF
    exact lm_iret B hN dJ1_indexOf_4cfef_8
def fJ0_indexOf_7cf53 (x1 : Int32) (x2 : Int32) : Option (Int32) := (fJ0_isLatin1_aae02).bind (fun r1 => if r1 = 0 then (none) else ((fJ0_length_8abf5).bind (fun r3 => (fJ1_indexOf_4cfef x1 x2 r3).bind (fun r4 => some r4))))
set_option maxHeartbeats 4000000 in
set_option maxRecDepth 100000 in
theorem hJ0_indexOf_7cf53 (l : Launch) (G : lm_G) {x1 : Int32} {x2 : Int32} {R : Int32} (hF : fJ0_indexOf_7cf53 x1 x2 = some R) : lm_C l G yJ0_indexOf_7cf53 wsJ0_indexOf_7cf53 6 [.ref G.2.2.1, .int x1, .int x2] ([]) (some (.int R)) ([]) := by
  refine lm_C.of (cc := cJ0_indexOf_7cf53) (maxL := 3) (ret := (some .int)) (by decide) rfl (Nat.le_of_ble_eq_true rfl) ?_
  intro p e s m below meth c A ls B hN hl
  have hx := B.1.1
  have hb := B.1.2.1
  have hown := B.1.2.2.2.1
  have hts := B.1.2.2.2.2
  have hE := B.2.2.2.2.2
  have hl : lv_has ls 3 [(0, .ref G.2.2.1), (1, .int x1), (2, .int x2)] := hl
  refine lv_aload_n hx hb dJ0_indexOf_7cf53_0 rfl (lv_at hl 0 rfl) ?_
  obtain ⟨r1, hc1, hF⟩ := lm_bd hF
  refine lm_runA B hN (lm_hrU B hN hl.1 (lm_cutA B hN) (n := 0) (As := []) (rest := []) (hJ0_isLatin1_aae02 l G hc1) gJ0_indexOf_7cf53_J0_isLatin1_aae02 rfl (by decide +kernel) rfl (by decide) (by decide) rfl (Nat.le_of_ble_eq_true rfl) dJ0_indexOf_7cf53_1) (fun H locs hN => ?_)
  refine lv_if_eq (tgt := 23) hx hb dJ0_indexOf_7cf53_4 (by decide) (fun c2 => ?_) (fun c2 => ?_)
  · have hF := lm_itp c2 hF
    exact (lm_no hF).elim
  · have hF := lm_itn c2 hF
    refine lv_aload_n hx hb dJ0_indexOf_7cf53_7 rfl (lv_at hl 0 rfl) ?_
    refine vk_getf hx hb (hE.2.2.1.1 0 (by decide)).2.2.1 hN.2.2 hown (hts (.fieldLink RJ0 9 "java/lang/String" "value" "[B") (by decide +kernel)) (fun _ h => h) dJ0_indexOf_7cf53_8 ?_
    refine lv_iload_n hx hb dJ0_indexOf_7cf53_11 rfl (lv_at hl 1 rfl) ?_
    refine lv_iload_n hx hb dJ0_indexOf_7cf53_12 rfl (lv_at hl 2 rfl) ?_
    refine lv_aload_n hx hb dJ0_indexOf_7cf53_13 rfl (lv_at hl 0 rfl) ?_
    obtain ⟨r3, hc3, hF⟩ := lm_bd hF
    refine lm_runA B hN (lm_hrU B hN hl.1 (lm_cutA B hN) (n := 0) (As := []) (rest := [.int x2, .int x1, .ref G.2.2.2]) (hJ0_length_8abf5 l G hc3) gJ0_indexOf_7cf53_J0_length_8abf5 rfl (by decide +kernel) rfl (by decide) (by decide) rfl (Nat.le_of_ble_eq_true rfl) dJ0_indexOf_7cf53_14) (fun H locs hN => ?_)
    obtain ⟨r4, hc4, hF⟩ := lm_bd hF
    refine lm_runA B hN (lm_hrT B hN hl.1 (lm_cutA B hN) (n := 4) (As := [.ref G.2.2.2, .int x1, .int x2, .int r3]) (rest := []) (hJ1_indexOf_4cfef l G hc4) gJ0_indexOf_7cf53_J1_indexOf_4cfef rfl (by decide +kernel) rfl (by decide) (by decide) rfl (Nat.le_of_ble_eq_true rfl) dJ0_indexOf_7cf53_17) (fun H locs hN => ?_)
    refine lv_goto (tgt := 36) hx hb dJ0_indexOf_7cf53_20 (by decide) ?_
    cases hF
    exact lm_iret B hN dJ0_indexOf_7cf53_36
def fJ0_indexOf_0f7a4 (x1 : Int32) : Option (Int32) := (fJ0_indexOf_7cf53 x1 (0 : Int32)).bind (fun r1 => some r1)
set_option maxHeartbeats 4000000 in
set_option maxRecDepth 100000 in
theorem hJ0_indexOf_0f7a4 (l : Launch) (G : lm_G) {x1 : Int32} {R : Int32} (hF : fJ0_indexOf_0f7a4 x1 = some R) : lm_C l G yJ0_indexOf_0f7a4 wsJ0_indexOf_0f7a4 7 [.ref G.2.2.1, .int x1] ([]) (some (.int R)) ([]) := by
  refine lm_C.of (cc := cJ0_indexOf_0f7a4) (maxL := 2) (ret := (some .int)) (by decide) rfl (Nat.le_of_ble_eq_true rfl) ?_
  intro p e s m below meth c A ls B hN hl
  have hx := B.1.1
  have hb := B.1.2.1
  have hown := B.1.2.2.2.1
  have hts := B.1.2.2.2.2
  have hE := B.2.2.2.2.2
  have hl : lv_has ls 2 [(0, .ref G.2.2.1), (1, .int x1)] := hl
  refine lv_aload_n hx hb dJ0_indexOf_0f7a4_0 rfl (lv_at hl 0 rfl) ?_
  refine lv_iload_n hx hb dJ0_indexOf_0f7a4_1 rfl (lv_at hl 1 rfl) ?_
  refine lv_iconst (v := 0) hx hb dJ0_indexOf_0f7a4_2 (by decide) ?_
  obtain ⟨r1, hc1, hF⟩ := lm_bd hF
  refine lm_runA B hN (lm_hrU B hN hl.1 (lm_cutA B hN) (n := 2) (As := [.int x1, .int (0 : Int32)]) (rest := []) (hJ0_indexOf_7cf53 l G hc1) gJ0_indexOf_0f7a4_J0_indexOf_7cf53 rfl (by decide +kernel) rfl (by decide) (by decide) rfl (Nat.le_of_ble_eq_true rfl) dJ0_indexOf_0f7a4_3) (fun H locs hN => ?_)
  cases hF
  exact lm_iret B hN dJ0_indexOf_0f7a4_6
