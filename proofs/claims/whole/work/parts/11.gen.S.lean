def fX8_isIn (x0 : Int32) (x1 : Int32) : Option (Int32) := if ((x0 >>> (x1 &&& 31)) &&& (1 : Int32)) = (1 : Int32) then (lm_gB (1 : Int32) (some (1 : Int32))) else (lm_gB (0 : Int32) (some (0 : Int32)))
set_option maxHeartbeats 4000000 in
set_option maxRecDepth 100000 in
theorem hX8_isIn (l : Launch) (G : lm_G) {x0 : Int32} {x1 : Int32} {R : Int32} (hF : fX8_isIn x0 x1 = some R) : lm_C l G yX8_isIn wsX8_isIn 1 [.int x0, .int x1] ([]) (some (.int R)) ([]) := by
  refine lm_C.of (cc := cX8_isIn) (maxL := 2) (ret := (some .boolean)) (by decide) rfl (Nat.le_of_ble_eq_true rfl) ?_
  intro p e s m below meth c A ls B hN hl
  have hx := B.1.1
  have hb := B.1.2.1
  have hown := B.1.2.2.2.1
  have hts := B.1.2.2.2.2
  have hl : lv_has ls 2 [(0, .int x0), (1, .int x1)] := hl
  refine lv_iload_n hx hb dX8_isIn_0 rfl (lv_at hl 0 rfl) ?_
  refine lv_iload_n hx hb dX8_isIn_1 rfl (lv_at hl 1 rfl) ?_
  refine lv_ishr hx hb dX8_isIn_2 ?_
  refine lv_iconst (v := 1) hx hb dX8_isIn_3 (by decide) ?_
  refine lv_iand hx hb dX8_isIn_4 ?_
  refine lv_iconst (v := 1) hx hb dX8_isIn_5 (by decide) ?_
  refine lv_icmp_ne (tgt := 13) hx hb dX8_isIn_6 (by decide) (fun c1 => ?_) (fun c1 => ?_)
  · have hF := lm_itn c1 hF
    refine lv_iconst (v := 0) hx hb dX8_isIn_13 (by decide) ?_
    obtain ⟨z2, hF⟩ := lm_gBe hF
    cases hF
    exact lm_zret B hN z2 dX8_isIn_14
  · have hF := lm_itp c1 hF
    refine lv_iconst (v := 1) hx hb dX8_isIn_9 (by decide) ?_
    refine lv_goto (tgt := 14) hx hb dX8_isIn_10 (by decide) ?_
    obtain ⟨z3, hF⟩ := lm_gBe hF
    cases hF
    exact lm_zret B hN z3 dX8_isIn_14
def fX8_missedBy (x0 : Int32) (x1 : Int32) (x2 : Int32) : Option (Int32) := if x0 = 1 then (some (if (0 : Int32) < (x1 - ((2 : Int32) * x2)) then (x1 - ((2 : Int32) * x2)) else (0 : Int32))) else (if x0 = 2 then (some x1) else (if x0 = 3 then (some (if (0 : Int32) < ((x1 / (2 : Int32)) - x2) then ((x1 / (2 : Int32)) - x2) else (0 : Int32))) else (if x0 = 4 then (some (if (0 : Int32) < (x1 - ((4 : Int32) * x2)) then (x1 - ((4 : Int32) * x2)) else (0 : Int32))) else (some (if (0 : Int32) < (x1 - x2) then (x1 - x2) else (0 : Int32))))))
set_option maxHeartbeats 4000000 in
set_option maxRecDepth 100000 in
theorem hX8_missedBy (l : Launch) (G : lm_G) {x0 : Int32} {x1 : Int32} {x2 : Int32} {R : Int32} (hF : fX8_missedBy x0 x1 x2 = some R) : lm_C l G yX8_missedBy wsX8_missedBy 2 [.int x0, .int x1, .int x2] ([]) (some (.int R)) ([]) := by
  refine lm_C.of (cc := cX8_missedBy) (maxL := 3) (ret := (some .int)) (by decide) rfl (Nat.le_of_ble_eq_true rfl) ?_
  intro p e s m below meth c A ls B hN hl
  have hx := B.1.1
  have hb := B.1.2.1
  have hown := B.1.2.2.2.1
  have hts := B.1.2.2.2.2
  have hl : lv_has ls 3 [(0, .int x0), (1, .int x1), (2, .int x2)] := hl
  refine lv_iload_n hx hb dX8_missedBy_0 rfl (lv_at hl 0 rfl) ?_
  by_cases c1_1 : x0 = 1
  · have hF := lm_itp c1_1 hF
    refine lv_tableIn (tgt := 32) hx hb dX8_missedBy_1 (by rw [c1_1]; decide) (by rw [c1_1]; decide) (by rw [c1_1]; rfl) (by decide) ?_
    refine lv_iconst (v := 0) hx hb dX8_missedBy_32 (by decide) ?_
    refine lv_iload_n hx hb dX8_missedBy_33 rfl (lv_at hl 1 rfl) ?_
    refine lv_iconst (v := 2) hx hb dX8_missedBy_34 (by decide) ?_
    refine lv_iload_n hx hb dX8_missedBy_35 rfl (lv_at hl 2 rfl) ?_
    refine lv_imul hx hb dX8_missedBy_36 ?_
    refine lv_isub hx hb dX8_missedBy_37 ?_
    refine lm_mmax B hl.1 (by decide +kernel) (by decide +kernel) (by decide +kernel) (by decide +kernel) (by decide) (Nat.le_of_ble_eq_true rfl) dX8_missedBy_38 ?_
    cases hF
    exact lm_iret B hN dX8_missedBy_41
  have hF := lm_itn c1_1 hF
  by_cases c1_2 : x0 = 2
  · have hF := lm_itp c1_2 hF
    refine lv_tableIn (tgt := 42) hx hb dX8_missedBy_1 (by rw [c1_2]; decide) (by rw [c1_2]; decide) (by rw [c1_2]; rfl) (by decide) ?_
    refine lv_iload_n hx hb dX8_missedBy_42 rfl (lv_at hl 1 rfl) ?_
    cases hF
    exact lm_iret B hN dX8_missedBy_43
  have hF := lm_itn c1_2 hF
  by_cases c1_3 : x0 = 3
  · have hF := lm_itp c1_3 hF
    refine lv_tableIn (tgt := 44) hx hb dX8_missedBy_1 (by rw [c1_3]; decide) (by rw [c1_3]; decide) (by rw [c1_3]; rfl) (by decide) ?_
    refine lv_iconst (v := 0) hx hb dX8_missedBy_44 (by decide) ?_
    refine lv_iload_n hx hb dX8_missedBy_45 rfl (lv_at hl 1 rfl) ?_
    refine lv_iconst (v := 2) hx hb dX8_missedBy_46 (by decide) ?_
    refine lv_idiv hx hb dX8_missedBy_47 (by decide) ?_
    refine lv_iload_n hx hb dX8_missedBy_48 rfl (lv_at hl 2 rfl) ?_
    refine lv_isub hx hb dX8_missedBy_49 ?_
    refine lm_mmax B hl.1 (by decide +kernel) (by decide +kernel) (by decide +kernel) (by decide +kernel) (by decide) (Nat.le_of_ble_eq_true rfl) dX8_missedBy_50 ?_
    cases hF
    exact lm_iret B hN dX8_missedBy_53
  have hF := lm_itn c1_3 hF
  by_cases c1_4 : x0 = 4
  · have hF := lm_itp c1_4 hF
    refine lv_tableIn (tgt := 54) hx hb dX8_missedBy_1 (by rw [c1_4]; decide) (by rw [c1_4]; decide) (by rw [c1_4]; rfl) (by decide) ?_
    refine lv_iconst (v := 0) hx hb dX8_missedBy_54 (by decide) ?_
    refine lv_iload_n hx hb dX8_missedBy_55 rfl (lv_at hl 1 rfl) ?_
    refine lv_iconst (v := 4) hx hb dX8_missedBy_56 (by decide) ?_
    refine lv_iload_n hx hb dX8_missedBy_57 rfl (lv_at hl 2 rfl) ?_
    refine lv_imul hx hb dX8_missedBy_58 ?_
    refine lv_isub hx hb dX8_missedBy_59 ?_
    refine lm_mmax B hl.1 (by decide +kernel) (by decide +kernel) (by decide +kernel) (by decide +kernel) (by decide) (Nat.le_of_ble_eq_true rfl) dX8_missedBy_60 ?_
    cases hF
    exact lm_iret B hN dX8_missedBy_63
  have hF := lm_itn c1_4 hF
  have ic1_1 := lm_ti (n := 1) (by decide) c1_1
  have ic1_2 := lm_ti (n := 2) (by decide) c1_2
  have ic1_3 := lm_ti (n := 3) (by decide) c1_3
  have ic1_4 := lm_ti (n := 4) (by decide) c1_4
  refine lv_tableOut (tgt := 64) hx hb dX8_missedBy_1 (by omega) (by decide) ?_
  refine lv_iconst (v := 0) hx hb dX8_missedBy_64 (by decide) ?_
  refine lv_iload_n hx hb dX8_missedBy_65 rfl (lv_at hl 1 rfl) ?_
  refine lv_iload_n hx hb dX8_missedBy_66 rfl (lv_at hl 2 rfl) ?_
  refine lv_isub hx hb dX8_missedBy_67 ?_
  refine lm_mmax B hl.1 (by decide +kernel) (by decide +kernel) (by decide +kernel) (by decide +kernel) (by decide) (Nat.le_of_ble_eq_true rfl) dX8_missedBy_68 ?_
  cases hF
  exact lm_iret B hN dX8_missedBy_71
def fX8_isKind (x0 : Int32) (x1 : Int32) : Option (Int32) := if x1 = 0 then (lm_gB (1 : Int32) (some (1 : Int32))) else (if x1 = x0 then (lm_gB (1 : Int32) (some (1 : Int32))) else (if x1 = (1 : Int32) then (if x0 = (4 : Int32) then (lm_gB (1 : Int32) (some (1 : Int32))) else (lm_gB (0 : Int32) (some (0 : Int32)))) else (lm_gB (0 : Int32) (some (0 : Int32)))))
set_option maxHeartbeats 4000000 in
set_option maxRecDepth 100000 in
theorem hX8_isKind (l : Launch) (G : lm_G) {x0 : Int32} {x1 : Int32} {R : Int32} (hF : fX8_isKind x0 x1 = some R) : lm_C l G yX8_isKind wsX8_isKind 1 [.int x0, .int x1] ([]) (some (.int R)) ([]) := by
  refine lm_C.of (cc := cX8_isKind) (maxL := 2) (ret := (some .boolean)) (by decide) rfl (Nat.le_of_ble_eq_true rfl) ?_
  intro p e s m below meth c A ls B hN hl
  have hx := B.1.1
  have hb := B.1.2.1
  have hown := B.1.2.2.2.1
  have hts := B.1.2.2.2.2
  have hl : lv_has ls 2 [(0, .int x0), (1, .int x1)] := hl
  refine lv_iload_n hx hb dX8_isKind_0 rfl (lv_at hl 1 rfl) ?_
  refine lv_if_eq (tgt := 19) hx hb dX8_isKind_1 (by decide) (fun c1 => ?_) (fun c1 => ?_)
  · have hF := lm_itp c1 hF
    refine lv_iconst (v := 1) hx hb dX8_isKind_19 (by decide) ?_
    refine lv_goto (tgt := 24) hx hb dX8_isKind_20 (by decide) ?_
    obtain ⟨z2, hF⟩ := lm_gBe hF
    cases hF
    exact lm_zret B hN z2 dX8_isKind_24
  · have hF := lm_itn c1 hF
    refine lv_iload_n hx hb dX8_isKind_4 rfl (lv_at hl 1 rfl) ?_
    refine lv_iload_n hx hb dX8_isKind_5 rfl (lv_at hl 0 rfl) ?_
    refine lv_icmp_eq (tgt := 19) hx hb dX8_isKind_6 (by decide) (fun c3 => ?_) (fun c3 => ?_)
    · have hF := lm_itp c3 hF
      refine lv_iconst (v := 1) hx hb dX8_isKind_19 (by decide) ?_
      refine lv_goto (tgt := 24) hx hb dX8_isKind_20 (by decide) ?_
      obtain ⟨z4, hF⟩ := lm_gBe hF
      cases hF
      exact lm_zret B hN z4 dX8_isKind_24
    · have hF := lm_itn c3 hF
      refine lv_iload_n hx hb dX8_isKind_9 rfl (lv_at hl 1 rfl) ?_
      refine lv_iconst (v := 1) hx hb dX8_isKind_10 (by decide) ?_
      refine lv_icmp_ne (tgt := 23) hx hb dX8_isKind_11 (by decide) (fun c5 => ?_) (fun c5 => ?_)
      · have hF := lm_itn c5 hF
        refine lv_iconst (v := 0) hx hb dX8_isKind_23 (by decide) ?_
        obtain ⟨z6, hF⟩ := lm_gBe hF
        cases hF
        exact lm_zret B hN z6 dX8_isKind_24
      · have hF := lm_itp c5 hF
        refine lv_iload_n hx hb dX8_isKind_14 rfl (lv_at hl 0 rfl) ?_
        refine lv_iconst (v := 4) hx hb dX8_isKind_15 (by decide) ?_
        refine lv_icmp_ne (tgt := 23) hx hb dX8_isKind_16 (by decide) (fun c7 => ?_) (fun c7 => ?_)
        · have hF := lm_itn c7 hF
          refine lv_iconst (v := 0) hx hb dX8_isKind_23 (by decide) ?_
          obtain ⟨z8, hF⟩ := lm_gBe hF
          cases hF
          exact lm_zret B hN z8 dX8_isKind_24
        · have hF := lm_itp c7 hF
          refine lv_iconst (v := 1) hx hb dX8_isKind_19 (by decide) ?_
          refine lv_goto (tgt := 24) hx hb dX8_isKind_20 (by decide) ?_
          obtain ⟨z9, hF⟩ := lm_gBe hF
          cases hF
          exact lm_zret B hN z9 dX8_isKind_24
def fX8_isSiegeAnswer (x0 : Int32) : Option (Int32) := if x0 = 0 then (lm_gB (1 : Int32) (some (1 : Int32))) else (if x0 = (1 : Int32) then (lm_gB (1 : Int32) (some (1 : Int32))) else (if x0 < (10 : Int32) then (lm_gB (0 : Int32) (some (0 : Int32))) else (if (14 : Int32) ≤ x0 then (lm_gB (0 : Int32) (some (0 : Int32))) else (lm_gB (1 : Int32) (some (1 : Int32))))))
set_option maxHeartbeats 4000000 in
set_option maxRecDepth 100000 in
theorem hX8_isSiegeAnswer (l : Launch) (G : lm_G) {x0 : Int32} {R : Int32} (hF : fX8_isSiegeAnswer x0 = some R) : lm_C l G yX8_isSiegeAnswer wsX8_isSiegeAnswer 1 [.int x0] ([]) (some (.int R)) ([]) := by
  refine lm_C.of (cc := cX8_isSiegeAnswer) (maxL := 1) (ret := (some .boolean)) (by decide) rfl (Nat.le_of_ble_eq_true rfl) ?_
  intro p e s m below meth c A ls B hN hl
  have hx := B.1.1
  have hb := B.1.2.1
  have hown := B.1.2.2.2.1
  have hts := B.1.2.2.2.2
  have hl : lv_has ls 1 [(0, .int x0)] := hl
  refine lv_iload_n hx hb dX8_isSiegeAnswer_0 rfl (lv_at hl 0 rfl) ?_
  refine lv_if_eq (tgt := 21) hx hb dX8_isSiegeAnswer_1 (by decide) (fun c1 => ?_) (fun c1 => ?_)
  · have hF := lm_itp c1 hF
    refine lv_iconst (v := 1) hx hb dX8_isSiegeAnswer_21 (by decide) ?_
    refine lv_goto (tgt := 26) hx hb dX8_isSiegeAnswer_22 (by decide) ?_
    obtain ⟨z2, hF⟩ := lm_gBe hF
    cases hF
    exact lm_zret B hN z2 dX8_isSiegeAnswer_26
  · have hF := lm_itn c1 hF
    refine lv_iload_n hx hb dX8_isSiegeAnswer_4 rfl (lv_at hl 0 rfl) ?_
    refine lv_iconst (v := 1) hx hb dX8_isSiegeAnswer_5 (by decide) ?_
    refine lv_icmp_eq (tgt := 21) hx hb dX8_isSiegeAnswer_6 (by decide) (fun c3 => ?_) (fun c3 => ?_)
    · have hF := lm_itp c3 hF
      refine lv_iconst (v := 1) hx hb dX8_isSiegeAnswer_21 (by decide) ?_
      refine lv_goto (tgt := 26) hx hb dX8_isSiegeAnswer_22 (by decide) ?_
      obtain ⟨z4, hF⟩ := lm_gBe hF
      cases hF
      exact lm_zret B hN z4 dX8_isSiegeAnswer_26
    · have hF := lm_itn c3 hF
      refine lv_iload_n hx hb dX8_isSiegeAnswer_9 rfl (lv_at hl 0 rfl) ?_
      refine lv_bipush (v := 10) hx hb dX8_isSiegeAnswer_10 (by decide) ?_
      refine lv_icmp_lt (tgt := 25) hx hb dX8_isSiegeAnswer_12 (by decide) (fun c5 => ?_) (fun c5 => ?_)
      · have hF := lm_itp c5 hF
        refine lv_iconst (v := 0) hx hb dX8_isSiegeAnswer_25 (by decide) ?_
        obtain ⟨z6, hF⟩ := lm_gBe hF
        cases hF
        exact lm_zret B hN z6 dX8_isSiegeAnswer_26
      · have hF := lm_itn c5 hF
        refine lv_iload_n hx hb dX8_isSiegeAnswer_15 rfl (lv_at hl 0 rfl) ?_
        refine lv_bipush (v := 14) hx hb dX8_isSiegeAnswer_16 (by decide) ?_
        refine lv_icmp_ge (tgt := 25) hx hb dX8_isSiegeAnswer_18 (by decide) (fun c7 => ?_) (fun c7 => ?_)
        · have hF := lm_itp c7 hF
          refine lv_iconst (v := 0) hx hb dX8_isSiegeAnswer_25 (by decide) ?_
          obtain ⟨z8, hF⟩ := lm_gBe hF
          cases hF
          exact lm_zret B hN z8 dX8_isSiegeAnswer_26
        · have hF := lm_itn c7 hF
          refine lv_iconst (v := 1) hx hb dX8_isSiegeAnswer_21 (by decide) ?_
          refine lv_goto (tgt := 26) hx hb dX8_isSiegeAnswer_22 (by decide) ?_
          obtain ⟨z9, hF⟩ := lm_gBe hF
          cases hF
          exact lm_zret B hN z9 dX8_isSiegeAnswer_26
def bX8_power_4 (k4 : Int32 × Int32 × Int32 × Int32 → Option (Int32)) (x0_4 : Int32) (x1_4 : Int32) (x2_4 : Int32) (x3_4 : Int32) : Option (Int32) := if x1_4 ≤ x3_4 then (some x2_4) else (k4 (x0_4, x1_4, (x2_4 * x0_4), (x3_4 + 1)))
def fX8_power (x0 : Int32) (x1 : Int32) : Option (Int32) := lm_lp (fun k a => bX8_power_4 k a.1 a.2.1 a.2.2.1 a.2.2.2) 5000 (x0, x1, (1 : Int32), (0 : Int32))
set_option maxHeartbeats 4000000 in
set_option maxRecDepth 100000 in
theorem hX8_power (l : Launch) (G : lm_G) {x0 : Int32} {x1 : Int32} {R : Int32} (hF : fX8_power x0 x1 = some R) : lm_C l G yX8_power wsX8_power 1 [.int x0, .int x1] ([]) (some (.int R)) ([]) := by
  refine lm_C.of (cc := cX8_power) (maxL := 4) (ret := (some .int)) (by decide) rfl (Nat.le_of_ble_eq_true rfl) ?_
  intro p e s m below meth c A ls B hN hl
  have hx := B.1.1
  have hb := B.1.2.1
  have hown := B.1.2.2.2.1
  have hts := B.1.2.2.2.2
  have hl : lv_has ls 4 [(0, .int x0), (1, .int x1)] := hl
  have L4 : ∀ (n : Nat) (x0_4 : Int32) (x1_4 : Int32) (x2_4 : Int32) (x3_4 : Int32) (H : Heap) (locs : List Loc) (ls : Array Slot), lm_lp (fun k a => bX8_power_4 k a.1 a.2.1 a.2.2.1 a.2.2.2) n (x0_4, x1_4, x2_4, x3_4) = some R → lm_N G A s ([]) H locs → lv_has ls 4 [(0, .int x0_4), (1, .int x1_4), (2, .int x2_4), (3, .int x3_4)] → W p l e (lm_rk 1) s m ([.int x0, .int x1] : List Value).toArray below meth c H locs 0 0 (MQ below (lm_post G ([]) (some (.int R)) A) ([.int x0, .int x1] : List Value).toArray s 0 0 A) (F0 m 4 ls []) := by
    intro n
    induction n with
    | zero => intro x0_4 x1_4 x2_4 x3_4 H locs ls hF; exact (lm_lpz hF).elim
    | succ n ih4 =>
      intro x0_4 x1_4 x2_4 x3_4 H locs ls hF hN hl
      have hF : bX8_power_4 (lm_lp (fun k a => bX8_power_4 k a.1 a.2.1 a.2.2.1 a.2.2.2) n) x0_4 x1_4 x2_4 x3_4 = some R := lm_lps hF
      generalize lm_lp (fun k a => bX8_power_4 k a.1 a.2.1 a.2.2.1 a.2.2.2) n = k4 at hF ih4
      refine lv_iload_n hx hb dX8_power_4 rfl (lv_at hl 3 rfl) ?_
      refine lv_iload_n hx hb dX8_power_5 rfl (lv_at hl 1 rfl) ?_
      refine lv_icmp_ge (tgt := 19) hx hb dX8_power_6 (by decide) (fun c1 => ?_) (fun c1 => ?_)
      · have hF := lm_itp c1 hF
        refine lv_iload_n hx hb dX8_power_19 rfl (lv_at hl 2 rfl) ?_
        cases hF
        exact lm_iret B hN dX8_power_20
      · have hF := lm_itn c1 hF
        refine lv_iload_n hx hb dX8_power_9 rfl (lv_at hl 2 rfl) ?_
        refine lv_iload_n hx hb dX8_power_10 rfl (lv_at hl 0 rfl) ?_
        refine lv_imul hx hb dX8_power_11 ?_
        refine lv_istore_n (lv' := [(2, .int (x2_4 * x0_4)), (0, .int x0_4), (1, .int x1_4), (3, .int x3_4)]) hx hb dX8_power_12 rfl hl (by decide) rfl (fun ls hl => ?_)
        refine lv_iinc (v := (x3_4 + 1)) (lv' := [(3, .int (x3_4 + 1)), (2, .int (x2_4 * x0_4)), (0, .int x0_4), (1, .int x1_4)]) hx hb dX8_power_13 hl (k := 3) rfl rfl (by decide) rfl (fun ls hl => ?_)
        refine lv_goto (tgt := 4) hx hb dX8_power_16 (by decide) ?_
        exact ih4 _ _ _ _ _ _ _ hF hN (lv_sub hl [2, 3, 1, 0] rfl)
  refine lv_iconst (v := 1) hx hb dX8_power_0 (by decide) ?_
  refine lv_istore_n (lv' := [(2, .int (1 : Int32)), (0, .int x0), (1, .int x1)]) hx hb dX8_power_1 rfl hl (by decide) rfl (fun ls hl => ?_)
  refine lv_iconst (v := 0) hx hb dX8_power_2 (by decide) ?_
  refine lv_istore_n (lv' := [(3, .int (0 : Int32)), (2, .int (1 : Int32)), (0, .int x0), (1, .int x1)]) hx hb dX8_power_3 rfl hl (by decide) rfl (fun ls hl => ?_)
  exact L4 5000 _ _ _ _ _ _ _ hF hN (lv_sub hl [2, 3, 1, 0] rfl)
def jX8_inLowestTerms_23 (k2 : Int32 × Int32 × Int32 × Int32 → Option (Int32)) (x0_23 : Int32) (x1_23 : Int32) (x2_23 : Int32) (x3_23 : Int32) : Option (Int32) := k2 (x0_23, x1_23, x2_23, (x3_23 + (-1)))
def bX8_inLowestTerms_2 (k2 : Int32 × Int32 × Int32 × Int32 → Option (Int32)) (x0_2 : Int32) (x1_2 : Int32) (x2_2 : Int32) (x3_2 : Int32) : Option (Int32) := if x3_2 ≤ (1 : Int32) then (some x0_2) else (lm_gZ x3_2 (if (x1_2 - x1_2 / x3_2 * x3_2) = 0 then (lm_gZ x3_2 (if (x2_2 - x2_2 / x3_2 * x3_2) = 0 then (lm_gZ x3_2 (some (x0_2 / x3_2))) else (jX8_inLowestTerms_23 k2 x0_2 x1_2 x2_2 x3_2))) else (jX8_inLowestTerms_23 k2 x0_2 x1_2 x2_2 x3_2)))
def fX8_inLowestTerms (x0 : Int32) (x1 : Int32) (x2 : Int32) : Option (Int32) := lm_lp (fun k a => bX8_inLowestTerms_2 k a.1 a.2.1 a.2.2.1 a.2.2.2) 5000 (x0, x1, x2, x2)
set_option maxHeartbeats 4000000 in
set_option maxRecDepth 100000 in
theorem hX8_inLowestTerms (l : Launch) (G : lm_G) {x0 : Int32} {x1 : Int32} {x2 : Int32} {R : Int32} (hF : fX8_inLowestTerms x0 x1 x2 = some R) : lm_C l G yX8_inLowestTerms wsX8_inLowestTerms 1 [.int x0, .int x1, .int x2] ([]) (some (.int R)) ([]) := by
  refine lm_C.of (cc := cX8_inLowestTerms) (maxL := 4) (ret := (some .int)) (by decide) rfl (Nat.le_of_ble_eq_true rfl) ?_
  intro p e s m below meth c A ls B hN hl
  have hx := B.1.1
  have hb := B.1.2.1
  have hown := B.1.2.2.2.1
  have hts := B.1.2.2.2.2
  have hl : lv_has ls 4 [(0, .int x0), (1, .int x1), (2, .int x2)] := hl
  have L2 : ∀ (n : Nat) (x0_2 : Int32) (x1_2 : Int32) (x2_2 : Int32) (x3_2 : Int32) (H : Heap) (locs : List Loc) (ls : Array Slot), lm_lp (fun k a => bX8_inLowestTerms_2 k a.1 a.2.1 a.2.2.1 a.2.2.2) n (x0_2, x1_2, x2_2, x3_2) = some R → lm_N G A s ([]) H locs → lv_has ls 4 [(0, .int x0_2), (1, .int x1_2), (2, .int x2_2), (3, .int x3_2)] → W p l e (lm_rk 1) s m ([.int x0, .int x1, .int x2] : List Value).toArray below meth c H locs 0 0 (MQ below (lm_post G ([]) (some (.int R)) A) ([.int x0, .int x1, .int x2] : List Value).toArray s 0 0 A) (F0 m 2 ls []) := by
    intro n
    induction n with
    | zero => intro x0_2 x1_2 x2_2 x3_2 H locs ls hF; exact (lm_lpz hF).elim
    | succ n ih2 =>
      intro x0_2 x1_2 x2_2 x3_2 H locs ls hF hN hl
      have hF : bX8_inLowestTerms_2 (lm_lp (fun k a => bX8_inLowestTerms_2 k a.1 a.2.1 a.2.2.1 a.2.2.2) n) x0_2 x1_2 x2_2 x3_2 = some R := lm_lps hF
      generalize lm_lp (fun k a => bX8_inLowestTerms_2 k a.1 a.2.1 a.2.2.1 a.2.2.2) n = k2 at hF ih2
      have J23 : ∀ (x0_23 : Int32) (x1_23 : Int32) (x2_23 : Int32) (x3_23 : Int32) (H : Heap) (locs : List Loc) (ls : Array Slot), jX8_inLowestTerms_23 k2 x0_23 x1_23 x2_23 x3_23 = some R → lm_N G A s ([]) H locs → lv_has ls 4 [(0, .int x0_23), (1, .int x1_23), (2, .int x2_23), (3, .int x3_23)] → W p l e (lm_rk 1) s m ([.int x0, .int x1, .int x2] : List Value).toArray below meth c H locs 0 0 (MQ below (lm_post G ([]) (some (.int R)) A) ([.int x0, .int x1, .int x2] : List Value).toArray s 0 0 A) (F0 m 23 ls []) := by
        intro x0_23 x1_23 x2_23 x3_23 H locs ls hF hN hl
        refine lv_iinc (v := (x3_23 + (-1))) (lv' := [(3, .int (x3_23 + (-1))), (0, .int x0_23), (1, .int x1_23), (2, .int x2_23)]) hx hb dX8_inLowestTerms_23 hl (k := 3) rfl rfl (by decide) rfl (fun ls hl => ?_)
        refine lv_goto (tgt := 2) hx hb dX8_inLowestTerms_26 (by decide) ?_
        exact ih2 _ _ _ _ _ _ _ hF hN (lv_sub hl [1, 2, 3, 0] rfl)
      refine lv_iload_n hx hb dX8_inLowestTerms_2 rfl (lv_at hl 3 rfl) ?_
      refine lv_iconst (v := 1) hx hb dX8_inLowestTerms_3 (by decide) ?_
      refine lv_icmp_le (tgt := 29) hx hb dX8_inLowestTerms_4 (by decide) (fun c1 => ?_) (fun c1 => ?_)
      · have hF := lm_itp c1 hF
        refine lv_iload_n hx hb dX8_inLowestTerms_29 rfl (lv_at hl 0 rfl) ?_
        cases hF
        exact lm_iret B hN dX8_inLowestTerms_30
      · have hF := lm_itn c1 hF
        refine lv_iload_n hx hb dX8_inLowestTerms_7 rfl (lv_at hl 1 rfl) ?_
        refine lv_iload_n hx hb dX8_inLowestTerms_8 rfl (lv_at hl 3 rfl) ?_
        obtain ⟨z2, hF⟩ := lm_gZe hF
        refine lv_irem hx hb dX8_inLowestTerms_9 z2 ?_
        refine lv_if_ne (tgt := 23) hx hb dX8_inLowestTerms_10 (by decide) (fun c3 => ?_) (fun c3 => ?_)
        · have hF := lm_itn c3 hF
          exact J23 _ _ _ _ _ _ _ hF hN (lv_sub hl [0, 1, 2, 3] rfl)
        · have hF := lm_itp c3 hF
          refine lv_iload_n hx hb dX8_inLowestTerms_13 rfl (lv_at hl 2 rfl) ?_
          refine lv_iload_n hx hb dX8_inLowestTerms_14 rfl (lv_at hl 3 rfl) ?_
          obtain ⟨z4, hF⟩ := lm_gZe hF
          refine lv_irem hx hb dX8_inLowestTerms_15 z4 ?_
          refine lv_if_ne (tgt := 23) hx hb dX8_inLowestTerms_16 (by decide) (fun c5 => ?_) (fun c5 => ?_)
          · have hF := lm_itn c5 hF
            exact J23 _ _ _ _ _ _ _ hF hN (lv_sub hl [0, 1, 2, 3] rfl)
          · have hF := lm_itp c5 hF
            refine lv_iload_n hx hb dX8_inLowestTerms_19 rfl (lv_at hl 0 rfl) ?_
            refine lv_iload_n hx hb dX8_inLowestTerms_20 rfl (lv_at hl 3 rfl) ?_
            obtain ⟨z6, hF⟩ := lm_gZe hF
            refine lv_idiv hx hb dX8_inLowestTerms_21 z6 ?_
            cases hF
            exact lm_iret B hN dX8_inLowestTerms_22
  refine lv_iload_n hx hb dX8_inLowestTerms_0 rfl (lv_at hl 2 rfl) ?_
  refine lv_istore_n (lv' := [(3, .int x2), (0, .int x0), (1, .int x1), (2, .int x2)]) hx hb dX8_inLowestTerms_1 rfl hl (by decide) rfl (fun ls hl => ?_)
  exact L2 5000 _ _ _ _ _ _ _ hF hN (lv_sub hl [1, 2, 3, 0] rfl)
def fJ6_bitCount_0f7a4 (x0 : Int32) : Option (Int32) := lm_nm (x0 - ((x0.toUInt32 >>> ((1 : Int32).toUInt32 &&& Int32.toUInt32 31)).toInt32 &&& (1431655765 : Int32))) (fun z1 => lm_nm ((z1 &&& (858993459 : Int32)) + ((z1.toUInt32 >>> ((2 : Int32).toUInt32 &&& Int32.toUInt32 31)).toInt32 &&& (858993459 : Int32))) (fun z2 => lm_nm ((z2 + (z2.toUInt32 >>> ((4 : Int32).toUInt32 &&& Int32.toUInt32 31)).toInt32) &&& (252645135 : Int32)) (fun z3 => lm_nm ((z3 + (z3.toUInt32 >>> ((8 : Int32).toUInt32 &&& Int32.toUInt32 31)).toInt32) + ((z3 + (z3.toUInt32 >>> ((8 : Int32).toUInt32 &&& Int32.toUInt32 31)).toInt32).toUInt32 >>> ((16 : Int32).toUInt32 &&& Int32.toUInt32 31)).toInt32) (fun z4 => some (z4 &&& (63 : Int32))))))
set_option maxHeartbeats 4000000 in
set_option maxRecDepth 100000 in
theorem hJ6_bitCount_0f7a4 (l : Launch) (G : lm_G) {x0 : Int32} {R : Int32} (hF : fJ6_bitCount_0f7a4 x0 = some R) : lm_C l G yJ6_bitCount_0f7a4 wsJ6_bitCount_0f7a4 1 [.int x0] ([]) (some (.int R)) ([]) := by
  refine lm_C.of (cc := cJ6_bitCount_0f7a4) (maxL := 1) (ret := (some .int)) (by decide) rfl (Nat.le_of_ble_eq_true rfl) ?_
  intro p e s m below meth c A ls B hN hl
  have hx := B.1.1
  have hb := B.1.2.1
  have hown := B.1.2.2.2.1
  have hts := B.1.2.2.2.2
  have hl : lv_has ls 1 [(0, .int x0)] := hl
  refine lv_iload_n hx hb dJ6_bitCount_0f7a4_0 rfl (lv_at hl 0 rfl) ?_
  refine lv_iload_n hx hb dJ6_bitCount_0f7a4_1 rfl (lv_at hl 0 rfl) ?_
  refine lv_iconst (v := 1) hx hb dJ6_bitCount_0f7a4_2 (by decide) ?_
  refine lv_iushr hx hb dJ6_bitCount_0f7a4_3 rfl ?_
  refine lv_ldcw (v := 1431655765) hx hb hown (hts (.constant RJ6 265 (1431655765)) (by decide +kernel)) dJ6_bitCount_0f7a4_4 ?_
  refine lv_iand hx hb dJ6_bitCount_0f7a4_7 ?_
  refine lv_isub hx hb dJ6_bitCount_0f7a4_8 ?_
  refine lv_topi (fun z1 ez1 => ?_)
  have hF := lm_nmE ez1 hF
  refine lv_istore_n (lv' := [(0, .int z1)]) hx hb dJ6_bitCount_0f7a4_9 rfl hl (by decide) rfl (fun ls hl => ?_)
  refine lv_iload_n hx hb dJ6_bitCount_0f7a4_10 rfl (lv_at hl 0 rfl) ?_
  refine lv_ldcw (v := 858993459) hx hb hown (hts (.constant RJ6 266 (858993459)) (by decide +kernel)) dJ6_bitCount_0f7a4_11 ?_
  refine lv_iand hx hb dJ6_bitCount_0f7a4_14 ?_
  refine lv_iload_n hx hb dJ6_bitCount_0f7a4_15 rfl (lv_at hl 0 rfl) ?_
  refine lv_iconst (v := 2) hx hb dJ6_bitCount_0f7a4_16 (by decide) ?_
  refine lv_iushr hx hb dJ6_bitCount_0f7a4_17 rfl ?_
  refine lv_ldcw (v := 858993459) hx hb hown (hts (.constant RJ6 266 (858993459)) (by decide +kernel)) dJ6_bitCount_0f7a4_18 ?_
  refine lv_iand hx hb dJ6_bitCount_0f7a4_21 ?_
  refine lv_iadd hx hb dJ6_bitCount_0f7a4_22 ?_
  refine lv_topi (fun z2 ez2 => ?_)
  have hF := lm_nmE ez2 hF
  refine lv_istore_n (lv' := [(0, .int z2)]) hx hb dJ6_bitCount_0f7a4_23 rfl hl (by decide) rfl (fun ls hl => ?_)
  refine lv_iload_n hx hb dJ6_bitCount_0f7a4_24 rfl (lv_at hl 0 rfl) ?_
  refine lv_iload_n hx hb dJ6_bitCount_0f7a4_25 rfl (lv_at hl 0 rfl) ?_
  refine lv_iconst (v := 4) hx hb dJ6_bitCount_0f7a4_26 (by decide) ?_
  refine lv_iushr hx hb dJ6_bitCount_0f7a4_27 rfl ?_
  refine lv_iadd hx hb dJ6_bitCount_0f7a4_28 ?_
  refine lv_ldcw (v := 252645135) hx hb hown (hts (.constant RJ6 267 (252645135)) (by decide +kernel)) dJ6_bitCount_0f7a4_29 ?_
  refine lv_iand hx hb dJ6_bitCount_0f7a4_32 ?_
  refine lv_topi (fun z3 ez3 => ?_)
  have hF := lm_nmE ez3 hF
  refine lv_istore_n (lv' := [(0, .int z3)]) hx hb dJ6_bitCount_0f7a4_33 rfl hl (by decide) rfl (fun ls hl => ?_)
  refine lv_iload_n hx hb dJ6_bitCount_0f7a4_34 rfl (lv_at hl 0 rfl) ?_
  refine lv_iload_n hx hb dJ6_bitCount_0f7a4_35 rfl (lv_at hl 0 rfl) ?_
  refine lv_bipush (v := 8) hx hb dJ6_bitCount_0f7a4_36 (by decide) ?_
  refine lv_iushr hx hb dJ6_bitCount_0f7a4_38 rfl ?_
  refine lv_iadd hx hb dJ6_bitCount_0f7a4_39 ?_
  refine lv_istore_n (lv' := [(0, .int (z3 + (z3.toUInt32 >>> ((8 : Int32).toUInt32 &&& Int32.toUInt32 31)).toInt32))]) hx hb dJ6_bitCount_0f7a4_40 rfl hl (by decide) rfl (fun ls hl => ?_)
  refine lv_iload_n hx hb dJ6_bitCount_0f7a4_41 rfl (lv_at hl 0 rfl) ?_
  refine lv_iload_n hx hb dJ6_bitCount_0f7a4_42 rfl (lv_at hl 0 rfl) ?_
  refine lv_bipush (v := 16) hx hb dJ6_bitCount_0f7a4_43 (by decide) ?_
  refine lv_iushr hx hb dJ6_bitCount_0f7a4_45 rfl ?_
  refine lv_iadd hx hb dJ6_bitCount_0f7a4_46 ?_
  refine lv_topi (fun z4 ez4 => ?_)
  have hF := lm_nmE ez4 hF
  refine lv_istore_n (lv' := [(0, .int z4)]) hx hb dJ6_bitCount_0f7a4_47 rfl hl (by decide) rfl (fun ls hl => ?_)
  refine lv_iload_n hx hb dJ6_bitCount_0f7a4_48 rfl (lv_at hl 0 rfl) ?_
  refine lv_bipush (v := 63) hx hb dJ6_bitCount_0f7a4_49 (by decide) ?_
  refine lv_iand hx hb dJ6_bitCount_0f7a4_51 ?_
  cases hF
  exact lm_iret B hN dJ6_bitCount_0f7a4_52
