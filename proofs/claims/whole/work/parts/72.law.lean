set_option maxHeartbeats 4000000 in
set_option maxRecDepth 100000 in
/-- the law's entry: the launch's numbers, and what stays -/
theorem lw_entry {p : Program} {s : State} {m : MethodId} {meth : Method} {c : Code} {b L : Nat} {xs : Nat → Int32} (C0 : lw_At p s m meth c b L xs) : ∃ G : lm_G, lw_Cx p s m meth c b L xs G := by
  obtain ⟨hx, hb, hr, hml, hown, hts, hX, hbl, hlocks, hgv⟩ := C0
  have hA : ∀ a : Nat, a < s.heap.size → ¬ lw_A s a := fun a h => Nat.not_le.mpr h
  obtain ⟨c0, i0, k0⟩ := u_known (C := RX0) (T := TX0) (N := 3) (n := 3) hts inX0 (hts (.instantiable RX0 3) (by decide +kernel))
  obtain ⟨c1, i1, k1⟩ := u_known (C := RX1) (T := TX1) (N := 4) (n := 4) hts inX1 (hts (.instantiable RX1 4) (by decide +kernel))
  obtain ⟨c2, i2, k2⟩ := u_known (C := RX2) (T := TX2) (N := 3) (n := 3) hts inX2 (hts (.instantiable RX2 3) (by decide +kernel))
  obtain ⟨c3, i3, k3⟩ := u_known (C := RX3) (T := TX3) (N := 9) (n := 9) hts inX3 (hts (.instantiable RX3 9) (by decide +kernel))
  obtain ⟨c4, i4, k4⟩ := u_known (C := RX4) (T := TX4) (N := 3) (n := 3) hts inX4 (hts (.instantiable RX4 3) (by decide +kernel))
  obtain ⟨c5, i5, k5⟩ := u_known (C := RX5) (T := TX5) (N := 2) (n := 2) hts inX5 (hts (.instantiable RX5 2) (by decide +kernel))
  obtain ⟨c6, i6, k6⟩ := u_known (C := RX6) (T := TX6) (N := 6) (n := 6) hts inX6 (hts (.instantiable RX6 6) (by decide +kernel))
  obtain ⟨c7, i7, k7⟩ := u_known (C := RX7) (T := TX7) (N := 5) (n := 5) hts inX7 (hts (.instantiable RX7 5) (by decide +kernel))
  obtain ⟨c8, i8, k8⟩ := u_known (C := RX8) (T := TX8) (N := 13) (n := 13) hts inX8 (hts (.instantiable RX8 13) (by decide +kernel))
  obtain ⟨c9, i9, k9⟩ := u_known (C := RX9) (T := TX9) (N := 34) (n := 34) hts inX9 (hts (.instantiable RX9 34) (by decide +kernel))
  obtain ⟨dC, dI, hKc⟩ : ∃ (dC : Nat → ClassId) (dI : Nat → Nat → Nat), ∀ (k : Nat) (q : vw_C), vwCl[k]? = some q → u_Kn s q.1 q.2.1 q.2.2 (dC k) (dI k) := by
    refine ⟨(fun k => match k with | 0 => c0 | 1 => c1 | 2 => c2 | 3 => c3 | 4 => c4 | 5 => c5 | 6 => c6 | 7 => c7 | 8 => c8 | _ => c9), (fun k => match k with | 0 => i0 | 1 => i1 | 2 => i2 | 3 => i3 | 4 => i4 | 5 => i5 | 6 => i6 | 7 => i7 | 8 => i8 | _ => i9), ?_⟩
    intro k q hq
    match k, hq with
    | 0, hq => cases hq; exact k0
    | 1, hq => cases hq; exact k1
    | 2, hq => cases hq; exact k2
    | 3, hq => cases hq; exact k3
    | 4, hq => cases hq; exact k4
    | 5, hq => cases hq; exact k5
    | 6, hq => cases hq; exact k6
    | 7, hq => cases hq; exact k7
    | 8, hq => cases hq; exact k8
    | 9, hq => cases hq; exact k9
    | k + 10, hq => simp [vwCl] at hq
  obtain ⟨cA, kA, comp, f1, f2, f3⟩ := Cond.arrayClass_spec (hts (.arrayClass .int) (by decide +kernel))
  have hf := flat_of_before _ hgv
  obtain ⟨adK, adV, hS, hE⟩ := vk_Sof (args := #[Value.ref b]) (s := s) (N := 1) (tm := fun _ => Term.string "LeastMissed$Page" 43) (len := [5]) (byt := [[116, 99, 117, 112, 115]]) (A := lw_A s)
    (fun i hi => by
      obtain rfl : i = 0 := by omega
      decide)
    (fun i hi => hf (Cond.exactly (Term.string "LeastMissed$Page" 43) "java/lang/String") (by decide +kernel))
    (fun i hi => hf (Cond.eq (.field (Term.string "LeastMissed$Page" 43) "java/lang/String" "coder" "B") (.int 0)) (by decide +kernel))
    (fun i hi => hf (Cond.arrayOf (.field (Term.string "LeastMissed$Page" 43) "java/lang/String" "value" "[B") .byte) (by decide +kernel))
    (fun i hi => by
      obtain rfl : i = 0 := by omega
      exact hf (Cond.eq (.length (.field (Term.string "LeastMissed$Page" 43) "java/lang/String" "value" "[B")) (.int 5)) (by decide +kernel))
    (fun i hi j hj => by
      obtain rfl : i = 0 := by omega
      have hj : j < 5 := hj
      match j, hj with
      | 0, _ => exact hf (Cond.eq (.elem (.field (Term.string "LeastMissed$Page" 43) "java/lang/String" "value" "[B") (.int 0)) (.int 116)) (by decide +kernel)
      | 1, _ => exact hf (Cond.eq (.elem (.field (Term.string "LeastMissed$Page" 43) "java/lang/String" "value" "[B") (.int 1)) (.int 99)) (by decide +kernel)
      | 2, _ => exact hf (Cond.eq (.elem (.field (Term.string "LeastMissed$Page" 43) "java/lang/String" "value" "[B") (.int 2)) (.int 117)) (by decide +kernel)
      | 3, _ => exact hf (Cond.eq (.elem (.field (Term.string "LeastMissed$Page" 43) "java/lang/String" "value" "[B") (.int 3)) (.int 112)) (by decide +kernel)
      | 4, _ => exact hf (Cond.eq (.elem (.field (Term.string "LeastMissed$Page" 43) "java/lang/String" "value" "[B") (.int 4)) (.int 115)) (by decide +kernel)
      | j + 5, hj => exact absurd hj (by omega))
    (fun i j hi hj hij => absurd (show i = j by omega) hij) hA
  have hS1 : vk_S 1 [5] [[116, 99, 117, 112, 115]] (fun _ => adK 0) (fun _ => adV 0) (lw_A s) s s.heap := by
    refine ⟨fun i hi => ?_, fun i j hi hj _ => by omega⟩
    obtain rfl : i = 0 := by omega
    exact hS.1 0 hi
  have hZ : va_Z "java/lang/String" "COMPACT_STRINGS" "Z" (.int 1) (lw_A s) s s.heap := va_Zof (hts (.laysStatic "java/lang/String" "COMPACT_STRINGS" "Z") (by decide +kernel)) (hts (.initialized "java/lang/String") (by decide +kernel)) (va_eqi (hf (Cond.eq (.static "java/lang/String" "COMPACT_STRINGS" "Z") (.int 1)) (by decide +kernel))) hA
  have hnwt : ∀ w ∈ lm_nwL, w.onTables = true := by decide +kernel
  have hnw : lm_nw s := fun w hw => va_Nw.of (hnwt w hw) (hts w (lm_nw_in w hw))
  have hR : vk_R RX5 43 "tcups" (adK 0) s := vk_R.of (A := #[Value.ref b]) (hts (.stringRef RX5 43 "tcups") (by decide +kernel)) (hE 0 (by decide))
  refine ⟨((dC, dI), cA, adK 0, adV 0), ⟨⟨hx, hb, hml, hown, fun w h => hts w (wsL_law_in w h)⟩, hr, hlocks, fun q h => h, ⟨hKc, fun k q h => ?_⟩, hnw, hR, hS1, hZ⟩, hX, hbl⟩
  match k, h with
  | 0, h =>
    cases h
    exact ⟨fun N z => ⟨fun k h => (by cases h), kA, f2, comp, f3⟩, f1⟩
  | k + 1, h => simp at h
set_option maxHeartbeats 4000000 in
set_option maxRecDepth 100000 in
/-- the loop -/
theorem lw_loop {p : Program} {l : Launch} {e : Env} {s : State} {m : MethodId} {below : List Frame} {meth : Method} {c : Code} {b L : Nat} {xs : Nat → Int32} {G : lm_G} {Qs : Nat → Nat → Nat} {q : Nat → Nat} (hL : L ≤ 2048) (C : lw_Cx p s m meth c b L xs G) : ∀ (n j : Nat), 4 * j ≤ L → L + 1 ≤ 4 * j + n → ∀ (g : Nat → lm_St) (t : lm_St) (H : Heap) (locs : List Loc) (ls : Array Slot), Rel j g t → lm_N G (lw_A s) s (wA8 G Qs g ++ wX9 G q t) H locs → lv_has ls 4 (lw_ls b (Qs 0 0) (q 0) (4 * j)) → W p l e room_1 s m #[Value.ref b] below meth c H locs 600000 7302250 (lw_Z below #[Value.ref b] s) (F0 m 18 ls []) := by
  intro n
  induction n with
  | zero =>
    intro j h1 h2
    exact absurd h2 (by omega)
  | succ n ih =>
    intro j h1 h2 g t H locs ls hR hN hl
    obtain ⟨B, hX, hbl⟩ := id C
    have hx := B.1.1
    have hb := B.1.2.1
    have hbA : ¬ lw_A s b := Nat.not_le.mpr hbl
    refine lv_iload_n hx hb dL_law_18 rfl (lv_at hl 3 rfl) ?_
    refine lv_aload_n hx hb dL_law_19 rfl (lv_at hl 0 rfl) ?_
    refine va_slen hx hb hX hbl hbA hN.2.2 dL_law_20 ?_
    refine lv_iconst (v := 4) hx hb dL_law_21 (by decide) ?_
    refine lv_isub hx hb dL_law_22 ?_
    refine lv_icmp_gt (tgt := 713) hx hb dL_law_23 (by decide) (fun c1 => ?_) (fun c1 => ?_)
    · refine lv_iconst (v := 1) hx hb dL_law_713 (by decide) ?_
      refine va_forget (fun q hq => hN.2.2.2.2 q hq) ?_
      exact lw_ret hx hb B.2.1 B.2.2.1 dL_law_714
    · have hi : 4 * j + 4 ≤ L := lw_cond hL (by omega) c1
      have kk : lw_Kk p l e s m below meth c b G Qs q j ls (lw_Z below #[Value.ref b] s) := by
        intro g1 t1 H1 locs1 hR1 hN1
        refine lv_iinc (v := nI (4 * (j + 1))) (lv' := [(3, .int (nI (4 * (j + 1)))), (0, .ref b), (1, .ref (Qs 0 0)), (2, .ref (q 0))]) hx hb dL_law_707 hl (k := 3) rfl (lw_inc j) (by decide) rfl (fun ls hl => ?_)
        refine lv_goto (tgt := 18) hx hb dL_law_710 (by decide) ?_
        exact ih (j + 1) (by omega) (by omega) g1 t1 H1 locs1 ls hR1 hN1 (lv_sub hl [1, 2, 3, 0] rfl)
      refine lv_aload_n hx hb dL_law_26 rfl (lv_at hl 0 rfl) ?_
      refine lv_iload_n hx hb dL_law_27 rfl (lv_at hl 3 rfl) ?_
      refine va_sld hx hb hX hbl hbA hN.2.2 (vp_in_nI (by omega) (by omega)) dL_law_28 ?_
      refine lv_bipush (v := 31) hx hb dL_law_29 (by decide) ?_
      refine lv_iand hx hb dL_law_31 ?_
      obtain ⟨n9, hn9, en⟩ := lw_and31 (xs (nI (4 * j)).toNatClampNeg)
      rw [en]
      clear en ih
      match n9, hn9 with
      | 0, _ => exact lv_tableIn (off := 112) (tgt := 144) hx hb dL_law_32 (by decide +kernel) (by decide +kernel) (by decide +kernel) (by decide) (lw_k0 C hL hi (by omega) hR hN hl kk)
      | 1, _ => exact lv_tableIn (off := 135) (tgt := 167) hx hb dL_law_32 (by decide +kernel) (by decide +kernel) (by decide +kernel) (by decide) (lw_k1 C hL hi (by omega) hR hN hl kk)
      | 2, _ => exact lv_tableIn (off := 148) (tgt := 180) hx hb dL_law_32 (by decide +kernel) (by decide +kernel) (by decide +kernel) (by decide) (lw_k2 C hL hi (by omega) hR hN hl kk)
      | 3, _ => exact lv_tableIn (off := 161) (tgt := 193) hx hb dL_law_32 (by decide +kernel) (by decide +kernel) (by decide +kernel) (by decide) (lw_k3 C hL hi (by omega) hR hN hl kk)
      | 4, _ => exact lv_tableIn (off := 174) (tgt := 206) hx hb dL_law_32 (by decide +kernel) (by decide +kernel) (by decide +kernel) (by decide) (lw_k4 C hL hi (by omega) hR hN hl kk)
      | 5, _ => exact lv_tableIn (off := 207) (tgt := 239) hx hb dL_law_32 (by decide +kernel) (by decide +kernel) (by decide +kernel) (by decide) (lw_k5 C hL hi (by omega) hR hN hl kk)
      | 6, _ => exact lv_tableIn (off := 240) (tgt := 272) hx hb dL_law_32 (by decide +kernel) (by decide +kernel) (by decide +kernel) (by decide) (lw_k6 C hL hi (by omega) hR hN hl kk)
      | 7, _ => exact lv_tableIn (off := 263) (tgt := 295) hx hb dL_law_32 (by decide +kernel) (by decide +kernel) (by decide +kernel) (by decide) (lw_k7 C hL hi (by omega) hR hN hl kk)
      | 8, _ => exact lv_tableIn (off := 276) (tgt := 308) hx hb dL_law_32 (by decide +kernel) (by decide +kernel) (by decide +kernel) (by decide) (lw_k8 C hL hi (by omega) hR hN hl kk)
      | 9, _ => exact lv_tableIn (off := 289) (tgt := 321) hx hb dL_law_32 (by decide +kernel) (by decide +kernel) (by decide +kernel) (by decide) (lw_k9 C hL hi (by omega) hR hN hl kk)
      | 10, _ => exact lv_tableIn (off := 312) (tgt := 344) hx hb dL_law_32 (by decide +kernel) (by decide +kernel) (by decide +kernel) (by decide) (lw_k10 C hL hi (by omega) hR hN hl kk)
      | 11, _ => exact lv_tableIn (off := 335) (tgt := 367) hx hb dL_law_32 (by decide +kernel) (by decide +kernel) (by decide +kernel) (by decide) (lw_k11 C hL hi (by omega) hR hN hl kk)
      | 12, _ => exact lv_tableIn (off := 378) (tgt := 410) hx hb dL_law_32 (by decide +kernel) (by decide +kernel) (by decide +kernel) (by decide) (lw_k12 C hL hi (by omega) hR hN hl kk)
      | 13, _ => exact lv_tableIn (off := 401) (tgt := 433) hx hb dL_law_32 (by decide +kernel) (by decide +kernel) (by decide +kernel) (by decide) (lw_k13 C hL hi (by omega) hR hN hl kk)
      | 14, _ => exact lv_tableIn (off := 434) (tgt := 466) hx hb dL_law_32 (by decide +kernel) (by decide +kernel) (by decide +kernel) (by decide) (lw_k14 C hL hi (by omega) hR hN hl kk)
      | 15, _ => exact lv_tableIn (off := 457) (tgt := 489) hx hb dL_law_32 (by decide +kernel) (by decide +kernel) (by decide +kernel) (by decide) (lw_k15 C hL hi (by omega) hR hN hl kk)
      | 16, _ => exact lv_tableIn (off := 500) (tgt := 532) hx hb dL_law_32 (by decide +kernel) (by decide +kernel) (by decide +kernel) (by decide) (lw_k16 C hL hi (by omega) hR hN hl kk)
      | 17, _ => exact lv_tableIn (off := 513) (tgt := 545) hx hb dL_law_32 (by decide +kernel) (by decide +kernel) (by decide +kernel) (by decide) (lw_k17 C hL hi (by omega) hR hN hl kk)
      | 18, _ => exact lv_tableIn (off := 556) (tgt := 588) hx hb dL_law_32 (by decide +kernel) (by decide +kernel) (by decide +kernel) (by decide) (lw_k18 C hL hi (by omega) hR hN hl kk)
      | 19, _ => exact lv_tableIn (off := 569) (tgt := 601) hx hb dL_law_32 (by decide +kernel) (by decide +kernel) (by decide +kernel) (by decide) (lw_k19 C hL hi (by omega) hR hN hl kk)
      | 20, _ => exact lv_tableIn (off := 612) (tgt := 644) hx hb dL_law_32 (by decide +kernel) (by decide +kernel) (by decide +kernel) (by decide) (lw_k20 C hL hi (by omega) hR hN hl kk)
      | 21, _ => exact lv_tableIn (off := 625) (tgt := 657) hx hb dL_law_32 (by decide +kernel) (by decide +kernel) (by decide +kernel) (by decide) (lw_k21 C hL hi (by omega) hR hN hl kk)
      | 22, _ => exact lv_tableIn (off := 638) (tgt := 670) hx hb dL_law_32 (by decide +kernel) (by decide +kernel) (by decide +kernel) (by decide) (lw_k22 C hL hi (by omega) hR hN hl kk)
      | 23, _ => exact lv_tableIn (off := 661) (tgt := 693) hx hb dL_law_32 (by decide +kernel) (by decide +kernel) (by decide +kernel) (by decide) (lw_k23 C hL hi (by omega) hR hN hl kk)
      | n9 + 24, hn9 => exact lv_tableOut (tgt := 707) hx hb dL_law_32 (Or.inr (by rw [nI_toInt (by omega)]; omega)) (by decide) (kk g t H locs hR.up hN)
set_option maxHeartbeats 4000000 in
set_option maxRecDepth 100000 in
/-- from the entry, for every script of at most 2048 ints, the law comes to its end with true -/
theorem whole_start {p : Program} {e : Env} {s : State} {m : MethodId} {below : List Frame} {meth : Method} {c : Code} (l : Launch) {b L : Nat} {xs : Nat → Int32} (hL : L ≤ 2048) (C0 : lw_At p s m meth c b L xs) : W p l e room_1 s m #[Value.ref b] below meth c s.heap [] 0 0 (lw_Z below #[Value.ref b] s) (entryFrame m ([Value.ref b] : List Value).toArray 4) := by
  obtain ⟨G, C⟩ := lw_entry C0
  obtain ⟨B, hX, hbl⟩ := id C
  have hx := B.1.1
  have hb := B.1.2.1
  have hN : lm_N G (lw_A s) s [] s.heap [] := ⟨fun k q h => by simp at h, ⟨fun i j p q h => by simp at h, fun k q h => by simp at h⟩, va_S.rf⟩
  have hl := lv_entry ([.ref b]) (n := 4) (Nat.le_of_ble_eq_true rfl)
  rw [lg_entry_eq]
  generalize (lg_sl ([.ref b]) ++ List.replicate (4 - (lg_sl ([.ref b])).length) Slot.unset).toArray = ls at hl ⊢
  have hl : lv_has ls 4 [(0, .ref b)] := hl
  refine lm_new B hN (ci := 8) inlX8 tyX8 tyX8_ok (by decide +kernel) (by decide +kernel) (by decide +kernel) rfl (fs := [.null, .null, .null, .null, .null, .null, .null, .null, .null, .null, .int 0, .int 0, .int 0]) (by decide +kernel) (by decide) (by decide) dL_law_0 (fun b1 H hN => ?_)
  refine lv_dup hx hb dL_law_3 rfl ?_
  refine lm_runI B hN (lw_hrI B hN hl.1 (iX8 l G b1) gL_law_X8_init rfl (by decide +kernel) (by decide +kernel) (by decide +kernel) rfl (by decide +kernel) (by decide) (by decide) (Nat.le_of_ble_eq_true rfl) ⟨by decide, by decide⟩ dL_law_4) (fun w1 H locs hw1 hN => ?_)
  obtain ⟨Qs, rfl, rfl⟩ := hw1
  rw [List.nil_append] at hN
  refine lv_astore_n (lv' := [(1, .ref (Qs 0 0)), (0, .ref b)]) hx hb dL_law_7 rfl hl (by decide) rfl (fun ls hl => ?_)
  refine lm_new B hN (ci := 9) inlX9 tyX9 tyX9_ok (by decide +kernel) (by decide +kernel) (by decide +kernel) rfl (fs := [.null, .int 0, .int 0, .int 0, .int 0, .int 0, .int 0, .int 0, .null, .null, .null, .null, .null, .null, .null, .null, .int 0, .int 0, .null, .int 0, .null, .int 0, .int 0, .int 0, .int 0, .int 0, .int 0, .null, .null, .null, .null, .null, .null, .long 0]) (by decide +kernel) (by decide) (by decide) dL_law_8 (fun b2 H hN => ?_)
  refine lv_dup hx hb dL_law_11 rfl ?_
  refine lm_runI B hN (lw_hrI B hN hl.1 (iX9 l G b2) gL_law_X9_init rfl (by decide +kernel) (by decide +kernel) (by decide +kernel) rfl (by decide +kernel) (by decide) (by decide) (Nat.le_of_ble_eq_true rfl) ⟨by decide, by decide⟩ dL_law_12) (fun w1 H locs hw1 hN => ?_)
  obtain ⟨q, rfl, rfl⟩ := hw1
  refine lv_astore_n (lv' := [(2, .ref (q 0)), (1, .ref (Qs 0 0)), (0, .ref b)]) hx hb dL_law_15 rfl hl (by decide) rfl (fun ls hl => ?_)
  refine lv_iconst (v := 0) hx hb dL_law_16 (by decide) ?_
  refine lv_istore_n (lv' := [(3, .int 0), (2, .ref (q 0)), (1, .ref (Qs 0 0)), (0, .ref b)]) hx hb dL_law_17 rfl hl (by decide) rfl (fun ls hl => ?_)
  refine W.widen (k := 600000) (n := 7302250) (by decide) (by decide) ?_
  exact lw_loop hL C (L + 1) 0 (Nat.zero_le L) (by omega) _ _ _ _ ls Rel.new hN (lv_sub hl [3, 2, 1, 0] rfl)
