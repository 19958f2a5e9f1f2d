section LAWK
variable {p : Program} {l : Launch} {e : Env} {s : State} {m : MethodId} {below : List Frame} {meth : Method} {c : Code} {b L : Nat} {xs : Nat → Int32} {G : lm_G} {Qs : Nat → Nat → Nat} {q : Nat → Nat} {i cn : Nat} {g : Nat → lm_St} {t : lm_St} {H : Heap} {locs : List Loc} {ls : Array Slot} {Q : State → Prop}
set_option maxHeartbeats 4000000 in
set_option maxRecDepth 100000 in
theorem lw_k0 (C : lw_Cx p s m meth c b L xs G) (hL : L ≤ 2048) (hi : i + 4 ≤ L) (hc : cn < 1000) (hR : Rel cn g t) (hN : lm_N G (lw_A s) s (wA8 G Qs g ++ wX9 G q t) H locs) (hl : lv_has ls 4 (lw_ls b (Qs 0 0) (q 0) i)) (kk : lw_Kk p l e s m below meth c b G Qs q cn ls Q) : W p l e room_1 s m #[Value.ref b] below meth c H locs 600000 7302250 Q (F0 m 144 ls []) := by
  obtain ⟨B, hX, hbl⟩ := C
  have hx := B.1.1
  have hb := B.1.2.1
  have hbA : ¬ lw_A s b := Nat.not_le.mpr hbl
  obtain ⟨r, g1, t1, hf, hm, hR1⟩ := sim_letter hR (xs (nI i + 1).toNatClampNeg)
  refine lv_aload_n hx hb dL_law_144 rfl (lv_at hl 1 rfl) ?_
  refine lv_aload_n hx hb dL_law_145 rfl (lv_at hl 0 rfl) ?_
  refine lv_iload_n hx hb dL_law_146 rfl (lv_at hl 3 rfl) ?_
  refine lv_iconst (v := 1) hx hb dL_law_147 (by decide) ?_
  refine lv_iadd hx hb dL_law_148 ?_
  refine va_sld hx hb hX hbl hbA hN.2.2 (lw_ix1 hL hi) dL_law_149 ?_
  refine lw_c8 (n := 1) (g1 := g1) (v := .int r) (As := [.int (xs (nI i + 1).toNatClampNeg)]) B hN hl.1 (hX8_letter l G Qs hf) gL_law_X8_letter rfl (by decide +kernel) rfl ⟨by decide, by decide⟩ rfl (Nat.le_of_ble_eq_true rfl) ⟨by decide, by decide⟩ dL_law_150 (fun H locs hN => ?_)
  refine lv_aload_n hx hb dL_law_153 rfl (lv_at hl 2 rfl) ?_
  refine lv_aload_n hx hb dL_law_154 rfl (lv_at hl 0 rfl) ?_
  refine lv_iload_n hx hb dL_law_155 rfl (lv_at hl 3 rfl) ?_
  refine lv_iconst (v := 1) hx hb dL_law_156 (by decide) ?_
  refine lv_iadd hx hb dL_law_157 ?_
  refine va_sld hx hb hX hbl hbA hN.2.2 (lw_ix1 hL hi) dL_law_158 ?_
  refine lw_c9 (n := 1) (t1 := t1) (v := .int r) (As := [.int (xs (nI i + 1).toNatClampNeg)]) B hN hl.1 (hX9_letter l G q hm) gL_law_X9_letter rfl (by decide +kernel) rfl ⟨by decide, by decide⟩ rfl (Nat.le_of_ble_eq_true rfl) ⟨by decide, by decide⟩ dL_law_159 (fun H locs hN => ?_)
  exact lv_icmp_eq (tgt := 707) hx hb dL_law_162 (by decide) (fun _ => kk g1 t1 H locs hR1 hN) (fun h => absurd rfl h)
set_option maxHeartbeats 4000000 in
set_option maxRecDepth 100000 in
theorem lw_k1 (C : lw_Cx p s m meth c b L xs G) (hL : L ≤ 2048) (hi : i + 4 ≤ L) (hc : cn < 1000) (hR : Rel cn g t) (hN : lm_N G (lw_A s) s (wA8 G Qs g ++ wX9 G q t) H locs) (hl : lv_has ls 4 (lw_ls b (Qs 0 0) (q 0) i)) (kk : lw_Kk p l e s m below meth c b G Qs q cn ls Q) : W p l e room_1 s m #[Value.ref b] below meth c H locs 600000 7302250 Q (F0 m 167 ls []) := by
  obtain ⟨B, hX, hbl⟩ := C
  have hx := B.1.1
  have hb := B.1.2.1
  have hbA : ¬ lw_A s b := Nat.not_le.mpr hbl
  obtain ⟨r, g1, t1, hf, hm, hR1⟩ := sim_blank hR
  refine lv_aload_n hx hb dL_law_167 rfl (lv_at hl 1 rfl) ?_
  refine lw_c8 (n := 0) (g1 := g1) (v := .int r) (As := []) B hN hl.1 (hX8_blank l G Qs hf) gL_law_X8_blank rfl (by decide +kernel) rfl ⟨by decide, by decide⟩ rfl (Nat.le_of_ble_eq_true rfl) ⟨by decide, by decide⟩ dL_law_168 (fun H locs hN => ?_)
  refine lv_aload_n hx hb dL_law_171 rfl (lv_at hl 2 rfl) ?_
  refine lw_c9 (n := 0) (t1 := t1) (v := .int r) (As := []) B hN hl.1 (hX9_blank l G q hm) gL_law_X9_blank rfl (by decide +kernel) rfl ⟨by decide, by decide⟩ rfl (Nat.le_of_ble_eq_true rfl) ⟨by decide, by decide⟩ dL_law_172 (fun H locs hN => ?_)
  exact lv_icmp_eq (tgt := 707) hx hb dL_law_175 (by decide) (fun _ => kk g1 t1 H locs hR1 hN) (fun h => absurd rfl h)
set_option maxHeartbeats 4000000 in
set_option maxRecDepth 100000 in
theorem lw_k2 (C : lw_Cx p s m meth c b L xs G) (hL : L ≤ 2048) (hi : i + 4 ≤ L) (hc : cn < 1000) (hR : Rel cn g t) (hN : lm_N G (lw_A s) s (wA8 G Qs g ++ wX9 G q t) H locs) (hl : lv_has ls 4 (lw_ls b (Qs 0 0) (q 0) i)) (kk : lw_Kk p l e s m below meth c b G Qs q cn ls Q) : W p l e room_1 s m #[Value.ref b] below meth c H locs 600000 7302250 Q (F0 m 180 ls []) := by
  obtain ⟨B, hX, hbl⟩ := C
  have hx := B.1.1
  have hb := B.1.2.1
  have hbA : ¬ lw_A s b := Nat.not_le.mpr hbl
  obtain ⟨r, g1, t1, hf, hm, hR1⟩ := sim_fault hR
  refine lv_aload_n hx hb dL_law_180 rfl (lv_at hl 1 rfl) ?_
  refine lw_c8 (n := 0) (g1 := g1) (v := .int r) (As := []) B hN hl.1 (hX8_fault l G Qs hf) gL_law_X8_fault rfl (by decide +kernel) rfl ⟨by decide, by decide⟩ rfl (Nat.le_of_ble_eq_true rfl) ⟨by decide, by decide⟩ dL_law_181 (fun H locs hN => ?_)
  refine lv_aload_n hx hb dL_law_184 rfl (lv_at hl 2 rfl) ?_
  refine lw_c9 (n := 0) (t1 := t1) (v := .int r) (As := []) B hN hl.1 (hX9_fault l G q hm) gL_law_X9_fault rfl (by decide +kernel) rfl ⟨by decide, by decide⟩ rfl (Nat.le_of_ble_eq_true rfl) ⟨by decide, by decide⟩ dL_law_185 (fun H locs hN => ?_)
  exact lv_icmp_eq (tgt := 707) hx hb dL_law_188 (by decide) (fun _ => kk g1 t1 H locs hR1 hN) (fun h => absurd rfl h)
set_option maxHeartbeats 4000000 in
set_option maxRecDepth 100000 in
theorem lw_k3 (C : lw_Cx p s m meth c b L xs G) (hL : L ≤ 2048) (hi : i + 4 ≤ L) (hc : cn < 1000) (hR : Rel cn g t) (hN : lm_N G (lw_A s) s (wA8 G Qs g ++ wX9 G q t) H locs) (hl : lv_has ls 4 (lw_ls b (Qs 0 0) (q 0) i)) (kk : lw_Kk p l e s m below meth c b G Qs q cn ls Q) : W p l e room_1 s m #[Value.ref b] below meth c H locs 600000 7302250 Q (F0 m 193 ls []) := by
  obtain ⟨B, hX, hbl⟩ := C
  have hx := B.1.1
  have hb := B.1.2.1
  have hbA : ¬ lw_A s b := Nat.not_le.mpr hbl
  obtain ⟨r, g1, t1, hf, hm, hR1⟩ := sim_house hc hR
  refine lv_aload_n hx hb dL_law_193 rfl (lv_at hl 1 rfl) ?_
  refine lw_c8 (n := 0) (g1 := g1) (v := .int r) (As := []) B hN hl.1 (hX8_house l G Qs hf) gL_law_X8_house rfl (by decide +kernel) rfl ⟨by decide, by decide⟩ rfl (Nat.le_of_ble_eq_true rfl) ⟨by decide, by decide⟩ dL_law_194 (fun H locs hN => ?_)
  refine lv_aload_n hx hb dL_law_197 rfl (lv_at hl 2 rfl) ?_
  refine lw_c9 (n := 0) (t1 := t1) (v := .int r) (As := []) B hN hl.1 (hX9_house l G q hm) gL_law_X9_house rfl (by decide +kernel) rfl ⟨by decide, by decide⟩ rfl (Nat.le_of_ble_eq_true rfl) ⟨by decide, by decide⟩ dL_law_198 (fun H locs hN => ?_)
  exact lv_icmp_eq (tgt := 707) hx hb dL_law_201 (by decide) (fun _ => kk g1 t1 H locs hR1 hN) (fun h => absurd rfl h)
set_option maxHeartbeats 4000000 in
set_option maxRecDepth 100000 in
theorem lw_k4 (C : lw_Cx p s m meth c b L xs G) (hL : L ≤ 2048) (hi : i + 4 ≤ L) (hc : cn < 1000) (hR : Rel cn g t) (hN : lm_N G (lw_A s) s (wA8 G Qs g ++ wX9 G q t) H locs) (hl : lv_has ls 4 (lw_ls b (Qs 0 0) (q 0) i)) (kk : lw_Kk p l e s m below meth c b G Qs q cn ls Q) : W p l e room_1 s m #[Value.ref b] below meth c H locs 600000 7302250 Q (F0 m 206 ls []) := by
  obtain ⟨B, hX, hbl⟩ := C
  have hx := B.1.1
  have hb := B.1.2.1
  have hbA : ¬ lw_A s b := Nat.not_le.mpr hbl
  obtain ⟨r, g1, t1, hf, hm, hR1⟩ := sim_thing hR (xs (nI i + 1).toNatClampNeg) (xs (nI i + 2).toNatClampNeg)
  refine lv_aload_n hx hb dL_law_206 rfl (lv_at hl 1 rfl) ?_
  refine lv_aload_n hx hb dL_law_207 rfl (lv_at hl 0 rfl) ?_
  refine lv_iload_n hx hb dL_law_208 rfl (lv_at hl 3 rfl) ?_
  refine lv_iconst (v := 1) hx hb dL_law_209 (by decide) ?_
  refine lv_iadd hx hb dL_law_210 ?_
  refine va_sld hx hb hX hbl hbA hN.2.2 (lw_ix1 hL hi) dL_law_211 ?_
  refine lv_aload_n hx hb dL_law_212 rfl (lv_at hl 0 rfl) ?_
  refine lv_iload_n hx hb dL_law_213 rfl (lv_at hl 3 rfl) ?_
  refine lv_iconst (v := 2) hx hb dL_law_214 (by decide) ?_
  refine lv_iadd hx hb dL_law_215 ?_
  refine va_sld hx hb hX hbl hbA hN.2.2 (lw_ix2 hL hi) dL_law_216 ?_
  refine lw_c8 (n := 2) (g1 := g1) (v := .int r) (As := [.int (xs (nI i + 1).toNatClampNeg), .int (xs (nI i + 2).toNatClampNeg)]) B hN hl.1 (hX8_thing l G Qs hf) gL_law_X8_thing rfl (by decide +kernel) rfl ⟨by decide, by decide⟩ rfl (Nat.le_of_ble_eq_true rfl) ⟨by decide, by decide⟩ dL_law_217 (fun H locs hN => ?_)
  refine lv_aload_n hx hb dL_law_220 rfl (lv_at hl 2 rfl) ?_
  refine lv_aload_n hx hb dL_law_221 rfl (lv_at hl 0 rfl) ?_
  refine lv_iload_n hx hb dL_law_222 rfl (lv_at hl 3 rfl) ?_
  refine lv_iconst (v := 1) hx hb dL_law_223 (by decide) ?_
  refine lv_iadd hx hb dL_law_224 ?_
  refine va_sld hx hb hX hbl hbA hN.2.2 (lw_ix1 hL hi) dL_law_225 ?_
  refine lv_aload_n hx hb dL_law_226 rfl (lv_at hl 0 rfl) ?_
  refine lv_iload_n hx hb dL_law_227 rfl (lv_at hl 3 rfl) ?_
  refine lv_iconst (v := 2) hx hb dL_law_228 (by decide) ?_
  refine lv_iadd hx hb dL_law_229 ?_
  refine va_sld hx hb hX hbl hbA hN.2.2 (lw_ix2 hL hi) dL_law_230 ?_
  refine lw_c9 (n := 2) (t1 := t1) (v := .int r) (As := [.int (xs (nI i + 1).toNatClampNeg), .int (xs (nI i + 2).toNatClampNeg)]) B hN hl.1 (hX9_thing l G q hm) gL_law_X9_thing rfl (by decide +kernel) rfl ⟨by decide, by decide⟩ rfl (Nat.le_of_ble_eq_true rfl) ⟨by decide, by decide⟩ dL_law_231 (fun H locs hN => ?_)
  exact lv_icmp_eq (tgt := 707) hx hb dL_law_234 (by decide) (fun _ => kk g1 t1 H locs hR1 hN) (fun h => absurd rfl h)
set_option maxHeartbeats 4000000 in
set_option maxRecDepth 100000 in
theorem lw_k5 (C : lw_Cx p s m meth c b L xs G) (hL : L ≤ 2048) (hi : i + 4 ≤ L) (hc : cn < 1000) (hR : Rel cn g t) (hN : lm_N G (lw_A s) s (wA8 G Qs g ++ wX9 G q t) H locs) (hl : lv_has ls 4 (lw_ls b (Qs 0 0) (q 0) i)) (kk : lw_Kk p l e s m below meth c b G Qs q cn ls Q) : W p l e room_1 s m #[Value.ref b] below meth c H locs 600000 7302250 Q (F0 m 239 ls []) := by
  obtain ⟨B, hX, hbl⟩ := C
  have hx := B.1.1
  have hb := B.1.2.1
  have hbA : ¬ lw_A s b := Nat.not_le.mpr hbl
  obtain ⟨r, g1, t1, hf, hm, hR1⟩ := sim_as hR (xs (nI i + 1).toNatClampNeg) (xs (nI i + 2).toNatClampNeg)
  refine lv_aload_n hx hb dL_law_239 rfl (lv_at hl 1 rfl) ?_
  refine lv_aload_n hx hb dL_law_240 rfl (lv_at hl 0 rfl) ?_
  refine lv_iload_n hx hb dL_law_241 rfl (lv_at hl 3 rfl) ?_
  refine lv_iconst (v := 1) hx hb dL_law_242 (by decide) ?_
  refine lv_iadd hx hb dL_law_243 ?_
  refine va_sld hx hb hX hbl hbA hN.2.2 (lw_ix1 hL hi) dL_law_244 ?_
  refine lv_aload_n hx hb dL_law_245 rfl (lv_at hl 0 rfl) ?_
  refine lv_iload_n hx hb dL_law_246 rfl (lv_at hl 3 rfl) ?_
  refine lv_iconst (v := 2) hx hb dL_law_247 (by decide) ?_
  refine lv_iadd hx hb dL_law_248 ?_
  refine va_sld hx hb hX hbl hbA hN.2.2 (lw_ix2 hL hi) dL_law_249 ?_
  refine lw_c8 (n := 2) (g1 := g1) (v := .int r) (As := [.int (xs (nI i + 1).toNatClampNeg), .int (xs (nI i + 2).toNatClampNeg)]) B hN hl.1 (hX8_as l G Qs hf) gL_law_X8_as rfl (by decide +kernel) rfl ⟨by decide, by decide⟩ rfl (Nat.le_of_ble_eq_true rfl) ⟨by decide, by decide⟩ dL_law_250 (fun H locs hN => ?_)
  refine lv_aload_n hx hb dL_law_253 rfl (lv_at hl 2 rfl) ?_
  refine lv_aload_n hx hb dL_law_254 rfl (lv_at hl 0 rfl) ?_
  refine lv_iload_n hx hb dL_law_255 rfl (lv_at hl 3 rfl) ?_
  refine lv_iconst (v := 1) hx hb dL_law_256 (by decide) ?_
  refine lv_iadd hx hb dL_law_257 ?_
  refine va_sld hx hb hX hbl hbA hN.2.2 (lw_ix1 hL hi) dL_law_258 ?_
  refine lv_aload_n hx hb dL_law_259 rfl (lv_at hl 0 rfl) ?_
  refine lv_iload_n hx hb dL_law_260 rfl (lv_at hl 3 rfl) ?_
  refine lv_iconst (v := 2) hx hb dL_law_261 (by decide) ?_
  refine lv_iadd hx hb dL_law_262 ?_
  refine va_sld hx hb hX hbl hbA hN.2.2 (lw_ix2 hL hi) dL_law_263 ?_
  refine lw_c9 (n := 2) (t1 := t1) (v := .int r) (As := [.int (xs (nI i + 1).toNatClampNeg), .int (xs (nI i + 2).toNatClampNeg)]) B hN hl.1 (hX9_as l G q hm) gL_law_X9_as rfl (by decide +kernel) rfl ⟨by decide, by decide⟩ rfl (Nat.le_of_ble_eq_true rfl) ⟨by decide, by decide⟩ dL_law_264 (fun H locs hN => ?_)
  exact lv_icmp_eq (tgt := 707) hx hb dL_law_267 (by decide) (fun _ => kk g1 t1 H locs hR1 hN) (fun h => absurd rfl h)
set_option maxHeartbeats 4000000 in
set_option maxRecDepth 100000 in
theorem lw_k6 (C : lw_Cx p s m meth c b L xs G) (hL : L ≤ 2048) (hi : i + 4 ≤ L) (hc : cn < 1000) (hR : Rel cn g t) (hN : lm_N G (lw_A s) s (wA8 G Qs g ++ wX9 G q t) H locs) (hl : lv_has ls 4 (lw_ls b (Qs 0 0) (q 0) i)) (kk : lw_Kk p l e s m below meth c b G Qs q cn ls Q) : W p l e room_1 s m #[Value.ref b] below meth c H locs 600000 7302250 Q (F0 m 272 ls []) := by
  obtain ⟨B, hX, hbl⟩ := C
  have hx := B.1.1
  have hb := B.1.2.1
  have hbA : ¬ lw_A s b := Nat.not_le.mpr hbl
  obtain ⟨r, g1, t1, hf, hm, hR1⟩ := sim_touch hR (xs (nI i + 1).toNatClampNeg)
  refine lv_aload_n hx hb dL_law_272 rfl (lv_at hl 1 rfl) ?_
  refine lv_aload_n hx hb dL_law_273 rfl (lv_at hl 0 rfl) ?_
  refine lv_iload_n hx hb dL_law_274 rfl (lv_at hl 3 rfl) ?_
  refine lv_iconst (v := 1) hx hb dL_law_275 (by decide) ?_
  refine lv_iadd hx hb dL_law_276 ?_
  refine va_sld hx hb hX hbl hbA hN.2.2 (lw_ix1 hL hi) dL_law_277 ?_
  refine lw_c8 (n := 1) (g1 := g1) (v := .int r) (As := [.int (xs (nI i + 1).toNatClampNeg)]) B hN hl.1 (hX8_touch l G Qs hf) gL_law_X8_touch rfl (by decide +kernel) rfl ⟨by decide, by decide⟩ rfl (Nat.le_of_ble_eq_true rfl) ⟨by decide, by decide⟩ dL_law_278 (fun H locs hN => ?_)
  refine lv_aload_n hx hb dL_law_281 rfl (lv_at hl 2 rfl) ?_
  refine lv_aload_n hx hb dL_law_282 rfl (lv_at hl 0 rfl) ?_
  refine lv_iload_n hx hb dL_law_283 rfl (lv_at hl 3 rfl) ?_
  refine lv_iconst (v := 1) hx hb dL_law_284 (by decide) ?_
  refine lv_iadd hx hb dL_law_285 ?_
  refine va_sld hx hb hX hbl hbA hN.2.2 (lw_ix1 hL hi) dL_law_286 ?_
  refine lw_c9 (n := 1) (t1 := t1) (v := .int r) (As := [.int (xs (nI i + 1).toNatClampNeg)]) B hN hl.1 (hX9_touch l G q hm) gL_law_X9_touch rfl (by decide +kernel) rfl ⟨by decide, by decide⟩ rfl (Nat.le_of_ble_eq_true rfl) ⟨by decide, by decide⟩ dL_law_287 (fun H locs hN => ?_)
  exact lv_icmp_eq (tgt := 707) hx hb dL_law_290 (by decide) (fun _ => kk g1 t1 H locs hR1 hN) (fun h => absurd rfl h)
set_option maxHeartbeats 4000000 in
set_option maxRecDepth 100000 in
theorem lw_k7 (C : lw_Cx p s m meth c b L xs G) (hL : L ≤ 2048) (hi : i + 4 ≤ L) (hc : cn < 1000) (hR : Rel cn g t) (hN : lm_N G (lw_A s) s (wA8 G Qs g ++ wX9 G q t) H locs) (hl : lv_has ls 4 (lw_ls b (Qs 0 0) (q 0) i)) (kk : lw_Kk p l e s m below meth c b G Qs q cn ls Q) : W p l e room_1 s m #[Value.ref b] below meth c H locs 600000 7302250 Q (F0 m 295 ls []) := by
  obtain ⟨B, hX, hbl⟩ := C
  have hx := B.1.1
  have hb := B.1.2.1
  have hbA : ¬ lw_A s b := Nat.not_le.mpr hbl
  obtain ⟨r, g1, t1, hf, hm, hR1⟩ := sim_day hR
  refine lv_aload_n hx hb dL_law_295 rfl (lv_at hl 1 rfl) ?_
  refine lw_c8 (n := 0) (g1 := g1) (v := .int r) (As := []) B hN hl.1 (hX8_day l G Qs hf) gL_law_X8_day rfl (by decide +kernel) rfl ⟨by decide, by decide⟩ rfl (Nat.le_of_ble_eq_true rfl) ⟨by decide, by decide⟩ dL_law_296 (fun H locs hN => ?_)
  refine lv_aload_n hx hb dL_law_299 rfl (lv_at hl 2 rfl) ?_
  refine lw_c9 (n := 0) (t1 := t1) (v := .int r) (As := []) B hN hl.1 (hX9_day l G q hm) gL_law_X9_day rfl (by decide +kernel) rfl ⟨by decide, by decide⟩ rfl (Nat.le_of_ble_eq_true rfl) ⟨by decide, by decide⟩ dL_law_300 (fun H locs hN => ?_)
  exact lv_icmp_eq (tgt := 707) hx hb dL_law_303 (by decide) (fun _ => kk g1 t1 H locs hR1 hN) (fun h => absurd rfl h)
set_option maxHeartbeats 4000000 in
set_option maxRecDepth 100000 in
theorem lw_k8 (C : lw_Cx p s m meth c b L xs G) (hL : L ≤ 2048) (hi : i + 4 ≤ L) (hc : cn < 1000) (hR : Rel cn g t) (hN : lm_N G (lw_A s) s (wA8 G Qs g ++ wX9 G q t) H locs) (hl : lv_has ls 4 (lw_ls b (Qs 0 0) (q 0) i)) (kk : lw_Kk p l e s m below meth c b G Qs q cn ls Q) : W p l e room_1 s m #[Value.ref b] below meth c H locs 600000 7302250 Q (F0 m 308 ls []) := by
  obtain ⟨B, hX, hbl⟩ := C
  have hx := B.1.1
  have hb := B.1.2.1
  have hbA : ¬ lw_A s b := Nat.not_le.mpr hbl
  obtain ⟨r, g1, t1, hf, hm, hR1⟩ := sim_take hR
  refine lv_aload_n hx hb dL_law_308 rfl (lv_at hl 1 rfl) ?_
  refine lw_c8 (n := 0) (g1 := g1) (v := .int r) (As := []) B hN hl.1 (hX8_take l G Qs hf) gL_law_X8_take rfl (by decide +kernel) rfl ⟨by decide, by decide⟩ rfl (Nat.le_of_ble_eq_true rfl) ⟨by decide, by decide⟩ dL_law_309 (fun H locs hN => ?_)
  refine lv_aload_n hx hb dL_law_312 rfl (lv_at hl 2 rfl) ?_
  refine lw_c9 (n := 0) (t1 := t1) (v := .int r) (As := []) B hN hl.1 (hX9_take l G q hm) gL_law_X9_take rfl (by decide +kernel) rfl ⟨by decide, by decide⟩ rfl (Nat.le_of_ble_eq_true rfl) ⟨by decide, by decide⟩ dL_law_313 (fun H locs hN => ?_)
  exact lv_icmp_eq (tgt := 707) hx hb dL_law_316 (by decide) (fun _ => kk g1 t1 H locs hR1 hN) (fun h => absurd rfl h)
set_option maxHeartbeats 4000000 in
set_option maxRecDepth 100000 in
theorem lw_k9 (C : lw_Cx p s m meth c b L xs G) (hL : L ≤ 2048) (hi : i + 4 ≤ L) (hc : cn < 1000) (hR : Rel cn g t) (hN : lm_N G (lw_A s) s (wA8 G Qs g ++ wX9 G q t) H locs) (hl : lv_has ls 4 (lw_ls b (Qs 0 0) (q 0) i)) (kk : lw_Kk p l e s m below meth c b G Qs q cn ls Q) : W p l e room_1 s m #[Value.ref b] below meth c H locs 600000 7302250 Q (F0 m 321 ls []) := by
  obtain ⟨B, hX, hbl⟩ := C
  have hx := B.1.1
  have hb := B.1.2.1
  have hbA : ¬ lw_A s b := Nat.not_le.mpr hbl
  obtain ⟨r, g1, t1, hf, hm, hR1⟩ := sim_redeem hR (xs (nI i + 1).toNatClampNeg)
  refine lv_aload_n hx hb dL_law_321 rfl (lv_at hl 1 rfl) ?_
  refine lv_aload_n hx hb dL_law_322 rfl (lv_at hl 0 rfl) ?_
  refine lv_iload_n hx hb dL_law_323 rfl (lv_at hl 3 rfl) ?_
  refine lv_iconst (v := 1) hx hb dL_law_324 (by decide) ?_
  refine lv_iadd hx hb dL_law_325 ?_
  refine va_sld hx hb hX hbl hbA hN.2.2 (lw_ix1 hL hi) dL_law_326 ?_
  refine lw_c8 (n := 1) (g1 := g1) (v := .int r) (As := [.int (xs (nI i + 1).toNatClampNeg)]) B hN hl.1 (hX8_redeem l G Qs hf) gL_law_X8_redeem rfl (by decide +kernel) rfl ⟨by decide, by decide⟩ rfl (Nat.le_of_ble_eq_true rfl) ⟨by decide, by decide⟩ dL_law_327 (fun H locs hN => ?_)
  refine lv_aload_n hx hb dL_law_330 rfl (lv_at hl 2 rfl) ?_
  refine lv_aload_n hx hb dL_law_331 rfl (lv_at hl 0 rfl) ?_
  refine lv_iload_n hx hb dL_law_332 rfl (lv_at hl 3 rfl) ?_
  refine lv_iconst (v := 1) hx hb dL_law_333 (by decide) ?_
  refine lv_iadd hx hb dL_law_334 ?_
  refine va_sld hx hb hX hbl hbA hN.2.2 (lw_ix1 hL hi) dL_law_335 ?_
  refine lw_c9 (n := 1) (t1 := t1) (v := .int r) (As := [.int (xs (nI i + 1).toNatClampNeg)]) B hN hl.1 (hX9_redeem l G q hm) gL_law_X9_redeem rfl (by decide +kernel) rfl ⟨by decide, by decide⟩ rfl (Nat.le_of_ble_eq_true rfl) ⟨by decide, by decide⟩ dL_law_336 (fun H locs hN => ?_)
  exact lv_icmp_eq (tgt := 707) hx hb dL_law_339 (by decide) (fun _ => kk g1 t1 H locs hR1 hN) (fun h => absurd rfl h)
set_option maxHeartbeats 4000000 in
set_option maxRecDepth 100000 in
theorem lw_k10 (C : lw_Cx p s m meth c b L xs G) (hL : L ≤ 2048) (hi : i + 4 ≤ L) (hc : cn < 1000) (hR : Rel cn g t) (hN : lm_N G (lw_A s) s (wA8 G Qs g ++ wX9 G q t) H locs) (hl : lv_has ls 4 (lw_ls b (Qs 0 0) (q 0) i)) (kk : lw_Kk p l e s m below meth c b G Qs q cn ls Q) : W p l e room_1 s m #[Value.ref b] below meth c H locs 600000 7302250 Q (F0 m 344 ls []) := by
  obtain ⟨B, hX, hbl⟩ := C
  have hx := B.1.1
  have hb := B.1.2.1
  have hbA : ¬ lw_A s b := Nat.not_le.mpr hbl
  obtain ⟨r, g1, t1, hf, hm, hR1⟩ := sim_borrow hR (xs (nI i + 1).toNatClampNeg)
  refine lv_aload_n hx hb dL_law_344 rfl (lv_at hl 1 rfl) ?_
  refine lv_aload_n hx hb dL_law_345 rfl (lv_at hl 0 rfl) ?_
  refine lv_iload_n hx hb dL_law_346 rfl (lv_at hl 3 rfl) ?_
  refine lv_iconst (v := 1) hx hb dL_law_347 (by decide) ?_
  refine lv_iadd hx hb dL_law_348 ?_
  refine va_sld hx hb hX hbl hbA hN.2.2 (lw_ix1 hL hi) dL_law_349 ?_
  refine lw_c8 (n := 1) (g1 := g1) (v := .int r) (As := [.int (xs (nI i + 1).toNatClampNeg)]) B hN hl.1 (hX8_borrow l G Qs hf) gL_law_X8_borrow rfl (by decide +kernel) rfl ⟨by decide, by decide⟩ rfl (Nat.le_of_ble_eq_true rfl) ⟨by decide, by decide⟩ dL_law_350 (fun H locs hN => ?_)
  refine lv_aload_n hx hb dL_law_353 rfl (lv_at hl 2 rfl) ?_
  refine lv_aload_n hx hb dL_law_354 rfl (lv_at hl 0 rfl) ?_
  refine lv_iload_n hx hb dL_law_355 rfl (lv_at hl 3 rfl) ?_
  refine lv_iconst (v := 1) hx hb dL_law_356 (by decide) ?_
  refine lv_iadd hx hb dL_law_357 ?_
  refine va_sld hx hb hX hbl hbA hN.2.2 (lw_ix1 hL hi) dL_law_358 ?_
  refine lw_c9 (n := 1) (t1 := t1) (v := .int r) (As := [.int (xs (nI i + 1).toNatClampNeg)]) B hN hl.1 (hX9_borrow l G q hm) gL_law_X9_borrow rfl (by decide +kernel) rfl ⟨by decide, by decide⟩ rfl (Nat.le_of_ble_eq_true rfl) ⟨by decide, by decide⟩ dL_law_359 (fun H locs hN => ?_)
  exact lv_icmp_eq (tgt := 707) hx hb dL_law_362 (by decide) (fun _ => kk g1 t1 H locs hR1 hN) (fun h => absurd rfl h)
set_option maxHeartbeats 4000000 in
set_option maxRecDepth 100000 in
theorem lw_k11 (C : lw_Cx p s m meth c b L xs G) (hL : L ≤ 2048) (hi : i + 4 ≤ L) (hc : cn < 1000) (hR : Rel cn g t) (hN : lm_N G (lw_A s) s (wA8 G Qs g ++ wX9 G q t) H locs) (hl : lv_has ls 4 (lw_ls b (Qs 0 0) (q 0) i)) (kk : lw_Kk p l e s m below meth c b G Qs q cn ls Q) : W p l e room_1 s m #[Value.ref b] below meth c H locs 600000 7302250 Q (F0 m 367 ls []) := by
  obtain ⟨B, hX, hbl⟩ := C
  have hx := B.1.1
  have hb := B.1.2.1
  have hbA : ¬ lw_A s b := Nat.not_le.mpr hbl
  obtain ⟨r, g1, t1, hf, hm, hR1⟩ := sim_change hR (xs (nI i + 1).toNatClampNeg) (xs (nI i + 2).toNatClampNeg) (xs (nI i + 3).toNatClampNeg)
  refine lv_aload_n hx hb dL_law_367 rfl (lv_at hl 1 rfl) ?_
  refine lv_aload_n hx hb dL_law_368 rfl (lv_at hl 0 rfl) ?_
  refine lv_iload_n hx hb dL_law_369 rfl (lv_at hl 3 rfl) ?_
  refine lv_iconst (v := 1) hx hb dL_law_370 (by decide) ?_
  refine lv_iadd hx hb dL_law_371 ?_
  refine va_sld hx hb hX hbl hbA hN.2.2 (lw_ix1 hL hi) dL_law_372 ?_
  refine lv_aload_n hx hb dL_law_373 rfl (lv_at hl 0 rfl) ?_
  refine lv_iload_n hx hb dL_law_374 rfl (lv_at hl 3 rfl) ?_
  refine lv_iconst (v := 2) hx hb dL_law_375 (by decide) ?_
  refine lv_iadd hx hb dL_law_376 ?_
  refine va_sld hx hb hX hbl hbA hN.2.2 (lw_ix2 hL hi) dL_law_377 ?_
  refine lv_aload_n hx hb dL_law_378 rfl (lv_at hl 0 rfl) ?_
  refine lv_iload_n hx hb dL_law_379 rfl (lv_at hl 3 rfl) ?_
  refine lv_iconst (v := 3) hx hb dL_law_380 (by decide) ?_
  refine lv_iadd hx hb dL_law_381 ?_
  refine va_sld hx hb hX hbl hbA hN.2.2 (lw_ix3 hL hi) dL_law_382 ?_
  refine lw_c8 (n := 3) (g1 := g1) (v := .int r) (As := [.int (xs (nI i + 1).toNatClampNeg), .int (xs (nI i + 2).toNatClampNeg), .int (xs (nI i + 3).toNatClampNeg)]) B hN hl.1 (hX8_change l G Qs hf) gL_law_X8_change rfl (by decide +kernel) rfl ⟨by decide, by decide⟩ rfl (Nat.le_of_ble_eq_true rfl) ⟨by decide, by decide⟩ dL_law_383 (fun H locs hN => ?_)
  refine lv_aload_n hx hb dL_law_386 rfl (lv_at hl 2 rfl) ?_
  refine lv_aload_n hx hb dL_law_387 rfl (lv_at hl 0 rfl) ?_
  refine lv_iload_n hx hb dL_law_388 rfl (lv_at hl 3 rfl) ?_
  refine lv_iconst (v := 1) hx hb dL_law_389 (by decide) ?_
  refine lv_iadd hx hb dL_law_390 ?_
  refine va_sld hx hb hX hbl hbA hN.2.2 (lw_ix1 hL hi) dL_law_391 ?_
  refine lv_aload_n hx hb dL_law_392 rfl (lv_at hl 0 rfl) ?_
  refine lv_iload_n hx hb dL_law_393 rfl (lv_at hl 3 rfl) ?_
  refine lv_iconst (v := 2) hx hb dL_law_394 (by decide) ?_
  refine lv_iadd hx hb dL_law_395 ?_
  refine va_sld hx hb hX hbl hbA hN.2.2 (lw_ix2 hL hi) dL_law_396 ?_
  refine lv_aload_n hx hb dL_law_397 rfl (lv_at hl 0 rfl) ?_
  refine lv_iload_n hx hb dL_law_398 rfl (lv_at hl 3 rfl) ?_
  refine lv_iconst (v := 3) hx hb dL_law_399 (by decide) ?_
  refine lv_iadd hx hb dL_law_400 ?_
  refine va_sld hx hb hX hbl hbA hN.2.2 (lw_ix3 hL hi) dL_law_401 ?_
  refine lw_c9 (n := 3) (t1 := t1) (v := .int r) (As := [.int (xs (nI i + 1).toNatClampNeg), .int (xs (nI i + 2).toNatClampNeg), .int (xs (nI i + 3).toNatClampNeg)]) B hN hl.1 (hX9_change l G q hm) gL_law_X9_change rfl (by decide +kernel) rfl ⟨by decide, by decide⟩ rfl (Nat.le_of_ble_eq_true rfl) ⟨by decide, by decide⟩ dL_law_402 (fun H locs hN => ?_)
  exact lv_icmp_eq (tgt := 707) hx hb dL_law_405 (by decide) (fun _ => kk g1 t1 H locs hR1 hN) (fun h => absurd rfl h)
end LAWK
