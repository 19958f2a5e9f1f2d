/-! The law: the words of the kit's skeleton, then a row for each kind of its steps. -/
def R_law : String := "LeastMissedLaw"
def lw_P (b : Addr) (xs : List Int32) (args : Array Value) (s : State) : Prop := args = #[.ref b] ∧ s.IntsAt b xs ∧ xs.length ≤ 2048 ∧ (Jvm.Cond.and given_1 narrow_1).before args s = true
def lw_Q (_ : Array Value) (s : State) (o : Outcome) (t : State) : Prop := o = .returned (some (.int 1)) ∧ Framed s o t [] 600000 7302250
def lw_Z (below : List Frame) (a : Array Value) (s : State) : State → Prop := fun t => ∃ o, t.status = .running ∧ Ended t below o ∧ lw_Q a s o t
/-- the law's own end, with 1 on the stack, nothing written that was there before, its room as the claim has it -/
theorem lw_ret {p : Program} {l : Launch} {e : Env} {s : State} {m : MethodId} {below : List Frame} {meth : Method} {c : Code} {b : Nat} (hx : p.tables.exec = Jvm.exec) (hb : c.code = code) (hr : meth.sig.returnType = ret) (hlocks : meth.locks = false) {pc : Nat} {H : Heap} {ls : Array Slot} (hdg : decode code pc = .ok (.ireturn, 1)) : W p l e room_1 s m #[Value.ref b] below meth c H [] 600000 7302250 (lw_Z below #[Value.ref b] s) (F0 m pc ls [.int 1]) := by
  intro T hT X
  obtain ⟨fs, hret, hrun, hended, hW, hframe⟩ := X.leave (v := some (.int 1)) (hlocks := hlocks) (fun h => by rw [hr] at h; cases h)
  have hmeth' : T.vm.method? m = some meth := X.method'
  refine ⟨T.setFrames fs, ?_, .returned (some (.int 1)), hrun, hended, rfl, ⟨_, rfl⟩, hW, hframe⟩
  jvm_step X.here [X.here.top, hx, hb, hdg, hmeth', hr, ret, narrow_b1]
  (try refine ⟨rfl, ?_⟩); (try refine ⟨rfl, ?_⟩)
  first | (intro acts; rw [hret _ acts rfl rfl rfl]) | rw [hret _ _ rfl rfl rfl]
  exact Steps.refl _
/-- what holds at the law's entry: the machine, the code, the tables' words (any of lw_tbl by 'hts w (by decide +kernel)'), the script of L ints xs at the cell b, what the Statement gives of the start (any of its parts by flat_of_before) -/
def lw_At (p : Program) (s : State) (m : MethodId) (meth : Method) (c : Code) (b L : Nat) (xs : Nat → Int32) : Prop :=
  p.tables.exec = Jvm.exec ∧ c.code = code ∧ meth.sig.returnType = ret ∧ c.maxLocals = 4 ∧ s.vm.findClass R_law = some m.cls ∧ (∀ w ∈ lw_tbl, w.before #[Value.ref b] s = true) ∧ va_X b L xs s s.heap ∧ b < s.heap.size ∧ meth.locks = false ∧ (Jvm.Cond.and given_1 narrow_1).before #[Value.ref b] s = true
abbrev lw_A (s : State) : Nat → Prop := fun q => s.heap.size ≤ q
/-- what stays in the law -/
def lw_Cx (p : Program) (s : State) (m : MethodId) (meth : Method) (c : Code) (b L : Nat) (xs : Nat → Int32) (G : lm_G) : Prop := lm_B G p s m #[Value.ref b] meth c code 4 ret wsL_law RL (lw_A s) ∧ va_X b L xs s s.heap ∧ b < s.heap.size
abbrev lw_ls (b q8 q9 i : Nat) : List (Nat × Value) := [(0, .ref b), (1, .ref q8), (2, .ref q9), (3, .int (nI i))]
/-- what follows a case: the loop's foot, one call further -/
abbrev lw_Kk (p : Program) (l : Launch) (e : Env) (s : State) (m : MethodId) (below : List Frame) (meth : Method) (c : Code) (b : Nat) (G : lm_G) (Qs : Nat → Nat → Nat) (q : Nat → Nat) (cn : Nat) (ls : Array Slot) (Q : State → Prop) : Prop := ∀ (g1 : Nat → lm_St) (t1 : lm_St) (H1 : Heap) (locs1 : List Loc), Rel (cn + 1) g1 t1 → lm_N G (lw_A s) s (wA8 G Qs g1 ++ wX9 G q t1) H1 locs1 → W p l e room_1 s m #[Value.ref b] below meth c H1 locs1 600000 7302250 Q (F0 m 707 ls [])
theorem lw_ix1 {i L : Nat} (hL : L ≤ 2048) (hi : i + 4 ≤ L) : vp_in (nI i + 1) L := by
  rw [nI_1]
  exact vp_in_nI (by omega) (by omega)
theorem lw_ix2 {i L : Nat} (hL : L ≤ 2048) (hi : i + 4 ≤ L) : vp_in (nI i + 2) L := by
  rw [show (2 : Int32) = nI 2 from rfl, nI_add]
  exact vp_in_nI (by omega) (by omega)
theorem lw_ix3 {i L : Nat} (hL : L ≤ 2048) (hi : i + 4 ≤ L) : vp_in (nI i + 3) L := by
  rw [show (3 : Int32) = nI 3 from rfl, nI_add]
  exact vp_in_nI (by omega) (by omega)
theorem lw_cmp (r : Int64) : lg_cmp r r = 0 := by
  unfold lg_cmp
  rw [if_neg (show ¬ r > r from Int64.lt_irrefl), if_pos rfl]
theorem lw_and31 (x : Int32) : ∃ n, n < 32 ∧ x &&& 31 = nI n := ⟨x.toBitVec.toNat % 2 ^ 5, Nat.mod_lt _ (by decide), pk_and x 5 (by decide)⟩
theorem lw_cond {L i : Nat} (hL : L ≤ 2048) (hi : i ≤ 2048) (h : ¬ Int32.ofNat L - 4 < nI i) : i + 4 ≤ L := by
  have e := pk_sub_toInt (a := L) (b := 4) (by omega) (by decide)
  have e2 := nI_toInt (n := i) (by omega)
  have h1 : ¬ nI L - nI 4 < nI i := h
  rw [Int32.lt_iff_toInt_lt] at h1
  omega
theorem lw_inc (j : Nat) : nI (4 * j) + Int32.ofInt 4 = nI (4 * (j + 1)) := by
  rw [show Int32.ofInt 4 = nI 4 from rfl, nI_add]
  rfl
theorem Rel.up {c : Nat} {g : Nat → lm_St} {s : lm_St} (h : Rel c g s) : Rel (c + 1) g s := by
  obtain ⟨h1, h2, n, h3, h4⟩ := h
  exact ⟨h1, h2, n, h3, h4.fr rfl rfl rfl rfl rfl rfl rfl ⟨fun _ _ _ => rfl, fun _ _ _ => rfl⟩⟩
theorem lw_n0 {P : Nat → Prop} : ∀ i, i < 0 → P i := fun i h => absurd h (Nat.not_lt_zero i)
theorem Rel.new : Rel 0 (fun _ => lm_z) (lm_sF lm_z 11 (-1)) := by
  refine ⟨⟨0, fun _ => 0, by decide, lw_n0, rfl, rfl, lw_n0⟩, ⟨0, fun _ => 0, fun _ => 0, fun _ => 0, ⟨by decide, lw_n0⟩, ⟨rfl, lw_n0⟩, ⟨rfl, lw_n0⟩⟩, 0, ⟨0, 0, 0, 0, fun _ => 0, fun _ => 0, fun _ => 0, fun _ => 0, ⟨by decide, by decide, by decide, lw_n0⟩, by decide, lw_n0, by decide, by decide, ⟨rfl, rfl, rfl, lw_n0⟩, rfl, rfl, ⟨rfl, rfl, lw_n0⟩, rfl, rfl⟩, ⟨0, 0, by decide, by decide, rfl, rfl, rfl, rfl, Or.inl ⟨rfl, Or.inl rfl⟩⟩⟩
section LAWB
variable {p : Program} {l : Launch} {e : Env} {R : Room} {s : State} {m : MethodId} {args : Array Value} {below : List Frame} {meth : Method} {c : Code} {H : Heap} {locs : List Loc} {cells slots : Nat} {Q : State → Prop} {G : lm_G} {cc : ByteArray} {nL pc : Nat} {ret : Option FieldType} {Ts : List Cond} {own : String} {A : Nat → Prop} {w : va_W} {ls : Array Slot} {rest : List Value}
/-- a method's call in any room -/
theorem lw_hrV {k2 index n maxL b q0 ci : Nat} {y : MethodName} {wy ws' : List Cond} {bytes : ByteArray} {rt : Option FieldType} {C : String} {As st0 : List Value} {wc w1 : va_W} {o : Option Value} {T : u_T} {N : Nat} {fs : List Value} (B : lm_B G p s m args meth c cc nL ret Ts own A) (hN : lm_N G A s w H locs) (hls : ls.size = nL) (Z : (∀ q, va_A wc H.size q → A q) ∧ va_P G.1 vwCl wc H ∧ va_D (fun _ => True) wc)
    (hM : lm_C l G y wy k2 (.ref b :: As) wc o w1) (hT : GoodIn Ts (wsV own index C y wy)) (hw : wy = Cond.code y bytes maxL rt :: ws') (hd : y.cls = C ∧ y.cls ≠ "java/lang/invoke/MethodHandle" ∧ y.cls ≠ "java/lang/invoke/VarHandle" ∧ (parseMethodDescriptor y.desc).map (fun d => d.parameters.length) = some n) (hn : As.length = n) (hf : k2 + 1 ≤ R.frames ∧ 8 + (maxL + 11) + 80 * k2 ≤ R.locals) (hc : vwCl[ci]? = some (C, T, N)) (he : wc[q0]? = some (b, .inr (ci, fs))) (hst : st0 = As.reverse ++ .ref b :: rest) (hrest : (rest.map fun v => v.category).sum ≤ 8) (hcs : cells + 0 ≤ R.cells ∧ slots + 0 ≤ R.slots) (hdg : decode cc pc = .ok (.invokevirtual index, 3)) :
    va_Run p l e R s m args below meth c H locs cells slots 0 0 (F0 m pc ls st0) rest (lm_post G w1 o (va_A wc H.size) (Value.ref b :: As).toArray) (va_A wc H.size) := by
  obtain ⟨⟨hx, hb, hml, hown, hts⟩, hr, hlocks, hA, hK, hE⟩ := id B
  exact va_runV (As := As) (rest := rest) ⟨hx, hb, hml, hown, hts⟩ (hM H.size) (cwV n hts hT hw rfl rfl hd hf) ⟨lm_blind, va_recv hK Z.2.1 hc he, fun U hU hW => ⟨rfl, lm_preU B hN Z.1 Z.2.1 Z.2.2 hU hW⟩⟩ rfl hn hls hst (lv_room hrest) hdg hcs
/-- a constructor's call by an ordinary link -/
theorem lw_hrI {k2 index maxL b mc ms : Nat} {y : MethodName} {wy ws' : List Cond} {bytes : ByteArray} {wr : va_W} {ee : va_E} {P : va_W → Prop} (B : lm_B G p s m args meth c cc nL ret Ts own A) (hN : lm_N G A s (wr ++ [(b, ee)]) H locs) (hls : ls.size = nL)
    (hM : lm_CI l G y wy k2 mc ms b [(b, ee)] P) (hT : GoodIn Ts wy) (hw : wy = Cond.code y bytes maxL none :: ws') (hlk : Cond.methodLink own index y ∈ Ts) (hini : Cond.initialized y.cls ∈ Ts) (hinst : Cond.instanceMethod y ∈ Ts) (hnm : y.name = "<init>") (hd : y.cls ≠ "java/lang/invoke/MethodHandle" ∧ y.cls ≠ "java/lang/invoke/VarHandle" ∧ (parseMethodDescriptor y.desc).map (fun d => d.parameters.length) = some 0) (hf : k2 + 1 ≤ R.frames) (hlo : 8 + (maxL + 11) + 80 * k2 ≤ R.locals) (hrest : (rest.map fun v => v.category).sum ≤ 8) (hcs : cells + mc ≤ R.cells ∧ slots + ms ≤ R.slots) (hdg : decode cc pc = .ok (.invokespecial index, 3)) :
    va_Run p l e R s m args below meth c H locs cells slots mc ms (F0 m pc ls (.ref b :: rest)) rest (lm_postI G P (va_A [(b, ee)] H.size) ([Value.ref b] : List Value).toArray) (va_A [(b, ee)] H.size) := by
  obtain ⟨⟨hx, hb, hml, hown, hts⟩, hr, hlocks, hA, hK, hE⟩ := id B
  have hFc : ∀ q, va_A [(b, ee)] H.size q → A q := fun q h => by
    rcases h with ⟨k, e, h⟩ | h
    · have hz : k < 1 := (List.getElem?_eq_some_iff.mp h).1
      have hk : k = 0 := by omega
      subst hk
      cases h
      exact hN.2.1.2 wr.length (b, ee) (by rw [List.getElem?_append_right (Nat.le_refl _), Nat.sub_self]; rfl)
    · exact hA q (Nat.le_trans hN.2.2.1 h)
  exact va_runI (As := []) (rest := rest) ⟨hx, hb, hml, hown, hts⟩ (hM H.size) (cwI 0 hts hT hw rfl rfl (hts _ hini) (hts _ hlk) (hts _ hinst) hnm hd ⟨hf, hlo⟩) ⟨lm_blind, fun U hU hW => ⟨rfl, lm_preU B hN hFc (lm_P1 hN.1) lm_D1 hU hW⟩⟩ rfl rfl hls rfl (lv_room hrest) hdg hcs
/-- a call of the class's -/
theorem lw_c8 {k2 index n maxL : Nat} {y : MethodName} {wy ws' : List Cond} {bytes : ByteArray} {rt : Option FieldType} {As st0 : List Value} {v : Value} {Qs : Nat → Nat → Nat} {q : Nat → Nat} {g g1 : Nat → lm_St} {t : lm_St} (B : lm_B G p s m args meth c cc nL ret Ts own A) (hN : lm_N G A s (wA8 G Qs g ++ wX9 G q t) H locs) (hls : ls.size = nL)
    (hM : lm_C l G y wy k2 (.ref (Qs 0 0) :: As) (wA8 G Qs g) (some v) (wA8 G Qs g1)) (hT : GoodIn Ts (wsV own index RX8 y wy)) (hw : wy = Cond.code y bytes maxL rt :: ws') (hd : y.cls = RX8 ∧ y.cls ≠ "java/lang/invoke/MethodHandle" ∧ y.cls ≠ "java/lang/invoke/VarHandle" ∧ (parseMethodDescriptor y.desc).map (fun d => d.parameters.length) = some n) (hn : As.length = n) (hf : k2 + 1 ≤ R.frames ∧ 8 + (maxL + 11) + 80 * k2 ≤ R.locals) (hst : st0 = As.reverse ++ .ref (Qs 0 0) :: rest) (hrest : (rest.map fun v => v.category).sum ≤ 8) (hcs : cells + 0 ≤ R.cells ∧ slots + 0 ≤ R.slots) (hdg : decode cc pc = .ok (.invokevirtual index, 3))
    (kk : ∀ (H1 : Heap) (locs1 : List Loc), lm_N G A s (wA8 G Qs g1 ++ wX9 G q t) H1 locs1 → W p l e R s m args below meth c H1 locs1 cells slots Q (F0 m (pc + 3) ls (v :: rest))) : W p l e R s m args below meth c H locs cells slots Q (F0 m pc ls st0) :=
  lm_run B hN (List.Perm.refl _) (lw_hrV (ci := 8) (q0 := 0) B hN hls (lm_cutP B hN (List.Perm.refl _)) hM hT hw hd hn hf rfl rfl hst hrest hcs hdg) _ (List.Perm.refl _) kk
/-- a call of the reference's -/
theorem lw_c9 {k2 index n maxL : Nat} {y : MethodName} {wy ws' : List Cond} {bytes : ByteArray} {rt : Option FieldType} {As st0 : List Value} {v : Value} {Qs : Nat → Nat → Nat} {q : Nat → Nat} {g : Nat → lm_St} {t t1 : lm_St} (B : lm_B G p s m args meth c cc nL ret Ts own A) (hN : lm_N G A s (wA8 G Qs g ++ wX9 G q t) H locs) (hls : ls.size = nL)
    (hM : lm_C l G y wy k2 (.ref (q 0) :: As) (wX9 G q t) (some v) (wX9 G q t1)) (hT : GoodIn Ts (wsV own index RX9 y wy)) (hw : wy = Cond.code y bytes maxL rt :: ws') (hd : y.cls = RX9 ∧ y.cls ≠ "java/lang/invoke/MethodHandle" ∧ y.cls ≠ "java/lang/invoke/VarHandle" ∧ (parseMethodDescriptor y.desc).map (fun d => d.parameters.length) = some n) (hn : As.length = n) (hf : k2 + 1 ≤ R.frames ∧ 8 + (maxL + 11) + 80 * k2 ≤ R.locals) (hst : st0 = As.reverse ++ .ref (q 0) :: rest) (hrest : (rest.map fun v => v.category).sum ≤ 8) (hcs : cells + 0 ≤ R.cells ∧ slots + 0 ≤ R.slots) (hdg : decode cc pc = .ok (.invokevirtual index, 3))
    (kk : ∀ (H1 : Heap) (locs1 : List Loc), lm_N G A s (wA8 G Qs g ++ wX9 G q t1) H1 locs1 → W p l e R s m args below meth c H1 locs1 cells slots Q (F0 m (pc + 3) ls (v :: rest))) : W p l e R s m args below meth c H locs cells slots Q (F0 m pc ls st0) :=
  lm_run B hN List.perm_append_comm (lw_hrV (ci := 9) (q0 := 0) B hN hls (lm_cutP B hN List.perm_append_comm) hM hT hw hd hn hf rfl rfl hst hrest hcs hdg) _ List.perm_append_comm kk
end LAWB
