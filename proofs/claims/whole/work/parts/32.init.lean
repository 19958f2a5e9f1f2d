/-! Constructors: contracts of methods that make cells. -/
def lm_z : lm_St := (fun _ => 0, fun _ _ => 0, 0)
def lm_rI (k mc ms : Nat) : Room := { frames := k, cells := mc, slots := ms, locals := 80 * k }
def lm_postI (G : lm_G) (P : va_W → Prop) (A : Nat → Prop) : Array Value → State → Outcome → State → Prop := fun _ st oc t => oc = .returned none ∧ (∃ w', P w' ∧ va_P G.1 vwCl w' t.heap ∧ va_D A w') ∧ va_F A st t
def lm_CI (l : Launch) (G : lm_G) (y : MethodName) (wy : List Cond) (k mc ms : Nat) (h0 : Nat) (w : va_W) (P : va_W → Prop) : Prop :=
  ∀ sz : Nat, Met l y wy (lm_rI k mc ms) (va_Pc [.ref h0] (lm_pre G sz w)) (lm_postI G P (va_A w sz)) mc ms (va_A w sz)
section INIT
variable {p : Program} {l : Launch} {e : Env} {R : Room} {s : State} {m : MethodId} {args : Array Value} {below : List Frame} {meth : Method} {c : Code} {H : Heap} {locs : List Loc} {cells slots : Nat} {Q : State → Prop} {G : lm_G} {cc : ByteArray} {nL pc : Nat} {ret : Option FieldType} {Ts : List Cond} {own : String} {A : Nat → Prop} {w : va_W} {ls : Array Slot} {rest : List Value} {a : Nat}
theorem lm_CI.of {y : MethodName} {wy ws' : List Cond} {k mc ms h0 : Nat} {P : va_W → Prop} {maxL : Nat} (hy : plainName y.cls = true) (hw : wy = Cond.code y cc maxL ret :: ws') (hlen : (lg_sl [Value.ref h0]).length ≤ maxL) (hnm : y.name = "<init>")
    (body : ∀ (p : Program) (e : Env) (s : State) (m : MethodId) (below : List Frame) (meth : Method) (c : Code) (A : Nat → Prop) (ls : Array Slot), lm_B G p s m ([Value.ref h0] : List Value).toArray meth c cc maxL ret wy y.cls A → lm_N G A s w s.heap [] → meth.name = "<init>" → lv_has ls maxL (lv_args 0 [Value.ref h0]) → W p l e (lm_rI k mc ms) s m ([Value.ref h0] : List Value).toArray below meth c s.heap [] 0 0 (MQ below (lm_postI G P A) ([Value.ref h0] : List Value).toArray s mc ms A) (F0 m 0 ls [])) : lm_CI l G y wy k mc ms h0 w P := by
  intro sz
  refine Met.ofW (cc := cc) (maxL := maxL) (ret := ret) hy hw ?_
  intro p e s m args below meth c s₁ B hml hv
  obtain ⟨rfl, hsz, hP, hK, hD0, hE⟩ := hv
  subst hsz
  have hts := atoms_spec (ws := wy) B.pre
  have hown : s.vm.findClass y.cls = some m.cls := findClass_of_methodNamed B.named
  have hin : meth.name = y.name := (name_of_methodNamed B.named B.method).1
  have hl := lv_entry [Value.ref h0] (n := maxL) hlen
  rw [lg_entry_eq]
  exact body p e s m below meth c (va_A w s.heap.size) _ ⟨⟨B.exec, B.bytes, hml, hown, hts⟩, B.returns, B.notSynchronized, fun q h => Or.inr h, hK, hE⟩ ⟨hP, hD0.self, va_S.rf⟩ (hin.trans hnm) hl
theorem lm_new (B : lm_B G p s m args meth c cc nL ret Ts own A) (hN : lm_N G A s w H locs) {C : String} {T : u_T} {N ci index : Nat} (hin : ∀ w ∈ u_ws C T N, w ∈ Ts) (ty : Nat → FieldType) (hty : ∀ k, k < N → parseFieldDescriptor (T k).2.2.1 = some (ty k)) (hcl : Cond.classLink own index C ∈ Ts) (hinst : Cond.instantiable C N ∈ Ts) (hini : Cond.initialized C ∈ Ts) (hc : vwCl[ci]? = some (C, T, N)) {fs : List Value} (hfs : ∀ j, j < N → defaultValue (ty j) = vp_V fs j) (hcells : cells + 1 ≤ R.cells) (hslots : slots + N ≤ R.slots) (hdg : decode cc pc = .ok (.new index, 3))
    (kk : ∀ (q : Nat) (H1 : Heap), lm_N G A s (w ++ [(q, .inr (ci, fs))]) H1 locs → W p l e R s m args below meth c H1 locs (cells + 1) (slots + N) Q (F0 m (pc + 3) ls (.ref q :: rest))) : W p l e R s m args below meth c H locs cells slots Q (F0 m pc ls rest) := by
  obtain ⟨⟨hx, hb, hml, hown, hts⟩, hr, hlocks, hA, hK, hE⟩ := B
  exact va_new hx hb hts hin ty hty hown (hts _ hcl) (hts _ hinst) (hts _ hini) hK hN.1 hN.2.1 hN.2.2 hA hc hfs hcells hslots hdg (fun q H1 h1 h2 h3 => kk q H1 ⟨h1, h2, h3⟩)
theorem lm_newa (B : lm_B G p s m args meth c cc nL ret Ts own A) (hN : lm_N G A s w H locs) (harr : Cond.arrayClass .int ∈ Ts) {n : Int32} (N : Nat) (hn : ¬ n < 0) (hNn : n.toNatClampNeg = N) (hbytes : N * componentBytes .int ≤ 536870912) (hcells : cells + 1 ≤ R.cells) (hslots : slots + N ≤ R.slots) (hdg : decode cc pc = .ok (.newarray .int, 2))
    (kk : ∀ (q : Nat) (H1 : Heap), lm_N G A s (w ++ [(q, .inl (G.2.1, N, .inl (fun _ => 0)))]) H1 locs → W p l e R s m args below meth c H1 locs (cells + 1) (slots + N) Q (F0 m (pc + 2) ls (.ref q :: rest))) : W p l e R s m args below meth c H locs cells slots Q (F0 m pc ls (.int n :: rest)) := by
  obtain ⟨⟨hx, hb, hml, hown, hts⟩, hr, hlocks, hA, hK, hE⟩ := B
  refine va_newa (atype := .int) (ty := .int) (a0 := (N, .inl (fun _ => 0))) hx hb (hts _ harr) rfl hK hN.1 hN.2.1 hN.2.2 hA (fun cA => rfl) hn hNn hbytes hcells hslots hdg (fun q cA H1 hK1 h1 h2 h3 => ?_)
  have e1 := (hK1.2 0 _ rfl).2
  have e2 := (hK1.2 1 _ rfl).2
  have e : cA = G.2.1 := Option.some.inj ((show s.vm.findClass ("[" ++ (FieldType.int).toString) = some cA from e2).symm.trans (show s.vm.findClass ("[" ++ (FieldType.int).toString) = some G.2.1 from e1))
  subst e
  exact kk q H1 ⟨h1, h2, h3⟩
theorem lm_putF (B : lm_B G p s m args meth c cc nL ret Ts own A) (hN : lm_N G A s w H locs) (hin0 : meth.name = "<init>") {C : String} {T : u_T} {N ci index : Nat} (hin : ∀ w ∈ u_ws C T N, w ∈ Ts) (ty0 : Nat → FieldType) (hty : ∀ k, k < N → parseFieldDescriptor (T k).2.2.1 = some (ty0 k)) (hnm : ∀ a, a < N → ∀ b, b < N → a ≠ b → (T a).2.1 ≠ (T b).2.1) (hCo : C = own) (q0 : Nat) {fs : List Value} (he : w[q0]? = some (a, .inr (ci, fs))) (hc : vwCl[ci]? = some (C, T, N)) (k : Nat) (hk : k < N) (hlink : Cond.fieldLink own index (T k).1 (T k).2.1 (T k).2.2.1 ∈ Ts) (hfin : (T k).2.2.2 = true) (hown1 : (T k).1 = own) {v : Value} (hn : narrow (ty0 k) v = v) (hfit : fits (ty0 k) v = true) (hl : k < fs.length) (w2 : va_W) (hw : w.set q0 (a, .inr (ci, fs.set k v)) = w2) (hdg : decode cc pc = .ok (.putfield index, 3))
    (kk : ∀ (H1 : Heap) (locs1 : List Loc), lm_N G A s w2 H1 locs1 → W p l e R s m args below meth c H1 locs1 cells slots Q (F0 m (pc + 3) ls rest)) : W p l e R s m args below meth c H locs cells slots Q (F0 m pc ls (v :: .ref a :: rest)) := by
  obtain ⟨⟨hx, hb, hml, hown, hts⟩, hr, hlocks, hA, hK, hE⟩ := B
  subst hw
  subst hCo
  exact va_putF hx hb hts hin ty0 hty hnm hown hK hN.1 hN.2.1 hN.2.2 q0 he hc k hk (hts _ hlink) (fun _ h => h) hfin hin0 hown1 (hty k hk) hn hfit hl hdg (fun H1 locs1 h1 h2 h3 => kk H1 locs1 ⟨h1, h2, h3⟩)
theorem lm_obj (B : lm_B G p s m args meth c cc nL ret Ts own A) (hls : ls.size = nL) {idx : Nat} (hlink : Cond.methodLink own idx Lib.objectInit ∈ Ts) (hinst : Cond.instanceMethod Lib.objectInit ∈ Ts) (hcode : Cond.code Lib.objectInit ⟨#[0xb1]⟩ 1 none ∈ Ts) (hframes : 1 ≤ R.frames) (hlocals : 20 ≤ R.locals) (hrest : (rest.map fun v => v.category).sum ≤ 8) (hdg : decode cc pc = .ok (.invokespecial idx, 3))
    (kk : W p l e R s m args below meth c H locs cells slots Q (F0 m (pc + 3) ls rest)) : W p l e R s m args below meth c H locs cells slots Q (F0 m pc ls (.ref a :: rest)) := by
  obtain ⟨⟨hx, hb, hml, hown, hts⟩, hr, hlocks, hA, hK, hE⟩ := B
  exact W.objInit hx hb hown (hts _ hlink) (hts _ hinst) (hts _ hcode) (g := F0 m pc ls (.ref a :: rest)) rfl (hls.trans hml.symm) rfl hdg hframes (by show 2 * 0 + _ + 12 ≤ _; omega) kk
theorem lm_vretI (B : lm_B G p s m args meth c cc nL none Ts own A) (hN : lm_N G A s w H locs) {P : va_W → Prop} (hP : P w) (hdg : decode cc pc = .ok (.return_, 1)) : W p l e R s m args below meth c H locs cells slots (MQ below (lm_postI G P A) args s cells slots A) (F0 m pc ls []) :=
  W.vret B.1.1 B.1.2.1 B.2.1 (fun t ht _ => ⟨rfl, ⟨w, hP, by rw [ht]; exact hN.1, hN.2.1⟩, hN.2.2.F ht⟩) hN.2.2.2.2 hdg B.2.2.1
theorem lm_left {A : Nat → Prop} {wr : va_W} {x : Nat × va_E} (hD : va_D A (wr ++ [x])) : va_D A wr := by
  have hi : ∀ {i : Nat} {q : Nat × va_E}, wr[i]? = some q → (wr ++ [x])[i]? = some q := fun {i q} h => by
    rw [List.getElem?_append_left (List.getElem?_eq_some_iff.mp h).1]; exact h
  exact ⟨fun i j p q h1 h2 => hD.1 i j p q (hi h1) (hi h2), fun k q h => hD.2 k q (hi h)⟩
theorem lm_apart {A : Nat → Prop} {wr : va_W} {b : Nat} {ee : va_E} (hD : va_D A (wr ++ [(b, ee)])) {k : Nat} {q : Nat × va_E} (h : wr[k]? = some q) : q.1 ≠ b := by
  intro e
  have hk := (List.getElem?_eq_some_iff.mp h).1
  have h1 : (wr ++ [(b, ee)])[k]? = some q := by rw [List.getElem?_append_left hk]; exact h
  have h2 : (wr ++ [(b, ee)])[wr.length]? = some (b, ee) := by rw [List.getElem?_append_right (Nat.le_refl _), Nat.sub_self]; rfl
  have := hD.1 k wr.length q (b, ee) h1 h2 e
  omega
theorem lm_P1 {D : va_G} {H : Heap} {wr : va_W} {x : Nat × va_E} (hP : va_P D vwCl (wr ++ [x]) H) : va_P D vwCl [x] H := fun k q h => by
  have hz : k < 1 := (List.getElem?_eq_some_iff.mp h).1
  have hk : k = 0 := by omega
  subst hk
  cases h
  exact hP wr.length x (by rw [List.getElem?_append_right (Nat.le_refl _), Nat.sub_self]; rfl)
theorem lm_D1 {x : Nat × va_E} : va_D (fun _ => True) [x] := by
  refine ⟨fun i j p q h1 h2 _ => ?_, fun _ _ _ => trivial⟩
  have hi : i < 1 := (List.getElem?_eq_some_iff.mp h1).1
  have hj : j < 1 := (List.getElem?_eq_some_iff.mp h2).1
  omega
/-- behind a constructor's call: its cells at the end -/
theorem lm_runI {wr : va_W} {b mc ms : Nat} {ee : va_E} {st0 : List Value} {a9 : Array Value} {P : va_W → Prop} (B : lm_B G p s m args meth c cc nL ret Ts own A) (hN : lm_N G A s (wr ++ [(b, ee)]) H locs) (hr : va_Run p l e R s m args below meth c H locs cells slots mc ms (F0 m pc ls st0) rest (lm_postI G P (va_A [(b, ee)] H.size) a9) (va_A [(b, ee)] H.size))
    (kk : ∀ (w1 : va_W) (H1 : Heap) (locs1 : List Loc), P w1 → lm_N G A s (wr ++ w1) H1 locs1 → W p l e R s m args below meth c H1 locs1 (cells + mc) (slots + ms) Q (F0 m (pc + 3) ls rest)) : W p l e R s m args below meth c H locs cells slots Q (F0 m pc ls st0) := by
  obtain ⟨-, -, -, hA, -, -⟩ := B
  have hS := hN.2.2
  have hb : ∀ q, va_A [(b, ee)] H.size q → q = b ∨ H.size ≤ q := by
    intro q h
    rcases h with ⟨k, e, h⟩ | h
    · have hz : k < 1 := (List.getElem?_eq_some_iff.mp h).1
      have hk : k = 0 := by omega
      subst hk
      cases h
      exact Or.inl rfl
    · exact Or.inr h
  have hFc : ∀ q, va_A [(b, ee)] H.size q → A q := fun q h => by
    rcases hb q h with e | h
    · rw [e]; exact hN.2.1.2 wr.length (b, ee) (by rw [List.getElem?_append_right (Nat.le_refl _), Nat.sub_self]; rfl)
    · exact hA q (Nat.le_trans hS.1 h)
  intro T hT X
  obtain ⟨v, st₀, t, T', L, h0, X', hL, e1, e2, ⟨hv, ⟨w1, hPw, hPt, hDt⟩, hz, hk⟩, st⟩ := hr T hT X
  cases hv
  rw [h0] at hz hk
  have hP1 : va_P G.1 vwCl w1 T'.heap := by rw [e1]; exact hPt
  have hlt : ∀ (k : Nat) (q : Nat × va_E), wr[k]? = some q → q.1 < H.size ∧ ¬ va_A [(b, ee)] H.size q.1 := fun k q h => by
    have h1 : (wr ++ [(b, ee)])[k]? = some q := by rw [List.getElem?_append_left (List.getElem?_eq_some_iff.mp h).1]; exact h
    have hl := (hN.1 k q h1).lt
    refine ⟨hl, fun z => ?_⟩
    rcases hb _ z with e | z
    · exact lm_apart hN.2.1 h e
    · omega
  have hPr : va_P G.1 vwCl wr T'.heap := fun k q h => by
    have h1 : (wr ++ [(b, ee)])[k]? = some q := by rw [List.getElem?_append_left (List.getElem?_eq_some_iff.mp h).1]; exact h
    exact (hN.1 k q h1).kept (by rw [e1]; exact hk q.1 (hlt k q h).1 (hlt k q h).2)
  have hS' : va_S A s.heap T'.heap (locs ++ L) := ⟨Nat.le_trans hS.1 (by rw [e1]; exact hz), fun q h1 h2 => by
      rw [e1, hk q (Nat.lt_of_lt_of_le h1 hS.1) (fun z => h2 (hFc q z))]; exact hS.2.1 q h1 h2, fun q hq => by
      rcases List.mem_append.mp hq with h | h
      · exact hS.2.2 q h
      · exact hFc _ (hL q h)⟩
  have hD' : va_D A (wr ++ w1) := va_D.app (lm_left hN.2.1) (hDt.weaken (fun _ q _ h => hFc q.1 h)) (fun i j x y hx hy hxy => (hlt i x hx).2 (by rw [hxy]; exact hDt.2 j y hy))
  obtain ⟨t2, a1, b1⟩ := kk w1 T'.heap (locs ++ L) hPw ⟨va_P.app hPr hP1, hD', hS'⟩ T' rfl X'
  exact ⟨t2, st t2 a1, b1⟩
theorem lm_hrI {k2 index maxL b mc ms : Nat} {y : MethodName} {host : String} {wy ws' : List Cond} {bytes : ByteArray} {wr : va_W} {ee : va_E} {P : va_W → Prop} (B : lm_B G p s m args meth c cc nL ret Ts own A) (hN : lm_N G A s (wr ++ [(b, ee)]) H locs) (hls : ls.size = nL)
    (hM : lm_CI l G y wy k2 mc ms b [(b, ee)] P) (hT : GoodIn Ts wy) (hw : wy = Cond.code y bytes maxL none :: ws') (hnw : Cond.methodLinkNest own index y host ∈ lm_nwL) (hini : Cond.initialized y.cls ∈ Ts) (hinst : Cond.instanceMethod y ∈ Ts) (hnm : y.name = "<init>") (hd : y.cls ≠ "java/lang/invoke/MethodHandle" ∧ y.cls ≠ "java/lang/invoke/VarHandle" ∧ (parseMethodDescriptor y.desc).map (fun d => d.parameters.length) = some 0) (hf : k2 + 1 ≤ R.frames) (hlo : 8 + (maxL + 11) + 80 * k2 ≤ R.locals) (hrest : (rest.map fun v => v.category).sum ≤ 8) (hcs : cells + mc ≤ R.cells ∧ slots + ms ≤ R.slots) (hdg : decode cc pc = .ok (.invokespecial index, 3)) :
    va_Run p l e R s m args below meth c H locs cells slots mc ms (F0 m pc ls (.ref b :: rest)) rest (lm_postI G P (va_A [(b, ee)] H.size) ([Value.ref b] : List Value).toArray) (va_A [(b, ee)] H.size) := by
  obtain ⟨⟨hx, hb, hml, hown, hts⟩, hr, hlocks, hA, hK, hE⟩ := id B
  have hFc : ∀ q, va_A [(b, ee)] H.size q → A q := fun q h => by
    rcases h with ⟨k, e, h⟩ | h
    · have hz : k < 1 := (List.getElem?_eq_some_iff.mp h).1
      have hk : k = 0 := by omega
      subst hk
      cases h
      exact hN.2.1.2 wr.length (b, ee) (by rw [List.getElem?_append_right (Nat.le_refl _), Nat.sub_self]; rfl)
    · exact hA q (Nat.le_trans hN.2.2.1 h)
  exact va_runIN (As := []) (rest := rest) ⟨hx, hb, hml, hown, hts⟩ (hM H.size) ⟨va_cnB 0 hts hT hw rfl rfl (hE.1 _ hnw) (hts _ hini) hd ⟨hf, hlo⟩, hnm, hts _ hinst⟩ ⟨lm_blind, fun U hU hW => ⟨rfl, lm_preU B hN hFc (lm_P1 hN.1) lm_D1 hU hW⟩⟩ rfl rfl hls rfl (lv_room hrest) hdg hcs
theorem lm_perm (hN : lm_N G A s w H locs) (pm : List Nat) (hn : va_nd pm = true) (w2 : va_W) (h : pm.map (fun i => w[i]?) = w2.map some) : lm_N G A s w2 H locs := ⟨hN.1.sub pm (lm_fm h), hN.2.1.sub pm hn h, hN.2.2⟩
end INIT
set_option maxHeartbeats 4000000 in
set_option maxRecDepth 100000 in
theorem iX3 (l : Launch) (G : lm_G) (h0 : Nat) : lm_CI l G yX3_init wsX3_init 2 4 28 h0 [(h0, .inr (3, [.null, .null, .null, .null, .int 0, .int 0, .int 0, .int 0, .int 0]))] (fun w => ∃ qa : Nat → Nat, qa 0 = h0 ∧ w = wX3 G qa lm_z) := by
  refine lm_CI.of (cc := cX3_init) (maxL := 1) (ret := none) (by decide) rfl (Nat.le_of_ble_eq_true rfl) rfl ?_
  intro p e s m below meth c A ls B hN hin0 hl
  have hx := B.1.1
  have hb := B.1.2.1
  have hl : lv_has ls 1 [(0, .ref h0)] := hl
  have hiX3 : ∀ w ∈ wsX30, w ∈ wsX3_init := by decide +kernel
  refine lv_aload_n hx hb dX3_init_0 rfl (lv_at hl 0 rfl) ?_
  refine lm_obj B hl.1 (by decide +kernel) (by decide +kernel) (by decide +kernel) (by decide) (by decide) (Nat.le_of_ble_eq_true rfl) dX3_init_1 ?_
  refine lv_aload_n hx hb dX3_init_4 rfl (lv_at hl 0 rfl) ?_
  refine lv_bipush (v := 7) hx hb dX3_init_5 (by decide) ?_
  refine lm_newa B hN (by decide +kernel) 7 (by decide +kernel) (by decide +kernel) (by decide +kernel) (by decide +kernel) (by decide +kernel) dX3_init_7 (fun a1 H hN => ?_)
  rw [List.cons_append, List.nil_append] at hN
  refine lm_putF B hN hin0 hiX3 tyX3 tyX3_ok nmX3 rfl 0 rfl rfl 0 (by decide) (by decide +kernel) rfl rfl (v := .ref a1) rfl rfl (Nat.le_of_ble_eq_true rfl) ((h0, .inr (3, [.ref a1, .null, .null, .null, .int 0, .int 0, .int 0, .int 0, .int 0])) :: [(a1, .inl (G.2.1, 7, .inl (fun _ => 0)))]) rfl dX3_init_9 (fun H locs hN => ?_)
  refine lv_aload_n hx hb dX3_init_12 rfl (lv_at hl 0 rfl) ?_
  refine lv_bipush (v := 7) hx hb dX3_init_13 (by decide) ?_
  refine lm_newa B hN (by decide +kernel) 7 (by decide +kernel) (by decide +kernel) (by decide +kernel) (by decide +kernel) (by decide +kernel) dX3_init_15 (fun a2 H hN => ?_)
  rw [List.cons_append] at hN
  refine lm_putF B hN hin0 hiX3 tyX3 tyX3_ok nmX3 rfl 0 rfl rfl 1 (by decide) (by decide +kernel) rfl rfl (v := .ref a2) rfl rfl (Nat.le_of_ble_eq_true rfl) ((h0, .inr (3, [.ref a1, .ref a2, .null, .null, .int 0, .int 0, .int 0, .int 0, .int 0])) :: ([(a1, .inl (G.2.1, 7, .inl (fun _ => 0)))] ++ [(a2, .inl (G.2.1, 7, .inl (fun _ => 0)))])) rfl dX3_init_17 (fun H locs hN => ?_)
  refine lv_aload_n hx hb dX3_init_20 rfl (lv_at hl 0 rfl) ?_
  refine lv_bipush (v := 7) hx hb dX3_init_21 (by decide) ?_
  refine lm_newa B hN (by decide +kernel) 7 (by decide +kernel) (by decide +kernel) (by decide +kernel) (by decide +kernel) (by decide +kernel) dX3_init_23 (fun a3 H hN => ?_)
  rw [List.cons_append] at hN
  refine lm_putF B hN hin0 hiX3 tyX3 tyX3_ok nmX3 rfl 0 rfl rfl 2 (by decide) (by decide +kernel) rfl rfl (v := .ref a3) rfl rfl (Nat.le_of_ble_eq_true rfl) ((h0, .inr (3, [.ref a1, .ref a2, .ref a3, .null, .int 0, .int 0, .int 0, .int 0, .int 0])) :: (([(a1, .inl (G.2.1, 7, .inl (fun _ => 0)))] ++ [(a2, .inl (G.2.1, 7, .inl (fun _ => 0)))]) ++ [(a3, .inl (G.2.1, 7, .inl (fun _ => 0)))])) rfl dX3_init_25 (fun H locs hN => ?_)
  refine lv_aload_n hx hb dX3_init_28 rfl (lv_at hl 0 rfl) ?_
  refine lv_bipush (v := 7) hx hb dX3_init_29 (by decide) ?_
  refine lm_newa B hN (by decide +kernel) 7 (by decide +kernel) (by decide +kernel) (by decide +kernel) (by decide +kernel) (by decide +kernel) dX3_init_31 (fun a4 H hN => ?_)
  rw [List.cons_append] at hN
  refine lm_putF B hN hin0 hiX3 tyX3 tyX3_ok nmX3 rfl 0 rfl rfl 3 (by decide) (by decide +kernel) rfl rfl (v := .ref a4) rfl rfl (Nat.le_of_ble_eq_true rfl) ((h0, .inr (3, [.ref a1, .ref a2, .ref a3, .ref a4, .int 0, .int 0, .int 0, .int 0, .int 0])) :: ((([(a1, .inl (G.2.1, 7, .inl (fun _ => 0)))] ++ [(a2, .inl (G.2.1, 7, .inl (fun _ => 0)))]) ++ [(a3, .inl (G.2.1, 7, .inl (fun _ => 0)))]) ++ [(a4, .inl (G.2.1, 7, .inl (fun _ => 0)))])) rfl dX3_init_33 (fun H locs hN => ?_)
  exact lm_vretI B hN ⟨(fun k => match k with | 1 => a1 | 2 => a2 | 3 => a3 | 4 => a4 | _ => h0), rfl, rfl⟩ dX3_init_36
set_option maxHeartbeats 4000000 in
set_option maxRecDepth 100000 in
theorem iX5 (l : Launch) (G : lm_G) (h0 : Nat) : lm_CI l G yX5_init wsX5_init 2 1 32 h0 [(h0, .inr (5, [.null, .int 0]))] (fun w => ∃ qa : Nat → Nat, qa 0 = h0 ∧ w = wX5 G qa lm_z) := by
  refine lm_CI.of (cc := cX5_init) (maxL := 1) (ret := none) (by decide) rfl (Nat.le_of_ble_eq_true rfl) rfl ?_
  intro p e s m below meth c A ls B hN hin0 hl
  have hx := B.1.1
  have hb := B.1.2.1
  have hl : lv_has ls 1 [(0, .ref h0)] := hl
  have hiX5 : ∀ w ∈ wsX50, w ∈ wsX5_init := by decide +kernel
  refine lv_aload_n hx hb dX5_init_0 rfl (lv_at hl 0 rfl) ?_
  refine lm_obj B hl.1 (by decide +kernel) (by decide +kernel) (by decide +kernel) (by decide) (by decide) (Nat.le_of_ble_eq_true rfl) dX5_init_1 ?_
  refine lv_aload_n hx hb dX5_init_4 rfl (lv_at hl 0 rfl) ?_
  refine lv_bipush (v := 32) hx hb dX5_init_5 (by decide) ?_
  refine lm_newa B hN (by decide +kernel) 32 (by decide +kernel) (by decide +kernel) (by decide +kernel) (by decide +kernel) (by decide +kernel) dX5_init_7 (fun a1 H hN => ?_)
  rw [List.cons_append, List.nil_append] at hN
  refine lm_putF B hN hin0 hiX5 tyX5 tyX5_ok nmX5 rfl 0 rfl rfl 0 (by decide) (by decide +kernel) rfl rfl (v := .ref a1) rfl rfl (Nat.le_of_ble_eq_true rfl) ((h0, .inr (5, [.ref a1, .int 0])) :: [(a1, .inl (G.2.1, 32, .inl (fun _ => 0)))]) rfl dX5_init_9 (fun H locs hN => ?_)
  exact lm_vretI B hN ⟨(fun k => match k with | 1 => a1 | _ => h0), rfl, rfl⟩ dX5_init_12
set_option maxHeartbeats 4000000 in
set_option maxRecDepth 100000 in
theorem iX7 (l : Launch) (G : lm_G) (h0 : Nat) : lm_CI l G yX7_init wsX7_init 2 4 39 h0 [(h0, .inr (7, [.null, .null, .null, .null, .int 0]))] (fun w => ∃ qa : Nat → Nat, qa 0 = h0 ∧ w = wX7 G qa lm_z) := by
  refine lm_CI.of (cc := cX7_init) (maxL := 1) (ret := none) (by decide) rfl (Nat.le_of_ble_eq_true rfl) rfl ?_
  intro p e s m below meth c A ls B hN hin0 hl
  have hx := B.1.1
  have hb := B.1.2.1
  have hl : lv_has ls 1 [(0, .ref h0)] := hl
  have hiX7 : ∀ w ∈ wsX70, w ∈ wsX7_init := by decide +kernel
  refine lv_aload_n hx hb dX7_init_0 rfl (lv_at hl 0 rfl) ?_
  refine lm_obj B hl.1 (by decide +kernel) (by decide +kernel) (by decide +kernel) (by decide) (by decide) (Nat.le_of_ble_eq_true rfl) dX7_init_1 ?_
  refine lv_aload_n hx hb dX7_init_4 rfl (lv_at hl 0 rfl) ?_
  refine lv_bipush (v := 6) hx hb dX7_init_5 (by decide) ?_
  refine lm_newa B hN (by decide +kernel) 6 (by decide +kernel) (by decide +kernel) (by decide +kernel) (by decide +kernel) (by decide +kernel) dX7_init_7 (fun a1 H hN => ?_)
  rw [List.cons_append, List.nil_append] at hN
  refine lm_putF B hN hin0 hiX7 tyX7 tyX7_ok nmX7 rfl 0 rfl rfl 0 (by decide) (by decide +kernel) rfl rfl (v := .ref a1) rfl rfl (Nat.le_of_ble_eq_true rfl) ((h0, .inr (7, [.ref a1, .null, .null, .null, .int 0])) :: [(a1, .inl (G.2.1, 6, .inl (fun _ => 0)))]) rfl dX7_init_9 (fun H locs hN => ?_)
  refine lv_aload_n hx hb dX7_init_12 rfl (lv_at hl 0 rfl) ?_
  refine lv_bipush (v := 6) hx hb dX7_init_13 (by decide) ?_
  refine lm_newa B hN (by decide +kernel) 6 (by decide +kernel) (by decide +kernel) (by decide +kernel) (by decide +kernel) (by decide +kernel) dX7_init_15 (fun a2 H hN => ?_)
  rw [List.cons_append] at hN
  refine lm_putF B hN hin0 hiX7 tyX7 tyX7_ok nmX7 rfl 0 rfl rfl 1 (by decide) (by decide +kernel) rfl rfl (v := .ref a2) rfl rfl (Nat.le_of_ble_eq_true rfl) ((h0, .inr (7, [.ref a1, .ref a2, .null, .null, .int 0])) :: ([(a1, .inl (G.2.1, 6, .inl (fun _ => 0)))] ++ [(a2, .inl (G.2.1, 6, .inl (fun _ => 0)))])) rfl dX7_init_17 (fun H locs hN => ?_)
  refine lv_aload_n hx hb dX7_init_20 rfl (lv_at hl 0 rfl) ?_
  refine lv_bipush (v := 6) hx hb dX7_init_21 (by decide) ?_
  refine lm_newa B hN (by decide +kernel) 6 (by decide +kernel) (by decide +kernel) (by decide +kernel) (by decide +kernel) (by decide +kernel) dX7_init_23 (fun a3 H hN => ?_)
  rw [List.cons_append] at hN
  refine lm_putF B hN hin0 hiX7 tyX7 tyX7_ok nmX7 rfl 0 rfl rfl 2 (by decide) (by decide +kernel) rfl rfl (v := .ref a3) rfl rfl (Nat.le_of_ble_eq_true rfl) ((h0, .inr (7, [.ref a1, .ref a2, .ref a3, .null, .int 0])) :: (([(a1, .inl (G.2.1, 6, .inl (fun _ => 0)))] ++ [(a2, .inl (G.2.1, 6, .inl (fun _ => 0)))]) ++ [(a3, .inl (G.2.1, 6, .inl (fun _ => 0)))])) rfl dX7_init_25 (fun H locs hN => ?_)
  refine lv_aload_n hx hb dX7_init_28 rfl (lv_at hl 0 rfl) ?_
  refine lv_bipush (v := 21) hx hb dX7_init_29 (by decide) ?_
  refine lm_newa B hN (by decide +kernel) 21 (by decide +kernel) (by decide +kernel) (by decide +kernel) (by decide +kernel) (by decide +kernel) dX7_init_31 (fun a4 H hN => ?_)
  rw [List.cons_append] at hN
  refine lm_putF B hN hin0 hiX7 tyX7 tyX7_ok nmX7 rfl 0 rfl rfl 3 (by decide) (by decide +kernel) rfl rfl (v := .ref a4) rfl rfl (Nat.le_of_ble_eq_true rfl) ((h0, .inr (7, [.ref a1, .ref a2, .ref a3, .ref a4, .int 0])) :: ((([(a1, .inl (G.2.1, 6, .inl (fun _ => 0)))] ++ [(a2, .inl (G.2.1, 6, .inl (fun _ => 0)))]) ++ [(a3, .inl (G.2.1, 6, .inl (fun _ => 0)))]) ++ [(a4, .inl (G.2.1, 21, .inl (fun _ => 0)))])) rfl dX7_init_33 (fun H locs hN => ?_)
  exact lm_vretI B hN ⟨(fun k => match k with | 1 => a1 | 2 => a2 | 3 => a3 | 4 => a4 | _ => h0), rfl, rfl⟩ dX7_init_36
set_option maxHeartbeats 4000000 in
set_option maxRecDepth 100000 in
theorem iX4 (l : Launch) (G : lm_G) (h0 : Nat) : lm_CI l G yX4_init wsX4_init 2 0 0 h0 [(h0, .inr (4, [.int 0, .int 0, .int 0]))] (fun w => ∃ qa : Nat → Nat, qa 0 = h0 ∧ w = wX4 G qa lm_z) := by
  refine lm_CI.of (cc := cX4_init) (maxL := 1) (ret := none) (by decide) rfl (Nat.le_of_ble_eq_true rfl) rfl ?_
  intro p e s m below meth c A ls B hN hin0 hl
  have hx := B.1.1
  have hb := B.1.2.1
  have hl : lv_has ls 1 [(0, .ref h0)] := hl
  refine lv_aload_n hx hb dX4_init_0 rfl (lv_at hl 0 rfl) ?_
  refine lm_obj B hl.1 (by decide +kernel) (by decide +kernel) (by decide +kernel) (by decide) (by decide) (Nat.le_of_ble_eq_true rfl) dX4_init_1 ?_
  exact lm_vretI B hN ⟨(fun _ => h0), rfl, rfl⟩ dX4_init_4
set_option maxHeartbeats 4000000 in
set_option maxRecDepth 100000 in
theorem iX0 (l : Launch) (G : lm_G) (h0 : Nat) : lm_CI l G yX0_init wsX0_init 2 2 135 h0 [(h0, .inr (0, [.null, .null, .int 0]))] (fun w => ∃ qa : Nat → Nat, qa 0 = h0 ∧ w = wX0 G qa lm_z) := by
  refine lm_CI.of (cc := cX0_init) (maxL := 1) (ret := none) (by decide) rfl (Nat.le_of_ble_eq_true rfl) rfl ?_
  intro p e s m below meth c A ls B hN hin0 hl
  have hx := B.1.1
  have hb := B.1.2.1
  have hl : lv_has ls 1 [(0, .ref h0)] := hl
  have hiX0 : ∀ w ∈ wsX00, w ∈ wsX0_init := by decide +kernel
  refine lv_aload_n hx hb dX0_init_0 rfl (lv_at hl 0 rfl) ?_
  refine lm_obj B hl.1 (by decide +kernel) (by decide +kernel) (by decide +kernel) (by decide) (by decide) (Nat.le_of_ble_eq_true rfl) dX0_init_1 ?_
  refine lv_aload_n hx hb dX0_init_4 rfl (lv_at hl 0 rfl) ?_
  refine lv_sipush (v := 128) hx hb dX0_init_5 (by decide) ?_
  refine lm_newa B hN (by decide +kernel) 128 (by decide +kernel) (by decide +kernel) (by decide +kernel) (by decide +kernel) (by decide +kernel) dX0_init_8 (fun a1 H hN => ?_)
  rw [List.cons_append, List.nil_append] at hN
  refine lm_putF B hN hin0 hiX0 tyX0 tyX0_ok nmX0 rfl 0 rfl rfl 0 (by decide) (by decide +kernel) rfl rfl (v := .ref a1) rfl rfl (Nat.le_of_ble_eq_true rfl) ((h0, .inr (0, [.ref a1, .null, .int 0])) :: [(a1, .inl (G.2.1, 128, .inl (fun _ => 0)))]) rfl dX0_init_10 (fun H locs hN => ?_)
  refine lv_aload_n hx hb dX0_init_13 rfl (lv_at hl 0 rfl) ?_
  refine lv_bipush (v := 7) hx hb dX0_init_14 (by decide) ?_
  refine lm_newa B hN (by decide +kernel) 7 (by decide +kernel) (by decide +kernel) (by decide +kernel) (by decide +kernel) (by decide +kernel) dX0_init_16 (fun a2 H hN => ?_)
  rw [List.cons_append] at hN
  refine lm_putF B hN hin0 hiX0 tyX0 tyX0_ok nmX0 rfl 0 rfl rfl 1 (by decide) (by decide +kernel) rfl rfl (v := .ref a2) rfl rfl (Nat.le_of_ble_eq_true rfl) ((h0, .inr (0, [.ref a1, .ref a2, .int 0])) :: ([(a1, .inl (G.2.1, 128, .inl (fun _ => 0)))] ++ [(a2, .inl (G.2.1, 7, .inl (fun _ => 0)))])) rfl dX0_init_18 (fun H locs hN => ?_)
  exact lm_vretI B hN ⟨(fun k => match k with | 1 => a1 | 2 => a2 | _ => h0), rfl, rfl⟩ dX0_init_21
set_option maxHeartbeats 4000000 in
set_option maxRecDepth 100000 in
theorem iX6 (l : Launch) (G : lm_G) (h0 : Nat) : lm_CI l G yX6_init wsX6_init 4 7 45 h0 [(h0, .inr (6, [.null, .null, .null, .int 0, .int 0, .int 0]))] (fun w => ∃ qa qb : Nat → Nat, qa 0 = h0 ∧ w = wX6_X3 G qa qb lm_z lm_z) := by
  refine lm_CI.of (cc := cX6_init) (maxL := 1) (ret := none) (by decide) rfl (Nat.le_of_ble_eq_true rfl) rfl ?_
  intro p e s m below meth c A ls B hN hin0 hl
  have hx := B.1.1
  have hb := B.1.2.1
  have hl : lv_has ls 1 [(0, .ref h0)] := hl
  have hiX3 : ∀ w ∈ wsX30, w ∈ wsX6_init := by decide +kernel
  have hiX6 : ∀ w ∈ wsX60, w ∈ wsX6_init := by decide +kernel
  refine lv_aload_n hx hb dX6_init_0 rfl (lv_at hl 0 rfl) ?_
  refine lm_obj B hl.1 (by decide +kernel) (by decide +kernel) (by decide +kernel) (by decide) (by decide) (Nat.le_of_ble_eq_true rfl) dX6_init_1 ?_
  refine lv_aload_n hx hb dX6_init_4 rfl (lv_at hl 0 rfl) ?_
  refine lm_new B hN (ci := 3) hiX3 tyX3 tyX3_ok (by decide +kernel) (by decide +kernel) (by decide +kernel) rfl (fs := [.null, .null, .null, .null, .int 0, .int 0, .int 0, .int 0, .int 0]) (by decide +kernel) (by decide) (by decide) dX6_init_5 (fun b1 H hN => ?_)
  refine lv_dup hx hb dX6_init_8 rfl ?_
  refine lm_runI B hN (lm_hrI (host := RX8) B hN hl.1 (iX3 l G b1) gX6_init_X3_init_n11 rfl (by decide +kernel) (by decide +kernel) (by decide +kernel) rfl (by decide +kernel) (by decide) (by decide) (Nat.le_of_ble_eq_true rfl) ⟨by decide, by decide⟩ dX6_init_9) (fun w1 H locs hw1 hN => ?_)
  obtain ⟨q1a, rfl, rfl⟩ := hw1
  rw [List.cons_append, List.nil_append] at hN
  refine lm_putF B hN hin0 hiX6 tyX6 tyX6_ok nmX6 rfl 0 rfl rfl 0 (by decide) (by decide +kernel) rfl rfl (v := .ref (q1a 0)) rfl rfl (Nat.le_of_ble_eq_true rfl) ((h0, .inr (6, [.ref (q1a 0), .null, .null, .int 0, .int 0, .int 0])) :: (wX3 G q1a lm_z)) rfl dX6_init_12 (fun H locs hN => ?_)
  refine lv_aload_n hx hb dX6_init_15 rfl (lv_at hl 0 rfl) ?_
  refine lv_iconst (v := 4) hx hb dX6_init_16 (by decide) ?_
  refine lm_newa B hN (by decide +kernel) 4 (by decide +kernel) (by decide +kernel) (by decide +kernel) (by decide +kernel) (by decide +kernel) dX6_init_17 (fun a2 H hN => ?_)
  rw [List.cons_append] at hN
  refine lm_putF B hN hin0 hiX6 tyX6 tyX6_ok nmX6 rfl 0 rfl rfl 1 (by decide) (by decide +kernel) rfl rfl (v := .ref a2) rfl rfl (Nat.le_of_ble_eq_true rfl) ((h0, .inr (6, [.ref (q1a 0), .ref a2, .null, .int 0, .int 0, .int 0])) :: ((wX3 G q1a lm_z) ++ [(a2, .inl (G.2.1, 4, .inl (fun _ => 0)))])) rfl dX6_init_19 (fun H locs hN => ?_)
  refine lv_aload_n hx hb dX6_init_22 rfl (lv_at hl 0 rfl) ?_
  refine lv_iconst (v := 4) hx hb dX6_init_23 (by decide) ?_
  refine lm_newa B hN (by decide +kernel) 4 (by decide +kernel) (by decide +kernel) (by decide +kernel) (by decide +kernel) (by decide +kernel) dX6_init_24 (fun a3 H hN => ?_)
  rw [List.cons_append] at hN
  refine lm_putF B hN hin0 hiX6 tyX6 tyX6_ok nmX6 rfl 0 rfl rfl 2 (by decide) (by decide +kernel) rfl rfl (v := .ref a3) rfl rfl (Nat.le_of_ble_eq_true rfl) ((h0, .inr (6, [.ref (q1a 0), .ref a2, .ref a3, .int 0, .int 0, .int 0])) :: (((wX3 G q1a lm_z) ++ [(a2, .inl (G.2.1, 4, .inl (fun _ => 0)))]) ++ [(a3, .inl (G.2.1, 4, .inl (fun _ => 0)))])) rfl dX6_init_26 (fun H locs hN => ?_)
  have hN := lm_perm hN [0, 6, 7, 1, 2, 3, 4, 5] rfl (wX6_X3 G (fun k => match k with | 1 => a2 | 2 => a3 | _ => h0) q1a lm_z lm_z) rfl
  exact lm_vretI B hN ⟨_, _, rfl, rfl⟩ dX6_init_29
set_option maxHeartbeats 4000000 in
set_option maxRecDepth 100000 in
theorem iX2 (l : Launch) (G : lm_G) (h0 : Nat) : lm_CI l G yX2_init wsX2_init 4 5 37 h0 [(h0, .inr (2, [.null, .int 0, .int 0]))] (fun w => ∃ qa qb : Nat → Nat, qa 0 = h0 ∧ w = wX2_X3 G qa qb lm_z lm_z) := by
  refine lm_CI.of (cc := cX2_init) (maxL := 1) (ret := none) (by decide) rfl (Nat.le_of_ble_eq_true rfl) rfl ?_
  intro p e s m below meth c A ls B hN hin0 hl
  have hx := B.1.1
  have hb := B.1.2.1
  have hl : lv_has ls 1 [(0, .ref h0)] := hl
  have hiX2 : ∀ w ∈ wsX20, w ∈ wsX2_init := by decide +kernel
  have hiX3 : ∀ w ∈ wsX30, w ∈ wsX2_init := by decide +kernel
  refine lv_aload_n hx hb dX2_init_0 rfl (lv_at hl 0 rfl) ?_
  refine lm_obj B hl.1 (by decide +kernel) (by decide +kernel) (by decide +kernel) (by decide) (by decide) (Nat.le_of_ble_eq_true rfl) dX2_init_1 ?_
  refine lv_aload_n hx hb dX2_init_4 rfl (lv_at hl 0 rfl) ?_
  refine lm_new B hN (ci := 3) hiX3 tyX3 tyX3_ok (by decide +kernel) (by decide +kernel) (by decide +kernel) rfl (fs := [.null, .null, .null, .null, .int 0, .int 0, .int 0, .int 0, .int 0]) (by decide +kernel) (by decide) (by decide) dX2_init_5 (fun b1 H hN => ?_)
  refine lv_dup hx hb dX2_init_8 rfl ?_
  refine lm_runI B hN (lm_hrI (host := RX8) B hN hl.1 (iX3 l G b1) gX2_init_X3_init_n11 rfl (by decide +kernel) (by decide +kernel) (by decide +kernel) rfl (by decide +kernel) (by decide) (by decide) (Nat.le_of_ble_eq_true rfl) ⟨by decide, by decide⟩ dX2_init_9) (fun w1 H locs hw1 hN => ?_)
  obtain ⟨q1a, rfl, rfl⟩ := hw1
  rw [List.cons_append, List.nil_append] at hN
  refine lm_putF B hN hin0 hiX2 tyX2 tyX2_ok nmX2 rfl 0 rfl rfl 0 (by decide) (by decide +kernel) rfl rfl (v := .ref (q1a 0)) rfl rfl (Nat.le_of_ble_eq_true rfl) ((h0, .inr (2, [.ref (q1a 0), .int 0, .int 0])) :: (wX3 G q1a lm_z)) rfl dX2_init_12 (fun H locs hN => ?_)
  exact lm_vretI B hN ⟨(fun _ => h0), q1a, rfl, rfl⟩ dX2_init_15
set_option maxHeartbeats 4000000 in
set_option maxRecDepth 100000 in
theorem iX1 (l : Launch) (G : lm_G) (h0 : Nat) : lm_CI l G yX1_init wsX1_init 4 5 37 h0 [(h0, .inr (1, [.null, .int 0, .int 0, .int 0]))] (fun w => ∃ qa qb : Nat → Nat, qa 0 = h0 ∧ w = wX1_X3 G qa qb lm_z lm_z) := by
  refine lm_CI.of (cc := cX1_init) (maxL := 1) (ret := none) (by decide) rfl (Nat.le_of_ble_eq_true rfl) rfl ?_
  intro p e s m below meth c A ls B hN hin0 hl
  have hx := B.1.1
  have hb := B.1.2.1
  have hl : lv_has ls 1 [(0, .ref h0)] := hl
  have hiX1 : ∀ w ∈ wsX10, w ∈ wsX1_init := by decide +kernel
  have hiX3 : ∀ w ∈ wsX30, w ∈ wsX1_init := by decide +kernel
  refine lv_aload_n hx hb dX1_init_0 rfl (lv_at hl 0 rfl) ?_
  refine lm_obj B hl.1 (by decide +kernel) (by decide +kernel) (by decide +kernel) (by decide) (by decide) (Nat.le_of_ble_eq_true rfl) dX1_init_1 ?_
  refine lv_aload_n hx hb dX1_init_4 rfl (lv_at hl 0 rfl) ?_
  refine lm_new B hN (ci := 3) hiX3 tyX3 tyX3_ok (by decide +kernel) (by decide +kernel) (by decide +kernel) rfl (fs := [.null, .null, .null, .null, .int 0, .int 0, .int 0, .int 0, .int 0]) (by decide +kernel) (by decide) (by decide) dX1_init_5 (fun b1 H hN => ?_)
  refine lv_dup hx hb dX1_init_8 rfl ?_
  refine lm_runI B hN (lm_hrI (host := RX8) B hN hl.1 (iX3 l G b1) gX1_init_X3_init_n11 rfl (by decide +kernel) (by decide +kernel) (by decide +kernel) rfl (by decide +kernel) (by decide) (by decide) (Nat.le_of_ble_eq_true rfl) ⟨by decide, by decide⟩ dX1_init_9) (fun w1 H locs hw1 hN => ?_)
  obtain ⟨q1a, rfl, rfl⟩ := hw1
  rw [List.cons_append, List.nil_append] at hN
  refine lm_putF B hN hin0 hiX1 tyX1 tyX1_ok nmX1 rfl 0 rfl rfl 0 (by decide) (by decide +kernel) rfl rfl (v := .ref (q1a 0)) rfl rfl (Nat.le_of_ble_eq_true rfl) ((h0, .inr (1, [.ref (q1a 0), .int 0, .int 0, .int 0])) :: (wX3 G q1a lm_z)) rfl dX1_init_12 (fun H locs hN => ?_)
  exact lm_vretI B hN ⟨(fun _ => h0), q1a, rfl, rfl⟩ dX1_init_15
set_option maxHeartbeats 4000000 in
set_option maxRecDepth 100000 in
theorem iX8 (l : Launch) (G : lm_G) (h0 : Nat) : lm_CI l G yX8_init wsX8_init 6 46 469 h0 [(h0, .inr (8, [.null, .null, .null, .null, .null, .null, .null, .null, .null, .null, .int 0, .int 0, .int 0]))] (fun w => ∃ Q : Nat → Nat → Nat, Q 0 0 = h0 ∧ w = wA8 G Q (fun _ => lm_z)) := by
  refine lm_CI.of (cc := cX8_init) (maxL := 1) (ret := none) (by decide) rfl (Nat.le_of_ble_eq_true rfl) rfl ?_
  intro p e s m below meth c A ls B hN hin0 hl
  have hx := B.1.1
  have hb := B.1.2.1
  have hl : lv_has ls 1 [(0, .ref h0)] := hl
  have hiX0 : ∀ w ∈ wsX00, w ∈ wsX8_init := by decide +kernel
  have hiX1 : ∀ w ∈ wsX10, w ∈ wsX8_init := by decide +kernel
  have hiX2 : ∀ w ∈ wsX20, w ∈ wsX8_init := by decide +kernel
  have hiX3 : ∀ w ∈ wsX30, w ∈ wsX8_init := by decide +kernel
  have hiX4 : ∀ w ∈ wsX40, w ∈ wsX8_init := by decide +kernel
  have hiX5 : ∀ w ∈ wsX50, w ∈ wsX8_init := by decide +kernel
  have hiX6 : ∀ w ∈ wsX60, w ∈ wsX8_init := by decide +kernel
  have hiX7 : ∀ w ∈ wsX70, w ∈ wsX8_init := by decide +kernel
  have hiX8 : ∀ w ∈ wsX80, w ∈ wsX8_init := by decide +kernel
  refine lv_aload_n hx hb dX8_init_0 rfl (lv_at hl 0 rfl) ?_
  refine lm_obj B hl.1 (by decide +kernel) (by decide +kernel) (by decide +kernel) (by decide) (by decide) (Nat.le_of_ble_eq_true rfl) dX8_init_1 ?_
  refine lv_aload_n hx hb dX8_init_4 rfl (lv_at hl 0 rfl) ?_
  refine lm_new B hN (ci := 5) hiX5 tyX5 tyX5_ok (by decide +kernel) (by decide +kernel) (by decide +kernel) rfl (fs := [.null, .int 0]) (by decide +kernel) (by decide) (by decide) dX8_init_5 (fun b1 H hN => ?_)
  refine lv_dup hx hb dX8_init_8 rfl ?_
  refine lm_runI B hN (lm_hrI (host := RX8) B hN hl.1 (iX5 l G b1) gX8_init_X5_init_n9 rfl (by decide +kernel) (by decide +kernel) (by decide +kernel) rfl (by decide +kernel) (by decide) (by decide) (Nat.le_of_ble_eq_true rfl) ⟨by decide, by decide⟩ dX8_init_9) (fun w1 H locs hw1 hN => ?_)
  obtain ⟨q1a, rfl, rfl⟩ := hw1
  rw [List.cons_append, List.nil_append] at hN
  refine lm_putF B hN hin0 hiX8 tyX8 tyX8_ok nmX8 rfl 0 rfl rfl 0 (by decide) (by decide +kernel) rfl rfl (v := .ref (q1a 0)) rfl rfl (Nat.le_of_ble_eq_true rfl) ((h0, .inr (8, [.ref (q1a 0), .null, .null, .null, .null, .null, .null, .null, .null, .null, .int 0, .int 0, .int 0])) :: (wX5 G q1a lm_z)) rfl dX8_init_12 (fun H locs hN => ?_)
  refine lv_aload_n hx hb dX8_init_15 rfl (lv_at hl 0 rfl) ?_
  refine lm_new B hN (ci := 3) hiX3 tyX3 tyX3_ok (by decide +kernel) (by decide +kernel) (by decide +kernel) rfl (fs := [.null, .null, .null, .null, .int 0, .int 0, .int 0, .int 0, .int 0]) (by decide +kernel) (by decide) (by decide) dX8_init_16 (fun b2 H hN => ?_)
  refine lv_dup hx hb dX8_init_19 rfl ?_
  refine lm_runI B hN (lm_hrI (host := RX8) B hN hl.1 (iX3 l G b2) gX8_init_X3_init_n18 rfl (by decide +kernel) (by decide +kernel) (by decide +kernel) rfl (by decide +kernel) (by decide) (by decide) (Nat.le_of_ble_eq_true rfl) ⟨by decide, by decide⟩ dX8_init_20) (fun w2 H locs hw2 hN => ?_)
  obtain ⟨q2a, rfl, rfl⟩ := hw2
  rw [List.cons_append] at hN
  refine lm_putF B hN hin0 hiX8 tyX8 tyX8_ok nmX8 rfl 0 rfl rfl 1 (by decide) (by decide +kernel) rfl rfl (v := .ref (q2a 0)) rfl rfl (Nat.le_of_ble_eq_true rfl) ((h0, .inr (8, [.ref (q1a 0), .ref (q2a 0), .null, .null, .null, .null, .null, .null, .null, .null, .int 0, .int 0, .int 0])) :: ((wX5 G q1a lm_z) ++ (wX3 G q2a lm_z))) rfl dX8_init_23 (fun H locs hN => ?_)
  refine lv_aload_n hx hb dX8_init_26 rfl (lv_at hl 0 rfl) ?_
  refine lm_new B hN (ci := 3) hiX3 tyX3 tyX3_ok (by decide +kernel) (by decide +kernel) (by decide +kernel) rfl (fs := [.null, .null, .null, .null, .int 0, .int 0, .int 0, .int 0, .int 0]) (by decide +kernel) (by decide) (by decide) dX8_init_27 (fun b3 H hN => ?_)
  refine lv_dup hx hb dX8_init_30 rfl ?_
  refine lm_runI B hN (lm_hrI (host := RX8) B hN hl.1 (iX3 l G b3) gX8_init_X3_init_n18 rfl (by decide +kernel) (by decide +kernel) (by decide +kernel) rfl (by decide +kernel) (by decide) (by decide) (Nat.le_of_ble_eq_true rfl) ⟨by decide, by decide⟩ dX8_init_31) (fun w3 H locs hw3 hN => ?_)
  obtain ⟨q3a, rfl, rfl⟩ := hw3
  rw [List.cons_append] at hN
  refine lm_putF B hN hin0 hiX8 tyX8 tyX8_ok nmX8 rfl 0 rfl rfl 2 (by decide) (by decide +kernel) rfl rfl (v := .ref (q3a 0)) rfl rfl (Nat.le_of_ble_eq_true rfl) ((h0, .inr (8, [.ref (q1a 0), .ref (q2a 0), .ref (q3a 0), .null, .null, .null, .null, .null, .null, .null, .int 0, .int 0, .int 0])) :: (((wX5 G q1a lm_z) ++ (wX3 G q2a lm_z)) ++ (wX3 G q3a lm_z))) rfl dX8_init_34 (fun H locs hN => ?_)
  refine lv_aload_n hx hb dX8_init_37 rfl (lv_at hl 0 rfl) ?_
  refine lm_new B hN (ci := 7) hiX7 tyX7 tyX7_ok (by decide +kernel) (by decide +kernel) (by decide +kernel) rfl (fs := [.null, .null, .null, .null, .int 0]) (by decide +kernel) (by decide) (by decide) dX8_init_38 (fun b4 H hN => ?_)
  refine lv_dup hx hb dX8_init_41 rfl ?_
  refine lm_runI B hN (lm_hrI (host := RX8) B hN hl.1 (iX7 l G b4) gX8_init_X7_init_n28 rfl (by decide +kernel) (by decide +kernel) (by decide +kernel) rfl (by decide +kernel) (by decide) (by decide) (Nat.le_of_ble_eq_true rfl) ⟨by decide, by decide⟩ dX8_init_42) (fun w4 H locs hw4 hN => ?_)
  obtain ⟨q4a, rfl, rfl⟩ := hw4
  rw [List.cons_append] at hN
  refine lm_putF B hN hin0 hiX8 tyX8 tyX8_ok nmX8 rfl 0 rfl rfl 3 (by decide) (by decide +kernel) rfl rfl (v := .ref (q4a 0)) rfl rfl (Nat.le_of_ble_eq_true rfl) ((h0, .inr (8, [.ref (q1a 0), .ref (q2a 0), .ref (q3a 0), .ref (q4a 0), .null, .null, .null, .null, .null, .null, .int 0, .int 0, .int 0])) :: ((((wX5 G q1a lm_z) ++ (wX3 G q2a lm_z)) ++ (wX3 G q3a lm_z)) ++ (wX7 G q4a lm_z))) rfl dX8_init_45 (fun H locs hN => ?_)
  refine lv_aload_n hx hb dX8_init_48 rfl (lv_at hl 0 rfl) ?_
  refine lm_new B hN (ci := 7) hiX7 tyX7 tyX7_ok (by decide +kernel) (by decide +kernel) (by decide +kernel) rfl (fs := [.null, .null, .null, .null, .int 0]) (by decide +kernel) (by decide) (by decide) dX8_init_49 (fun b5 H hN => ?_)
  refine lv_dup hx hb dX8_init_52 rfl ?_
  refine lm_runI B hN (lm_hrI (host := RX8) B hN hl.1 (iX7 l G b5) gX8_init_X7_init_n28 rfl (by decide +kernel) (by decide +kernel) (by decide +kernel) rfl (by decide +kernel) (by decide) (by decide) (Nat.le_of_ble_eq_true rfl) ⟨by decide, by decide⟩ dX8_init_53) (fun w5 H locs hw5 hN => ?_)
  obtain ⟨q5a, rfl, rfl⟩ := hw5
  rw [List.cons_append] at hN
  refine lm_putF B hN hin0 hiX8 tyX8 tyX8_ok nmX8 rfl 0 rfl rfl 4 (by decide) (by decide +kernel) rfl rfl (v := .ref (q5a 0)) rfl rfl (Nat.le_of_ble_eq_true rfl) ((h0, .inr (8, [.ref (q1a 0), .ref (q2a 0), .ref (q3a 0), .ref (q4a 0), .ref (q5a 0), .null, .null, .null, .null, .null, .int 0, .int 0, .int 0])) :: (((((wX5 G q1a lm_z) ++ (wX3 G q2a lm_z)) ++ (wX3 G q3a lm_z)) ++ (wX7 G q4a lm_z)) ++ (wX7 G q5a lm_z))) rfl dX8_init_56 (fun H locs hN => ?_)
  refine lv_aload_n hx hb dX8_init_59 rfl (lv_at hl 0 rfl) ?_
  refine lm_new B hN (ci := 6) hiX6 tyX6 tyX6_ok (by decide +kernel) (by decide +kernel) (by decide +kernel) rfl (fs := [.null, .null, .null, .int 0, .int 0, .int 0]) (by decide +kernel) (by decide) (by decide) dX8_init_60 (fun b6 H hN => ?_)
  refine lv_dup hx hb dX8_init_63 rfl ?_
  refine lm_runI B hN (lm_hrI (host := RX8) B hN hl.1 (iX6 l G b6) gX8_init_X6_init_n38 rfl (by decide +kernel) (by decide +kernel) (by decide +kernel) rfl (by decide +kernel) (by decide) (by decide) (Nat.le_of_ble_eq_true rfl) ⟨by decide, by decide⟩ dX8_init_64) (fun w6 H locs hw6 hN => ?_)
  obtain ⟨q6a, q6b, rfl, rfl⟩ := hw6
  rw [List.cons_append] at hN
  refine lm_putF B hN hin0 hiX8 tyX8 tyX8_ok nmX8 rfl 0 rfl rfl 5 (by decide) (by decide +kernel) rfl rfl (v := .ref (q6a 0)) rfl rfl (Nat.le_of_ble_eq_true rfl) ((h0, .inr (8, [.ref (q1a 0), .ref (q2a 0), .ref (q3a 0), .ref (q4a 0), .ref (q5a 0), .ref (q6a 0), .null, .null, .null, .null, .int 0, .int 0, .int 0])) :: ((((((wX5 G q1a lm_z) ++ (wX3 G q2a lm_z)) ++ (wX3 G q3a lm_z)) ++ (wX7 G q4a lm_z)) ++ (wX7 G q5a lm_z)) ++ (wX6_X3 G q6a q6b lm_z lm_z))) rfl dX8_init_67 (fun H locs hN => ?_)
  refine lv_aload_n hx hb dX8_init_70 rfl (lv_at hl 0 rfl) ?_
  refine lm_new B hN (ci := 4) hiX4 tyX4 tyX4_ok (by decide +kernel) (by decide +kernel) (by decide +kernel) rfl (fs := [.int 0, .int 0, .int 0]) (by decide +kernel) (by decide) (by decide) dX8_init_71 (fun b7 H hN => ?_)
  refine lv_dup hx hb dX8_init_74 rfl ?_
  refine lm_runI B hN (lm_hrI (host := RX8) B hN hl.1 (iX4 l G b7) gX8_init_X4_init_n45 rfl (by decide +kernel) (by decide +kernel) (by decide +kernel) rfl (by decide +kernel) (by decide) (by decide) (Nat.le_of_ble_eq_true rfl) ⟨by decide, by decide⟩ dX8_init_75) (fun w7 H locs hw7 hN => ?_)
  obtain ⟨q7a, rfl, rfl⟩ := hw7
  rw [List.cons_append] at hN
  refine lm_putF B hN hin0 hiX8 tyX8 tyX8_ok nmX8 rfl 0 rfl rfl 6 (by decide) (by decide +kernel) rfl rfl (v := .ref (q7a 0)) rfl rfl (Nat.le_of_ble_eq_true rfl) ((h0, .inr (8, [.ref (q1a 0), .ref (q2a 0), .ref (q3a 0), .ref (q4a 0), .ref (q5a 0), .ref (q6a 0), .ref (q7a 0), .null, .null, .null, .int 0, .int 0, .int 0])) :: (((((((wX5 G q1a lm_z) ++ (wX3 G q2a lm_z)) ++ (wX3 G q3a lm_z)) ++ (wX7 G q4a lm_z)) ++ (wX7 G q5a lm_z)) ++ (wX6_X3 G q6a q6b lm_z lm_z)) ++ (wX4 G q7a lm_z))) rfl dX8_init_78 (fun H locs hN => ?_)
  refine lv_aload_n hx hb dX8_init_81 rfl (lv_at hl 0 rfl) ?_
  refine lm_new B hN (ci := 2) hiX2 tyX2 tyX2_ok (by decide +kernel) (by decide +kernel) (by decide +kernel) rfl (fs := [.null, .int 0, .int 0]) (by decide +kernel) (by decide) (by decide) dX8_init_82 (fun b8 H hN => ?_)
  refine lv_dup hx hb dX8_init_85 rfl ?_
  refine lm_runI B hN (lm_hrI (host := RX8) B hN hl.1 (iX2 l G b8) gX8_init_X2_init_n52 rfl (by decide +kernel) (by decide +kernel) (by decide +kernel) rfl (by decide +kernel) (by decide) (by decide) (Nat.le_of_ble_eq_true rfl) ⟨by decide, by decide⟩ dX8_init_86) (fun w8 H locs hw8 hN => ?_)
  obtain ⟨q8a, q8b, rfl, rfl⟩ := hw8
  rw [List.cons_append] at hN
  refine lm_putF B hN hin0 hiX8 tyX8 tyX8_ok nmX8 rfl 0 rfl rfl 7 (by decide) (by decide +kernel) rfl rfl (v := .ref (q8a 0)) rfl rfl (Nat.le_of_ble_eq_true rfl) ((h0, .inr (8, [.ref (q1a 0), .ref (q2a 0), .ref (q3a 0), .ref (q4a 0), .ref (q5a 0), .ref (q6a 0), .ref (q7a 0), .ref (q8a 0), .null, .null, .int 0, .int 0, .int 0])) :: ((((((((wX5 G q1a lm_z) ++ (wX3 G q2a lm_z)) ++ (wX3 G q3a lm_z)) ++ (wX7 G q4a lm_z)) ++ (wX7 G q5a lm_z)) ++ (wX6_X3 G q6a q6b lm_z lm_z)) ++ (wX4 G q7a lm_z)) ++ (wX2_X3 G q8a q8b lm_z lm_z))) rfl dX8_init_89 (fun H locs hN => ?_)
  refine lv_aload_n hx hb dX8_init_92 rfl (lv_at hl 0 rfl) ?_
  refine lm_new B hN (ci := 0) hiX0 tyX0 tyX0_ok (by decide +kernel) (by decide +kernel) (by decide +kernel) rfl (fs := [.null, .null, .int 0]) (by decide +kernel) (by decide) (by decide) dX8_init_93 (fun b9 H hN => ?_)
  refine lv_dup hx hb dX8_init_96 rfl ?_
  refine lm_runI B hN (lm_hrI (host := RX8) B hN hl.1 (iX0 l G b9) gX8_init_X0_init_n59 rfl (by decide +kernel) (by decide +kernel) (by decide +kernel) rfl (by decide +kernel) (by decide) (by decide) (Nat.le_of_ble_eq_true rfl) ⟨by decide, by decide⟩ dX8_init_97) (fun w9 H locs hw9 hN => ?_)
  obtain ⟨q9a, rfl, rfl⟩ := hw9
  rw [List.cons_append] at hN
  refine lm_putF B hN hin0 hiX8 tyX8 tyX8_ok nmX8 rfl 0 rfl rfl 8 (by decide) (by decide +kernel) rfl rfl (v := .ref (q9a 0)) rfl rfl (Nat.le_of_ble_eq_true rfl) ((h0, .inr (8, [.ref (q1a 0), .ref (q2a 0), .ref (q3a 0), .ref (q4a 0), .ref (q5a 0), .ref (q6a 0), .ref (q7a 0), .ref (q8a 0), .ref (q9a 0), .null, .int 0, .int 0, .int 0])) :: (((((((((wX5 G q1a lm_z) ++ (wX3 G q2a lm_z)) ++ (wX3 G q3a lm_z)) ++ (wX7 G q4a lm_z)) ++ (wX7 G q5a lm_z)) ++ (wX6_X3 G q6a q6b lm_z lm_z)) ++ (wX4 G q7a lm_z)) ++ (wX2_X3 G q8a q8b lm_z lm_z)) ++ (wX0 G q9a lm_z))) rfl dX8_init_100 (fun H locs hN => ?_)
  refine lv_aload_n hx hb dX8_init_103 rfl (lv_at hl 0 rfl) ?_
  refine lm_new B hN (ci := 1) hiX1 tyX1 tyX1_ok (by decide +kernel) (by decide +kernel) (by decide +kernel) rfl (fs := [.null, .int 0, .int 0, .int 0]) (by decide +kernel) (by decide) (by decide) dX8_init_104 (fun b10 H hN => ?_)
  refine lv_dup hx hb dX8_init_107 rfl ?_
  refine lm_runI B hN (lm_hrI (host := RX8) B hN hl.1 (iX1 l G b10) gX8_init_X1_init_n66 rfl (by decide +kernel) (by decide +kernel) (by decide +kernel) rfl (by decide +kernel) (by decide) (by decide) (Nat.le_of_ble_eq_true rfl) ⟨by decide, by decide⟩ dX8_init_108) (fun w10 H locs hw10 hN => ?_)
  obtain ⟨q10a, q10b, rfl, rfl⟩ := hw10
  rw [List.cons_append] at hN
  refine lm_putF B hN hin0 hiX8 tyX8 tyX8_ok nmX8 rfl 0 rfl rfl 9 (by decide) (by decide +kernel) rfl rfl (v := .ref (q10a 0)) rfl rfl (Nat.le_of_ble_eq_true rfl) ((h0, .inr (8, [.ref (q1a 0), .ref (q2a 0), .ref (q3a 0), .ref (q4a 0), .ref (q5a 0), .ref (q6a 0), .ref (q7a 0), .ref (q8a 0), .ref (q9a 0), .ref (q10a 0), .int 0, .int 0, .int 0])) :: ((((((((((wX5 G q1a lm_z) ++ (wX3 G q2a lm_z)) ++ (wX3 G q3a lm_z)) ++ (wX7 G q4a lm_z)) ++ (wX7 G q5a lm_z)) ++ (wX6_X3 G q6a q6b lm_z lm_z)) ++ (wX4 G q7a lm_z)) ++ (wX2_X3 G q8a q8b lm_z lm_z)) ++ (wX0 G q9a lm_z)) ++ (wX1_X3 G q10a q10b lm_z lm_z))) rfl dX8_init_111 (fun H locs hN => ?_)
  refine lm_vretI B hN ⟨(fun i => match i with | 1 => q1a | 2 => q2a | 3 => q3a | 4 => q4a | 5 => q5a | 6 => q6a | 7 => q6b | 8 => q7a | 9 => q8a | 10 => q8b | 11 => q9a | 12 => q10a | 13 => q10b | _ => (fun _ => h0)), rfl, ?_⟩ dX8_init_114
  simp only [wA8, wX8, List.append_assoc, List.cons_append, List.nil_append]
  rfl
