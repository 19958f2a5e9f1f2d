/-! My own base: states, loops, worlds, contracts, and a row for each kind of step over them. -/
abbrev lm_St : Type := (Nat → Int32) × (Nat → Nat → Int32) × Int64
def lm_sF (s : lm_St) (k : Nat) (v : Int32) : lm_St := (upd s.1 k v, s.2)
def lm_sA (s : lm_St) (k : Nat) (f : Nat → Int32) : lm_St := (s.1, va_up s.2.1 k f, s.2.2)
def lm_sL (s : lm_St) (v : Int64) : lm_St := (s.1, s.2.1, v)
def lm_lp {α β : Type} (b : (α → Option β) → α → Option β) : Nat → α → Option β
  | 0, _ => none
  | n + 1, a => b (lm_lp b n) a
theorem lm_lps {α β : Type} {b : (α → Option β) → α → Option β} {n : Nat} {a : α} {r : Option β} (h : lm_lp b (n + 1) a = r) : b (lm_lp b n) a = r := h
theorem lm_lpz {α β : Type} {b : (α → Option β) → α → Option β} {a : α} {r : β} (h : lm_lp b 0 a = some r) : False := by
  have h2 : (none : Option β) = some r := h
  cases h2
theorem lm_no {β : Type} {r : β} (h : (none : Option β) = some r) : False := by cases h
theorem lm_itp {α : Type} {c : Prop} {i : Decidable c} {a b r : α} (h : c) (e : @ite α c i a b = r) : a = r := by
  rw [if_pos h] at e; exact e
theorem lm_itn {α : Type} {c : Prop} {i : Decidable c} {a b r : α} (h : ¬ c) (e : @ite α c i a b = r) : b = r := by
  rw [if_neg h] at e; exact e
def lm_gI {α : Type} (i : Int32) (n : Nat) (x : Option α) : Option α := if i < 0 ∨ n ≤ i.toNatClampNeg then none else x
theorem lm_gIe {α : Type} {i : Int32} {n : Nat} {x : Option α} {r : α} (h : lm_gI i n x = some r) : vp_in i n ∧ x = some r := by
  unfold lm_gI at h
  by_cases hc : i < 0 ∨ n ≤ i.toNatClampNeg
  · rw [if_pos hc] at h; cases h
  · rw [if_neg hc] at h; exact ⟨hc, h⟩
theorem lm_gIo {α : Type} {i : Int32} {n : Nat} {x : Option α} (h : vp_in i n) : lm_gI i n x = x := if_neg h
def lm_gZ {α : Type} (y : Int32) (x : Option α) : Option α := if y = 0 then none else x
theorem lm_gZe {α : Type} {y : Int32} {x : Option α} {r : α} (h : lm_gZ y x = some r) : ¬ y = 0 ∧ x = some r := by
  unfold lm_gZ at h
  by_cases hc : y = 0
  · rw [if_pos hc] at h; cases h
  · rw [if_neg hc] at h; exact ⟨hc, h⟩
theorem lm_gZo {α : Type} {y : Int32} {x : Option α} (h : ¬ y = 0) : lm_gZ y x = x := if_neg h
def lm_gB {α : Type} (v : Int32) (x : Option α) : Option α := if v = 0 ∨ v = 1 then x else none
theorem lm_gBe {α : Type} {v : Int32} {x : Option α} {r : α} (h : lm_gB v x = some r) : narrow .boolean (.int v) = .int v ∧ x = some r := by
  unfold lm_gB at h
  by_cases hc : v = 0 ∨ v = 1
  · rw [if_pos hc] at h
    refine ⟨?_, h⟩
    rcases hc with rfl | rfl <;> rfl
  · rw [if_neg hc] at h; cases h
theorem lm_gBo {α : Type} {v : Int32} {x : Option α} (h : v = 0 ∨ v = 1) : lm_gB v x = x := if_pos h
/-- arraycopy from place 0 to place 0: n of them, both arrays long enough -/
def lm_gC {α : Type} (n : Int32) (n0 n1 : Nat) (x : Option α) : Option α := if n < 0 ∨ n0 < n.toNatClampNeg ∨ n1 < n.toNatClampNeg then none else x
theorem lm_gCe {α : Type} {n : Int32} {n0 n1 : Nat} {x : Option α} {r : α} (h : lm_gC n n0 n1 x = some r) : (¬ n < 0 ∧ n.toNatClampNeg ≤ n0 ∧ n.toNatClampNeg ≤ n1) ∧ x = some r := by
  unfold lm_gC at h
  by_cases hc : n < 0 ∨ n0 < n.toNatClampNeg ∨ n1 < n.toNatClampNeg
  · rw [if_pos hc] at h; cases h
  · rw [if_neg hc] at h
    exact ⟨⟨fun q => hc (Or.inl q), Nat.not_lt.mp fun q => hc (Or.inr (Or.inl q)), Nat.not_lt.mp fun q => hc (Or.inr (Or.inr q))⟩, h⟩
theorem lm_gCo {α : Type} {n : Int32} {n0 n1 : Nat} {x : Option α} (h : ¬ (n < 0 ∨ n0 < n.toNatClampNeg ∨ n1 < n.toNatClampNeg)) : lm_gC n n0 n1 x = x := if_neg h
theorem lm_bd {α β : Type} {x : Option α} {f : α → Option β} {r : β} (h : x.bind f = some r) : ∃ v, x = some v ∧ f v = some r := by
  cases x with
  | none => cases h
  | some v => exact ⟨v, rfl, h⟩
def lm_nm {α β : Type} (a : α) (f : α → β) : β := f a
theorem lm_nmE {α β : Type} {a x : α} {f : α → β} {r : β} (h : x = a) (e : lm_nm a f = r) : f x = r := by
  subst h; exact e
def lm_un2 {α β γ : Type} (v : α × β) (f : α → β → γ) : γ := f v.1 v.2
def lm_un3 {α β γ δ : Type} (v : α × β × γ) (f : α → β → γ → δ) : δ := f v.1 v.2.1 v.2.2
def lm_un4 {α β γ δ ε : Type} (v : α × β × γ × δ) (f : α → β → γ → δ → ε) : ε := f v.1 v.2.1 v.2.2.1 v.2.2.2
theorem lm_un2E {α β γ : Type} {a : α} {b : β} {f : α → β → γ} {r : γ} (h : lm_un2 (a, b) f = r) : f a b = r := h
theorem lm_un3E {α β γ δ : Type} {a : α} {b : β} {c : γ} {f : α → β → γ → δ} {r : δ} (h : lm_un3 (a, b, c) f = r) : f a b c = r := h
theorem lm_un4E {α β γ δ ε : Type} {a : α} {b : β} {c : γ} {d : δ} {f : α → β → γ → δ → ε} {r : ε} (h : lm_un4 (a, b, c, d) f = r) : f a b c d = r := h
theorem lm_ti {x v : Int32} {n : Int} (hv : v.toInt = n) (h : ¬ x = v) : x.toInt ≠ n := fun e => h (Int32.toInt_inj.mp (e.trans hv.symm))
theorem lm_fm {α β : Type} {f : α → Option β} : ∀ {is : List α} {ws : List β}, is.map f = ws.map some → is.filterMap f = ws
  | [], [], _ => rfl
  | [], _ :: _, h => by cases h
  | _ :: _, [], h => by cases h
  | i :: is, b :: ws, h => by
    have h1 : f i = some b := (List.cons.inj h).1
    rw [List.filterMap_cons, h1]
    exact congrArg (b :: ·) (lm_fm (List.cons.inj h).2)
/-- a method's room by its height -/
def lm_rk (k : Nat) : Room := { frames := k, cells := 0, slots := 0, locals := 80 * k }
/-- the links between nest mates that are used -/
def lm_nwL : List Cond := [.methodLinkNest RX8 18 yX3_init RX8, .methodLinkNest RX8 28 yX7_init RX8, .methodLinkNest RX8 38 yX6_init RX8, .methodLinkNest RX8 45 yX4_init RX8, .methodLinkNest RX8 52 yX2_init RX8, .methodLinkNest RX8 59 yX0_init RX8, .methodLinkNest RX8 66 yX1_init RX8, .methodLinkNest RX8 9 yX5_init RX8, .methodLinkNest RX0 28 yX8_isIn RX8, .methodLinkNest RX1 11 yX3_init RX8, .methodLinkNest RX1 43 yX8_isIn RX8, .methodLinkNest RX2 11 yX3_init RX8, .methodLinkNest RX2 48 yX8_isIn RX8, .methodLinkNest RX3 64 yX8_isIn RX8, .methodLinkNest RX3 68 yX8_missedBy RX8, .methodLinkNest RX6 11 yX3_init RX8, .methodLinkNest RX6 59 yX8_isIn RX8, .methodLinkNest RX7 55 yX8_missedBy RX8, .methodLinkNest RX7 58 yX8_isIn RX8]
theorem lm_nw_in : ∀ w ∈ lm_nwL, w ∈ lw_tbl := by decide +kernel
def lm_nwT (w : Cond) : Bool := match w with
  | .methodLinkNest _ _ _ _ => true
  | _ => false
theorem lm_nw_T : ∀ w ∈ lm_nwL, lm_nwT w = true := by decide +kernel
def lm_nw (U : State) : Prop := ∀ w ∈ lm_nwL, va_Nw w U
theorem lm_nw.warm {s U : State} (hW : s.WarmedH U.vm) (h : lm_nw s) : lm_nw U := by
  intro w hw
  have ht := lm_nw_T w hw
  have h1 := h w hw
  cases w <;> first | exact va_Nw.warmM hW h1 | (exact absurd ht (by simp [lm_nwT]))
theorem lm_nw.same {u U : State} (hv : u.vm = U.vm) (h : lm_nw u) : lm_nw U := by
  intro w hw
  have ht := lm_nw_T w hw
  have h1 := h w hw
  cases w <;> first | exact va_Nw.same rfl hv h1 | (exact absurd ht (by simp [lm_nwT]))
/-- what is given of the JDK's own cells, none of them in A: the text "tcups", String.COMPACT_STRINGS -/
def lm_eX (aK aV : Nat) (A : Nat → Prop) (U : State) : Prop := lm_nw U ∧ vk_R RX5 43 "tcups" aK U ∧ vk_S 1 [5] [[116, 99, 117, 112, 115]] (fun _ => aK) (fun _ => aV) A U U.heap ∧ va_Z "java/lang/String" "COMPACT_STRINGS" "Z" (.int 1) A U U.heap
theorem lm_eX.use {aK aV : Nat} {A A2 : Nat → Prop} {s U : State} (h : lm_eX aK aV A s) (hW : s.WarmedH U.vm) (hh : ∀ q : Nat, q < s.heap.size → ¬ A q → U.heap[q]? = s.heap[q]?) (hA : ∀ q, A2 q → A q) : lm_eX aK aV A2 U :=
  ⟨h.1.warm hW, h.2.1.warm hW, ((h.2.2.1.moved hW.alike).kept hh).narrow hA, ((h.2.2.2.moved hW.alike).kept hh).narrow hA⟩
theorem lm_eX.same {aK aV : Nat} {A : Nat → Prop} {u U : State} (h : lm_eX aK aV A u) (hv : U.vm = u.vm) (ha : u.vm.Alike U.vm) (hh : U.heap = u.heap) : lm_eX aK aV A U := by
  refine ⟨h.1.same hv.symm, h.2.1.same hv, ?_, ?_⟩
  · rw [hh]; exact h.2.2.1.moved ha
  · rw [hh]; exact h.2.2.2.moved ha
/-- the numbers of a launch: where classes and fields lie, the class of int[], the text's two cells -/
abbrev lm_G : Type := va_G × ClassId × Nat × Nat
def lm_pre (G : lm_G) (sz : Nat) (w : va_W) (U : State) : Prop := U.heap.size = sz ∧ va_P G.1 vwCl w U.heap ∧ va_K G.1 vwCl [(G.2.1, .int)] U ∧ va_D (fun _ => True) w ∧ lm_eX G.2.2.1 G.2.2.2 (va_A w sz) U
def lm_post (G : lm_G) (w : va_W) (o : Option Value) (A : Nat → Prop) : Array Value → State → Outcome → State → Prop := fun _ st oc t => oc = .returned o ∧ va_P G.1 vwCl w t.heap ∧ va_D A w ∧ va_F A st t
/-- THE CONTRACT: from the cells w with the arguments av the method y comes to its end with the answer o and the cells w' -/
def lm_C (l : Launch) (G : lm_G) (y : MethodName) (wy : List Cond) (k : Nat) (av : List Value) (w : va_W) (o : Option Value) (w' : va_W) : Prop :=
  ∀ sz : Nat, Met l y wy (lm_rk k) (va_Pc av (lm_pre G sz w)) (lm_post G w' o (va_A w sz)) 0 0 (va_A w sz)
/-- what stays within a method -/
def lm_B (G : lm_G) (p : Program) (s : State) (m : MethodId) (args : Array Value) (meth : Method) (c : Code) (cc : ByteArray) (nL : Nat) (ret : Option FieldType) (Ts : List Cond) (own : String) (A : Nat → Prop) : Prop :=
  (p.tables.exec = Jvm.exec ∧ c.code = cc ∧ c.maxLocals = nL ∧ s.vm.findClass own = some m.cls ∧ ∀ w ∈ Ts, w.before args s = true) ∧ meth.sig.returnType = ret ∧ meth.locks = false ∧ (∀ q, s.heap.size ≤ q → A q) ∧ va_K G.1 vwCl [(G.2.1, .int)] s ∧ lm_eX G.2.2.1 G.2.2.2 A s
/-- what moves within a method: the cells -/
def lm_N (G : lm_G) (A : Nat → Prop) (s : State) (w : va_W) (H : Heap) (locs : List Loc) : Prop := va_P G.1 vwCl w H ∧ va_D A w ∧ va_S A s.heap H locs
theorem lm_blind {G : lm_G} {sz : Nat} {w : va_W} {av : List Value} : FrameBlind (va_Pc av (lm_pre G sz w)) := by
  intro a U g mk h
  obtain ⟨q0, q1, qP, qK, qD, qE⟩ := h
  exact ⟨q0, q1, qP, va_K.moved (u := U) (U := U.calling g mk a) (Vm.Alike.refl U.vm) qK, qD, qE.same (U := U.calling g mk a) rfl (Vm.Alike.refl U.vm) rfl⟩
theorem lm_Pm {D : va_G} {cl : List vw_C} {w : va_W} {H : Heap} : va_P D cl w H ↔ ∀ q ∈ w, va_at D cl q H := by
  refine ⟨fun h q hq => ?_, fun h k q hk => h q (List.mem_of_getElem? hk)⟩
  obtain ⟨i, hi⟩ := List.mem_iff_getElem?.mp hq
  exact h i q hi
theorem lm_Dm {A : Nat → Prop} {w : va_W} : va_D A w ↔ (w.map Prod.fst).Nodup ∧ ∀ q ∈ w, A q.1 := by
  constructor
  · intro h
    refine ⟨List.pairwise_iff_getElem.mpr fun i j hi hj hij e => ?_, fun q hq => ?_⟩
    · rw [List.length_map] at hi hj
      have h1 := h.1 i j w[i] w[j] (List.getElem?_eq_getElem hi) (List.getElem?_eq_getElem hj) (by simpa using e)
      omega
    · obtain ⟨i, hi⟩ := List.mem_iff_getElem?.mp hq
      exact h.2 i q hi
  · intro h
    refine ⟨fun i j p q hi hj e => ?_, fun k q hk => h.2 q (List.mem_of_getElem? hk)⟩
    obtain ⟨hi1, hi2⟩ := List.getElem?_eq_some_iff.mp hi
    obtain ⟨hj1, hj2⟩ := List.getElem?_eq_some_iff.mp hj
    have hn := List.pairwise_iff_getElem.mp h.1
    rcases Nat.lt_trichotomy i j with hl | hl | hl
    · exact absurd (by rw [List.getElem_map, List.getElem_map, hi2, hj2]; exact e) (hn i j (by rw [List.length_map]; exact hi1) (by rw [List.length_map]; exact hj1) hl)
    · exact hl
    · exact absurd (by rw [List.getElem_map, List.getElem_map, hi2, hj2]; exact e.symm) (hn j i (by rw [List.length_map]; exact hj1) (by rw [List.length_map]; exact hi1) hl)
theorem lm_mid {α : Type} (X C Z : List α) : (X ++ (C ++ Z)).Perm (C ++ (X ++ Z)) := by
  rw [← List.append_assoc, ← List.append_assoc]
  exact List.Perm.append_right Z List.perm_append_comm
theorem lm_NP {G : lm_G} {A : Nat → Prop} {s : State} {w w2 : va_W} {H : Heap} {locs : List Loc} (hN : lm_N G A s w H locs) (hp : w.Perm w2) : lm_N G A s w2 H locs :=
  ⟨lm_Pm.mpr fun q hq => lm_Pm.mp hN.1 q (hp.mem_iff.mpr hq), lm_Dm.mpr ⟨(hp.map Prod.fst).nodup_iff.mp (lm_Dm.mp hN.2.1).1, fun q hq => (lm_Dm.mp hN.2.1).2 q (hp.mem_iff.mpr hq)⟩, hN.2.2⟩
theorem lm_NL {G : lm_G} {A : Nat → Prop} {s : State} {wc wr : va_W} {H : Heap} {locs : List Loc} (hN : lm_N G A s (wc ++ wr) H locs) : lm_N G A s wc H locs :=
  ⟨lm_Pm.mpr fun q hq => lm_Pm.mp hN.1 q (List.mem_append_left _ hq), lm_Dm.mpr ⟨(List.nodup_append.mp (by have h := (lm_Dm.mp hN.2.1).1; rw [List.map_append] at h; exact h)).1, fun q hq => (lm_Dm.mp hN.2.1).2 q (List.mem_append_left _ hq)⟩, hN.2.2⟩
section BASE
variable {p : Program} {l : Launch} {e : Env} {R : Room} {s : State} {m : MethodId} {args : Array Value} {below : List Frame} {meth : Method} {c : Code} {H : Heap} {locs : List Loc} {cells slots : Nat} {Q : State → Prop} {G : lm_G} {cc : ByteArray} {nL pc : Nat} {ret : Option FieldType} {Ts : List Cond} {own : String} {A : Nat → Prop} {w : va_W} {ls : Array Slot} {rest : List Value} {a : Nat}
theorem lm_C.of {y : MethodName} {wy ws' : List Cond} {k : Nat} {av : List Value} {w' : va_W} {o : Option Value} {maxL : Nat} (hy : plainName y.cls = true) (hw : wy = Cond.code y cc maxL ret :: ws') (hlen : (lg_sl av).length ≤ maxL)
    (body : ∀ (p : Program) (e : Env) (s : State) (m : MethodId) (below : List Frame) (meth : Method) (c : Code) (A : Nat → Prop) (ls : Array Slot), lm_B G p s m av.toArray meth c cc maxL ret wy y.cls A → lm_N G A s w s.heap [] → lv_has ls maxL (lv_args 0 av) → W p l e (lm_rk k) s m av.toArray below meth c s.heap [] 0 0 (MQ below (lm_post G w' o A) av.toArray s 0 0 A) (F0 m 0 ls [])) : lm_C l G y wy k av w o w' := by
  intro sz
  refine Met.ofW (cc := cc) (maxL := maxL) (ret := ret) hy hw ?_
  intro p e s m args below meth c s₁ B hml hv
  obtain ⟨rfl, hsz, hP, hK, hD0, hE⟩ := hv
  subst hsz
  have hts := atoms_spec (ws := wy) B.pre
  have hown : s.vm.findClass y.cls = some m.cls := findClass_of_methodNamed B.named
  have hl := lv_entry av (n := maxL) hlen
  rw [lg_entry_eq]
  exact body p e s m below meth c (va_A w s.heap.size) _ ⟨⟨B.exec, B.bytes, hml, hown, hts⟩, B.returns, B.notSynchronized, fun q h => Or.inr h, hK, hE⟩ ⟨hP, hD0.self, va_S.rf⟩ hl
theorem lm_get (B : lm_B G p s m args meth c cc nL ret Ts own A) (hN : lm_N G A s w H locs) {C : String} {T : u_T} {N ci index : Nat} (hin : ∀ w ∈ u_ws C T N, w ∈ Ts) (q0 : Nat) {fs : List Value} (he : w[q0]? = some (a, .inr (ci, fs))) (hc : vwCl[ci]? = some (C, T, N)) (k : Nat) (hk : k < N) (hlink : Cond.fieldLink own index (T k).1 (T k).2.1 (T k).2.2.1 ∈ Ts) {v : Value} (hv : fs[k]? = some v) (hdg : decode cc pc = .ok (.getfield index, 3))
    (kk : W p l e R s m args below meth c H locs cells slots Q (F0 m (pc + 3) ls (v :: rest))) : W p l e R s m args below meth c H locs cells slots Q (F0 m pc ls (.ref a :: rest)) := by
  obtain ⟨⟨hx, hb, hml, hown, hts⟩, hr, hlocks, hA, hK, hE⟩ := B
  exact va_get hx hb hts hin hown hK hN.1 q0 he hc k hk (hts _ hlink) (fun _ h => h) hv hdg kk
theorem lm_put (B : lm_B G p s m args meth c cc nL ret Ts own A) (hN : lm_N G A s w H locs) {C : String} {T : u_T} {N ci index : Nat} (hin : ∀ w ∈ u_ws C T N, w ∈ Ts) (ty0 : Nat → FieldType) (hty : ∀ k, k < N → parseFieldDescriptor (T k).2.2.1 = some (ty0 k)) (hnm : ∀ a, a < N → ∀ b, b < N → a ≠ b → (T a).2.1 ≠ (T b).2.1) (q0 : Nat) {fs : List Value} (he : w[q0]? = some (a, .inr (ci, fs))) (hc : vwCl[ci]? = some (C, T, N)) (k : Nat) (hk : k < N) (hlink : Cond.fieldLink own index (T k).1 (T k).2.1 (T k).2.2.1 ∈ Ts) (hfin : (T k).2.2.2 = false) {v : Value} (hn : narrow (ty0 k) v = v) (hfit : fits (ty0 k) v = true) (hl : k < fs.length) (w2 : va_W) (hw : w.set q0 (a, .inr (ci, fs.set k v)) = w2) (hdg : decode cc pc = .ok (.putfield index, 3))
    (kk : ∀ (H1 : Heap) (locs1 : List Loc), lm_N G A s w2 H1 locs1 → W p l e R s m args below meth c H1 locs1 cells slots Q (F0 m (pc + 3) ls rest)) : W p l e R s m args below meth c H locs cells slots Q (F0 m pc ls (v :: .ref a :: rest)) := by
  obtain ⟨⟨hx, hb, hml, hown, hts⟩, hr, hlocks, hA, hK, hE⟩ := B
  subst hw
  exact va_put hx hb hts hin ty0 hty hnm hown hK hN.1 hN.2.1 hN.2.2 q0 he hc k hk (hts _ hlink) (fun _ h => h) hfin (hty k hk) hn hfit hl hdg (fun H1 locs1 h1 h2 h3 => kk H1 locs1 ⟨h1, h2, h3⟩)
theorem lm_ald (B : lm_B G p s m args meth c cc nL ret Ts own A) (hN : lm_N G A s w H locs) (q0 : Nat) {n : Nat} {f : Nat → Int32} (ha : w[q0]? = some (a, .inl (G.2.1, n, .inl f))) {i : Int32} (hin : vp_in i n) (hdg : decode cc pc = .ok (.iaload, 1))
    (kk : W p l e R s m args below meth c H locs cells slots Q (F0 m (pc + 1) ls (.int (f i.toNatClampNeg) :: rest))) : W p l e R s m args below meth c H locs cells slots Q (F0 m pc ls (.int i :: .ref a :: rest)) := by
  obtain ⟨⟨hx, hb, hml, hown, hts⟩, hr, hlocks, hA, hK, hE⟩ := B
  exact va_iald hx hb hK hN.1 q0 0 ha rfl hin hdg kk
theorem lm_ast (B : lm_B G p s m args meth c cc nL ret Ts own A) (hN : lm_N G A s w H locs) (q0 : Nat) {n : Nat} {f : Nat → Int32} (ha : w[q0]? = some (a, .inl (G.2.1, n, .inl f))) {i x : Int32} (hin : vp_in i n) (w2 : va_W) (hw : w.set q0 (a, .inl (G.2.1, n, .inl (upd f i.toNatClampNeg x))) = w2) (hdg : decode cc pc = .ok (.iastore, 1))
    (kk : ∀ (H1 : Heap) (locs1 : List Loc), lm_N G A s w2 H1 locs1 → W p l e R s m args below meth c H1 locs1 cells slots Q (F0 m (pc + 1) ls rest)) : W p l e R s m args below meth c H locs cells slots Q (F0 m pc ls (.int x :: .int i :: .ref a :: rest)) := by
  obtain ⟨⟨hx, hb, hml, hown, hts⟩, hr, hlocks, hA, hK, hE⟩ := B
  subst hw
  exact va_iast hx hb hK hN.1 hN.2.1 hN.2.2 q0 0 ha rfl hin hdg (fun H1 locs1 h1 h2 h3 => kk H1 locs1 ⟨h1, h2, h3⟩)
theorem lm_alen (B : lm_B G p s m args meth c cc nL ret Ts own A) (hN : lm_N G A s w H locs) (q0 : Nat) {n : Nat} {f : Nat → Int32} (ha : w[q0]? = some (a, .inl (G.2.1, n, .inl f))) {v : Int32} (hv : Int32.ofNat n = v) (hdg : decode cc pc = .ok (.arraylength, 1))
    (kk : W p l e R s m args below meth c H locs cells slots Q (F0 m (pc + 1) ls (.int v :: rest))) : W p l e R s m args below meth c H locs cells slots Q (F0 m pc ls (.ref a :: rest)) := by
  obtain ⟨⟨hx, hb, hml, hown, hts⟩, hr, hlocks, hA, hK, hE⟩ := B
  exact va_alen hx hb hK hN.1 q0 0 ha rfl hv hdg kk
theorem lm_cpy (B : lm_B G p s m args meth c cc nL ret Ts own A) (hN : lm_N G A s w H locs) (hls : ls.size = nL) {index : Nat} (hlink : Cond.methodLink own index arraycopyName ∈ Ts) (hnat : Cond.native arraycopyName ∈ Ts) (hstat : Cond.static arraycopyName ∈ Ts) (hini : Cond.initialized "java/lang/System" ∈ Ts) (q0 q1 : Nat) {a0 n0 n1 : Nat} {f g : Nat → Int32} (ha0 : w[q0]? = some (a0, .inl (G.2.1, n0, .inl f))) (ha1 : w[q1]? = some (a, .inl (G.2.1, n1, .inl g))) {n : Int32} (hg : ¬ n < 0 ∧ n.toNatClampNeg ≤ n0 ∧ n.toNatClampNeg ≤ n1) (hframes : 1 ≤ R.frames) (hlocals : (rest.map fun v => v.category).sum + (nativeFrameWords "java/lang/System" "arraycopy" 5 + 11) ≤ R.locals) (w2 : va_W) (hw : w.set q1 (a, .inl (G.2.1, n1, .inl (va_cpy f g 0 0 n.toNatClampNeg))) = w2) (hdg : decode cc pc = .ok (.invokestatic index, 3))
    (kk : ∀ (H1 : Heap) (locs1 : List Loc), lm_N G A s w2 H1 locs1 → W p l e R s m args below meth c H1 locs1 cells slots Q (F0 m (pc + 3) ls rest)) : W p l e R s m args below meth c H locs cells slots Q (F0 m pc ls (.int n :: .int 0 :: .ref a :: .int 0 :: .ref a0 :: rest)) := by
  obtain ⟨⟨hx, hb, hml, hown, hts⟩, hr, hlocks, hA, hK, hE⟩ := B
  subst hw
  exact va_copyi hx hb (hml.trans hls.symm) hown (hts _ hlink) (hts _ hnat) (hts _ hstat) (hts _ hini) hK hN.1 hN.2.1 hN.2.2 q0 q1 0 0 ha0 ha1 rfl rfl rfl (by decide) (by decide) hg.1 (by show (0 : Int32).toNatClampNeg + _ ≤ _; rw [show (0 : Int32).toNatClampNeg = 0 from rfl, Nat.zero_add]; exact hg.2.1) (by show (0 : Int32).toNatClampNeg + _ ≤ _; rw [show (0 : Int32).toNatClampNeg = 0 from rfl, Nat.zero_add]; exact hg.2.2) (fun _ _ => rfl) hframes hlocals hdg (fun H1 locs1 h1 h2 h3 => kk H1 locs1 ⟨h1, h2, h3⟩)
theorem lm_iret (B : lm_B G p s m args meth c cc nL (some .int) Ts own A) (hN : lm_N G A s w H locs) {v : Int32} (hdg : decode cc pc = .ok (.ireturn, 1)) : W p l e R s m args below meth c H locs cells slots (MQ below (lm_post G w (some (.int v)) A) args s cells slots A) (F0 m pc ls [.int v]) :=
  W.iret B.1.1 B.1.2.1 B.2.1 (fun t ht _ => ⟨rfl, by rw [ht]; exact hN.1, hN.2.1, hN.2.2.F ht⟩) hN.2.2.2.2 hdg B.2.2.1
theorem lm_zret (B : lm_B G p s m args meth c cc nL (some .boolean) Ts own A) (hN : lm_N G A s w H locs) {v : Int32} (hn : narrow .boolean (.int v) = .int v) (hdg : decode cc pc = .ok (.ireturn, 1)) : W p l e R s m args below meth c H locs cells slots (MQ below (lm_post G w (some (.int v)) A) args s cells slots A) (F0 m pc ls [.int v]) :=
  W.zret B.1.1 B.1.2.1 B.2.1 hn (fun t ht _ => ⟨rfl, by rw [ht]; exact hN.1, hN.2.1, hN.2.2.F ht⟩) hN.2.2.2.2 hdg B.2.2.1
theorem lm_lret (B : lm_B G p s m args meth c cc nL (some .long) Ts own A) (hN : lm_N G A s w H locs) {v : Int64} (hdg : decode cc pc = .ok (.lreturn, 1)) : W p l e R s m args below meth c H locs cells slots (MQ below (lm_post G w (some (.long v)) A) args s cells slots A) (F0 m pc ls [.long v]) :=
  W.lret B.1.1 B.1.2.1 B.2.1 (fun t ht _ => ⟨rfl, by rw [ht]; exact hN.1, hN.2.1, hN.2.2.F ht⟩) hN.2.2.2.2 hdg B.2.2.1
theorem lm_vret (B : lm_B G p s m args meth c cc nL none Ts own A) (hN : lm_N G A s w H locs) (hdg : decode cc pc = .ok (.return_, 1)) : W p l e R s m args below meth c H locs cells slots (MQ below (lm_post G w none A) args s cells slots A) (F0 m pc ls []) :=
  W.vret B.1.1 B.1.2.1 B.2.1 (fun t ht _ => ⟨rfl, by rw [ht]; exact hN.1, hN.2.1, hN.2.2.F ht⟩) hN.2.2.2.2 hdg B.2.2.1
/-- behind a call: the rest's cells, the callee's, put in order by their places -/
theorem lm_runX {wc w1 : va_W} {o : Option Value} {st0 : List Value} {a9 : Array Value} (B : lm_B G p s m args meth c cc nL ret Ts own A) (hN : lm_N G A s w H locs) (hr : va_Run p l e R s m args below meth c H locs cells slots 0 0 (F0 m pc ls st0) rest (lm_post G w1 o (va_A wc H.size) a9) (va_A wc H.size))
    (isC isR : List Nat) (hC : isC.map (fun i => w[i]?) = wc.map some) (hR : isR.map (fun i => w[i]?) = (isR.filterMap (fun i => w[i]?)).map some) (hn : va_nd isR = true) (hdis : ∀ i ∈ isR, i ∉ isC) (pm : List Nat) (hpn : va_nd pm = true) (w2 : va_W) (hpm : pm.map (fun i => ((isR.filterMap (fun i => w[i]?)) ++ w1)[i]?) = w2.map some)
    (kk : ∀ (H1 : Heap) (locs1 : List Loc), lm_N G A s w2 H1 locs1 → W p l e R s m args below meth c H1 locs1 cells slots Q (F0 m (pc + 3) ls (o.toList ++ rest))) : W p l e R s m args below meth c H locs cells slots Q (F0 m pc ls st0) := by
  obtain ⟨-, -, -, hA, -, -⟩ := B
  have hFc := va_free (wc := wc) hN.2.1 hN.2.2 hA isC hC
  intro T hT X
  obtain ⟨v, st₀, t, T', L, h0, X', hL, e1, e2, ⟨hv, hPt, hDt, hz, hk⟩, st⟩ := hr T hT X
  cases hv
  rw [h0] at hz hk
  have hP1 : va_P G.1 vwCl w1 T'.heap := by rw [e1]; exact hPt
  obtain ⟨hP, hD⟩ := va_join hN.1 hN.2.1 isC isR hC hR hn hdis (fun q h1 h2 => by rw [e1]; exact hk q h1 h2) hFc hP1 hDt
  have hS := hN.2.2
  have hS' : va_S A s.heap T'.heap (locs ++ L) := ⟨Nat.le_trans hS.1 (by rw [e1]; exact hz), fun q h1 h2 => by
      rw [e1, hk q (Nat.lt_of_lt_of_le h1 hS.1) (fun z => h2 (hFc q z))]; exact hS.2.1 q h1 h2, fun q hq => by
      rcases List.mem_append.mp hq with h | h
      · exact hS.2.2 q h
      · exact hFc _ (hL q h)⟩
  obtain ⟨t2, a1, b1⟩ := kk T'.heap (locs ++ L) ⟨hP.sub pm (lm_fm hpm), hD.sub pm hpn hpm, hS'⟩ T' rfl X'
  exact ⟨t2, st t2 a1, b1⟩
/-- behind a call to which all cells went -/
theorem lm_runA {w1 : va_W} {o : Option Value} {st0 : List Value} {a9 : Array Value} (B : lm_B G p s m args meth c cc nL ret Ts own A) (hN : lm_N G A s w H locs) (hr : va_Run p l e R s m args below meth c H locs cells slots 0 0 (F0 m pc ls st0) rest (lm_post G w1 o (va_A w H.size) a9) (va_A w H.size))
    (kk : ∀ (H1 : Heap) (locs1 : List Loc), lm_N G A s w1 H1 locs1 → W p l e R s m args below meth c H1 locs1 cells slots Q (F0 m (pc + 3) ls (o.toList ++ rest))) : W p l e R s m args below meth c H locs cells slots Q (F0 m pc ls st0) := by
  obtain ⟨-, -, -, hA, -, -⟩ := B
  have hS := hN.2.2
  have hFc : ∀ q, va_A w H.size q → A q := by
    intro q h
    rcases h with ⟨k, e, h⟩ | h
    · exact hN.2.1.2 k (q, e) h
    · exact hA q (Nat.le_trans hS.1 h)
  intro T hT X
  obtain ⟨v, st₀, t, T', L, h0, X', hL, e1, e2, ⟨hv, hPt, hDt, hz, hk⟩, st⟩ := hr T hT X
  cases hv
  rw [h0] at hz hk
  have hP1 : va_P G.1 vwCl w1 T'.heap := by rw [e1]; exact hPt
  have hS' : va_S A s.heap T'.heap (locs ++ L) := ⟨Nat.le_trans hS.1 (by rw [e1]; exact hz), fun q h1 h2 => by
      rw [e1, hk q (Nat.lt_of_lt_of_le h1 hS.1) (fun z => h2 (hFc q z))]; exact hS.2.1 q h1 h2, fun q hq => by
      rcases List.mem_append.mp hq with h | h
      · exact hS.2.2 q h
      · exact hFc _ (hL q h)⟩
  obtain ⟨t2, a1, b1⟩ := kk T'.heap (locs ++ L) ⟨hP1, hDt.weaken (fun _ q _ h => hFc q.1 h), hS'⟩ T' rfl X'
  exact ⟨t2, st t2 a1, b1⟩
/-- behind a call to which no cells went -/
theorem lm_run0 {o : Option Value} {st0 : List Value} {a9 : Array Value} (B : lm_B G p s m args meth c cc nL ret Ts own A) (hN : lm_N G A s w H locs) (hr : va_Run p l e R s m args below meth c H locs cells slots 0 0 (F0 m pc ls st0) rest (lm_post G [] o (va_A [] H.size) a9) (va_A [] H.size))
    (kk : ∀ (H1 : Heap) (locs1 : List Loc), lm_N G A s w H1 locs1 → W p l e R s m args below meth c H1 locs1 cells slots Q (F0 m (pc + 3) ls (o.toList ++ rest))) : W p l e R s m args below meth c H locs cells slots Q (F0 m pc ls st0) := by
  obtain ⟨-, -, -, hA, -, -⟩ := B
  have hS := hN.2.2
  have hFc : ∀ q, va_A [] H.size q → H.size ≤ q := by
    intro q h
    rcases h with ⟨k, e, h⟩ | h
    · simp at h
    · exact h
  have hFA : ∀ q, va_A [] H.size q → A q := fun q h => hA q (Nat.le_trans hS.1 (hFc q h))
  intro T hT X
  obtain ⟨v, st₀, t, T', L, h0, X', hL, e1, e2, ⟨hv, hPt, hDt, hz, hk⟩, st⟩ := hr T hT X
  cases hv
  rw [h0] at hz hk
  have hkept : ∀ q : Nat, q < H.size → T'.heap[q]? = H[q]? := fun q h1 => by
    rw [e1]; exact hk q h1 (fun z => absurd (hFc q z) (Nat.not_le.mpr h1))
  have hP1 : va_P G.1 vwCl w T'.heap := fun k q h => (hN.1 k q h).kept (hkept q.1 (hN.1 k q h).lt)
  have hS' : va_S A s.heap T'.heap (locs ++ L) := ⟨Nat.le_trans hS.1 (by rw [e1]; exact hz), fun q h1 h2 => by
      rw [hkept q (Nat.lt_of_lt_of_le h1 hS.1)]; exact hS.2.1 q h1 h2, fun q hq => by
      rcases List.mem_append.mp hq with h | h
      · exact hS.2.2 q h
      · exact hFA _ (hL q h)⟩
  obtain ⟨t2, a1, b1⟩ := kk T'.heap (locs ++ L) ⟨hP1, hN.2.1, hS'⟩ T' rfl X'
  exact ⟨t2, st t2 a1, b1⟩
theorem lm_preU {wc : va_W} {U : State} (B : lm_B G p s m args meth c cc nL ret Ts own A) (hN : lm_N G A s w H locs) (hFc : ∀ q, va_A wc H.size q → A q) (hPc : va_P G.1 vwCl wc H) (hDc : va_D (fun _ => True) wc) (hU : U.heap = H) (hW : s.WarmedH U.vm) : lm_pre G H.size wc U :=
  ⟨by rw [hU], by rw [hU]; exact hPc, va_K.moved hW.alike B.2.2.2.2.1, hDc, B.2.2.2.2.2.use hW (fun q h1 h2 => by rw [hU]; exact hN.2.2.2.1 q h1 h2) hFc⟩
theorem lm_roomOk {k k2 maxL : Nat} (hk : k2 + 1 ≤ k) (hm : maxL ≤ 60) : (lm_rk k2).frames + 1 ≤ (lm_rk k).frames ∧ 8 + (maxL + 11) + (lm_rk k2).locals ≤ (lm_rk k).locals := by
  refine ⟨hk, ?_⟩
  show 8 + (maxL + 11) + 80 * k2 ≤ 80 * k
  omega
theorem lm_cut {wc : va_W} (B : lm_B G p s m args meth c cc nL ret Ts own A) (hN : lm_N G A s w H locs) (isC : List Nat) (hnC : va_nd isC = true) (hC : isC.map (fun i => w[i]?) = wc.map some) : (∀ q, va_A wc H.size q → A q) ∧ va_P G.1 vwCl wc H ∧ va_D (fun _ => True) wc :=
  ⟨va_free hN.2.1 hN.2.2 B.2.2.2.1 isC hC, hN.1.sub isC (lm_fm hC), (hN.2.1.sub isC hnC hC).weaken (fun _ _ _ _ => trivial)⟩
theorem lm_cutA (B : lm_B G p s m args meth c cc nL ret Ts own A) (hN : lm_N G A s w H locs) : (∀ q, va_A w H.size q → A q) ∧ va_P G.1 vwCl w H ∧ va_D (fun _ => True) w := by
  refine ⟨fun q h => ?_, hN.1, hN.2.1.weaken (fun _ _ _ _ => trivial)⟩
  rcases h with ⟨k, e, h⟩ | h
  · exact hN.2.1.2 k (q, e) h
  · exact B.2.2.2.1 q (Nat.le_trans hN.2.2.1 h)
theorem lm_cut0 (B : lm_B G p s m args meth c cc nL ret Ts own A) (hN : lm_N G A s w H locs) : (∀ q, va_A [] H.size q → A q) ∧ va_P G.1 vwCl [] H ∧ va_D (fun _ => True) [] := by
  refine ⟨fun q h => ?_, fun k q h => by simp at h, ⟨fun i j p q h => by simp at h, fun k q h => by simp at h⟩⟩
  rcases h with ⟨k, e, h⟩ | h
  · simp at h
  · exact B.2.2.2.1 q (Nat.le_trans hN.2.2.1 h)
theorem lm_hrV {k k2 index n maxL b q0 ci : Nat} {y : MethodName} {wy ws' : List Cond} {bytes : ByteArray} {rt : Option FieldType} {C : String} {As st0 : List Value} {wc w1 : va_W} {o : Option Value} {T : u_T} {N : Nat} {fs : List Value} (B : lm_B G p s m args meth c cc nL ret Ts own A) (hN : lm_N G A s w H locs) (hls : ls.size = nL) (Z : (∀ q, va_A wc H.size q → A q) ∧ va_P G.1 vwCl wc H ∧ va_D (fun _ => True) wc)
    (hM : lm_C l G y wy k2 (.ref b :: As) wc o w1) (hT : GoodIn Ts (wsV own index C y wy)) (hw : wy = Cond.code y bytes maxL rt :: ws') (hd : y.cls = C ∧ y.cls ≠ "java/lang/invoke/MethodHandle" ∧ y.cls ≠ "java/lang/invoke/VarHandle" ∧ (parseMethodDescriptor y.desc).map (fun d => d.parameters.length) = some n) (hn : As.length = n) (hk : k2 + 1 ≤ k) (hm : maxL ≤ 60) (hc : vwCl[ci]? = some (C, T, N)) (he : wc[q0]? = some (b, .inr (ci, fs))) (hst : st0 = As.reverse ++ .ref b :: rest) (hrest : (rest.map fun v => v.category).sum ≤ 8) (hdg : decode cc pc = .ok (.invokevirtual index, 3)) :
    va_Run p l e (lm_rk k) s m args below meth c H locs 0 0 0 0 (F0 m pc ls st0) rest (lm_post G w1 o (va_A wc H.size) (Value.ref b :: As).toArray) (va_A wc H.size) := by
  obtain ⟨⟨hx, hb, hml, hown, hts⟩, hr, hlocks, hA, hK, hE⟩ := id B
  exact va_runV (As := As) (rest := rest) ⟨hx, hb, hml, hown, hts⟩ (hM H.size) (cwV n hts hT hw rfl rfl hd (lm_roomOk hk hm)) ⟨lm_blind, va_recv hK Z.2.1 hc he, fun U hU hW => ⟨rfl, lm_preU B hN Z.1 Z.2.1 Z.2.2 hU hW⟩⟩ rfl hn hls hst (lv_room hrest) hdg ⟨Nat.le_refl 0, Nat.le_refl 0⟩
theorem lm_hrS {k k2 index n maxL : Nat} {y : MethodName} {wy ws' : List Cond} {bytes : ByteArray} {rt : Option FieldType} {As st0 : List Value} {wc w1 : va_W} {o : Option Value} (B : lm_B G p s m args meth c cc nL ret Ts own A) (hN : lm_N G A s w H locs) (hls : ls.size = nL) (Z : (∀ q, va_A wc H.size q → A q) ∧ va_P G.1 vwCl wc H ∧ va_D (fun _ => True) wc)
    (hM : lm_C l G y wy k2 As wc o w1) (hT : GoodIn Ts (wsS own index y wy)) (hw : wy = Cond.code y bytes maxL rt :: ws') (hd : y.cls = own ∧ y.cls ≠ "java/lang/invoke/MethodHandle" ∧ y.cls ≠ "java/lang/invoke/VarHandle" ∧ (parseMethodDescriptor y.desc).map (fun d => d.parameters.length) = some n) (hn : As.length = n) (hk : k2 + 1 ≤ k) (hm : maxL ≤ 60) (hst : st0 = As.reverse ++ rest) (hrest : (rest.map fun v => v.category).sum ≤ 8) (hdg : decode cc pc = .ok (.invokestatic index, 3)) :
    va_Run p l e (lm_rk k) s m args below meth c H locs 0 0 0 0 (F0 m pc ls st0) rest (lm_post G w1 o (va_A wc H.size) As.toArray) (va_A wc H.size) := by
  obtain ⟨⟨hx, hb, hml, hown, hts⟩, hr, hlocks, hA, hK, hE⟩ := id B
  exact va_runS (As := As) (rest := rest) ⟨hx, hb, hml, hown, hts⟩ (hM H.size) (cwS n hts hT hw rfl rfl hd (lm_roomOk hk hm)) ⟨lm_blind, fun U hU hW => ⟨rfl, lm_preU B hN Z.1 Z.2.1 Z.2.2 hU hW⟩⟩ rfl hn hls hst (lv_room hrest) hdg ⟨Nat.le_refl 0, Nat.le_refl 0⟩
/-- a static method of another class -/
theorem lm_hrT {k k2 index n maxL : Nat} {y : MethodName} {wy ws' : List Cond} {bytes : ByteArray} {rt : Option FieldType} {As st0 : List Value} {wc w1 : va_W} {o : Option Value} (B : lm_B G p s m args meth c cc nL ret Ts own A) (hN : lm_N G A s w H locs) (hls : ls.size = nL) (Z : (∀ q, va_A wc H.size q → A q) ∧ va_P G.1 vwCl wc H ∧ va_D (fun _ => True) wc)
    (hM : lm_C l G y wy k2 As wc o w1) (hT : GoodIn Ts (va_wsS own index y wy)) (hw : wy = Cond.code y bytes maxL rt :: ws') (hd : y.cls ≠ "java/lang/invoke/MethodHandle" ∧ y.cls ≠ "java/lang/invoke/VarHandle" ∧ (parseMethodDescriptor y.desc).map (fun d => d.parameters.length) = some n) (hn : As.length = n) (hk : k2 + 1 ≤ k) (hm : maxL ≤ 60) (hst : st0 = As.reverse ++ rest) (hrest : (rest.map fun v => v.category).sum ≤ 8) (hdg : decode cc pc = .ok (.invokestatic index, 3)) :
    va_Run p l e (lm_rk k) s m args below meth c H locs 0 0 0 0 (F0 m pc ls st0) rest (lm_post G w1 o (va_A wc H.size) As.toArray) (va_A wc H.size) := by
  obtain ⟨⟨hx, hb, hml, hown, hts⟩, hr, hlocks, hA, hK, hE⟩ := id B
  exact va_runS (As := As) (rest := rest) ⟨hx, hb, hml, hown, hts⟩ (hM H.size) (va_cwS n hts hT hw rfl rfl hd (lm_roomOk hk hm)) ⟨lm_blind, fun U hU hW => ⟨rfl, lm_preU B hN Z.1 Z.2.1 Z.2.2 hU hW⟩⟩ rfl hn hls hst (lv_room hrest) hdg ⟨Nat.le_refl 0, Nat.le_refl 0⟩
/-- a nest mate's static method -/
theorem lm_hrN {k k2 index n maxL : Nat} {y : MethodName} {host : String} {wy ws' : List Cond} {bytes : ByteArray} {rt : Option FieldType} {As st0 : List Value} {wc w1 : va_W} {o : Option Value} (B : lm_B G p s m args meth c cc nL ret Ts own A) (hN : lm_N G A s w H locs) (hls : ls.size = nL) (Z : (∀ q, va_A wc H.size q → A q) ∧ va_P G.1 vwCl wc H ∧ va_D (fun _ => True) wc)
    (hM : lm_C l G y wy k2 As wc o w1) (hT : GoodIn Ts wy) (hw : wy = Cond.code y bytes maxL rt :: ws') (hnw : Cond.methodLinkNest own index y host ∈ lm_nwL) (hini : Cond.initialized y.cls ∈ Ts) (hstat : Cond.static y ∈ Ts) (hd : y.cls ≠ "java/lang/invoke/MethodHandle" ∧ y.cls ≠ "java/lang/invoke/VarHandle" ∧ (parseMethodDescriptor y.desc).map (fun d => d.parameters.length) = some n) (hn : As.length = n) (hk : k2 + 1 ≤ k) (hm : maxL ≤ 60) (hst : st0 = As.reverse ++ rest) (hrest : (rest.map fun v => v.category).sum ≤ 8) (hdg : decode cc pc = .ok (.invokestatic index, 3)) :
    va_Run p l e (lm_rk k) s m args below meth c H locs 0 0 0 0 (F0 m pc ls st0) rest (lm_post G w1 o (va_A wc H.size) As.toArray) (va_A wc H.size) := by
  obtain ⟨⟨hx, hb, hml, hown, hts⟩, hr, hlocks, hA, hK, hE⟩ := id B
  exact va_runSN (As := As) (rest := rest) ⟨hx, hb, hml, hown, hts⟩ (hM H.size) ⟨va_cnB n hts hT hw rfl rfl (hE.1 _ hnw) (hts _ hini) hd (lm_roomOk hk hm), hts _ hstat, trivial⟩ ⟨lm_blind, fun U hU hW => ⟨rfl, lm_preU B hN Z.1 Z.2.1 Z.2.2 hU hW⟩⟩ rfl hn hls hst (lv_room hrest) hdg ⟨Nat.le_refl 0, Nat.le_refl 0⟩
theorem lm_mmax (B : lm_B G p s m args meth c cc nL ret Ts own A) (hls : ls.size = nL) {k index : Nat} (hlink : Cond.methodLink own index Lib.Math.max.name ∈ Ts) (hstat : Cond.static Lib.Math.max.name ∈ Ts) (hini : Cond.initialized "java/lang/Math" ∈ Ts) (hcode : Cond.code Lib.Math.max.name Lib.Math.max.code 2 (some .int) ∈ Ts) (hk : 1 ≤ k) (hrest : (rest.map fun v => v.category).sum ≤ 8) {x y : Int32} (hdg : decode cc pc = .ok (.invokestatic index, 3))
    (kk : W p l e (lm_rk k) s m args below meth c H locs 0 0 Q (F0 m (pc + 3) ls (.int (if x < y then y else x) :: rest))) : W p l e (lm_rk k) s m args below meth c H locs 0 0 Q (F0 m pc ls (.int y :: .int x :: rest)) := by
  obtain ⟨⟨hx, hb, hml, hown, hts⟩, hr, hlocks, hA, hK, hE⟩ := id B
  exact va_mmax hx hb (hml.trans hls.symm) hown (hts _ hlink) (hts _ hstat) (hts _ hini) (hts _ hcode) hk (by show _ + 13 ≤ 80 * k; omega) (Nat.le_refl 0) (Nat.le_refl 0) hdg kk
theorem lm_mmin (B : lm_B G p s m args meth c cc nL ret Ts own A) (hls : ls.size = nL) {k index : Nat} (hlink : Cond.methodLink own index Lib.Math.min.name ∈ Ts) (hstat : Cond.static Lib.Math.min.name ∈ Ts) (hini : Cond.initialized "java/lang/Math" ∈ Ts) (hcode : Cond.code Lib.Math.min.name Lib.Math.min.code 2 (some .int) ∈ Ts) (hk : 1 ≤ k) (hrest : (rest.map fun v => v.category).sum ≤ 8) {x y : Int32} (hdg : decode cc pc = .ok (.invokestatic index, 3))
    (kk : W p l e (lm_rk k) s m args below meth c H locs 0 0 Q (F0 m (pc + 3) ls (.int (if y < x then y else x) :: rest))) : W p l e (lm_rk k) s m args below meth c H locs 0 0 Q (F0 m pc ls (.int y :: .int x :: rest)) := by
  obtain ⟨⟨hx, hb, hml, hown, hts⟩, hr, hlocks, hA, hK, hE⟩ := id B
  exact va_mmin hx hb (hml.trans hls.symm) hown (hts _ hlink) (hts _ hstat) (hts _ hini) (hts _ hcode) hk (by show _ + 13 ≤ 80 * k; omega) (Nat.le_refl 0) (Nat.le_refl 0) hdg kk
theorem lm_mabs (B : lm_B G p s m args meth c cc nL ret Ts own A) (hls : ls.size = nL) {k index : Nat} (hlink : Cond.methodLink own index Lib.Math.abs.name ∈ Ts) (hstat : Cond.static Lib.Math.abs.name ∈ Ts) (hini : Cond.initialized "java/lang/Math" ∈ Ts) (hcode : Cond.code Lib.Math.abs.name Lib.Math.abs.code 1 (some .int) ∈ Ts) (hk : 1 ≤ k) (hrest : (rest.map fun v => v.category).sum ≤ 8) {x : Int32} (hdg : decode cc pc = .ok (.invokestatic index, 3))
    (kk : W p l e (lm_rk k) s m args below meth c H locs 0 0 Q (F0 m (pc + 3) ls (.int (if 0 ≤ x then x else 0 - x) :: rest))) : W p l e (lm_rk k) s m args below meth c H locs 0 0 Q (F0 m pc ls (.int x :: rest)) := by
  obtain ⟨⟨hx, hb, hml, hown, hts⟩, hr, hlocks, hA, hK, hE⟩ := id B
  exact va_mabs hx hb (hml.trans hls.symm) hown (hts _ hlink) (hts _ hstat) (hts _ hini) (hts _ hcode) hk (by show _ + 13 ≤ 80 * k; omega) (Nat.le_refl 0) (Nat.le_refl 0) hdg kk
/-- behind a call to which a part of the cells went: the callee's, then the rest's -/
theorem lm_run {wc w1 wr : va_W} {o : Option Value} {st0 : List Value} {a9 : Array Value} (B : lm_B G p s m args meth c cc nL ret Ts own A) (hN0 : lm_N G A s w H locs) (hp : w.Perm (wc ++ wr)) (hr : va_Run p l e R s m args below meth c H locs cells slots 0 0 (F0 m pc ls st0) rest (lm_post G w1 o (va_A wc H.size) a9) (va_A wc H.size)) (w2 : va_W) (hp2 : (w1 ++ wr).Perm w2)
    (kk : ∀ (H1 : Heap) (locs1 : List Loc), lm_N G A s w2 H1 locs1 → W p l e R s m args below meth c H1 locs1 cells slots Q (F0 m (pc + 3) ls (o.toList ++ rest))) : W p l e R s m args below meth c H locs cells slots Q (F0 m pc ls st0) := by
  obtain ⟨-, -, -, hA, -, -⟩ := B
  have hN := lm_NP hN0 hp
  have hS := hN.2.2
  have hc : ∀ q, va_A wc H.size q → (∃ x ∈ wc, x.1 = q) ∨ H.size ≤ q := by
    intro q h
    rcases h with ⟨k, e, h⟩ | h
    · exact Or.inl ⟨(q, e), List.mem_of_getElem? h, rfl⟩
    · exact Or.inr h
  have hFc : ∀ q, va_A wc H.size q → A q := fun q h => by
    rcases hc q h with ⟨x, hx, rfl⟩ | h
    · exact (lm_Dm.mp hN.2.1).2 x (List.mem_append_left _ hx)
    · exact hA q (Nat.le_trans hS.1 h)
  have hnd := (lm_Dm.mp hN.2.1).1
  rw [List.map_append, List.nodup_append] at hnd
  have hlt : ∀ q ∈ wr, q.1 < H.size ∧ ¬ va_A wc H.size q.1 := fun q hq => by
    have hl := (lm_Pm.mp hN.1 q (List.mem_append_right _ hq)).lt
    refine ⟨hl, fun z => ?_⟩
    rcases hc _ z with ⟨x, hx, e⟩ | z
    · exact hnd.2.2 x.1 (List.mem_map_of_mem hx) q.1 (List.mem_map_of_mem hq) e
    · omega
  intro T hT X
  obtain ⟨v, st₀, t, T', L, h0, X', hL, e1, e2, ⟨hv, hPt, hDt, hz, hk⟩, st⟩ := hr T hT X
  cases hv
  rw [h0] at hz hk
  have hP1 : va_P G.1 vwCl w1 T'.heap := by rw [e1]; exact hPt
  have hS' : va_S A s.heap T'.heap (locs ++ L) := ⟨Nat.le_trans hS.1 (by rw [e1]; exact hz), fun q h1 h2 => by
      rw [e1, hk q (Nat.lt_of_lt_of_le h1 hS.1) (fun z => h2 (hFc q z))]; exact hS.2.1 q h1 h2, fun q hq => by
      rcases List.mem_append.mp hq with h | h
      · exact hS.2.2 q h
      · exact hFc _ (hL q h)⟩
  have hD1 := lm_Dm.mp hDt
  have hN2 : lm_N G A s (w1 ++ wr) T'.heap (locs ++ L) := by
    refine ⟨lm_Pm.mpr fun q hq => ?_, lm_Dm.mpr ⟨?_, fun q hq => ?_⟩, hS'⟩
    · rcases List.mem_append.mp hq with h | h
      · exact lm_Pm.mp hP1 q h
      · exact (lm_Pm.mp hN.1 q (List.mem_append_right _ h)).kept (by rw [e1]; exact hk q.1 (hlt q h).1 (hlt q h).2)
    · rw [List.map_append, List.nodup_append]
      refine ⟨hD1.1, hnd.2.1, fun a ha b hb e => ?_⟩
      obtain ⟨x, hx, rfl⟩ := List.mem_map.mp ha
      obtain ⟨y, hy, rfl⟩ := List.mem_map.mp hb
      exact (hlt y hy).2 (by rw [← e]; exact hD1.2 x hx)
    · rcases List.mem_append.mp hq with h | h
      · exact hFc _ (hD1.2 q h)
      · exact (lm_Dm.mp hN.2.1).2 q (List.mem_append_right _ h)
  obtain ⟨t2, a1, b1⟩ := kk T'.heap (locs ++ L) (lm_NP hN2 hp2) T' rfl X'
  exact ⟨t2, st t2 a1, b1⟩
/-- the callee's part cut out -/
theorem lm_cutP {wc wr : va_W} (B : lm_B G p s m args meth c cc nL ret Ts own A) (hN : lm_N G A s w H locs) (hp : w.Perm (wc ++ wr)) : (∀ q, va_A wc H.size q → A q) ∧ va_P G.1 vwCl wc H ∧ va_D (fun _ => True) wc := by
  have hN1 := lm_NL (lm_NP hN hp)
  refine ⟨fun q h => ?_, hN1.1, hN1.2.1.weaken (fun _ _ _ _ => trivial)⟩
  rcases h with ⟨k, e, h⟩ | h
  · exact hN1.2.1.2 k (q, e) h
  · exact B.2.2.2.1 q (Nat.le_trans hN1.2.2.1 h)
theorem lm_kf {k : Nat} (h : 1 ≤ k) : 1 ≤ (lm_rk k).frames := h
end BASE
