/-- the text's bytes -/
def lm_tx (j : Nat) : Int32 := ([116, 99, 117, 112, 115] : List Int32).getD j 0
section BASE2
variable {p : Program} {l : Launch} {e : Env} {R : Room} {s : State} {m : MethodId} {args : Array Value} {below : List Frame} {meth : Method} {c : Code} {H : Heap} {locs : List Loc} {cells slots : Nat} {Q : State → Prop} {G : lm_G} {cc : ByteArray} {nL pc : Nat} {ret : Option FieldType} {Ts : List Cond} {own : String} {A : Nat → Prop} {w : va_W} {ls : Array Slot} {rest : List Value} {a : Nat}
theorem lm_bret (B : lm_B G p s m args meth c cc nL (some .byte) Ts own A) (hN : lm_N G A s w H locs) {v : Int32} (hn : narrow .byte (.int v) = .int v) (hdg : decode cc pc = .ok (.ireturn, 1)) : W p l e R s m args below meth c H locs cells slots (MQ below (lm_post G w (some (.int v)) A) args s cells slots A) (F0 m pc ls [.int v]) :=
  W.zret B.1.1 B.1.2.1 B.2.1 hn (fun t ht _ => ⟨rfl, by rw [ht]; exact hN.1, hN.2.1, hN.2.2.F ht⟩) hN.2.2.2.2 hdg B.2.2.1
/-- a method of the text -/
theorem lm_hrU {k k2 index n maxL : Nat} {y : MethodName} {wy ws' : List Cond} {bytes : ByteArray} {rt : Option FieldType} {As st0 : List Value} {wc w1 : va_W} {o : Option Value} (B : lm_B G p s m args meth c cc nL ret Ts own A) (hN : lm_N G A s w H locs) (hls : ls.size = nL) (Z : (∀ q, va_A wc H.size q → A q) ∧ va_P G.1 vwCl wc H ∧ va_D (fun _ => True) wc)
    (hM : lm_C l G y wy k2 (.ref G.2.2.1 :: As) wc o w1) (hT : GoodIn Ts (wsV own index RJ0 y wy)) (hw : wy = Cond.code y bytes maxL rt :: ws') (hd : y.cls = RJ0 ∧ y.cls ≠ "java/lang/invoke/MethodHandle" ∧ y.cls ≠ "java/lang/invoke/VarHandle" ∧ (parseMethodDescriptor y.desc).map (fun d => d.parameters.length) = some n) (hn : As.length = n) (hk : k2 + 1 ≤ k) (hm : maxL ≤ 60) (hst : st0 = As.reverse ++ .ref G.2.2.1 :: rest) (hrest : (rest.map fun v => v.category).sum ≤ 8) (hdg : decode cc pc = .ok (.invokevirtual index, 3)) :
    va_Run p l e (lm_rk k) s m args below meth c H locs 0 0 0 0 (F0 m pc ls st0) rest (lm_post G w1 o (va_A wc H.size) (Value.ref G.2.2.1 :: As).toArray) (va_A wc H.size) := by
  obtain ⟨⟨hx, hb, hml, hown, hts⟩, hr, hlocks, hA, hK, hE⟩ := id B
  exact va_runV (As := As) (rest := rest) ⟨hx, hb, hml, hown, hts⟩ (hM H.size) (cwV n hts hT hw rfl rfl hd (lm_roomOk hk hm)) ⟨lm_blind, vk_recv (i := 0) hE.2.2.1 (by decide) hN.2.2, fun U hU hW => ⟨rfl, lm_preU B hN Z.1 Z.2.1 Z.2.2 hU hW⟩⟩ rfl hn hls hst (lv_room hrest) hdg ⟨Nat.le_refl 0, Nat.le_refl 0⟩
end BASE2
