/-! MAKE UP, both sides. -/
theorem pI_and (a b : Nat) : nI a &&& nI b = nI (a &&& b) := by
  apply Int32.toBitVec_inj.mp
  show BitVec.ofNat 32 a &&& BitVec.ofNat 32 b = BitVec.ofNat 32 (a &&& b)
  apply BitVec.eq_of_getLsbD_eq
  intro i hi
  simp [hi]
theorem pm_2 : ∀ n, n < 8 → ((1 : Int32) <<< (nI n &&& 31)) = nI (2 ^ n) := by decide +kernel
theorem pm_tk : ∀ b, b < 128 → ∀ k, k < 7 → nI (b % 2 ^ k) ||| ((if b.testBit k then (1 : Int32) else 0) <<< (nI k &&& 31)) = nI (b % 2 ^ (k + 1)) := by decide +kernel
theorem pm_takenSet {s : lm_St} {n b : Nat} (h0 : s.1 2 = nI n) (h5 : ∀ i, i < n → s.2.1 5 i = if b.testBit i then 1 else 0) (hn : n ≤ 7) (hb : b < 2 ^ n) : fX9_takenSet s = some (nI b, s) := by
  have hb7 : b < 128 := Nat.lt_of_lt_of_le hb (Nat.pow_le_pow_right (n := 2) (by decide) hn)
  unfold fX9_takenSet
  refine pl_run0 (fun j => (nI (b % 2 ^ j), nI j, s)) n (by rw [Nat.pow_zero, Nat.mod_one]; rfl) ?_ ?_ (by omega)
  · intro j k hj
    show bX9_takenSet_4 k (nI (b % 2 ^ j)) (nI j) s = k (nI (b % 2 ^ (j + 1)), nI (j + 1), s)
    unfold bX9_takenSet_4
    rw [h0, if_neg (nI_ge hj (by omega)), pg_I (by omega) (by decide), nI_clamp (by omega), h5 j hj, pm_tk b hb7 j (by omega), nI_1]
  · intro k
    show bX9_takenSet_4 k (nI (b % 2 ^ n)) (nI n) s = _
    unfold bX9_takenSet_4
    rw [h0, if_pos (nI_le (Nat.le_refl n) (by omega)), Nat.mod_eq_of_lt hb]
theorem pm_worthOf {s : lm_St} {n : Nat} {wo : Nat → Nat} {x : Nat} (h0 : s.1 2 = nI n) (hn : n ≤ 7) (hx : x < 2 ^ 31) (hw : ∀ i, i < n → s.2.1 2 i = nI (wo i)) : fX9_worthOf s (nI x) = some (nI (pS wo (fun i => x.testBit i) n), s) := by
  unfold fX9_worthOf
  refine pl_run0 (fun j => (nI x, nI (pS wo (fun i => x.testBit i) j), nI j, s)) n rfl ?_ ?_ (by omega)
  · intro j k hj
    show bX9_worthOf_4 k (nI x) (nI (pS wo (fun i => x.testBit i) j)) (nI j) s = k (nI x, nI (pS wo (fun i => x.testBit i) (j + 1)), nI (j + 1), s)
    unfold bX9_worthOf_4 jX9_worthOf_32
    rw [h0, if_neg (nI_ge hj (by omega)), pb_bit hx (by omega), nI_1, pS]
    cases ht : x.testBit j with
    | true =>
      rw [if_pos (by rfl), pg_I (by omega) (by decide), nI_clamp (by omega), hw j hj, nI_add]
      rfl
    | false =>
      rw [if_neg (by decide), Int32.add_zero]
      rfl
  · intro k
    show bX9_worthOf_4 k (nI x) _ (nI n) s = _
    unfold bX9_worthOf_4
    rw [h0, if_pos (nI_le (Nat.le_refl n) (by omega))]
theorem pm_missedOf {s : lm_St} {n b db : Nat} {kd wo lo si : Nat → Nat} (h : mT s n b db kd wo lo si) (w : pW n b db kd wo lo) (hs : ∀ i, i < n → si i ≤ 20) {x : Nat} (hx : x < 2 ^ 31) : fX9_missedOf s (nI x) = some (nI (pS (fun i => pM (kd i) (lo i) (si i)) (fun i => x.testBit i) n), s) := by
  have hn := w.1
  obtain ⟨h0, h1, h2⟩ := id h
  unfold fX9_missedOf
  refine pl_run0 (fun j => (nI x, nI (pS (fun i => pM (kd i) (lo i) (si i)) (fun i => x.testBit i) j), nI j, s)) n rfl ?_ ?_ (by omega)
  · intro j k hj
    show bX9_missedOf_4 k (nI x) (nI (pS (fun i => pM (kd i) (lo i) (si i)) (fun i => x.testBit i) j)) (nI j) s = k (nI x, nI (pS (fun i => pM (kd i) (lo i) (si i)) (fun i => x.testBit i) (j + 1)), nI (j + 1), s)
    unfold bX9_missedOf_4 jX9_missedOf_31
    rw [h0, if_neg (nI_ge hj (by omega)), pb_bit hx (by omega), nI_1, pS]
    cases ht : x.testBit j with
    | true =>
      rw [if_pos (by rfl), pm_missedThen h w hj (hs j hj)]
      simp only [Option.bind_some, lm_un2, nI_add]
      rfl
    | false =>
      rw [if_neg (by decide), Int32.add_zero]
      rfl
  · intro k
    show bX9_missedOf_4 k (nI x) _ (nI n) s = _
    unfold bX9_missedOf_4
    rw [h0, if_pos (nI_le (Nat.le_refl n) (by omega))]
/-- the best offer so far: missed, worth, which -/
def pMu (acc : pAc) (lost given set : Nat) : pAc := match acc with
  | none => some (lost, given, set)
  | some (L, G, c) => if lost < L ∨ (lost = L ∧ given < G) then some (lost, given, set) else some (L, G, c)
def pMk (n b db : Nat) (kd wo lo si : Nat → Nat) (set : Nat) (a : pAc) : pAc := if set &&& b = 0 ∧ db ≤ pS wo (fun i => set.testBit i) n then pMu a (pS (fun i => pM (kd i) (lo i) (si i)) (fun i => set.testBit i) n) (pS wo (fun i => set.testBit i) n) set else a
def eO (s : lm_St) (acc : pAc) : Prop := match acc with
  | none => s.1 0 = -1 ∧ s.1 1 = -1 ∧ s.1 2 = -1
  | some (L, G, c) => s.1 0 = nI L ∧ s.1 1 = nI G ∧ s.1 2 = nI c ∧ L ≤ 140 ∧ G ≤ 63 ∧ c < 128
def pAm (acc : pAc) (what : Nat) : Int32 := match acc with
  | none => -1
  | some (L, G, c) => if what = 0 then nI L else if what = 1 then nI G else nI c
theorem pS_mi {n b db : Nat} {kd wo lo si : Nat → Nat} (w : pW n b db kd wo lo) (p : Nat → Bool) : pS (fun i => pM (kd i) (lo i) (si i)) p n ≤ 140 := by
  have h1 : pS (fun i => pM (kd i) (lo i) (si i)) p n ≤ n * 20 := pS_le (fun i hi => Nat.le_trans (pM_le _ _ _) (w.2.2.2 i hi).2.2.2)
  have h2 : n * 20 ≤ 7 * 20 := Nat.mul_le_mul_right 20 w.1
  omega
theorem pb_and0 {x b i : Nat} (h : x &&& b = 0) (hx : x.testBit i = true) : b.testBit i = false := by
  have h1 : (x &&& b).testBit i = false := by rw [h]; exact Nat.zero_testBit i
  rw [Nat.testBit_and, hx] at h1
  simpa using h1
theorem pc_offer {s0 s1 : lm_St} {n b db : Nat} {kd wo lo si : Nat → Nat} (h : cT s1 n b db 0 kd wo lo si) (w : pW n b db kd wo lo) (hs : ∀ i, i < n → si i ≤ 20) : ∃ t, fX4_search s0 s1 = some (t, s1) ∧ eO t (pFd (pMk n b db kd wo lo si) (2 ^ n) none) := by
  have hn := w.1
  have h2n : 2 ^ n ≤ 128 := Nat.pow_le_pow_right (n := 2) (by decide) hn
  unfold fX4_search
  refine pl_inv0 (P := fun o => ∃ t : lm_St, o = some (t, s1) ∧ eO t (pFd (pMk n b db kd wo lo si) (2 ^ n) none)) (fun (j : Nat) (a : Int32 × lm_St × lm_St) => a.1 = nI j ∧ a.2.2 = s1 ∧ eO a.2.1 (pFd (pMk n b db kd wo lo si) j none)) (2 ^ n) ⟨rfl, rfl, rfl, rfl, rfl⟩ ?_ ?_ (by omega)
  · intro j a hj ha
    obtain ⟨x, u, u1⟩ := a
    obtain ⟨rfl, e1, gO⟩ := ha
    dsimp only at e1 gO
    subst e1
    have hW := pc_worthOf (s := u1) (x := nI j) (p := fun i => j.testBit i) h.1 hn (fun i hi => (h.2.2.2.1 i hi).2.1) (fun i hi => pb_isIn (by omega) (by omega))
    have hM : j &&& b = 0 → fX3_missedOf u1 (nI j) (0 : Int32) = some (nI (pS (fun i => pM (kd i) (lo i) (si i)) (fun i => j.testBit i) n), u1) := fun hz => by
      refine pc_missedOf h.1 hn (fun i hi hp => ?_) (fun i hi => pb_isIn (by omega) (by omega))
      have ht := pb_and0 hz hp
      have hsi := hs i hi
      rw [show (0 : Int32) = nI 0 from rfl, pc_missedBehind h w hi ht (Nat.le_refl 0) (by omega), Nat.sub_self, Nat.add_zero, Nat.min_eq_left hsi]
    have hl1 := pS_mi (si := si) w (fun i => j.testBit i)
    have hl2 := pS_all w (fun i => j.testBit i)
    have hdb := w.2.2.1
    show ∃ a', (∀ k : Int32 × lm_St × lm_St → Option (lm_St × lm_St), bX4_search_17 k (nI j) u u1 = k a') ∧ _
    have ep : pFd (pMk n b db kd wo lo si) (j + 1) none = pMk n b db kd wo lo si j (pFd (pMk n b db kd wo lo si) j none) := rfl
    rw [ep]
    generalize pFd (pMk n b db kd wo lo si) j none = acc at gO
    unfold pMk
    by_cases c1 : j &&& b = 0
    · by_cases c2 : db ≤ pS wo (fun i => j.testBit i) n
      · rw [if_pos ⟨c1, c2⟩]
        have put : ∃ t, jX4_keepIfBetter_32 (nI j) (nI (pS wo (fun i => j.testBit i) n)) (nI (pS (fun i => pM (kd i) (lo i) (si i)) (fun i => j.testBit i) n)) u = some t ∧ eO t (some (pS (fun i => pM (kd i) (lo i) (si i)) (fun i => j.testBit i) n, pS wo (fun i => j.testBit i) n, j)) := ⟨_, rfl, rfl, rfl, rfl, hl1, hl2, by omega⟩
        have kp : ∃ t, fX4_keepIfBetter u (nI j) (nI (pS wo (fun i => j.testBit i) n)) (nI (pS (fun i => pM (kd i) (lo i) (si i)) (fun i => j.testBit i) n)) = some t ∧ eO t (pMu acc (pS (fun i => pM (kd i) (lo i) (si i)) (fun i => j.testBit i) n) (pS wo (fun i => j.testBit i) n) j) := by
          unfold fX4_keepIfBetter
          cases acc with
          | none => rw [gO.2.2, if_pos rfl]; exact put
          | some q =>
            obtain ⟨L, G, c⟩ := q
            obtain ⟨g1, g2, g3, g4, g5, g6⟩ := id gO
            rw [g3, if_neg (pE_neg (by omega)), g1, g2]
            unfold pMu
            dsimp only
            by_cases d1 : pS (fun i => pM (kd i) (lo i) (si i)) (fun i => j.testBit i) n < L
            · rw [if_pos ((nI_ltI (by omega) (by omega)).mpr d1), if_pos (Or.inl d1)]; exact put
            · rw [if_neg (fun q => d1 ((nI_ltI (by omega) (by omega)).mp q))]
              by_cases d2 : pS (fun i => pM (kd i) (lo i) (si i)) (fun i => j.testBit i) n = L
              · rw [if_pos (by rw [d2])]
                by_cases d3 : G ≤ pS wo (fun i => j.testBit i) n
                · rw [if_pos (nI_le d3 (by omega)), if_neg (by omega)]; exact ⟨u, rfl, gO⟩
                · rw [if_neg (nI_ge (by omega) (by omega)), if_pos (Or.inr ⟨d2, by omega⟩)]; exact put
              · rw [if_neg (fun q => d2 ((nI_eq (by omega) (by omega)).mp q)), if_neg (by omega)]; exact ⟨u, rfl, gO⟩
        obtain ⟨t, p1, p2⟩ := kp
        refine ⟨(nI (j + 1), t, u1), fun k => ?_, rfl, rfl, p2⟩
        unfold bX4_search_17 jX4_search_62
        rw [h.1, pm_2 n (by omega), if_neg (nI_ge hj (by omega)), hW]
        simp only [Option.bind_some, lm_un2]
        rw [h.2.1, pI_and, c1, if_pos (by rfl), h.2.2.1, if_neg (nI_nlt c2 (by omega)), hM c1]
        simp only [Option.bind_some]
        rw [p1, nI_1]
        rfl
      · rw [if_neg (fun q => c2 q.2)]
        refine ⟨(nI (j + 1), u, u1), fun k => ?_, rfl, rfl, gO⟩
        unfold bX4_search_17 jX4_search_62
        rw [h.1, pm_2 n (by omega), if_neg (nI_ge hj (by omega)), hW]
        simp only [Option.bind_some, lm_un2]
        rw [h.2.1, pI_and, c1, if_pos (by rfl), h.2.2.1, if_pos ((nI_ltI (by omega) (by omega)).mpr (by omega)), nI_1]
    · rw [if_neg (fun q => c1 q.1)]
      refine ⟨(nI (j + 1), u, u1), fun k => ?_, rfl, rfl, gO⟩
      unfold bX4_search_17 jX4_search_62
      rw [h.1, pm_2 n (by omega), if_neg (nI_ge hj (by omega)), hW]
      simp only [Option.bind_some, lm_un2]
      have hlt : j &&& b < 2 ^ 31 := Nat.lt_of_le_of_lt Nat.and_le_left (by omega)
      rw [h.2.1, pI_and, if_neg (nI_ne0 (by omega) hlt), nI_1]
  · intro a ha
    obtain ⟨x, u, u1⟩ := a
    obtain ⟨rfl, e1, gO⟩ := ha
    dsimp only at e1 gO
    subst e1
    refine ⟨some (u, u1), fun k => ?_, u, rfl, gO⟩
    show bX4_search_17 k (nI (2 ^ n)) u u1 = _
    unfold bX4_search_17
    rw [h.1, pm_2 n (by omega), if_pos (nI_le (Nat.le_refl _) (by omega))]
def eQ (acc : pAc) (x y : Int32) : Prop := match acc with
  | none => x = -1 ∧ y = nI 1000000
  | some (L, G, c) => x = nI c ∧ y = nI (1000 * L + G) ∧ L ≤ 140 ∧ G ≤ 63 ∧ c < 128
theorem pm_makeUp {s : lm_St} {n b db : Nat} {kd wo lo si : Nat → Nat} (h : mH s n b db kd wo lo si) (w : pW n b db kd wo lo) (hs : ∀ i, i < n → si i ≤ 20) (hbn : b < 2 ^ n) {what : Nat} (hw : what < 3) : ∃ t, fX9_makeUpOf s (nI what) = some (pAm (pFd (pMk n b db kd wo lo si) (2 ^ n) none) what, t) ∧ mF s t := by
  have hn := w.1
  have h2n : 2 ^ n ≤ 128 := Nat.pow_le_pow_right (n := 2) (by decide) hn
  obtain ⟨u, q1, q2, q3⟩ := pm_begin hn h
  have hu := h.mF q2
  unfold fX9_makeUpOf
  rw [q1]
  simp only [Option.bind_some]
  refine pl_inv0 (P := fun o => ∃ t : lm_St, o = some (pAm (pFd (pMk n b db kd wo lo si) (2 ^ n) none) what, t) ∧ mF s t) (fun (j : Nat) (a : Int32 × Int32 × Int32 × Int32 × lm_St) => a.1 = nI what ∧ a.2.2.2.1 = nI j ∧ a.2.2.2.2 = u ∧ eQ (pFd (pMk n b db kd wo lo si) j none) a.2.1 a.2.2.1) (2 ^ n) ⟨rfl, rfl, rfl, rfl, rfl⟩ ?_ ?_ (by omega)
  · intro j a hj ha
    obtain ⟨x1, x2, x3, x4, u1⟩ := a
    obtain ⟨rfl, e4, e1, gQ⟩ := ha
    dsimp only at e1 e4 gQ
    subst e1
    subst e4
    have hW := pm_worthOf (x := j) hu.1 hn (by omega) (fun i hi => (hu.2.2 i hi).2.1)
    have hM := pm_missedOf q3 w hs (x := j) (by omega)
    have hT := pm_takenSet hu.1 (fun i hi => (hu.2.2 i hi).2.2.2.2) hn hbn
    have hl1 := pS_mi (si := si) w (fun i => j.testBit i)
    have hl2 := pS_all w (fun i => j.testBit i)
    have hdb := w.2.2.1
    show ∃ a', (∀ k : Int32 × Int32 × Int32 × Int32 × lm_St → Option (Int32 × lm_St), bX9_makeUpOf_12 k (nI what) x2 x3 (nI j) u1 = k a') ∧ _
    have ep : pFd (pMk n b db kd wo lo si) (j + 1) none = pMk n b db kd wo lo si j (pFd (pMk n b db kd wo lo si) j none) := rfl
    rw [ep]
    generalize pFd (pMk n b db kd wo lo si) j none = acc at gQ
    have step : ∀ k : Int32 × Int32 × Int32 × Int32 × lm_St → Option (Int32 × lm_St), bX9_makeUpOf_12 k (nI what) x2 x3 (nI j) u1 = if j &&& b = 0 then (if nI (pS wo (fun i => j.testBit i) n) < nI db then k (nI what, x2, x3, nI (j + 1), u1) else if x3 ≤ nI (1000 * pS (fun i => pM (kd i) (lo i) (si i)) (fun i => j.testBit i) n + pS wo (fun i => j.testBit i) n) then k (nI what, x2, x3, nI (j + 1), u1) else k (nI what, nI j, nI (1000 * pS (fun i => pM (kd i) (lo i) (si i)) (fun i => j.testBit i) n + pS wo (fun i => j.testBit i) n), nI (j + 1), u1)) else k (nI what, x2, x3, nI (j + 1), u1) := by
      intro k
      unfold bX9_makeUpOf_12 jX9_makeUpOf_77
      rw [hu.1, pm_2 n (by omega), if_neg (nI_ge hj (by omega)), hM]
      simp only [Option.bind_some, lm_un2]
      rw [hW]
      simp only [Option.bind_some]
      rw [hT]
      simp only [Option.bind_some]
      rw [hW, pI_and, show (1000 : Int32) = nI 1000 from rfl, pk_mul, nI_add]
      simp only [Option.bind_some]
      rw [hu.2.1, nI_1 j]
      by_cases c1 : j &&& b = 0
      · rw [if_pos c1, c1]
        exact if_pos (by rfl)
      · have hlt : j &&& b < 2 ^ 31 := Nat.lt_of_le_of_lt Nat.and_le_left (by omega)
        rw [if_neg c1, if_neg (nI_ne0 (by omega) hlt)]
    unfold pMk
    by_cases c1 : j &&& b = 0
    · by_cases c2 : db ≤ pS wo (fun i => j.testBit i) n
      · rw [if_pos ⟨c1, c2⟩]
        have c2' : ¬ nI (pS wo (fun i => j.testBit i) n) < nI db := nI_nlt c2 (by omega)
        have yes : (¬ x3 ≤ nI (1000 * pS (fun i => pM (kd i) (lo i) (si i)) (fun i => j.testBit i) n + pS wo (fun i => j.testBit i) n)) → ∃ a', (∀ k : Int32 × Int32 × Int32 × Int32 × lm_St → Option (Int32 × lm_St), bX9_makeUpOf_12 k (nI what) x2 x3 (nI j) u1 = k a') ∧ a'.1 = nI what ∧ a'.2.2.2.1 = nI (j + 1) ∧ a'.2.2.2.2 = u1 ∧ eQ (some (pS (fun i => pM (kd i) (lo i) (si i)) (fun i => j.testBit i) n, pS wo (fun i => j.testBit i) n, j)) a'.2.1 a'.2.2.1 := fun hc => ⟨_, fun k => (step k).trans ((if_pos c1).trans ((if_neg c2').trans (if_neg hc))), rfl, rfl, rfl, rfl, rfl, hl1, hl2, by omega⟩
        have no : x3 ≤ nI (1000 * pS (fun i => pM (kd i) (lo i) (si i)) (fun i => j.testBit i) n + pS wo (fun i => j.testBit i) n) → ∃ a', (∀ k : Int32 × Int32 × Int32 × Int32 × lm_St → Option (Int32 × lm_St), bX9_makeUpOf_12 k (nI what) x2 x3 (nI j) u1 = k a') ∧ a'.1 = nI what ∧ a'.2.2.2.1 = nI (j + 1) ∧ a'.2.2.2.2 = u1 ∧ eQ acc a'.2.1 a'.2.2.1 := fun hc => ⟨_, fun k => (step k).trans ((if_pos c1).trans ((if_neg c2').trans (if_pos hc))), rfl, rfl, rfl, gQ⟩
        cases acc with
        | none => exact yes (by rw [gQ.2]; exact nI_ge (by omega) (by decide))
        | some q =>
          obtain ⟨L, G, c⟩ := q
          obtain ⟨g1, g2, g3, g4, g5⟩ := id gQ
          unfold pMu
          dsimp only
          by_cases d : pS (fun i => pM (kd i) (lo i) (si i)) (fun i => j.testBit i) n < L ∨ (pS (fun i => pM (kd i) (lo i) (si i)) (fun i => j.testBit i) n = L ∧ pS wo (fun i => j.testBit i) n < G)
          · rw [if_pos d]; exact yes (by rw [g2]; exact nI_ge (by omega) (by omega))
          · rw [if_neg d]; exact no (by rw [g2]; exact nI_le (by omega) (by omega))
      · rw [if_neg (fun q => c2 q.2)]
        exact ⟨_, fun k => (step k).trans ((if_pos c1).trans (if_pos ((nI_ltI (by omega) (by omega)).mpr (by omega)))), rfl, rfl, rfl, gQ⟩
    · rw [if_neg (fun q => c1 q.1)]
      exact ⟨_, fun k => (step k).trans (if_neg c1), rfl, rfl, rfl, gQ⟩
  · intro a ha
    obtain ⟨x1, x2, x3, x4, u1⟩ := a
    obtain ⟨rfl, e4, e1, gQ⟩ := ha
    dsimp only at e1 e4 gQ
    subst e1
    subst e4
    refine ⟨some (pAm (pFd (pMk n b db kd wo lo si) (2 ^ n) none) what, u1), fun k => ?_, u1, rfl, q2⟩
    show bX9_makeUpOf_12 k (nI what) x2 x3 (nI (2 ^ n)) u1 = _
    unfold bX9_makeUpOf_12
    rw [hu.1, pm_2 n (by omega), if_pos (nI_le (Nat.le_refl _) (by omega))]
    generalize pFd (pMk n b db kd wo lo si) (2 ^ n) none = acc at gQ
    cases acc with
    | none => rw [gQ.1, if_pos rfl]; rfl
    | some q =>
      obtain ⟨L, G, c⟩ := q
      obtain ⟨g1, g2, g3, g4, g5⟩ := gQ
      rw [g1, g2, if_neg (pE_neg (by omega))]
      unfold pAm
      dsimp only
      rcases (show what = 0 ∨ what = 1 ∨ what = 2 by omega) with rfl | rfl | rfl
      · rw [if_neg (by decide), if_pos (by rfl), if_pos rfl, show (1000 : Int32) = nI 1000 from rfl, pk_div (by omega) (by decide) (by decide)]
        congr 3
        omega
      · rw [if_neg (by decide), if_neg (by decide), if_neg (by decide), if_pos rfl, show (1000 : Int32) = nI 1000 from rfl, pk_rem (by omega) (by decide) (by decide)]
        congr 3
        omega
      · rw [if_pos (by rfl), if_neg (by decide), if_neg (by decide)]
