/-! WATCH, both sides. -/
def pCn (cand : Nat) (f : Nat → Nat) (a : Nat) : Nat → Nat
  | 0 => 0
  | k + 1 => pCn cand f a k + (if cand.testBit k = true ∧ f k = a then 1 else 0)
theorem pCn_le {cand : Nat} {f : Nat → Nat} {a : Nat} : ∀ k, pCn cand f a k ≤ k := by
  intro k
  induction k with
  | zero => exact Nat.le_refl 0
  | succ k ih =>
    unfold pCn
    split <;> omega
theorem pCn_mono {cand : Nat} {f : Nat → Nat} {a : Nat} (k : Nat) : pCn cand f a k ≤ pCn cand f a (k + 1) := Nat.le_add_right _ _
theorem pCn_ex {cand : Nat} {f : Nat → Nat} {a : Nat} : ∀ {k : Nat}, 0 < pCn cand f a k → ∃ look, look < k ∧ cand.testBit look = true ∧ f look = a := by
  intro k
  induction k with
  | zero => intro h; exact absurd h (Nat.lt_irrefl 0)
  | succ k ih =>
    intro h
    by_cases c : cand.testBit k = true ∧ f k = a
    · exact ⟨k, by omega, c.1, c.2⟩
    · unfold pCn at h
      rw [if_neg c] at h
      obtain ⟨look, h1, h2⟩ := ih h
      exact ⟨look, by omega, h2⟩
/-- the most that can be left -/
def pWo (cand : Nat) (f : Nat → Nat) : Nat → Nat
  | 0 => 0
  | k + 1 => if cand.testBit k = true ∧ pWo cand f k < pCn cand f (f k) 21 then pCn cand f (f k) 21 else pWo cand f k
theorem pWo_ge {cand : Nat} {f : Nat → Nat} : ∀ {k look : Nat}, look < k → cand.testBit look = true → pCn cand f (f look) 21 ≤ pWo cand f k := by
  intro k
  induction k with
  | zero => intro look h; omega
  | succ k ih =>
    intro look h hb
    unfold pWo
    rcases Nat.lt_or_ge look k with q | q
    · have := ih q hb
      split
      · rename_i c; omega
      · exact this
    · have e : look = k := by omega
      subst e
      split
      · exact Nat.le_refl _
      · rename_i c
        rcases Nat.lt_or_ge (pWo cand f look) (pCn cand f (f look) 21) with z | z
        · exact absurd ⟨hb, z⟩ c
        · exact z
theorem pWo_ex {cand : Nat} {f : Nat → Nat} : ∀ (k : Nat), pWo cand f k = 0 ∨ ∃ look, look < k ∧ cand.testBit look = true ∧ pWo cand f k = pCn cand f (f look) 21 := by
  intro k
  induction k with
  | zero => exact Or.inl rfl
  | succ k ih =>
    unfold pWo
    split
    · rename_i c
      exact Or.inr ⟨k, by omega, c.1, rfl⟩
    · rcases ih with q | ⟨look, h1, h2, h3⟩
      · exact Or.inl q
      · exact Or.inr ⟨look, by omega, h2, h3⟩
theorem pWo_le {cand : Nat} {f : Nat → Nat} (k : Nat) : pWo cand f k ≤ 21 := by
  rcases pWo_ex (cand := cand) (f := f) k with q | ⟨look, _, _, h⟩
  · omega
  · rw [h]; exact pCn_le 21
theorem pWo_eq {cand : Nat} {f : Nat → Nat} {X : Nat} (h1 : ∀ a, a ≤ 20 → pCn cand f a 21 ≤ X) (h2 : X = 0 ∨ ∃ a, X = pCn cand f a 21) (hf : ∀ look, look < 21 → f look ≤ 20) : X = pWo cand f 21 := by
  apply Nat.le_antisymm
  · rcases h2 with q | ⟨a, q⟩
    · omega
    · rcases Nat.eq_zero_or_pos X with z | z
      · omega
      · obtain ⟨look, g1, g2, g3⟩ := pCn_ex (cand := cand) (f := f) (a := a) (k := 21) (by omega)
        have := pWo_ge (cand := cand) (f := f) g1 g2
        rw [g3, ← q] at this
        exact this
  · rcases pWo_ex (cand := cand) (f := f) 21 with q | ⟨look, g1, g2, g3⟩
    · omega
    · rw [g3]; exact h1 _ (hf look g1)
theorem pc_mostLeft {s : lm_St} {cand kd e : Nat} (hc : cand < 2 ^ 21) (hk : kd < 5) (he : e ≤ 20) : ∃ t, fX7_mostLeft s (nI cand) (nI kd) (nI e) = some (nI (pWo cand (fun l => pM kd l e) 21), t) ∧ t.1 = s.1 ∧ ∀ j, j ≠ 3 → t.2.1 j = s.2.1 j := by
  unfold fX7_mostLeft
  refine pl_inv0 (P := fun o => ∃ t : lm_St, o = some (nI (pWo cand (fun l => pM kd l e) 21), t) ∧ t.1 = s.1 ∧ ∀ j, j ≠ 3 → t.2.1 j = s.2.1 j) (fun (j : Nat) (a : Int32 × Int32 × Int32 × Int32 × lm_St) => a.1 = nI cand ∧ a.2.1 = nI kd ∧ a.2.2.1 = nI e ∧ a.2.2.2.1 = nI j ∧ a.2.2.2.2.1 = s.1 ∧ (∀ j, j ≠ 3 → a.2.2.2.2.2.1 j = s.2.1 j) ∧ ∀ i, i < j → a.2.2.2.2.2.1 3 i = 0) 21 ⟨rfl, rfl, rfl, rfl, rfl, fun _ _ => rfl, fun i hi => absurd hi (Nat.not_lt_zero i)⟩ ?_ ?_ (by decide)
  · intro j a hj ha
    obtain ⟨x1, x2, x3, x4, u⟩ := a
    obtain ⟨rfl, rfl, rfl, rfl, g1, g2, g3⟩ := ha
    dsimp only at g1 g2 g3
    refine ⟨(nI cand, nI kd, nI e, nI (j + 1), lm_sA u 3 (upd (u.2.1 3) j 0)), fun k => ?_, rfl, rfl, rfl, rfl, g1, fun i hi => ?_, fun i hi => ?_⟩
    · show bX7_mostLeft_3 k (nI cand) (nI kd) (nI e) (nI j) u = _
      unfold bX7_mostLeft_3
      rw [if_neg (show ¬ (21 : Int32) ≤ nI j from nI_ge (b := 21) hj (by decide)), pg_I (by omega) (by decide), nI_clamp (by omega), nI_1]
    · show (lm_sA u 3 (upd (u.2.1 3) j 0)).2.1 i = _
      rw [pu_4, if_neg hi]; exact g2 i hi
    · show upd (u.2.1 3) j 0 i = 0
      rw [pu_u]
      by_cases c : i = j
      · rw [if_pos c]
      · rw [if_neg c]; exact g3 i (by omega)
  · intro a ha
    obtain ⟨x1, x2, x3, x4, u⟩ := a
    obtain ⟨rfl, rfl, rfl, rfl, g1, g2, g3⟩ := ha
    dsimp only at g1 g2 g3
    refine ⟨lm_lp (fun k a => bX7_mostLeft_33 k a.1 a.2.1 a.2.2.1 a.2.2.2.1 a.2.2.2.2.1 a.2.2.2.2.2) 5000 (nI cand, nI kd, nI e, 0, 0, u), fun k => ?_, ?_⟩
    · show bX7_mostLeft_3 k (nI cand) (nI kd) (nI e) (nI 21) u = _
      unfold bX7_mostLeft_3
      rw [if_pos (by decide)]
    · refine pl_inv0 (P := fun o => ∃ t : lm_St, o = some (nI (pWo cand (fun l => pM kd l e) 21), t) ∧ t.1 = s.1 ∧ ∀ j, j ≠ 3 → t.2.1 j = s.2.1 j) (fun (j : Nat) (a : Int32 × Int32 × Int32 × Int32 × Int32 × lm_St) => a.1 = nI cand ∧ a.2.1 = nI kd ∧ a.2.2.1 = nI e ∧ a.2.2.2.2.1 = nI j ∧ a.2.2.2.2.2.1 = s.1 ∧ (∀ j, j ≠ 3 → a.2.2.2.2.2.2.1 j = s.2.1 j) ∧ (∀ i, i < 21 → a.2.2.2.2.2.2.1 3 i = nI (pCn cand (fun l => pM kd l e) i j)) ∧ ∃ X, a.2.2.2.1 = nI X ∧ X ≤ 21 ∧ (∀ i, i ≤ 20 → pCn cand (fun l => pM kd l e) i j ≤ X) ∧ (X = 0 ∨ ∃ i, X = pCn cand (fun l => pM kd l e) i j)) 21 ⟨rfl, rfl, rfl, rfl, g1, g2, fun i hi => g3 i hi, 0, rfl, by omega, fun _ _ => Nat.le_refl 0, Or.inl rfl⟩ ?_ ?_ (by decide)
      · intro j a hj ha
        obtain ⟨x1, x2, x3, x4, x5, u⟩ := a
        obtain ⟨rfl, rfl, rfl, rfl, f1, f2, f3, X, e4, hX, hX1, hX2⟩ := ha
        dsimp only at f1 f2 f3 e4
        subst e4
        cases ht : cand.testBit j with
        | false =>
          have same : ∀ i, pCn cand (fun l => pM kd l e) i (j + 1) = pCn cand (fun l => pM kd l e) i j := fun i => by
            show pCn cand (fun l => pM kd l e) i j + (if cand.testBit j = true ∧ pM kd j e = i then 1 else 0) = _
            rw [if_neg (fun q => by rw [ht] at q; cases q.1), Nat.add_zero]
          refine ⟨(nI cand, nI kd, nI e, nI X, nI (j + 1), u), fun k => ?_, rfl, rfl, rfl, rfl, f1, f2, fun i hi => by rw [same]; exact f3 i hi, X, rfl, hX, fun i hi => by rw [same]; exact hX1 i hi, ?_⟩
          · show bX7_mostLeft_33 k (nI cand) (nI kd) (nI e) (nI X) (nI j) u = _
            unfold bX7_mostLeft_33 jX7_mostLeft_83
            rw [if_neg (show ¬ (20 : Int32) < nI j from nI_nlt (a := 20) (by omega) (by decide)), pb_isIn (by omega) (by omega), ht, nI_1 j]
            rfl
          · rcases hX2 with q | ⟨i, q⟩
            · exact Or.inl q
            · exact Or.inr ⟨i, by rw [same]; exact q⟩
        | true =>
          have hfj : pM kd j e ≤ 20 := Nat.le_trans (pM_le _ _ _) (by omega)
          have cnt : ∀ i, pCn cand (fun l => pM kd l e) i (j + 1) = pCn cand (fun l => pM kd l e) i j + (if pM kd j e = i then 1 else 0) := fun i => by
            show _ + (if cand.testBit j = true ∧ pM kd j e = i then 1 else 0) = _
            rw [ht]
            simp
          have hme := cnt (pM kd j e)
          rw [if_pos rfl] at hme
          have hle := pCn_le (cand := cand) (f := fun l => pM kd l e) (a := pM kd j e) (j + 1)
          refine ⟨(nI cand, nI kd, nI e, nI (max X (pCn cand (fun l => pM kd l e) (pM kd j e) (j + 1))), nI (j + 1), lm_sA u 3 (upd (u.2.1 3) (pM kd j e) (nI (pCn cand (fun l => pM kd l e) (pM kd j e) (j + 1))))), fun k => ?_, rfl, rfl, rfl, rfl, f1, fun i hi => ?_, fun i hi => ?_, max X (pCn cand (fun l => pM kd l e) (pM kd j e) (j + 1)), rfl, by omega, fun i hi => ?_, ?_⟩
          · show bX7_mostLeft_33 k (nI cand) (nI kd) (nI e) (nI X) (nI j) u = _
            unfold bX7_mostLeft_33 jX7_mostLeft_83
            rw [if_neg (show ¬ (20 : Int32) < nI j from nI_nlt (a := 20) (by omega) (by decide)), pb_isIn (by omega) (by omega), ht]
            show ((fX8_missedBy (nI kd) (nI j) (nI e)).bind _) = _
            rw [pM_c kd hk j (by omega) e (by omega)]
            simp only [Option.bind_some]
            rw [pg_I (by omega) (by decide), pg_I (by omega) (by decide), pg_I (by omega) (by decide), nI_clamp (n := pM kd j e) (by omega), f3 _ (by omega), nI_1, ← hme]
            unfold lm_nm
            rw [pu_u, if_pos rfl, nI_1 j]
            congr 4
            by_cases c : X < pCn cand (fun l => pM kd l e) (pM kd j e) (j + 1)
            · rw [if_pos ((nI_ltI (by omega) (by omega)).mpr c), Nat.max_eq_right (by omega)]
            · rw [if_neg (fun q => c ((nI_ltI (by omega) (by omega)).mp q)), Nat.max_eq_left (by omega)]
          · show (lm_sA u 3 _).2.1 i = _
            rw [pu_4, if_neg hi]; exact f2 i hi
          · show upd (u.2.1 3) (pM kd j e) _ i = _
            rw [pu_u]
            by_cases c : i = pM kd j e
            · rw [if_pos c, c]
            · rw [if_neg c, f3 i hi, cnt, if_neg (fun q => c q.symm), Nat.add_zero]
          · by_cases c : i = pM kd j e
            · rw [c]; exact Nat.le_max_right _ _
            · rw [cnt, if_neg (fun q => c q.symm), Nat.add_zero]
              exact Nat.le_trans (hX1 i hi) (Nat.le_max_left _ _)
          · rcases Nat.le_total X (pCn cand (fun l => pM kd l e) (pM kd j e) (j + 1)) with q | q
            · exact Or.inr ⟨pM kd j e, Nat.max_eq_right q⟩
            · rw [Nat.max_eq_left q]
              rcases hX2 with z | ⟨i, z⟩
              · exact Or.inl z
              · by_cases c : i = pM kd j e
                · have h1 := hme
                  rw [← c, ← z] at h1
                  rw [← c] at q
                  omega
                · exact Or.inr ⟨i, by rw [cnt, if_neg (fun q => c q.symm), Nat.add_zero]; exact z⟩
      · intro a ha
        obtain ⟨x1, x2, x3, x4, x5, u⟩ := a
        obtain ⟨rfl, rfl, rfl, rfl, f1, f2, f3, X, e4, hX, hX1, hX2⟩ := ha
        dsimp only at f1 f2 f3 e4
        subst e4
        have hXe := pWo_eq (cand := cand) (f := fun l => pM kd l e) hX1 hX2 (fun look hl => Nat.le_trans (pM_le _ _ _) (by omega))
        refine ⟨some (nI X, u), fun k => ?_, u, by rw [hXe], f1, f2⟩
        show bX7_mostLeft_33 k (nI cand) (nI kd) (nI e) (nI X) (nI 21) u = _
        unfold bX7_mostLeft_33
        rw [if_pos (by decide)]
/-- the day to watch -/
def pDy (wq : Nat → Nat) : Nat → Option Nat × Nat
  | 0 => (none, 22)
  | d + 1 => if wq d < (pDy wq d).2 then (some d, wq d) else pDy wq d
theorem pDy_le {wq : Nat → Nat} (h : ∀ d, wq d ≤ 21) : ∀ d, (pDy wq d).2 ≤ 22 := by
  intro d
  induction d with
  | zero => exact Nat.le_refl 22
  | succ d ih =>
    unfold pDy
    split
    · have := h d
      show wq d ≤ 22
      omega
    · exact ih
theorem pDy_some {wq : Nat → Nat} (h : ∀ d, wq d ≤ 21) : ∀ d, ∃ x, (pDy wq (d + 1)).1 = some x ∧ x < d + 1 := by
  intro d
  induction d with
  | zero => exact ⟨0, by unfold pDy pDy; rw [if_pos (by have := h 0; omega)], by omega⟩
  | succ d ih =>
    obtain ⟨x, h1, h2⟩ := ih
    unfold pDy
    split
    · exact ⟨d + 1, rfl, by omega⟩
    · exact ⟨x, h1, by omega⟩
def pWt (kd : Nat → Nat) (b : Nat) (si : Nat → Nat) (i cand : Nat) : Int32 := if cand = 0 then -1 else pE (pDy (fun d => pWo cand (fun l => pM (kd i) l (pEf b si i d)) 21) 10).1
theorem pc_watch {s0 s1 : lm_St} {n b db m : Nat} {kd wo lo si st sd sm : Nat → Nat} (h : cH s1 n b db kd wo lo si) (w : pW n b db kd wo lo) (hs : ∀ i, i < n → si i ≤ 20) (hS : cSn s0 m st sd sm) (hb : pSn m st sd sm) {i : Nat} (hi : i < n) : ∃ t, fX7_watchOf s0 s1 (nI i) = some (pWt kd b si i (pLk (fun look => pAg kd b si st sd sm i look m) 21), t, s1) ∧ t.1 = s0.1 ∧ ∀ j, j ≠ 3 → t.2.1 j = s0.2.1 j := by
  have hn := w.1
  have hsi := hs i hi
  unfold fX7_watchOf pWt
  rw [pc_looks h w hs hS hb hi]
  simp only [Option.bind_some, lm_un3]
  have hlt := pLk_lt (ag := fun look => pAg kd b si st sd sm i look m) 21
  generalize pLk (fun look => pAg kd b si st sd sm i look m) 21 = cand at hlt
  by_cases c0 : cand = 0
  · rw [if_pos c0, c0, if_pos (by rfl)]
    exact ⟨s0, rfl, rfl, fun _ _ => rfl⟩
  · rw [if_neg c0, if_neg (nI_ne0 (by omega) (by omega))]
    have hq : ∀ d, (fun d => pWo cand (fun l => pM (kd i) l (pEf b si i d)) 21) d ≤ 21 := fun d => pWo_le 21
    refine pl_inv0 (P := fun o => ∃ t : lm_St, o = some (pE (pDy (fun d => pWo cand (fun l => pM (kd i) l (pEf b si i d)) 21) 10).1, t, s1) ∧ t.1 = s0.1 ∧ ∀ j, j ≠ 3 → t.2.1 j = s0.2.1 j) (fun (d : Nat) (a : Int32 × Int32 × Int32 × Int32 × Int32 × lm_St × lm_St) => a.1 = nI i ∧ a.2.1 = nI cand ∧ (∀ x, (pDy (fun d => pWo cand (fun l => pM (kd i) l (pEf b si i d)) 21) d).1 = some x → a.2.2.1 = nI x) ∧ a.2.2.2.1 = nI (pDy (fun d => pWo cand (fun l => pM (kd i) l (pEf b si i d)) 21) d).2 ∧ a.2.2.2.2.1 = nI d ∧ a.2.2.2.2.2.2 = s1 ∧ a.2.2.2.2.2.1.1 = s0.1 ∧ ∀ j, j ≠ 3 → a.2.2.2.2.2.1.2.1 j = s0.2.1 j) 10 ⟨rfl, rfl, (fun x hx => by cases hx), rfl, rfl, rfl, rfl, fun _ _ => rfl⟩ ?_ ?_ (by decide)
    · intro d a hd ha
      obtain ⟨x1, x2, x3, x4, x5, u, u1⟩ := a
      obtain ⟨rfl, rfl, g3, g4, g5, g6, g7, g8⟩ := ha
      dsimp only at g3 g4 g5 g6 g7 g8
      subst g4
      subst g5
      subst g6
      obtain ⟨t, p1, p2, p3⟩ := pc_mostLeft (s := u) (kd := kd i) (e := pEf b si i d) hlt (w.2.2.2 i hi).1 (pEf_le hsi)
      have hle := pDy_le hq d
      have hw := pWo_le (cand := cand) (f := fun l => pM (kd i) l (pEf b si i d)) 21
      have step : ∀ k : Int32 × Int32 × Int32 × Int32 × Int32 × lm_St × lm_St → Option (Int32 × lm_St × lm_St), bX7_watchOf_23 k (nI i) (nI cand) x3 (nI (pDy (fun d => pWo cand (fun l => pM (kd i) l (pEf b si i d)) 21) d).2) (nI d) u u1 = if nI (pDy (fun d => pWo cand (fun l => pM (kd i) l (pEf b si i d)) 21) d).2 ≤ nI (pWo cand (fun l => pM (kd i) l (pEf b si i d)) 21) then k (nI i, nI cand, x3, nI (pDy (fun d => pWo cand (fun l => pM (kd i) l (pEf b si i d)) 21) d).2, nI (d + 1), t, u1) else k (nI i, nI cand, nI d, nI (pWo cand (fun l => pM (kd i) l (pEf b si i d)) 21), nI (d + 1), t, u1) := by
        intro k
        unfold bX7_watchOf_23 jX7_watchOf_65
        rw [if_neg (show ¬ (9 : Int32) < nI d from nI_nlt (a := 9) (by omega) (by decide)), pg_I (by omega) (by decide), pc_sinceH h hn w.2.1 hi (by omega)]
        simp only [Option.bind_some, lm_un2]
        rw [nI_clamp (by omega), (h.2.2.2 i hi).1, p1]
        simp only [Option.bind_some]
        rw [nI_1 d]
      have ed : pDy (fun d => pWo cand (fun l => pM (kd i) l (pEf b si i d)) 21) (d + 1) = if pWo cand (fun l => pM (kd i) l (pEf b si i d)) 21 < (pDy (fun d => pWo cand (fun l => pM (kd i) l (pEf b si i d)) 21) d).2 then (some d, pWo cand (fun l => pM (kd i) l (pEf b si i d)) 21) else pDy (fun d => pWo cand (fun l => pM (kd i) l (pEf b si i d)) 21) d := rfl
      by_cases c : pWo cand (fun l => pM (kd i) l (pEf b si i d)) 21 < (pDy (fun d => pWo cand (fun l => pM (kd i) l (pEf b si i d)) 21) d).2
      · rw [if_pos c] at ed
        refine ⟨(nI i, nI cand, nI d, nI (pWo cand (fun l => pM (kd i) l (pEf b si i d)) 21), nI (d + 1), t, u1), fun k => (step k).trans (if_neg (nI_ge c (by omega))), rfl, rfl, fun x hx => ?_, ?_, rfl, rfl, p2.trans g7, fun j hj => (p3 j hj).trans (g8 j hj)⟩
        · rw [ed] at hx; cases hx; rfl
        · rw [ed]
      · rw [if_neg c] at ed
        refine ⟨(nI i, nI cand, x3, nI (pDy (fun d => pWo cand (fun l => pM (kd i) l (pEf b si i d)) 21) d).2, nI (d + 1), t, u1), fun k => (step k).trans (if_pos (nI_le (by omega) (by omega))), rfl, rfl, fun x hx => ?_, ?_, rfl, rfl, p2.trans g7, fun j hj => (p3 j hj).trans (g8 j hj)⟩
        · rw [ed] at hx; exact g3 x hx
        · rw [ed]
    · intro a ha
      obtain ⟨x1, x2, x3, x4, x5, u, u1⟩ := a
      obtain ⟨rfl, rfl, g3, g4, g5, g6, g7, g8⟩ := ha
      dsimp only at g3 g4 g5 g6 g7 g8
      subst g4
      subst g5
      subst g6
      obtain ⟨x, hx, -⟩ := pDy_some hq 9
      refine ⟨some (x3, u, u1), fun k => ?_, u, ?_, g7, g8⟩
      · show bX7_watchOf_23 k (nI i) (nI cand) x3 _ (nI 10) u u1 = _
        unfold bX7_watchOf_23
        rw [if_pos (by decide)]
      · rw [hx, g3 x hx]
        rfl
theorem pm_watch {s : lm_St} {n b db m : Nat} {kd wo lo si st sd sm : Nat → Nat} (h : mH s n b db kd wo lo si) (w : pW n b db kd wo lo) (hs : ∀ i, i < n → si i ≤ 20) (hS : mSn s m st sd sm) (hb : pSn m st sd sm) {i : Nat} (hi : i < n) : fX9_watchOf s (nI i) = some (pWt kd b si i (pLk (fun look => pAg kd b si st sd sm i look m) 21), s) := by
  have hn := w.1
  have hsi := hs i hi
  unfold fX9_watchOf pWt
  rw [pm_looks h w hs hS hb hi]
  simp only [Option.bind_some, lm_un2]
  have hlt := pLk_lt (ag := fun look => pAg kd b si st sd sm i look m) 21
  generalize pLk (fun look => pAg kd b si st sd sm i look m) 21 = cand at hlt
  by_cases c0 : cand = 0
  · rw [if_pos c0, c0]
    refine pl_run0 (fun j => (nI i, nI 0, (-1 : Int32), (22 : Int32), nI j, s)) 0 rfl (fun j k hj => absurd hj (Nat.not_lt_zero j)) (fun k => ?_) (by decide)
    show bX9_watchOf_15 k (nI i) (nI 0) (-1) 22 (nI 0) s = _
    unfold bX9_watchOf_15
    rw [if_neg (by decide), if_pos (by rfl)]
  · rw [if_neg c0]
    have hq : ∀ d, (fun d => pWo cand (fun l => pM (kd i) l (pEf b si i d)) 21) d ≤ 21 := fun d => pWo_le 21
    obtain ⟨xx, hxx, -⟩ := pDy_some hq 9
    refine pl_run0 (fun d => (nI i, nI cand, pE (pDy (fun d => pWo cand (fun l => pM (kd i) l (pEf b si i d)) 21) d).1, nI (pDy (fun d => pWo cand (fun l => pM (kd i) l (pEf b si i d)) 21) d).2, nI d, s)) 10 rfl (fun d k hd => ?_) (fun k => ?_) (by decide)
    · show bX9_watchOf_15 k (nI i) (nI cand) (pE (pDy (fun d => pWo cand (fun l => pM (kd i) l (pEf b si i d)) 21) d).1) (nI (pDy (fun d => pWo cand (fun l => pM (kd i) l (pEf b si i d)) 21) d).2) (nI d) s = k (nI i, nI cand, pE (pDy (fun d => pWo cand (fun l => pM (kd i) l (pEf b si i d)) 21) (d + 1)).1, nI (pDy (fun d => pWo cand (fun l => pM (kd i) l (pEf b si i d)) 21) (d + 1)).2, nI (d + 1), s)
      have ed : pDy (fun d => pWo cand (fun l => pM (kd i) l (pEf b si i d)) 21) (d + 1) = if pWo cand (fun l => pM (kd i) l (pEf b si i d)) 21 < (pDy (fun d => pWo cand (fun l => pM (kd i) l (pEf b si i d)) 21) d).2 then (some d, pWo cand (fun l => pM (kd i) l (pEf b si i d)) 21) else pDy (fun d => pWo cand (fun l => pM (kd i) l (pEf b si i d)) 21) d := rfl
      have hle := pDy_le hq d
      have hw := pWo_le (cand := cand) (f := fun l => pM (kd i) l (pEf b si i d)) 21
      rw [ed]
      generalize pDy (fun d => pWo cand (fun l => pM (kd i) l (pEf b si i d)) 21) d = pd at hle
      obtain ⟨bo, le⟩ := pd
      dsimp only at hle ⊢
      unfold bX9_watchOf_15
      rw [if_neg (show ¬ (10 : Int32) ≤ nI d from nI_ge (b := 10) hd (by decide)), if_neg (nI_ne0 (by omega) (by omega))]
      have hef := pEf_le (b := b) (d := d) hsi
      refine pl_run0 (fun l => (nI i, nI cand, pE bo, nI le, nI d, nI (pWo cand (fun l => pM (kd i) l (pEf b si i d)) l), nI l, s)) 21 rfl (fun l k2 hl => ?_) (fun k2 => ?_) (by decide)
      · show bX9_watchOf_32 k k2 (nI i) (nI cand) (pE bo) (nI le) (nI d) (nI (pWo cand (fun l => pM (kd i) l (pEf b si i d)) l)) (nI l) s = k2 (nI i, nI cand, pE bo, nI le, nI d, nI (pWo cand (fun l => pM (kd i) l (pEf b si i d)) (l + 1)), nI (l + 1), s)
        unfold bX9_watchOf_32
        rw [if_neg (show ¬ (21 : Int32) ≤ nI l from nI_ge (b := 21) hl (by decide))]
        have hwl := pWo_le (cand := cand) (f := fun l => pM (kd i) l (pEf b si i d)) l
        rw [pWo]
        generalize pWo cand (fun l => pM (kd i) l (pEf b si i d)) l = wl at hwl
        refine pl_run0 (fun o => (nI i, nI cand, pE bo, nI le, nI d, nI wl, nI l, nI (pCn cand (fun l => pM (kd i) l (pEf b si i d)) (pM (kd i) l (pEf b si i d)) o), nI o, s)) 21 rfl (fun o k3 ho => ?_) (fun k3 => ?_) (by decide)
        · show bX9_watchOf_45 k k2 k3 (nI i) (nI cand) (pE bo) (nI le) (nI d) (nI wl) (nI l) (nI (pCn cand (fun l => pM (kd i) l (pEf b si i d)) (pM (kd i) l (pEf b si i d)) o)) (nI o) s = k3 (nI i, nI cand, pE bo, nI le, nI d, nI wl, nI l, nI (pCn cand (fun l => pM (kd i) l (pEf b si i d)) (pM (kd i) l (pEf b si i d)) (o + 1)), nI (o + 1), s)
          unfold bX9_watchOf_45 jX9_watchOf_85
          have hp1 := pM_le (kd i) o (pEf b si i d)
          have hp2 := pM_le (kd i) l (pEf b si i d)
          rw [if_neg (show ¬ (21 : Int32) ≤ nI o from nI_ge (b := 21) ho (by decide)), pm_missedIf h w hs hi ho (by omega)]
          simp only [Option.bind_some, lm_un2]
          rw [pm_missedIf h w hs hi hl (by omega)]
          simp only [Option.bind_some]
          rw [pb_bit (by omega) (by omega), nI_1 o, pCn]
          by_cases c : pM (kd i) o (pEf b si i d) = pM (kd i) l (pEf b si i d)
          · rw [if_pos (by rw [c])]
            cases ht : cand.testBit o with
            | true =>
              rw [if_pos (show true = true ∧ pM (kd i) o (pEf b si i d) = pM (kd i) l (pEf b si i d) from ⟨rfl, c⟩), if_pos rfl, nI_1]
            | false =>
              rw [if_neg (show ¬ (false = true ∧ pM (kd i) o (pEf b si i d) = pM (kd i) l (pEf b si i d)) from fun q => by cases q.1)]
              show k3 (_, _, _, _, _, _, _, _ + 0, _, _) = _
              rw [Int32.add_zero]
              rfl
          · rw [if_neg (fun q => c ((nI_eq (by omega) (by omega)).mp q)), if_neg (fun q => c q.2), Int32.add_zero]
            rfl
        · show bX9_watchOf_45 k k2 k3 (nI i) (nI cand) (pE bo) (nI le) (nI d) (nI wl) (nI l) (nI (pCn cand (fun l => pM (kd i) l (pEf b si i d)) (pM (kd i) l (pEf b si i d)) 21)) (nI 21) s = _
          have hcn := pCn_le (cand := cand) (f := fun l => pM (kd i) l (pEf b si i d)) (a := pM (kd i) l (pEf b si i d)) 21
          unfold bX9_watchOf_45 jX9_watchOf_116 jX9_watchOf_118
          rw [if_pos (by decide), pb_bit (by omega) (by omega), nI_1 l]
          cases ht : cand.testBit l with
          | true =>
            rw [if_pos (by rfl)]
            by_cases c : wl < pCn cand (fun l => pM (kd i) l (pEf b si i d)) (pM (kd i) l (pEf b si i d)) 21
            · rw [if_neg (nI_ge c (by omega)), if_pos ⟨rfl, c⟩]
            · rw [if_pos (nI_le (by omega) (by omega)), if_neg (fun q => c q.2)]
          | false =>
            rw [if_neg (by decide), if_neg (fun q => by cases q.1)]
      · show bX9_watchOf_32 k k2 (nI i) (nI cand) (pE bo) (nI le) (nI d) (nI (pWo cand (fun l => pM (kd i) l (pEf b si i d)) 21)) (nI 21) s = _
        unfold bX9_watchOf_32 jX9_watchOf_139 jX9_watchOf_154
        rw [if_pos (by decide), nI_1 d]
        by_cases c : pWo cand (fun l => pM (kd i) l (pEf b si i d)) 21 < le
        · rw [if_neg (nI_ge c (by omega)), if_neg (nI_ge c (by omega)), if_pos c]
          rfl
        · rw [if_pos (nI_le (by omega) (by omega)), if_pos (nI_le (by omega) (by omega)), if_neg c]
    · show bX9_watchOf_15 k (nI i) (nI cand) _ _ (nI 10) s = _
      unfold bX9_watchOf_15
      rw [if_pos (by decide)]
