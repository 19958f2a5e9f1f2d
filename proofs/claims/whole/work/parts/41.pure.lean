/-! copies, touches, days, takings -/
theorem pm_copy {N : Nat} {f g : Nat → Int32} (hN : N < 4000) : ∃ r, fX9_copy N f g = some r ∧ ∀ i, i < N → r i = f i := by
  unfold fX9_copy
  refine pl_inv0 (P := fun o => ∃ r : Nat → Int32, o = some r ∧ ∀ i, i < N → r i = f i) (fun (j : Nat) (a : Int32 × (Nat → Int32)) => a.1 = nI j ∧ ∀ i, i < j → a.2 i = f i) N ⟨rfl, fun i hi => absurd hi (Nat.not_lt_zero i)⟩ ?_ ?_ (by omega)
  · intro j a hj ha
    obtain ⟨x, h⟩ := a
    obtain ⟨rfl, h2⟩ := ha
    refine ⟨(nI (j + 1), upd h j (f j)), fun k => ?_, rfl, fun i hi => ?_⟩
    · show bX9_copy N f k (nI j) h = _
      unfold bX9_copy
      rw [if_neg (show ¬ Int32.ofNat N ≤ nI j from nI_ge hj (by omega)), pg_I hj (by omega), pg_I hj (by omega), nI_clamp (by omega), nI_1]
    · show upd h j (f j) i = f i
      rw [pu_u]
      by_cases e : i = j
      · rw [if_pos e, e]
      · rw [if_neg e]; exact h2 i (by omega)
  · intro a ha
    obtain ⟨x, h⟩ := a
    obtain ⟨rfl, h2⟩ := ha
    refine ⟨some h, fun k => ?_, h, rfl, h2⟩
    show bX9_copy N f k (nI N) h = _
    unfold bX9_copy
    rw [if_pos (show Int32.ofNat N ≤ nI N from nI_le (Nat.le_refl N) (by omega))]
/-- the reference's house -/
def mH (s : lm_St) (n b db : Nat) (kd wo lo si : Nat → Nat) : Prop := s.1 2 = nI n ∧ s.1 3 = nI db ∧ ∀ i, i < n → s.2.1 1 i = nI (kd i) ∧ s.2.1 2 i = nI (wo i) ∧ s.2.1 3 i = nI (lo i) ∧ s.2.1 4 i = nI (si i) ∧ s.2.1 5 i = if b.testBit i then 1 else 0
theorem mH.mF {s t : lm_St} {n b db : Nat} {kd wo lo si : Nat → Nat} (h : mH s n b db kd wo lo si) (f : mF s t) : mH t n b db kd wo lo si := by
  obtain ⟨h0, h1, h2⟩ := h
  refine ⟨(f.1 2 (by decide) (by decide) (by decide)).trans h0, (f.1 3 (by decide) (by decide) (by decide)).trans h1, fun i hi => ?_⟩
  rw [f.2.1 1 (by decide) (by decide) (by decide) (by decide), f.2.1 2 (by decide) (by decide) (by decide) (by decide), f.2.1 3 (by decide) (by decide) (by decide) (by decide), f.2.1 4 (by decide) (by decide) (by decide) (by decide), f.2.1 5 (by decide) (by decide) (by decide) (by decide)]
  exact h2 i hi
theorem pm_begin {s : lm_St} {n b db : Nat} {kd wo lo si : Nat → Nat} (hn : n ≤ 7) (h : mH s n b db kd wo lo si) : ∃ t, fX9_begin s = some t ∧ mF s t ∧ mT t n b db kd wo lo si := by
  obtain ⟨h0, h1, h2⟩ := h
  obtain ⟨w1, e1, c1⟩ := pm_copy (N := 7) (f := s.2.1 3) (g := s.2.1 6) (by decide)
  obtain ⟨w2, e2, c2⟩ := pm_copy (N := 7) (f := s.2.1 4) (g := s.2.1 7) (by decide)
  obtain ⟨w3, e3, c3⟩ := pm_copy (N := 7) (f := s.2.1 5) (g := s.2.1 8) (by decide)
  unfold fX9_begin
  rw [e1]
  simp only [Option.bind_some]
  rw [e2]
  simp only [Option.bind_some]
  rw [e3]
  refine ⟨_, rfl, ((mF.sA s w1 (Or.inl rfl)).tr ((mF.sA _ w2 (Or.inr (Or.inl rfl))).tr (mF.sA _ w3 (Or.inr (Or.inr (Or.inl rfl)))))).tr (mF.sF _ _ (Or.inr (Or.inl rfl))), h0, h1, fun i hi => ?_⟩
  obtain ⟨a1, a2, a3, a4, a5⟩ := h2 i hi
  exact ⟨a1, a2, (c1 i (by omega)).trans a3, (c2 i (by omega)).trans a4, (c3 i (by omega)).trans a5⟩
/-- touched, a day, taken -/
def pTl (lo : Nat → Nat) (k : Nat) : Nat → Nat := fun i => if i = k then min (lo k + 1) 20 else lo i
def pTs (si : Nat → Nat) (k : Nat) : Nat → Nat := fun i => if i = k then 0 else si i
def pDs (b : Nat) (si : Nat → Nat) : Nat → Nat := fun i => if b.testBit i then si i else min (si i + 1) 20
theorem pm_touch {s : lm_St} {n b db : Nat} {kd wo lo si : Nat → Nat} (h : mT s n b db kd wo lo si) (w : pW n b db kd wo lo) {k : Nat} (hk : k < n) : ∃ t, fX9_touchThen s (nI k) = some t ∧ mF s t ∧ mT t n b db kd wo (pTl lo k) (pTs si k) := by
  obtain ⟨h0, h1, h2⟩ := h
  have hn := w.1
  have hlo := (w.2.2.2 k hk).2.2.2
  obtain ⟨a1, a2, a3, a4, a5⟩ := h2 k hk
  have key : ∀ v : Int32, nI (lo k) + v = nI (min (lo k + 1) 20) → ∃ t, jX9_touchThen_23 (nI k) v (nI (lo k)) (nI k) s = some t ∧ mF s t ∧ mT t n b db kd wo (pTl lo k) (pTs si k) := by
    intro v hv
    unfold jX9_touchThen_23
    rw [pg_I (by omega) (by decide), pg_I (by omega) (by decide), nI_clamp (by omega), hv]
    refine ⟨_, rfl, (mF.sA s _ (Or.inl rfl)).tr (mF.sA _ _ (Or.inr (Or.inl rfl))), h0, h1, fun i hi => ?_⟩
    obtain ⟨b1, b2, b3, b4, b5⟩ := h2 i hi
    refine ⟨b1, b2, ?_, ?_, b5⟩
    · show upd (s.2.1 6) k (nI (min (lo k + 1) 20)) i = nI (pTl lo k i)
      rw [pu_u, pTl]
      by_cases e : i = k
      · rw [if_pos e, if_pos e]
      · rw [if_neg e, if_neg e, b3]
    · show upd (s.2.1 7) k 0 i = nI (pTs si k i)
      rw [pu_u, pTs]
      by_cases e : i = k
      · rw [if_pos e, if_pos e]; rfl
      · rw [if_neg e, if_neg e, b4]
  unfold fX9_touchThen
  rw [pg_I (by omega) (by decide), pg_I (by omega) (by decide), nI_clamp (by omega), a3]
  by_cases hl : 20 ≤ lo k
  · rw [if_pos (show (20 : Int32) ≤ nI (lo k) from (nI_leI (a := 20) (by decide) (by omega)).mpr hl)]
    exact key 0 (by rw [Int32.add_zero, Nat.min_eq_right (by omega)]; congr 1; omega)
  · rw [if_neg (show ¬ (20 : Int32) ≤ nI (lo k) from fun q => hl ((nI_leI (a := 20) (by decide) (by omega)).mp q))]
    exact key 1 (by rw [nI_1, Nat.min_eq_left (by omega)])
theorem pm_day {s : lm_St} {n b db : Nat} {kd wo lo si : Nat → Nat} (h : mT s n b db kd wo lo si) (hn : n ≤ 7) (hs : ∀ i, i < n → si i ≤ 20) : ∃ t, fX9_dayThen s = some t ∧ mF s t ∧ mT t n b db kd wo lo (pDs b si) := by
  obtain ⟨h0, h1, h2⟩ := h
  unfold fX9_dayThen
  refine pl_inv0 (P := fun o => ∃ t : lm_St, o = some t ∧ mF s t ∧ mT t n b db kd wo lo (pDs b si)) (fun (j : Nat) (a : Int32 × lm_St) => a.1 = nI j ∧ mF s a.2 ∧ a.2.1 2 = nI n ∧ a.2.1 7 = nI db ∧ ∀ i, i < n → a.2.2.1 1 i = nI (kd i) ∧ a.2.2.1 2 i = nI (wo i) ∧ a.2.2.1 6 i = nI (lo i) ∧ (a.2.2.1 7 i = nI (if i < j then pDs b si i else si i)) ∧ a.2.2.1 8 i = if b.testBit i then 1 else 0) n ⟨rfl, mF.rf s, h0, h1, fun i hi => ?_⟩ ?_ ?_ (by omega)
  · obtain ⟨a1, a2, a3, a4, a5⟩ := h2 i hi
    exact ⟨a1, a2, a3, by rw [if_neg (Nat.not_lt_zero i)]; exact a4, a5⟩
  · intro j a hj ha
    obtain ⟨x, u⟩ := a
    obtain ⟨rfl, hf, g0, g1, g2⟩ := ha
    dsimp only at hf g0 g1 g2
    obtain ⟨a1, a2, a3, a4, a5⟩ := g2 j hj
    rw [if_neg (Nat.lt_irrefl j)] at a4
    have key : ∀ v : Int32, nI (si j) + v = nI (pDs b si j) → ∃ a', (∀ k : Int32 × lm_St → Option lm_St, jX9_dayThen_42 k (nI j) v (nI (si j)) (nI j) u = k a') ∧ a'.1 = nI (j + 1) ∧ mF s a'.2 ∧ a'.2.1 2 = nI n ∧ a'.2.1 7 = nI db ∧ ∀ i, i < n → a'.2.2.1 1 i = nI (kd i) ∧ a'.2.2.1 2 i = nI (wo i) ∧ a'.2.2.1 6 i = nI (lo i) ∧ (a'.2.2.1 7 i = nI (if i < j + 1 then pDs b si i else si i)) ∧ a'.2.2.1 8 i = if b.testBit i then 1 else 0 := by
      intro v hv
      refine ⟨(nI (j + 1), lm_sA u 7 (upd (u.2.1 7) j (nI (pDs b si j)))), fun k => ?_, rfl, hf.tr (mF.sA u _ (Or.inr (Or.inl rfl))), g0, g1, fun i hi => ?_⟩
      · unfold jX9_dayThen_42
        rw [pg_I (by omega) (by decide), nI_clamp (by omega), hv, nI_1]
      · obtain ⟨b1, b2, b3, b4, b5⟩ := g2 i hi
        refine ⟨b1, b2, b3, ?_, b5⟩
        show upd (u.2.1 7) j (nI (pDs b si j)) i = _
        rw [pu_u]
        by_cases e : i = j
        · rw [if_pos e, if_pos (by omega), e]
        · rw [if_neg e, b4]
          by_cases e2 : i < j
          · rw [if_pos e2, if_pos (by omega)]
          · rw [if_neg e2, if_neg (by omega)]
    have hsj := hs j hj
    show ∃ a', (∀ k : Int32 × lm_St → Option lm_St, bX9_dayThen_2 k (nI j) u = k a') ∧ _
    cases ht : b.testBit j with
    | true =>
      obtain ⟨a', q1, q2⟩ := key 0 (by rw [Int32.add_zero, pDs, if_pos ht])
      refine ⟨a', fun k => ?_, q2⟩
      unfold bX9_dayThen_2 jX9_dayThen_41
      rw [g0, if_neg (nI_ge hj (by omega)), pg_I (by omega) (by decide), pg_I (by omega) (by decide), nI_clamp (by omega), a5, ht, if_neg (by decide), a4]
      exact q1 k
    | false =>
      by_cases hl : 20 ≤ si j
      · obtain ⟨a', q1, q2⟩ := key 0 (by rw [Int32.add_zero, pDs, ht, if_neg (by decide), Nat.min_eq_right (by omega)]; congr 1; omega)
        refine ⟨a', fun k => ?_, q2⟩
        unfold bX9_dayThen_2 jX9_dayThen_41
        rw [g0, if_neg (nI_ge hj (by omega)), pg_I (by omega) (by decide), pg_I (by omega) (by decide), nI_clamp (by omega), a5, ht, if_pos (by decide), pg_I (by omega) (by decide), a4, if_pos (show (20 : Int32) ≤ nI (si j) from (nI_leI (a := 20) (by decide) (by omega)).mpr hl)]
        exact q1 k
      · obtain ⟨a', q1, q2⟩ := key 1 (by rw [nI_1, pDs, ht, if_neg (by decide), Nat.min_eq_left (by omega)])
        refine ⟨a', fun k => ?_, q2⟩
        unfold bX9_dayThen_2
        rw [g0, if_neg (nI_ge hj (by omega)), pg_I (by omega) (by decide), pg_I (by omega) (by decide), nI_clamp (by omega), a5, ht, if_pos (by decide), pg_I (by omega) (by decide), a4, if_neg (show ¬ (20 : Int32) ≤ nI (si j) from fun q => hl ((nI_leI (a := 20) (by decide) (by omega)).mp q))]
        exact q1 k
  · intro a ha
    obtain ⟨x, u⟩ := a
    obtain ⟨rfl, hf, g0, g1, g2⟩ := ha
    dsimp only at hf g0 g1 g2
    refine ⟨some u, fun k => ?_, u, rfl, hf, g0, g1, fun i hi => ?_⟩
    · show bX9_dayThen_2 k (nI n) u = _
      unfold bX9_dayThen_2
      rw [g0, if_pos (nI_le (Nat.le_refl n) (by omega))]
    · have := g2 i hi
      rw [if_pos hi] at this
      exact this
theorem pb_or {b k : Nat} (i : Nat) : (b ||| 2 ^ k).testBit i = (b.testBit i || decide (k = i)) := by
  rw [Nat.testBit_or, Nat.testBit_two_pow]
theorem pm_take {s : lm_St} {n b db : Nat} {kd wo lo si : Nat → Nat} (h : mT s n b db kd wo lo si) (w : pW n b db kd wo lo) (hs : ∀ i, i < n → si i ≤ 20) : (pE (if db = 0 then none else pN (fun i => pM (kd i) (lo i) (si i)) b n) = -1 ∧ fX9_takeThen s = some (0, s)) ∨ ∃ j, db ≠ 0 ∧ pN (fun i => pM (kd i) (lo i) (si i)) b n = some j ∧ ∃ t, fX9_takeThen s = some (nI (wo j), t) ∧ mF s t ∧ mT t n (b ||| 2 ^ j) (db - wo j) kd wo lo si := by
  have hnx := pm_next h w hs
  have hn := w.1
  obtain ⟨h0, h1, h2⟩ := id h
  unfold fX9_takeThen
  rw [hnx]
  simp only [Option.bind_some, lm_un2]
  cases ho : (if db = 0 then none else pN (fun i => pM (kd i) (lo i) (si i)) b n) with
  | none => exact Or.inl ⟨rfl, by rw [if_pos (by rfl)]⟩
  | some j =>
    have hd : db ≠ 0 := fun e => by rw [if_pos e] at ho; cases ho
    rw [if_neg hd] at ho
    have hj := pN_lt ho
    have hwj := w.2.2.2 j hj.1
    refine Or.inr ⟨j, hd, ho, ?_⟩
    obtain ⟨a1, a2, a3, a4, a5⟩ := h2 j hj.1
    have key : ∀ y : Int32, y = nI (db - wo j) → ∃ t, jX9_takeThen_48 (nI j) y (lm_sA s 8 (upd (s.2.1 8) j 1)) = some (nI (wo j), t) ∧ mF s t ∧ mT t n (b ||| 2 ^ j) (db - wo j) kd wo lo si := by
      intro y hy
      unfold jX9_takeThen_48
      rw [pg_I (by omega) (by decide), nI_clamp (by omega)]
      refine ⟨lm_sF (lm_sA s 8 (upd (s.2.1 8) j 1)) 7 y, by rw [show (lm_sA s 8 (upd (s.2.1 8) j 1)).2.1 2 j = s.2.1 2 j from rfl, a2], (mF.sA s _ (Or.inr (Or.inr (Or.inl rfl)))).tr (mF.sF _ _ (Or.inr (Or.inl rfl))), h0, hy, fun i hi => ?_⟩
      obtain ⟨b1, b2, b3, b4, b5⟩ := h2 i hi
      refine ⟨b1, b2, b3, b4, ?_⟩
      show upd (s.2.1 8) j 1 i = _
      rw [pu_u, pb_or]
      by_cases e : i = j
      · rw [if_pos e, e]; simp
      · rw [if_neg e, b5]
        have : ¬ j = i := fun q => e q.symm
        simp [this]
    have hne : ¬ pE (some j) = (-1 : Int32) := pE_neg (by omega)
    rw [if_neg hne, show pE (some j) = nI j from rfl, pg_I (by omega) (by decide), pg_I (by omega) (by decide), nI_clamp (by omega), h1, a2]
    by_cases hle : db ≤ wo j
    · rw [if_pos (nI_le hle (by omega))]
      exact key 0 (by rw [show db - wo j = 0 by omega]; rfl)
    · rw [if_neg (nI_ge (by omega) (by have := w.2.2.1; omega)), pg_I (by omega) (by decide)]
      exact key _ (pk_sub (by omega))
