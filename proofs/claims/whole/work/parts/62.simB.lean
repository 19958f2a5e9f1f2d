/-! THE CALLS: what is done. -/
def mW (s u : lm_St) : Prop := (∀ k, k = 0 ∨ k = 2 ∨ k = 6 ∨ k = 8 ∨ k = 9 ∨ 11 ≤ k → u.1 k = s.1 k) ∧ ∀ k, k = 0 ∨ 10 ≤ k → u.2.1 k = s.2.1 k
theorem mW.rel {c n : Nat} {g g' : Nat → lm_St} {s u : lm_St} (f : mW s u) (h1 : oP (g 1) s) (h2 : oS (g 4) s) (h4 : oK c (g 0) (g 3) (g 5) s n) (h3 : oH (g' 2) u n) (e0 : g' 0 = g 0) (e1 : g' 1 = g 1) (e3 : g' 3 = g 3) (e4 : g' 4 = g 4) (e5 : g' 5 = g 5) : Rel (c + 1) g' u := by
  refine ⟨h1.fr e1 (f.1 0 (by omega)) (f.2 0 (by omega)), ?_, n, h3, h4.fr e0 e3 e5 (f.1 2 (by omega)) (f.1 6 (by omega)) (f.1 8 (by omega)) (f.1 11 (by omega)) ⟨fun k a b => f.1 k (by omega), fun k a b => f.2 k (by omega)⟩⟩
  rw [e4]
  exact h2.fr rfl rfl rfl rfl (f.1 9 (by omega)) (f.2 10 (by omega))
theorem mF.w {s t : lm_St} (f : mF s t) : mW s t := ⟨fun k h => f.1 k (by omega) (by omega) (by omega), fun k h => f.2.1 k (by omega) (by omega) (by omega) (by omega)⟩
theorem mW.tr {s t u : lm_St} (f : mW s t) (g : mW t u) : mW s u := ⟨fun k h => (g.1 k h).trans (f.1 k h), fun k h => (g.2 k h).trans (f.2 k h)⟩
theorem mW.sF (s : lm_St) {k : Nat} (v : Int32) (h : ¬ (k = 0 ∨ k = 2 ∨ k = 6 ∨ k = 8 ∨ k = 9 ∨ 11 ≤ k)) : mW s (lm_sF s k v) := ⟨fun j hj => by rw [pu_1, if_neg (fun z => by subst z; exact h hj)], fun _ _ => rfl⟩
theorem pm_keep {t : lm_St} {n b db : Nat} {kd wo lo si : Nat → Nat} (hn : n ≤ 7) (h : mT t n b db kd wo lo si) : ∃ u, fX9_keep t = some u ∧ mH u n b db kd wo lo si ∧ mT u n b db kd wo lo si ∧ mW t u ∧ u.1 4 = t.1 4 ∧ u.1 5 = t.1 5 := by
  obtain ⟨h0, h1, h2⟩ := h
  unfold fX9_keep
  obtain ⟨f1, e1, g1⟩ := pm_copy (N := 7) (f := t.2.1 6) (g := t.2.1 3) (by decide)
  obtain ⟨f2, e2, g2⟩ := pm_copy (N := 7) (f := t.2.1 7) (g := t.2.1 4) (by decide)
  obtain ⟨f3, e3, g3⟩ := pm_copy (N := 7) (f := t.2.1 8) (g := t.2.1 5) (by decide)
  rw [e1, e2, e3]
  refine ⟨_, rfl, ⟨h0, h1, fun i hi => ?_⟩, ⟨h0, h1, fun i hi => ?_⟩, ⟨fun k hk => ?_, fun k hk => ?_⟩, rfl, rfl⟩
  · obtain ⟨a1, a2, a3, a4, a5⟩ := h2 i hi
    exact ⟨a1, a2, (g1 i (by omega)).trans a3, (g2 i (by omega)).trans a4, (g3 i (by omega)).trans a5⟩
  · exact h2 i hi
  · rw [pu_1, if_neg (by omega)]; rfl
  · show (lm_sA (lm_sA (lm_sA t 3 _) 4 _) 5 _).2.1 k = _
    rw [pu_4, if_neg (by omega), pu_4, if_neg (by omega), pu_4, if_neg (by omega)]
theorem pc_passDay {s : lm_St} {n b db : Nat} {kd wo lo si : Nat → Nat} (h : cH s n b db kd wo lo si) (w : pW n b db kd wo lo) (hs : ∀ i, i < n → si i ≤ 20) : ∃ t, fX3_passDay s = some t ∧ cH t n b db kd wo lo (pDs b si) ∧ t.1 3 = s.1 3 + 1 ∧ t.1 4 = s.1 4 := by
  unfold fX3_passDay
  obtain ⟨w1, w2, w3, w4⟩ := w
  obtain ⟨h0, h1, h2, h3⟩ := h
  refine pl_inv0 (P := fun o => ∃ t : lm_St, o = some t ∧ cH t n b db kd wo lo (pDs b si) ∧ t.1 3 = s.1 3 + 1 ∧ t.1 4 = s.1 4) (fun (j : Nat) (a : Int32 × lm_St) => a.1 = nI j ∧ a.2.1 = (lm_sF s 3 (s.1 3 + 1)).1 ∧ cH a.2 n b db kd wo lo (fun i => if i < j then pDs b si i else si i)) n ⟨rfl, rfl, h0, h1, h2, fun i hi => ?_⟩ ?_ ?_ (by omega)
  · dsimp only
    rw [if_neg (Nat.not_lt_zero i)]; exact h3 i hi
  · intro j a hj ha
    obtain ⟨x, u⟩ := a
    obtain ⟨rfl, g1, g2⟩ := ha
    dsimp only at g1 g2
    have hsj := hs j hj
    have hsb := pc_sinceH g2 w1 w2 hj (d := 1) (by rw [if_neg (Nat.lt_irrefl j)]; omega)
    refine ⟨(nI (j + 1), lm_sA u 3 (upd (u.2.1 3) j (nI (pDs b si j)))), fun k => ?_, rfl, g1, g2.1, g2.2.1, g2.2.2.1, fun i hi => ?_⟩
    · show bX3_passDay_12 k (nI j) u = _
      unfold bX3_passDay_12
      rw [g2.1, if_neg (nI_ge hj (by omega)), show (1 : Int32) = nI 1 from rfl, hsb]
      simp only [Option.bind_some, lm_un2]
      rw [pg_I (by omega) (by decide), nI_clamp (n := j) (by omega), nI_add]
      unfold pEf pDs
      dsimp only
      rw [if_neg (Nat.lt_irrefl j)]
    · obtain ⟨a1, a2, a3, a4⟩ := g2.2.2.2 i hi
      refine ⟨a1, a2, a3, ?_⟩
      show upd (u.2.1 3) j (nI (pDs b si j)) i = _
      rw [pu_u]
      dsimp only
      by_cases e : i = j
      · rw [if_pos e, if_pos (by omega), e]
      · rw [if_neg e, a4]
        dsimp only
        by_cases e2 : i < j
        · rw [if_pos e2, if_pos (by omega)]
        · rw [if_neg e2, if_neg (by omega)]
  · intro a ha
    obtain ⟨x, u⟩ := a
    obtain ⟨rfl, g1, g2⟩ := ha
    dsimp only at g1 g2
    refine ⟨some u, fun k => ?_, u, rfl, ⟨g2.1, g2.2.1, g2.2.2.1, fun i hi => ?_⟩, by rw [g1]; rfl, by rw [g1]; rfl⟩
    · show bX3_passDay_12 k (nI n) u = _
      unfold bX3_passDay_12
      rw [g2.1, if_pos (nI_le (Nat.le_refl n) (by omega))]
    · have := g2.2.2.2 i hi
      dsimp only at this
      rw [if_pos hi] at this
      exact this
theorem pTs_le {si : Nat → Nat} {k i : Nat} (h : si i ≤ 20) : pTs si k i ≤ 20 := by
  unfold pTs; split <;> omega
theorem pDs_le {b : Nat} {si : Nat → Nat} {i : Nat} (h : si i ≤ 20) : pDs b si i ≤ 20 := by
  unfold pDs; split <;> omega
theorem pc_lookH {s : lm_St} {n b db : Nat} {kd wo lo si : Nat → Nat} (h : cH s n b db kd wo lo si) (w : pW n b db kd wo lo) {k : Nat} (hk : k < n) (ht : b.testBit k = false) : ∃ t, fX3_lookAt s (nI k) (0 : Int32) = some t ∧ cH t n b db kd wo (pTl lo k) (pTs si k) ∧ t.1 = s.1 := by
  obtain ⟨t, e, h1, h2, h3⟩ := pc_look h.cT w hk
  refine ⟨t, e, ⟨h1.1, h1.2.1, h1.2.2.1, fun i hi => ?_⟩, h3⟩
  obtain ⟨a1, a2, a3⟩ := h1.2.2.2.1 i hi
  refine ⟨a1, a2, a3, ?_⟩
  by_cases c : i = k
  · rw [c, h1.2.2.2.2 k hk ht, pI_s0]
  · rw [h2 i c, (h.2.2.2 i hi).2.2.2]
    unfold pTs
    rw [if_neg c]
theorem sim_touch {c : Nat} {g : Nat → lm_St} {s : lm_St} (h : Rel c g s) (x : Int32) : oSim c (fX8_touch g x) (fX9_touch s x) := by
  obtain ⟨r1, r2, n, ⟨b, db, dy, tc, kd, wo, lo, si, X1, X2, X3, X4, X5, X6, X7, X8, X9, X10, X11⟩, r4⟩ := id h
  have hz : ∀ r : Int32, oSim c (some (r, va_up g 2 (g 2))) (some (r, s)) := fun r => ⟨r, _, s, rfl, rfl, (mF.rf s).rel h rfl rfl rfl rfl rfl rfl⟩
  unfold fX8_touch fX9_touch
  have hn := X1.1
  have hb := X1.2.1
  rcases oThing X6.1 X9.1 X1.1 x with ⟨q1, q2⟩ | ⟨k, hk, hx, q1, q2⟩
  · rw [q1, q2]; exact hz _
  · rw [q1, q2]
    simp only [Option.bind_some, lm_un2]
    rw [if_neg p10, if_neg p10, hx, X6.2.1, pb_isIn (by omega) (by omega), pg_I (by omega) (by decide), nI_clamp (n := k) (by omega), (X9.2.2 k hk).2.2.2.2]
    cases ht : b.testBit k with
    | true => exact hz _
    | false =>
      simp only [Option.bind_some, Bool.false_eq_true, if_false, if_true]
      rw [X8, X11, if_neg (show ¬ (0 : Int32) = 1 by decide)]
      by_cases d : tc = 999
      · subst d
        rw [if_neg (show ¬ nI 999 < (999 : Int32) by decide), if_pos (show nI 999 = (999 : Int32) from rfl)]
        exact hz _
      · rw [if_pos (show nI tc < (999 : Int32) from nI_lt (b := 999) (by omega) (by decide)), if_neg (show ¬ nI tc = (999 : Int32) from fun z => d ((nI_eq (b := 999) (by omega) (by decide)).mp z))]
        obtain ⟨t6, l1, l2, l3⟩ := pc_lookH X6 X1 hk ht
        obtain ⟨v1, m1, m2, m3⟩ := pm_begin hn X9
        obtain ⟨v2, m4, m5, m6⟩ := pm_touch m3 X1 hk
        obtain ⟨v3, m7, m8, m9, m10, m11, m12⟩ := pm_keep hn m6
        have w' := X1.touch k
        have hs' : ∀ i, i < n → pTs si k i ≤ 20 := fun i hi => pTs_le (X3 i hi)
        have l4 := pc_missedBehind (s := lm_sF t6 4 (t6.1 4 + 1)) (a := 0) l2.cT w' hk ht (Nat.le_refl 0) (by have := hs' k hk; omega)
        have m13 := pm_missedThen (s := lm_sF v3 5 (v3.1 5 + 1)) m9 w' hk (hs' k hk)
        rw [l1, m1]
        simp only [Option.bind_some]
        rw [m4]
        simp only [Option.bind_some]
        rw [m7]
        simp only [Option.bind_some]
        rw [show (0 : Int32) = nI 0 from rfl, l4, m13]
        simp only [Option.bind_some, lm_un2]
        have em : min (pTs si k k + (0 - 0)) 20 = pTs si k k := by have := hs' k hk; omega
        rw [em]
        have h5 : v3.1 5 = nI tc := by rw [m12, m5.1 5 (by decide) (by decide) (by decide), m2.1 5 (by decide) (by decide) (by decide), X11]
        have h4 : v3.1 4 = nI dy := by rw [m11, m5.1 4 (by decide) (by decide) (by decide), m2.1 4 (by decide) (by decide) (by decide), X10]
        have t4 : t6.1 4 = nI tc := by rw [l3, X8]
        have t3 : t6.1 3 = nI dy := by rw [l3, X7]
        rw [t4, h5, nI_1 tc]
        refine ⟨_, _, _, rfl, rfl, mW.rel (((m2.w.tr m5.w).tr m10).tr (mW.sF v3 (k := 5) _ (by omega))) r1 r2 r4 ⟨b, db, dy, tc + 1, kd, wo, pTl lo k, pTs si k, w', X2, hs', X4, by omega, l2, t3, rfl, m8, h4, rfl⟩ rfl rfl rfl rfl rfl⟩
theorem sim_day {c : Nat} {g : Nat → lm_St} {s : lm_St} (h : Rel c g s) : oSim c (fX8_day g) (fX9_day s) := by
  obtain ⟨r1, r2, n, ⟨b, db, dy, tc, kd, wo, lo, si, X1, X2, X3, X4, X5, X6, X7, X8, X9, X10, X11⟩, r4⟩ := id h
  have hz : ∀ r : Int32, oSim c (some (r, va_up g 2 (g 2))) (some (r, s)) := fun r => ⟨r, _, s, rfl, rfl, (mF.rf s).rel h rfl rfl rfl rfl rfl rfl⟩
  unfold fX8_day fX9_day
  have hn := X1.1
  rcases oNone X6.1 X9.1 X1.1 with ⟨q0, q1, q2⟩ | ⟨q0, q1, q2⟩
  · rw [q1, q2]; exact hz _
  · rw [q1, q2]
    simp only [Option.bind_some, lm_un2]
    rw [if_pos trivial, if_pos trivial, X7, X10]
    by_cases d : dy = 999
    · subst d
      rw [if_neg (show ¬ nI 999 < (999 : Int32) by decide), if_pos (show nI 999 = (999 : Int32) from rfl)]
      exact hz _
    · rw [if_pos (show nI dy < (999 : Int32) from nI_lt (b := 999) (by omega) (by decide)), if_neg (show ¬ nI dy = (999 : Int32) from fun z => d ((nI_eq (b := 999) (by omega) (by decide)).mp z))]
      obtain ⟨t6, l1, l2, l3, l4⟩ := pc_passDay X6 X1 X3
      obtain ⟨v1, m1, m2, m3⟩ := pm_begin hn X9
      obtain ⟨v2, m4, m5, m6⟩ := pm_day m3 hn X3
      obtain ⟨v3, m7, m8, m9, m10, m11, m12⟩ := pm_keep hn m6
      rw [l1, m1]
      simp only [Option.bind_some]
      rw [m4]
      simp only [Option.bind_some]
      rw [m7]
      simp only [Option.bind_some]
      have h5 : v3.1 5 = nI tc := by rw [m12, m5.1 5 (by decide) (by decide) (by decide), m2.1 5 (by decide) (by decide) (by decide), X11]
      have h4 : v3.1 4 = nI dy := by rw [m11, m5.1 4 (by decide) (by decide) (by decide), m2.1 4 (by decide) (by decide) (by decide), X10]
      have t3 : t6.1 3 = nI (dy + 1) := by rw [l3, X7, nI_1 dy]
      rw [h4, nI_1 dy, t3]
      exact ⟨_, _, _, rfl, rfl, mW.rel (((m2.w.tr m5.w).tr m10).tr (mW.sF v3 (k := 4) _ (by omega))) r1 r2 r4 ⟨b, db, dy + 1, tc, kd, wo, lo, pDs b si, X1, X2, fun i hi => pDs_le (X3 i hi), by omega, X5, l2, t3, l4.trans X8, m8, rfl, h5⟩ rfl rfl rfl rfl rfl⟩
theorem sim_take {c : Nat} {g : Nat → lm_St} {s : lm_St} (h : Rel c g s) : oSim c (fX8_take g) (fX9_take s) := by
  obtain ⟨r1, r2, n, ⟨b, db, dy, tc, kd, wo, lo, si, X1, X2, X3, X4, X5, X6, X7, X8, X9, X10, X11⟩, r4⟩ := id h
  have hn := X1.1
  obtain ⟨v1, m1, m2, m3⟩ := pm_begin hn X9
  have m4 := pm_next m3 X1 X3
  have l1 := pc_next X6.cT X1 (a := 0) (Nat.le_refl 0) (fun i hi => by have := X3 i hi; omega)
  have e : (if db = 0 then none else pN (fun i => pM (kd i) (lo i) (min (si i + (0 - 0)) 20)) b n) = (if db = 0 then none else pN (fun i => pM (kd i) (lo i) (si i)) b n) := by
    by_cases d : db = 0
    · rw [if_pos d, if_pos d]
    · rw [if_neg d, if_neg d]
      have : ∀ m, m ≤ n → pN (fun i => pM (kd i) (lo i) (min (si i + (0 - 0)) 20)) b m = pN (fun i => pM (kd i) (lo i) (si i)) b m := by
        intro m
        induction m with
        | zero => intro _; rfl
        | succ m ih =>
          intro hm
          unfold pN
          rw [ih (by omega)]
          cases b.testBit m with
          | true => rfl
          | false =>
            rw [if_neg (by decide), if_neg (by decide)]
            cases hq : pN (fun i => pM (kd i) (lo i) (si i)) b m with
            | none => rfl
            | some j =>
              have hj := (pN_lt hq).1
              have s1 := X3 m (by omega)
              have s2 := X3 j (by omega)
              dsimp only
              rw [show min (si m + (0 - 0)) 20 = si m by omega, show min (si j + (0 - 0)) 20 = si j by omega]
      exact this n (Nat.le_refl n)
  rw [e] at l1
  unfold fX8_take fX9_take
  rw [m1]
  simp only [Option.bind_some]
  rw [m4]
  simp only [Option.bind_some, lm_un2]
  rcases oNone X6.1 X9.1 X1.1 with ⟨q0, q1, q2⟩ | ⟨q0, q1, q2⟩
  · rw [q1]
    simp only [Option.bind_some, lm_un2]
    rw [if_neg p10]
    have hq : (if db = 0 then none else pN (fun i => pM (kd i) (lo i) (si i)) b n) = none := by
      subst q0
      by_cases d : db = 0
      · rw [if_pos d]
      · rw [if_neg d]; rfl
    rw [hq, show pE none = -1 from rfl, if_pos rfl]
    exact ⟨_, _, v1, rfl, rfl, m2.rel h rfl rfl rfl rfl rfl rfl⟩
  · rw [q1]
    simp only [Option.bind_some, lm_un2]
    rw [if_pos trivial, show (0 : Int32) = nI 0 from rfl, l1]
    simp only [Option.bind_some, lm_un2]
    cases hq : (if db = 0 then none else pN (fun i => pM (kd i) (lo i) (si i)) b n) with
    | none =>
      rw [show pE none = -1 from rfl, if_pos rfl]
      exact ⟨_, _, v1, rfl, rfl, m2.rel h rfl rfl rfl rfl rfl rfl⟩
    | some j =>
      have hdb : db ≠ 0 := fun z => by rw [if_pos z] at hq; cases hq
      rw [if_neg hdb] at hq
      obtain ⟨hj, hjb⟩ := pN_lt hq
      unfold jX8_take_22
      show oSim c (if nI j = -1 then _ else _) (if nI j = -1 then _ else _)
      rw [if_neg (pE_neg (by omega)), if_neg (pE_neg (by omega))]
      obtain ⟨t2, l3, l4, l5, l6⟩ := pc_away X6.cT X1 hj
      rcases pm_take m3 X1 X3 with ⟨k1, _⟩ | ⟨j', _, k2, v2, k3, k4, k5⟩
      · rw [if_neg hdb, hq] at k1
        exact absurd k1 (pE_neg (by omega))
      · rw [hq] at k2
        cases k2
        obtain ⟨v3, m7, m8, m9, m10, m11, m12⟩ := pm_keep hn k5
        rw [k3]
        simp only [Option.bind_some, lm_un2]
        rw [m7]
        show oSim c ((fX3_haveAway (g 2) (nI j)).bind _) _
        rw [l3]
        have h5 : v3.1 5 = nI tc := by rw [m12, k4.1 5 (by decide) (by decide) (by decide), m2.1 5 (by decide) (by decide) (by decide), X11]
        have h4 : v3.1 4 = nI dy := by rw [m11, k4.1 4 (by decide) (by decide) (by decide), m2.1 4 (by decide) (by decide) (by decide), X10]
        refine ⟨_, _, _, rfl, rfl, mW.rel ((m2.w.tr k4.w).tr m10) r1 r2 r4 ⟨b ||| 2 ^ j, db - wo j, dy, tc, kd, wo, lo, si, X1.take hj, pZ_lt hn X2 hj, X3, X4, X5, ⟨l4.1, l4.2.1, l4.2.2.1, fun i hi => ?_⟩, (l6 3 (by decide) (by decide)).trans X7, (l6 4 (by decide) (by decide)).trans X8, m8, h4, h5⟩ rfl rfl rfl rfl rfl⟩
        have := X6.2.2.2 i hi
        show t2.2.1 0 i = _ ∧ t2.2.1 1 i = _ ∧ t2.2.1 2 i = _ ∧ t2.2.1 3 i = _
        rw [l5]
        exact this
