/-! THE CALLS: siege, makeUp, odds, months. -/
theorem oSA (y : Int32) : (fX8_isSiegeAnswer y = some 0 ∧ fX9_in y.toInt64 (0 : Int64) (1 : Int64) = some 0 ∧ fX9_in y.toInt64 (10 : Int64) (13 : Int64) = some 0) ∨ ∃ w, y = nI w ∧ fX8_isSiegeAnswer y = some 1 ∧ ((w < 2 ∧ fX9_in y.toInt64 (0 : Int64) (1 : Int64) = some 1) ∨ (10 ≤ w ∧ w < 14 ∧ fX9_in y.toInt64 (0 : Int64) (1 : Int64) = some 0 ∧ fX9_in y.toInt64 (10 : Int64) (13 : Int64) = some 1)) := by
  have key : (y = nI 0 ∨ y = nI 1) ∨ (¬ y = 0 ∧ ¬ y = 1 ∧ fX9_in y.toInt64 (0 : Int64) (1 : Int64) = some 0) := by
    rcases pR (lo := 0) (hi := 1) (hi1 := 2) (lo' := 0) (hi' := 1) 0 1 rfl rfl rfl rfl rfl (by decide) (by decide) y with ⟨h1, h2⟩ | ⟨h1, h2, h3, h4, h5, h6⟩ | ⟨j, h1, h2, h3, _⟩
    · refine Or.inr ⟨fun z => ?_, fun z => ?_, h2⟩
      · rw [z] at h1; exact absurd h1 (by decide)
      · rw [z] at h1; exact absurd h1 (by decide)
    · refine Or.inr ⟨fun z => ?_, fun z => ?_, h6⟩
      · rw [z] at h2; exact absurd h2 (by decide)
      · rw [z] at h2; exact absurd h2 (by decide)
    · rcases (show j = 0 ∨ j = 1 by omega) with e | e
      · exact Or.inl (Or.inl (by rw [h3, e]))
      · exact Or.inl (Or.inr (by rw [h3, e]))
  rcases key with (e | e) | ⟨n0, n1, h01⟩
  · refine Or.inr ⟨0, e, ?_, Or.inl ⟨by decide, ?_⟩⟩
    · rw [e]; decide
    · rw [e]; decide
  · refine Or.inr ⟨1, e, ?_, Or.inl ⟨by decide, ?_⟩⟩
    · rw [e]; decide
    · rw [e]; decide
  · unfold fX8_isSiegeAnswer
    rw [if_neg n0, if_neg n1]
    rcases pR (lo := 10) (hi := 13) (hi1 := 14) (lo' := 10) (hi' := 13) 10 13 rfl rfl rfl rfl rfl (by decide) (by decide) y with ⟨h1, h2⟩ | ⟨h1, h2, h3, h4, h5, h6⟩ | ⟨j, h1, h2, h3, h4, h5, h6, h7, h8, h9⟩
    · exact Or.inl ⟨by rw [if_pos h1]; rfl, h01, h2⟩
    · exact Or.inl ⟨by rw [if_neg h1, if_pos h4]; rfl, h01, h6⟩
    · exact Or.inr ⟨j, h3, by rw [if_neg h4, if_neg h7]; rfl, Or.inr ⟨h1, by omega, h01, h9⟩⟩
theorem sim_siege {c : Nat} {g : Nat → lm_St} {s : lm_St} (h : Rel c g s) (x y : Int32) : oSim c (fX8_siege g x y) (fX9_siege s x y) := by
  obtain ⟨r1, r2, n, ⟨b, db, dy, tc, kd, wo, lo, si, X1, X2, X3, X4, X5, X6, X7, X8, X9, X10, X11⟩, r4⟩ := id h
  have hz : ∀ r : Int32, oSim c (some (r, va_up g 2 (g 2))) (some (r, s)) := fun r => ⟨r, _, s, rfl, rfl, (mF.rf s).rel h rfl rfl rfl rfl rfl rfl⟩
  have hz' : ∀ r : Int32, oSim c (some (r, g)) (some (r, s)) := fun r => ⟨r, _, s, rfl, rfl, (mF.rf s).rel h rfl rfl rfl rfl rfl rfl⟩
  unfold fX8_siege fX9_siege
  rcases pR (lo := 1) (hi := 4) (hi1 := 5) (lo' := 1) (hi' := 4) 1 4 rfl rfl rfl rfl rfl (by decide) (by decide) x with ⟨h1, h2⟩ | ⟨h1, h2, h3, h4, h5, h6⟩ | ⟨j, h1, h2, h3, h4, h5, h6, h7, h8, h9⟩
  · rw [if_pos h1, h2]; exact hz' _
  · rw [if_neg h1, if_pos h2, h6]; exact hz' _
  · rw [if_neg h4, if_neg h5, h9]
    simp only [Option.bind_some]
    rw [if_neg p10]
    rcases oSA y with ⟨a1, a2, a3⟩ | ⟨w, a1, a2, a3⟩
    · rw [a1, a2]
      simp only [Option.bind_some]
      rw [if_pos trivial, if_pos trivial, a3]
      exact hz' _
    · have hw : w < 2 ∨ (10 ≤ w ∧ w < 14) := by
        rcases a3 with a3 | a3
        · exact Or.inl a3.1
        · exact Or.inr ⟨a3.1, a3.2.1⟩
      have hfin : oSim c ((fX3_isNone (g 2)).bind (fun v5 => lm_un2 v5 (fun r5 t5_0 => if r5 = 0 then ((fX6_search (g 6) (g 7) t5_0 x).bind (fun v7 => lm_un3 v7 (fun t7_0 t7_1 t7_2 => if y = 0 then (some ((t7_0.1 1), (va_up (va_up (va_up (va_up g 2 t5_0) 6 t7_0) 7 t7_1) 2 t7_2))) else (if y = (1 : Int32) then (some ((t7_0.1 2), (va_up (va_up (va_up (va_up g 2 t5_0) 6 t7_0) 7 t7_1) 2 t7_2))) else ((fX6_touchedOn t7_0 (y - (10 : Int32))).bind (fun v10 => lm_un2 v10 (fun r10 t10_0 => some (r10, (va_up (va_up (va_up (va_up (va_up g 2 t5_0) 6 t7_0) 7 t7_1) 2 t7_2) 6 t10_0))))))))) else (some ((-103 : Int32), (va_up g 2 t5_0)))))) (jX9_siege_39 x y s) := by
        unfold jX9_siege_39
        rcases oNone X6.1 X9.1 X1.1 with ⟨q0, q1, q2⟩ | ⟨q0, q1, q2⟩
        · rw [q1, q2]; exact hz _
        · rw [q1, q2]
          simp only [Option.bind_some, lm_un2]
          rw [if_pos trivial, if_pos trivial, h3, a1]
          obtain ⟨t0, t1, k1, k2⟩ := pc_search (s0 := g 6) (s1 := g 7) X6.cT X1 X3 (m := j) (by omega)
          cases hacc : pSr n kd wo j b db lo si 0 0 none with
          | none => exact absurd hacc (pSr_some _ _ _ _ _ _ _ _)
          | some q =>
            obtain ⟨W, M, q⟩ := q
            obtain ⟨t, k3, k4⟩ := pm_siegeOf X9 X1 X3 (m := j) (by omega) hw hacc
            rw [hacc] at k2
            rw [k1, k3]
            simp only [Option.bind_some, lm_un3, lm_un2]
            by_cases c0 : w = 0
            · subst c0
              rw [if_pos (show nI 0 = (0 : Int32) from rfl), k2.2.1]
              exact ⟨_, _, t, rfl, rfl, k4.rel h rfl rfl rfl rfl rfl rfl⟩
            · rw [if_neg (nI_ne0 (by omega) (by omega))]
              by_cases c1 : w = 1
              · subst c1
                rw [if_pos (show nI 1 = (1 : Int32) from rfl), k2.2.2.1]
                exact ⟨_, _, t, rfl, rfl, k4.rel h rfl rfl rfl rfl rfl rfl⟩
              · rw [if_neg (show ¬ nI w = (1 : Int32) from fun z => c1 ((nI_eq (b := 1) (by omega) (by decide)).mp z)), pc_touched k2 (by omega) (by omega)]
                exact ⟨_, _, t, rfl, rfl, k4.rel h rfl rfl rfl rfl rfl rfl⟩
      rw [a2]
      simp only [Option.bind_some]
      rw [if_neg p10]
      rcases a3 with ⟨_, a4⟩ | ⟨_, _, a4, a5⟩
      · rw [a4]
        exact hfin
      · rw [a4]
        simp only [Option.bind_some]
        rw [if_pos trivial, a5]
        exact hfin
theorem sim_makeUp {c : Nat} {g : Nat → lm_St} {s : lm_St} (h : Rel c g s) (x : Int32) : oSim c (fX8_makeUp g x) (fX9_makeUp s x) := by
  obtain ⟨r1, r2, n, ⟨b, db, dy, tc, kd, wo, lo, si, X1, X2, X3, X4, X5, X6, X7, X8, X9, X10, X11⟩, r4⟩ := id h
  have hz : ∀ r : Int32, oSim c (some (r, va_up g 2 (g 2))) (some (r, s)) := fun r => ⟨r, _, s, rfl, rfl, (mF.rf s).rel h rfl rfl rfl rfl rfl rfl⟩
  have hz' : ∀ r : Int32, oSim c (some (r, g)) (some (r, s)) := fun r => ⟨r, _, s, rfl, rfl, (mF.rf s).rel h rfl rfl rfl rfl rfl rfl⟩
  unfold fX8_makeUp fX9_makeUp
  rcases pR (lo := 0) (hi := 2) (hi1 := 3) (lo' := 0) (hi' := 2) 0 2 rfl rfl rfl rfl rfl (by decide) (by decide) x with ⟨h1, h2⟩ | ⟨h1, h2, h3, h4, h5, h6⟩ | ⟨j, h1, h2, h3, h4, h5, h6, h7, h8, h9⟩
  · rw [if_pos h1, h2]; exact hz' _
  · rw [if_neg h1, if_neg h3, h6]; exact hz' _
  · rw [if_neg h4, if_pos h6, h9]
    simp only [Option.bind_some]
    rw [if_neg p10]
    rcases oNone X6.1 X9.1 X1.1 with ⟨q0, q1, q2⟩ | ⟨q0, q1, q2⟩
    · rw [q1, q2]; exact hz _
    · rw [q1, q2]
      simp only [Option.bind_some, lm_un2]
      obtain ⟨t, k1, k2⟩ := pm_makeUp X9 X1 X3 X2 (what := j) (by omega)
      obtain ⟨t0, k3, k4⟩ := pc_offer (s0 := g 8) X6.cT X1 X3
      rw [if_pos trivial, if_pos trivial, h3, k1, k3]
      simp only [Option.bind_some, lm_un2]
      cases hacc : pFd (pMk n b db kd wo lo si) (2 ^ n) none with
      | none =>
        rw [hacc] at k4
        rw [k4.1, k4.2.1, k4.2.2]
        have e : ∀ a : Int32, (if nI j = 0 then (some (a, (va_up (va_up (va_up g 2 (g 2)) 8 t0) 2 (g 2)))) else if nI j = 1 then some (a, (va_up (va_up (va_up g 2 (g 2)) 8 t0) 2 (g 2))) else some (a, (va_up (va_up (va_up g 2 (g 2)) 8 t0) 2 (g 2)))) = some (a, (va_up (va_up (va_up g 2 (g 2)) 8 t0) 2 (g 2))) := fun a => by
          split
          · rfl
          · split <;> rfl
        rw [e]
        exact ⟨_, _, t, rfl, rfl, k2.rel h rfl rfl rfl rfl rfl rfl⟩
      | some q =>
        obtain ⟨L, G, q⟩ := q
        rw [hacc] at k4
        obtain ⟨k4, k5, k6, _⟩ := k4
        rw [k4, k5, k6]
        unfold pAm
        dsimp only
        rcases (show j = 0 ∨ j = 1 ∨ j = 2 by omega) with e | e | e
        · subst e; exact ⟨_, _, t, rfl, rfl, k2.rel h rfl rfl rfl rfl rfl rfl⟩
        · subst e; exact ⟨_, _, t, rfl, rfl, k2.rel h rfl rfl rfl rfl rfl rfl⟩
        · subst e; exact ⟨_, _, t, rfl, rfl, k2.rel h rfl rfl rfl rfl rfl rfl⟩
theorem sim_odds {c : Nat} {g : Nat → lm_St} {s : lm_St} (h : Rel c g s) (x y z : Int32) : oSim c (fX8_odds g x y z) (fX9_odds s x y z) := by
  obtain ⟨r1, r2, n, ⟨b, db, dy, tc, kd, wo, lo, si, X1, X2, X3, X4, X5, X6, X7, X8, X9, X10, X11⟩, r4⟩ := id h
  have hz : ∀ r : Int32, oSim c (some (r, va_up g 2 (g 2))) (some (r, s)) := fun r => ⟨r, _, s, rfl, rfl, (mF.rf s).rel h rfl rfl rfl rfl rfl rfl⟩
  unfold fX8_odds fX9_odds
  have hn := X1.1
  have hb := X1.2.1
  rcases oThing X6.1 X9.1 X1.1 x with ⟨q1, q2⟩ | ⟨k, hk, hx, q1, q2⟩
  · rw [q1, q2]; exact hz _
  · rw [q1, q2]
    simp only [Option.bind_some, lm_un2]
    rw [if_neg p10, if_neg p10]
    rcases pR (lo := 1) (hi := 3) (hi1 := 4) (lo' := 1) (hi' := 3) 1 3 rfl rfl rfl rfl rfl (by decide) (by decide) y with ⟨h1, h2⟩ | ⟨h1, h2, h3, h4, h5, h6⟩ | ⟨j, h1, h2, h3, h4, h5, h6, h7, h8, h9⟩
    · rw [if_pos h1, h2]; exact hz _
    · rw [if_neg h1, if_pos h2, h6]; exact hz _
    · rw [if_neg h4, if_neg h5, h9]
      simp only [Option.bind_some]
      rw [if_neg p10]
      rcases pR (lo := 0) (hi := 1) (hi1 := 2) (lo' := 0) (hi' := 1) 0 1 rfl rfl rfl rfl rfl (by decide) (by decide) z with ⟨i1, i2⟩ | ⟨i1, i2, i3, i4, i5, i6⟩ | ⟨v, i1, i2, i3, i4, i5, i6, i7, i8, i9⟩
      · rw [if_pos i1, i2]; exact hz _
      · rw [if_neg i1, if_neg i3, i6]; exact hz _
      · rw [if_neg i4, if_pos i6, i9]
        simp only [Option.bind_some]
        rw [if_neg p10, hx, X6.2.1, pb_isIn (by omega) (by omega), pg_I (i := k) (by omega) (by decide), nI_clamp (n := k) (by omega), (X9.2.2 k hk).2.2.2.2]
        cases ht : b.testBit k with
        | true => exact hz _
        | false =>
          simp only [Option.bind_some, Bool.false_eq_true, if_false, if_true]
          rw [if_neg (show ¬ (0 : Int32) = 1 by decide), h3]
          obtain ⟨t0, t1, k1⟩ := pc_waysTo (s0 := g 9) (s1 := g 10) X6.cT X1 X3 (one := k) (m := j) (by omega) h2
          obtain ⟨t, k2, k3⟩ := pm_odds X9 X1 X3 hk ht h2 z
          rw [k1]
          simp only [Option.bind_some, lm_un4]
          rw [pc_left X6.1 X6.2.1 hn X2]
          simp only [Option.bind_some, lm_un2]
          rw [pc_power h2]
          simp only [Option.bind_some]
          unfold jX8_odds_92
          have b1 : pWy n kd b db k j lo si ≤ 7 ^ j := pWy_le hn _ _ _
          have b2 : pLc n b ^ j ≤ 7 ^ j := Nat.pow_le_pow_left (pLc_le hn) j
          have b3 : 7 ^ j ≤ 7 ^ 3 := Nat.pow_le_pow_right (by decide) h2
          have b4 : 0 < pLc n b ^ j := Nat.pow_pos (pLc_pos hk ht)
          have b5 : (7 : Nat) ^ 3 = 343 := by decide
          rw [pc_lowest (by omega) (by omega) b4 (by omega), pc_lowest (by omega) (by omega) b4 (by omega), k2]
          by_cases d : z = 0
          · rw [if_pos d, if_pos d]
            exact ⟨_, _, t, rfl, rfl, k3.rel h rfl rfl rfl rfl rfl rfl⟩
          · rw [if_neg d, if_neg d]
            exact ⟨_, _, t, rfl, rfl, k3.rel h rfl rfl rfl rfl rfl rfl⟩
theorem sim_months {c : Nat} {g : Nat → lm_St} {s : lm_St} (h : Rel c g s) (x y z : Int32) : oSim c (fX8_months g x y z) (fX9_months s x y z) := by
  obtain ⟨r1, r2, n, ⟨b, db, dy, tc, kd, wo, lo, si, X1, X2, X3, X4, X5, X6, X7, X8, X9, X10, X11⟩, r4⟩ := id h
  have hz : ∀ r : Int32, oSim c (some (r, va_up g 2 (g 2))) (some (r, s)) := fun r => ⟨r, _, s, rfl, rfl, (mF.rf s).rel h rfl rfl rfl rfl rfl rfl⟩
  have hz' : ∀ r : Int32, oSim c (some (r, g)) (some (r, s)) := fun r => ⟨r, _, s, rfl, rfl, (mF.rf s).rel h rfl rfl rfl rfl rfl rfl⟩
  unfold fX8_months fX9_months
  rcases pR (lo := 1) (hi := 60) (hi1 := 61) (lo' := 1) (hi' := 60) 1 60 rfl rfl rfl rfl rfl (by decide) (by decide) x with ⟨h1, h2⟩ | ⟨h1, h2, h3, h4, h5, h6⟩ | ⟨j, h1, h2, h3, h4, h5, h6, h7, h8, h9⟩
  · rw [if_pos h1, h2]; exact hz' _
  · rw [if_neg h1, if_pos h2, h6]; exact hz' _
  · rw [if_neg h4, if_neg h5, h9]
    simp only [Option.bind_some]
    rw [if_neg p10]
    by_cases cy : y < 0
    · rw [if_pos cy, if_pos cy]; exact hz' _
    · rw [if_neg cy, if_neg cy]
      obtain ⟨sd, hsd, hy⟩ := nI_of cy
      rcases pR (lo := 0) (hi := 2) (hi1 := 3) (lo' := 0) (hi' := 2) 0 2 rfl rfl rfl rfl rfl (by decide) (by decide) z with ⟨i1, i2⟩ | ⟨i1, i2, i3, i4, i5, i6⟩ | ⟨v, i1, i2, i3, i4, i5, i6, i7, i8, i9⟩
      · rw [if_pos i1, i2]; exact hz' _
      · rw [if_neg i1, if_neg i3, i6]; exact hz' _
      · rw [if_neg i4, if_pos i6, i9]
        simp only [Option.bind_some]
        rw [if_neg p10]
        rcases oNone X6.1 X9.1 X1.1 with ⟨q0, q1, q2⟩ | ⟨q0, q1, q2⟩
        · rw [q1, q2]; exact hz _
        · rw [q1, q2]
          simp only [Option.bind_some, lm_un2]
          obtain ⟨t, k1, k2⟩ := pm_months X9 X1 X3 X10 (by omega) (sd := sd) (by omega) (m := j) h2 z
          obtain ⟨t0, t1, k3, k4, k5, k6⟩ := pc_months (s0 := g 12) (s1 := g 13) X6.cT X1 X3 X7 (by omega) (sd := sd) (by omega) (m := j) h2
          rw [if_pos trivial, if_pos trivial, h3, hy, k1, k3]
          simp only [Option.bind_some, lm_un3]
          rw [k4, k5, k6]
          by_cases d0 : z = 0
          · rw [if_pos d0, if_pos d0]
            exact ⟨_, _, t, rfl, rfl, k2.rel h rfl rfl rfl rfl rfl rfl⟩
          · rw [if_neg d0, if_neg d0]
            by_cases d1 : z = 1
            · rw [if_pos d1, if_pos d1]
              exact ⟨_, _, t, rfl, rfl, k2.rel h rfl rfl rfl rfl rfl rfl⟩
            · rw [if_neg d1, if_neg d1]
              exact ⟨_, _, t, rfl, rfl, k2.rel h rfl rfl rfl rfl rfl rfl⟩
