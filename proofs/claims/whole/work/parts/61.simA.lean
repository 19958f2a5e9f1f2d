/-! THE CALLS, one by one. -/
theorem p10 : ¬ (1 : Int32) = 0 := by decide
theorem sim_letter {c : Nat} {g : Nat → lm_St} {s : lm_St} (h : Rel c g s) (x : Int32) : oSim c (fX8_letter g x) (fX9_letter s x) := by
  unfold fX8_letter fX9_letter
  rcases pR (lo := 1) (hi := 126) (hi1 := 127) (lo' := 1) (hi' := 126) 1 126 rfl rfl rfl rfl rfl (by decide) (by decide) x with ⟨h1, h2⟩ | ⟨h1, h2, h3, h4, h5, h6⟩ | ⟨j, h1, h2, h3, h4, h5, h6, h7, h8, h9⟩
  · rw [if_pos h1, h2]
    exact ⟨_, g, s, rfl, rfl, (mF.rf s).rel h rfl rfl rfl rfl rfl rfl⟩
  · rw [if_neg h1, if_neg h3, h6]
    exact ⟨_, g, s, rfl, rfl, (mF.rf s).rel h rfl rfl rfl rfl rfl rfl⟩
  · rw [if_neg h4, if_pos h6, h9]
    obtain ⟨r1, r2, n, r3, r4⟩ := h
    obtain ⟨m, p, a1, a2, a3, a4, a5⟩ := id r1
    simp only [Option.bind_some]
    unfold fX5_add
    rw [a3, a4, if_neg (show ¬ (1 : Int32) = 0 by decide)]
    by_cases c32 : m = 32
    · subst c32
      rw [if_neg (show ¬ nI 32 < (32 : Int32) by decide), if_pos (show nI 32 = (32 : Int32) from rfl)]
      exact ⟨_, _, s, rfl, rfl, (mF.rf s).rel ⟨r1, r2, n, r3, r4⟩ rfl rfl rfl rfl rfl rfl⟩
    · rw [if_pos (show nI m < (32 : Int32) from nI_lt (b := 32) (by omega) (by decide)), if_neg (show ¬ nI m = (32 : Int32) from fun z => c32 ((nI_eq (b := 32) (by omega) (by decide)).mp z)), pg_I (by omega) (by decide), pg_I (by omega) (by decide), nI_clamp (n := m) (by omega), nI_1 m]
      refine ⟨_, _, _, rfl, rfl, ⟨m + 1, fun i => if i = m then j else p i, by omega, fun i hi => ?_, rfl, rfl, fun i hi => ?_⟩, ?_, n, ?_, ?_⟩
      · dsimp only
        by_cases e : i = m
        · rw [if_pos e]; omega
        · rw [if_neg e]; exact a2 i (by omega)
      · show upd ((g 1).2.1 0) m x i = _ ∧ upd (s.2.1 0) m x i = _
        rw [pu_u, pu_u]
        dsimp only
        by_cases e : i = m
        · rw [if_pos e, if_pos e, if_pos e]; exact ⟨h3, h3⟩
        · rw [if_neg e, if_neg e, if_neg e]; exact a5 i (by omega)
      · exact r2.fr rfl rfl rfl rfl rfl rfl
      · exact r3.fr rfl rfl rfl rfl rfl (fun k k1 k2 => by
          show (lm_sA s 0 _).2.1 k = _
          rw [pu_4, if_neg (by omega)])
      · exact r4.fr rfl rfl rfl rfl rfl rfl rfl ⟨fun k k1 k2 => by
          show (lm_sF _ 0 _).1 k = _
          rw [pu_1, if_neg (by omega)]; rfl, fun k k1 k2 => by
          show (lm_sA s 0 _).2.1 k = _
          rw [pu_4, if_neg (by omega)]⟩
theorem sim_blank {c : Nat} {g : Nat → lm_St} {s : lm_St} (h : Rel c g s) : oSim c (fX8_blank g) (fX9_blank s) := by
  obtain ⟨r1, r2, n, r3, r4⟩ := h
  obtain ⟨m, p, a1, a2, a3, a4, a5⟩ := id r1
  unfold fX8_blank fX9_blank
  rw [a3, a4]
  refine ⟨_, _, _, rfl, rfl, ⟨0, p, by decide, fun i hi => absurd hi (Nat.not_lt_zero i), rfl, rfl, fun i hi => absurd hi (Nat.not_lt_zero i)⟩, r2.fr rfl rfl rfl rfl rfl rfl, n, r3.fr rfl rfl rfl rfl rfl (fun k k1 k2 => rfl), r4.fr rfl rfl rfl rfl rfl rfl rfl ⟨fun k k1 k2 => ?_, fun k k1 k2 => rfl⟩⟩
  rw [pu_1, if_neg (by omega)]
theorem sim_forget {c : Nat} {g : Nat → lm_St} {s : lm_St} (h : Rel c g s) : oSim c (fX8_forget g) (fX9_forget s) := by
  obtain ⟨r1, r2, n, r3, r4⟩ := h
  obtain ⟨m, st, sd, sm, a1, ⟨a2, a3⟩, a4, a5⟩ := id r2
  unfold fX8_forget fX9_forget
  rw [a2, a4]
  refine ⟨_, _, _, rfl, rfl, r1.fr rfl rfl rfl, ⟨0, st, sd, sm, ⟨by decide, fun i hi => absurd hi (Nat.not_lt_zero i)⟩, ⟨rfl, fun i hi => absurd hi (Nat.not_lt_zero i)⟩, rfl, fun i hi => absurd hi (Nat.not_lt_zero i)⟩, n, r3.fr rfl rfl rfl rfl rfl (fun k k1 k2 => rfl), r4.fr rfl rfl rfl rfl rfl rfl rfl ⟨fun k k1 k2 => ?_, fun k k1 k2 => rfl⟩⟩
  rw [pu_1, if_neg (by omega)]
theorem sim_fault {c : Nat} {g : Nat → lm_St} {s : lm_St} (h : Rel c g s) : oSim c (fX8_fault g) (fX9_fault s) := by
  obtain ⟨m, p, a1, a2, a3, a4, a5⟩ := id h.1
  unfold fX8_fault fX9_fault
  obtain ⟨t, ht, hF, _⟩ := pm_faultOf a1 a2 a4 (fun i hi => (a5 i hi).2)
  rw [pc_firstFault a1 a2 a3 (fun i hi => (a5 i hi).1), ht]
  exact ⟨_, _, t, rfl, rfl, hF.rel h rfl rfl rfl rfl rfl rfl⟩
theorem sim_house {c : Nat} {g : Nat → lm_St} {s : lm_St} (hc : c < 1000) (h : Rel c g s) : oSim c (fX8_house g) (fX9_house s) := by
  obtain ⟨r1, r2, n, r3, r4⟩ := id h
  obtain ⟨m, p, a1, a2, a3, a4, a5⟩ := id r1
  have hm := pm_house a1 a2 a4 (fun i hi => (a5 i hi).2)
  unfold fX8_house
  rcases pc_isHouse a1 a2 a3 (fun i hi => (a5 i hi).1) with ⟨q1, q2⟩ | ⟨q1, q2⟩
  · obtain ⟨t, ht, t1, t2, t3, t4, t5, t6, t7⟩ := hm.2 q1
    obtain ⟨u, hu, u1, u2, u3⟩ := pc_readInto (s1 := g 2) a1 a2 a3 (fun i hi => (a5 i hi).1) q1
    have w := pHs_pW a1 q1
    rw [q2, ht]
    simp only [Option.bind_some, lm_un2]
    rw [if_neg p10, hu]
    simp only [Option.bind_some, lm_un2]
    rw [u1.1]
    obtain ⟨hr, sal, b1, b2, b3, b4, b5, b6, b7⟩ := r4
    refine ⟨_, _, t, rfl, rfl, ⟨0, p, by decide, fun i hi => absurd hi (Nat.not_lt_zero i), rfl, t6, fun i hi => absurd hi (Nat.not_lt_zero i)⟩, ⟨0, p, p, p, ⟨by decide, fun i hi => absurd hi (Nat.not_lt_zero i)⟩, ⟨rfl, fun i hi => absurd hi (Nat.not_lt_zero i)⟩, t4, fun i hi => absurd hi (Nat.not_lt_zero i)⟩, (m - 2) / 4, ⟨0, hD p m, 0, 0, hK p, hW p, hL p, fun _ => 0, w, Nat.pow_pos (by decide), fun _ _ => Nat.zero_le 20, by decide, by decide, u1, u2, u3, t1, t2, t3⟩, hr + 1, sal, by omega, b2, ?_, ?_, b5, ?_, Or.inl ⟨rfl, ?_⟩⟩
    · show (g 0).1 1 + 1 = nI (hr + 1)
      rw [b3, nI_1 hr]
    · rw [t5, b4, nI_1 hr]
    · rw [t7.1 8 (Or.inl rfl), b6]
    · rw [t7.1 11 (Or.inr ⟨by decide, by decide⟩)]
      rcases b7 with ⟨_, q | ⟨h', q, q3⟩⟩ | ⟨_, q, _⟩
      · exact Or.inl q
      · exact Or.inr ⟨h', by omega, q3⟩
      · exact Or.inr ⟨hr, by omega, q⟩
  · obtain ⟨t, ht, hF⟩ := hm.1 q1
    rw [q2, ht]
    exact ⟨_, _, t, rfl, rfl, hF.rel h rfl rfl rfl rfl rfl rfl⟩
theorem sim_as {c : Nat} {g : Nat → lm_St} {s : lm_St} (h : Rel c g s) (x y : Int32) : oSim c (fX8_as g x y) (fX9_as s x y) := by
  obtain ⟨r1, r2, n, ⟨b, db, dy, tc, kd, wo, lo, si, X1, X2, X3, X4, X5, X6, X7, X8, X9, X10, X11⟩, r4⟩ := id h
  have hz : ∀ r : Int32, oSim c (some (r, va_up g 2 (g 2))) (some (r, s)) := fun r => ⟨r, _, s, rfl, rfl, (mF.rf s).rel h rfl rfl rfl rfl rfl rfl⟩
  unfold fX8_as fX9_as
  rcases oThing X6.1 X9.1 X1.1 x with ⟨q1, q2⟩ | ⟨k, hk, hx, q1, q2⟩
  · rw [q1, q2]; exact hz _
  · rw [q1, q2]
    simp only [Option.bind_some, lm_un2]
    rw [if_neg p10, if_neg p10]
    rcases pR (lo := 0) (hi := 4) (hi1 := 5) (lo' := 0) (hi' := 4) 0 4 rfl rfl rfl rfl rfl (by decide) (by decide) y with ⟨h1, h2⟩ | ⟨h1, h2, h3, h4, h5, h6⟩ | ⟨j, h1, h2, h3, h4, h5, h6, h7, h8, h9⟩
    · rw [if_pos h1, h2]; exact hz _
    · rw [if_neg h1, if_neg h5, h6]; exact hz _
    · have hn := X1.1
      rw [if_neg h4, if_pos h8, h9]
      simp only [Option.bind_some]
      rw [if_neg p10, hx, pg_I (by omega) (by decide), pg_I (by omega) (by decide), pg_I (by omega) (by decide), nI_clamp (n := k) (by omega), (X6.2.2.2 k hk).1, (X9.2.2 k hk).1]
      unfold fX8_isKind jX9_as_55 jX9_as_59 jX9_as_60
      by_cases c0 : y = 0
      · rw [if_pos c0, if_pos c0]; exact hz _
      · rw [if_neg c0, if_neg c0]
        by_cases c1 : y = nI (kd k)
        · rw [if_pos c1, if_pos c1]; exact hz _
        · rw [if_neg c1, if_neg c1]
          by_cases c2 : y = 1
          · rw [if_pos c2, if_pos c2]
            by_cases c3 : nI (kd k) = 4
            · rw [if_pos c3, if_pos c3]; exact hz _
            · rw [if_neg c3, if_neg c3]; exact hz _
          · rw [if_neg c2, if_neg c2]; exact hz _
theorem sim_borrow {c : Nat} {g : Nat → lm_St} {s : lm_St} (h : Rel c g s) (x : Int32) : oSim c (fX8_borrow g x) (fX9_borrow s x) := by
  obtain ⟨r1, r2, n, ⟨b, db, dy, tc, kd, wo, lo, si, X1, X2, X3, X4, X5, X6, X7, X8, X9, X10, X11⟩, r4⟩ := id h
  have hz : ∀ r : Int32, oSim c (some (r, va_up g 2 (g 2))) (some (r, s)) := fun r => ⟨r, _, s, rfl, rfl, (mF.rf s).rel h rfl rfl rfl rfl rfl rfl⟩
  have hz' : ∀ r : Int32, oSim c (some (r, g)) (some (r, s)) := fun r => ⟨r, _, s, rfl, rfl, (mF.rf s).rel h rfl rfl rfl rfl rfl rfl⟩
  unfold fX8_borrow fX9_borrow
  rcases pR (lo := 1) (hi := 50) (hi1 := 51) (lo' := 1) (hi' := 50) 1 50 rfl rfl rfl rfl rfl (by decide) (by decide) x with ⟨h1, h2⟩ | ⟨h1, h2, h3, h4, h5, h6⟩ | ⟨j, h1, h2, h3, h4, h5, h6, h7, h8, h9⟩
  · rw [if_pos h1, h2]; exact hz' _
  · rw [if_neg h1, if_neg h3, h6]; exact hz' _
  · rw [if_neg h4, if_pos h6, h9]
    simp only [Option.bind_some]
    rw [if_neg p10]
    rcases oNone X6.1 X9.1 X1.1 with ⟨q0, q1, q2⟩ | ⟨q0, q1, q2⟩
    · rw [q1, q2]; exact hz _
    · rw [q1, q2]
      simp only [Option.bind_some, lm_un2]
      obtain ⟨w1, w2, w3, w4⟩ := X1
      rw [if_pos trivial, if_pos trivial, X6.2.2.1, X9.2.1, h3, nI_add]
      by_cases d : db + j ≤ 99
      · rw [if_pos (show nI (db + j) ≤ (99 : Int32) from nI_le (b := 99) d (by decide)), if_pos (show nI (db + j) ≤ (99 : Int32) from nI_le (b := 99) d (by decide))]
        refine ⟨_, _, _, rfl, rfl, r1.fr rfl rfl rfl, r2.fr rfl rfl rfl rfl rfl rfl, n, ⟨b, db + j, dy, tc, kd, wo, lo, si, ⟨w1, w2, d, w4⟩, X2, X3, X4, X5, ⟨X6.1, X6.2.1, rfl, X6.2.2.2⟩, X7, X8, ⟨X9.1, rfl, X9.2.2⟩, X10, X11⟩, r4.fr rfl rfl rfl rfl rfl rfl rfl ⟨fun k k1 k2 => ?_, fun k k1 k2 => rfl⟩⟩
        rw [pu_1, if_neg (by omega)]
      · rw [if_neg (show ¬ nI (db + j) ≤ (99 : Int32) from nI_ge (a := 99) (by omega) (by omega)), if_neg (show ¬ nI (db + j) ≤ (99 : Int32) from nI_ge (a := 99) (by omega) (by omega))]
        exact hz _
theorem sim_change {c : Nat} {g : Nat → lm_St} {s : lm_St} (h : Rel c g s) (x y z : Int32) : oSim c (fX8_change g x y z) (fX9_change s x y z) := by
  obtain ⟨r1, r2, n, ⟨b, db, dy, tc, kd, wo, lo, si, X1, X2, X3, X4, X5, X6, X7, X8, X9, X10, X11⟩, r4⟩ := id h
  have hz : ∀ r : Int32, oSim c (some (r, va_up g 2 (g 2))) (some (r, s)) := fun r => ⟨r, _, s, rfl, rfl, (mF.rf s).rel h rfl rfl rfl rfl rfl rfl⟩
  unfold fX8_change fX9_change
  rcases oThing X6.1 X9.1 X1.1 x with ⟨q1, q2⟩ | ⟨k, hk, hx, q1, q2⟩
  · rw [q1, q2]; exact hz _
  · rw [q1, q2]
    simp only [Option.bind_some, lm_un2]
    rw [if_neg p10, if_neg p10]
    rcases pR (lo := 0) (hi := 4) (hi1 := 5) (lo' := 0) (hi' := 4) 0 4 rfl rfl rfl rfl rfl (by decide) (by decide) y with ⟨h1, h2⟩ | ⟨h1, h2, h3, h4, h5, h6⟩ | ⟨j, h1, h2, h3, h4, h5, h6, h7, h8, h9⟩
    · rw [if_pos h1, h2]; exact hz _
    · rw [if_neg h1, if_pos h4, h6]; exact hz _
    · rw [if_neg h4, if_neg h7, h9]
      simp only [Option.bind_some]
      rw [if_neg p10]
      rcases pR (lo := 1) (hi := 9) (hi1 := 10) (lo' := 1) (hi' := 9) 1 9 rfl rfl rfl rfl rfl (by decide) (by decide) z with ⟨i1, i2⟩ | ⟨i1, i2, i3, i4, i5, i6⟩ | ⟨v, i1, i2, i3, i4, i5, i6, i7, i8, i9⟩
      · rw [if_pos i1, i2]; exact hz _
      · rw [if_neg i1, if_neg i3, i6]; exact hz _
      · obtain ⟨w1, w2, w3, w4⟩ := X1
        rw [if_neg i4, if_pos i6, i9]
        simp only [Option.bind_some]
        rw [if_neg p10, hx, pg_I (by omega) (by decide), pg_I (by omega) (by decide), pg_I (by omega) (by decide), pg_I (by omega) (by decide), pg_I (by omega) (by decide), pg_I (by omega) (by decide), nI_clamp (n := k) (by omega), (X6.2.2.2 k hk).1, (X9.2.2 k hk).1]
        refine ⟨_, _, _, rfl, rfl, r1.fr rfl rfl rfl, r2.fr rfl rfl rfl rfl rfl rfl, n, ⟨b, db, dy, tc, fun i => if i = k then j else kd i, fun i => if i = k then v else wo i, lo, si, ⟨w1, w2, w3, fun i hi => ?_⟩, X2, X3, X4, X5, ⟨X6.1, X6.2.1, X6.2.2.1, fun i hi => ?_⟩, X7, X8, ⟨X9.1, X9.2.1, fun i hi => ?_⟩, X10, X11⟩, r4.fr rfl rfl rfl rfl rfl rfl rfl ⟨fun k k1 k2 => rfl, fun k' k1 k2 => ?_⟩⟩
        · have := w4 i hi
          dsimp only
          by_cases e : i = k
          · rw [if_pos e, if_pos e]; omega
          · rw [if_neg e, if_neg e]; exact this
        · have := X6.2.2.2 i hi
          show upd ((g 2).2.1 0) k y i = _ ∧ upd ((g 2).2.1 1) k z i = _ ∧ (g 2).2.1 2 i = _ ∧ (g 2).2.1 3 i = _
          rw [pu_u, pu_u]
          dsimp only
          by_cases e : i = k
          · rw [if_pos e, if_pos e, if_pos e, if_pos e]; exact ⟨h3, i3, this.2.2⟩
          · rw [if_neg e, if_neg e, if_neg e, if_neg e]; exact this
        · have := X9.2.2 i hi
          show upd (s.2.1 1) k y i = _ ∧ upd (s.2.1 2) k z i = _ ∧ s.2.1 3 i = _ ∧ s.2.1 4 i = _ ∧ s.2.1 5 i = _
          rw [pu_u, pu_u]
          dsimp only
          by_cases e : i = k
          · rw [if_pos e, if_pos e, if_pos e, if_pos e]; exact ⟨h3, i3, this.2.2⟩
          · rw [if_neg e, if_neg e, if_neg e, if_neg e]; exact this
        · rw [pu_4, if_neg (by omega), pu_4, if_neg (by omega)]
