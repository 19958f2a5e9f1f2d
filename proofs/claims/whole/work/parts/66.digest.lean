/-! THE CALLS: digest. -/
def dR (g0 : Nat → lm_St) (s0 : lm_St) (h : Int64) (g : Nat → lm_St) (s : lm_St) : Prop := cW g0 g ∧ mF (lm_sL s0 h) s
theorem dR.say {g0 g g' : Nat → lm_St} {s0 s t : lm_St} {h : Int64} (D : dR g0 s0 h g s) (f : mF s t) (w : cW g g') (r : Int64) : fX9_say t r = some (lm_sL t ((31 : Int64) * h + r)) ∧ dR g0 s0 ((31 : Int64) * h + r) g' (lm_sL t ((31 : Int64) * h + r)) := by
  have f2 := D.2.tr f
  have e : t.2.2 = h := f2.2.2
  refine ⟨?_, D.1.tr w, f2.1, f2.2.1, rfl⟩
  unfold fX9_say
  rw [e]
theorem dR.oX {g0 g : Nat → lm_St} {s0 s : lm_St} {h : Int64} {n b db dy tc : Nat} {kd wo lo si : Nat → Nat} (D : dR g0 s0 h g s) (X : oX (g0 2) s0 n b db dy tc kd wo lo si) : oX (g 2) s n b db dy tc kd wo lo si := D.2.oX (X.fr (t := lm_sL s0 h) rfl rfl rfl rfl rfl (fun _ _ _ => rfl)) D.1.2.2.1
theorem dR.oS {g0 g : Nat → lm_St} {s0 s : lm_St} {h : Int64} (D : dR g0 s0 h g s) (S : oS (g0 4) s0) : oS (g 4) s := D.1.oS D.2 (S.fr (t := lm_sL s0 h) rfl rfl rfl rfl rfl rfl)
theorem dR.oP {g0 g : Nat → lm_St} {s0 s : lm_St} {h : Int64} (D : dR g0 s0 h g s) (P : oP (g0 1) s0) : oP (g 1) s := D.2.oP (P.fr (t := lm_sL s0 h) rfl rfl rfl) D.1.2.1
theorem dR.c {g0 g : Nat → lm_St} {s0 s : lm_St} {h : Int64} (D : dR g0 s0 h g s) (C : (g0 0).1 1 = s0.1 6 ∧ (g0 0).1 2 = s0.1 8) : (g 0).1 1 = s.1 6 ∧ (g 0).1 2 = s.1 8 := by
  rw [D.1.1, D.2.1 6 (by decide) (by decide) (by decide), D.2.1 8 (by decide) (by decide) (by decide)]
  exact C
theorem dR.rel {c : Nat} {g0 g : Nat → lm_St} {s0 s : lm_St} {h : Int64} (D : dR g0 s0 h g s) (R : Rel c g0 s0) : Rel (c + 1) g s := by
  obtain ⟨r1, r2, n, ⟨b, db, dy, tc, kd, wo, lo, si, X⟩, r4⟩ := R
  have r4' : oK c (g0 0) (g0 3) (g0 5) (lm_sL s0 h) n := by
    obtain ⟨hr, sal, a1, a2, a3, a4, a5, a6, a7⟩ := r4
    refine ⟨hr, sal, a1, a2, a3, a4, a5, a6, ?_⟩
    rcases a7 with z | ⟨z1, z2, z3, z4⟩
    · exact Or.inl z
    · exact Or.inr ⟨z1, z2, z3.fr rfl rfl rfl rfl rfl (fun _ _ _ => rfl), z4.fr rfl rfl rfl rfl rfl rfl⟩
  exact ⟨D.oP r1, D.oS r2, n, ⟨b, db, dy, tc, kd, wo, lo, si, D.oX X⟩, D.2.oK r4' D.1.1 D.1.2.2.2.1 D.1.2.2.2.2.1⟩
theorem dig_what {g0 : Nat → lm_St} {s0 : lm_St} {n b db dy tc k : Nat} {kd wo lo si : Nat → Nat} (X : oX (g0 2) s0 n b db dy tc kd wo lo si) (S : oS (g0 4) s0) (hk : k < n) : ∀ (d w : Nat) (h : Int64) (g : Nat → lm_St) (s : lm_St), w + d = 8 → dR g0 s0 h g s → ∃ h' g' t, dR g0 s0 h' g' t ∧ (∀ (k6 : Int64 × Int32 × (Nat → lm_St) → Option (Int64 × (Nat → lm_St))) (fuel : Nat), d < fuel → lm_lp (fun k a => bX8_digest_20 k6 k a.1 a.2.1 a.2.2.1 a.2.2.2) fuel (h, nI k, nI w, g) = k6 (h', nI (k + 1), g')) ∧ (∀ (k9 : Int32 × lm_St → Option (Int64 × lm_St)) (fuel : Nat), d < fuel → lm_lp (fun k a => bX9_digest_19 k9 k a.1 a.2.1 a.2.2) fuel (nI k, nI w, s) = k9 (nI (k + 1), t)) := by
  intro d
  induction d with
  | zero =>
    intro w h g s hw D
    refine ⟨h, g, s, D, fun k6 fuel hf => ?_, fun k9 fuel hf => ?_⟩
    · obtain ⟨fuel, rfl⟩ : ∃ m, fuel = m + 1 := ⟨fuel - 1, by omega⟩
      rw [lm_lp]
      show bX8_digest_20 k6 _ h (nI k) (nI w) g = _
      unfold bX8_digest_20
      rw [if_pos (show (7 : Int32) < nI w from nI_lt (a := 7) (by omega) (by omega)), nI_1 k]
    · obtain ⟨fuel, rfl⟩ : ∃ m, fuel = m + 1 := ⟨fuel - 1, by omega⟩
      rw [lm_lp]
      show bX9_digest_19 k9 _ (nI k) (nI w) s = _
      unfold bX9_digest_19
      rw [if_pos (show (8 : Int32) ≤ nI w from nI_le (a := 8) (by omega) (by omega)), nI_1 k]
  | succ d ih =>
    intro w h g s hw D
    obtain ⟨r, g', t, k1, k2, k3, k4⟩ := sim_tell (D.oX X) (D.oS S) hk (nI w)
    obtain ⟨e1, D2⟩ := D.say k4 k3 r.toInt64
    obtain ⟨h', g2, t2, D3, i1, i2⟩ := ih (w + 1) _ _ _ (by omega) D2
    refine ⟨h', g2, t2, D3, fun k6 fuel hf => ?_, fun k9 fuel hf => ?_⟩
    · obtain ⟨fuel, rfl⟩ : ∃ m, fuel = m + 1 := ⟨fuel - 1, by omega⟩
      rw [lm_lp]
      show bX8_digest_20 k6 _ h (nI k) (nI w) g = _
      unfold bX8_digest_20
      rw [if_neg (show ¬ (7 : Int32) < nI w from nI_nlt (a := 7) (by omega) (by omega)), k1, nI_1 w]
      exact i1 k6 fuel (by omega)
    · obtain ⟨fuel, rfl⟩ : ∃ m, fuel = m + 1 := ⟨fuel - 1, by omega⟩
      rw [lm_lp]
      show bX9_digest_19 k9 _ (nI k) (nI w) s = _
      unfold bX9_digest_19
      rw [if_neg (show ¬ (8 : Int32) ≤ nI w from nI_ge (b := 8) (by omega) (by omega)), k2]
      simp only [Option.bind_some, lm_un2]
      rw [e1, nI_1 w]
      exact i2 k9 fuel (by omega)
theorem dig_things {g0 : Nat → lm_St} {s0 : lm_St} {n b db dy tc : Nat} {kd wo lo si : Nat → Nat} (X : oX (g0 2) s0 n b db dy tc kd wo lo si) (S : oS (g0 4) s0) : ∀ (d j : Nat) (h : Int64) (g : Nat → lm_St) (s : lm_St), j + d = n → dR g0 s0 h g s → ∃ h' g' t, dR g0 s0 h' g' t ∧ (∀ (fuel : Nat), d < fuel → lm_lp (fun k a => bX8_digest_6 k a.1 a.2.1 a.2.2) fuel (h, nI j, g) = bX8_digest_6 (fun _ => none) h' (nI n) g') ∧ (∀ (fuel : Nat), d < fuel → lm_lp (fun k a => bX9_digest_9 k a.1 a.2) fuel (nI j, s) = bX9_digest_9 (fun _ => none) (nI n) t) := by
  have hn := X.1.1
  intro d
  induction d with
  | zero =>
    intro j h g s hj D
    have X' := D.oX X
    obtain ⟨_, _, _, _, _, X6, _, _, X9, _, _⟩ := X'
    have hjn : j = n := by omega
    subst hjn
    refine ⟨h, g, s, D, fun fuel hf => ?_, fun fuel hf => ?_⟩
    · obtain ⟨fuel, rfl⟩ : ∃ m, fuel = m + 1 := ⟨fuel - 1, by omega⟩
      rw [lm_lp]
      show bX8_digest_6 _ h (nI j) g = _
      unfold bX8_digest_6
      rw [X6.1, if_pos (nI_le (Nat.le_refl j) (by omega)), if_pos (nI_le (Nat.le_refl j) (by omega))]
    · obtain ⟨fuel, rfl⟩ : ∃ m, fuel = m + 1 := ⟨fuel - 1, by omega⟩
      rw [lm_lp]
      show bX9_digest_9 _ (nI j) s = _
      unfold bX9_digest_9
      rw [X9.1, if_pos (nI_le (Nat.le_refl j) (by omega)), if_pos (nI_le (Nat.le_refl j) (by omega))]
  | succ d ih =>
    intro j h g s hj D
    have X' := D.oX X
    obtain ⟨_, _, _, _, _, X6, _, _, X9, _, _⟩ := X'
    obtain ⟨h1, g1, t1, D1, i1, i2⟩ := dig_what X S (show j < n by omega) 8 0 h g s (by omega) D
    obtain ⟨h2, g2, t2, D2, i3, i4⟩ := ih (j + 1) h1 g1 t1 (by omega) D1
    refine ⟨h2, g2, t2, D2, fun fuel hf => ?_, fun fuel hf => ?_⟩
    · obtain ⟨fuel, rfl⟩ : ∃ m, fuel = m + 1 := ⟨fuel - 1, by omega⟩
      rw [lm_lp]
      show bX8_digest_6 _ h (nI j) g = _
      have st : ∀ k6 : Int64 × Int32 × (Nat → lm_St) → Option (Int64 × (Nat → lm_St)), bX8_digest_6 k6 h (nI j) g = lm_lp (fun k a => bX8_digest_20 k6 k a.1 a.2.1 a.2.2.1 a.2.2.2) 5000 (h, nI j, (0 : Int32), g) := fun k6 => by
        unfold bX8_digest_6
        rw [X6.1, if_neg (nI_ge (by omega) (by omega))]
      rw [st]
      have := i1 (lm_lp (fun k a => bX8_digest_6 k a.1 a.2.1 a.2.2) fuel) 5000 (by omega)
      rw [show nI 0 = (0 : Int32) from rfl] at this
      rw [this]
      exact i3 fuel (by omega)
    · obtain ⟨fuel, rfl⟩ : ∃ m, fuel = m + 1 := ⟨fuel - 1, by omega⟩
      rw [lm_lp]
      show bX9_digest_9 _ (nI j) s = _
      have st : ∀ k9 : Int32 × lm_St → Option (Int64 × lm_St), bX9_digest_9 k9 (nI j) s = lm_lp (fun k a => bX9_digest_19 k9 k a.1 a.2.1 a.2.2) 5000 (nI j, (0 : Int32), s) := fun k9 => by
        unfold bX9_digest_9
        rw [X9.1, if_neg (nI_ge (by omega) (by omega))]
      rw [st]
      have := i2 (lm_lp (fun k a => bX9_digest_9 k a.1 a.2) fuel) 5000 (by omega)
      rw [show nI 0 = (0 : Int32) from rfl] at this
      rw [this]
      exact i4 fuel (by omega)
theorem dig_count {g0 : Nat → lm_St} {s0 : lm_St} {n b db dy tc : Nat} {kd wo lo si : Nat → Nat} (P : oP (g0 1) s0) (X : oX (g0 2) s0 n b db dy tc kd wo lo si) (S : oS (g0 4) s0) (C : (g0 0).1 1 = s0.1 6 ∧ (g0 0).1 2 = s0.1 8) : ∀ (d w : Nat) (h : Int64) (g : Nat → lm_St) (s : lm_St), w + d = 12 → dR g0 s0 h g s → ∃ h' g' t, dR g0 s0 h' g' t ∧ (∀ (fuel : Nat), d < fuel → lm_lp (fun k a => bX8_digest_264 k a.1 a.2.1 a.2.2) fuel (h, nI w, g) = some (h', g')) ∧ (∀ (fuel : Nat), d < fuel → lm_lp (fun k a => bX9_digest_88 k a.1 a.2) fuel (nI w, s) = some (h', t)) := by
  intro d
  induction d with
  | zero =>
    intro w h g s hw D
    refine ⟨h, g, s, D, fun fuel hf => ?_, fun fuel hf => ?_⟩
    · obtain ⟨fuel, rfl⟩ : ∃ m, fuel = m + 1 := ⟨fuel - 1, by omega⟩
      rw [lm_lp]
      show bX8_digest_264 _ h (nI w) g = _
      unfold bX8_digest_264
      rw [if_pos (show (11 : Int32) < nI w from nI_lt (a := 11) (by omega) (by omega))]
    · obtain ⟨fuel, rfl⟩ : ∃ m, fuel = m + 1 := ⟨fuel - 1, by omega⟩
      rw [lm_lp]
      show bX9_digest_88 _ (nI w) s = _
      unfold bX9_digest_88
      rw [if_pos (show (12 : Int32) ≤ nI w from nI_le (a := 12) (by omega) (by omega))]
      have e : s.2.2 = h := D.2.2.2
      rw [e]
  | succ d ih =>
    intro w h g s hw D
    obtain ⟨r, g', t, k1, k2, k3, k4⟩ := sim_cnt (D.oP P) (D.oX X) (D.oS S) (D.c C).1 (D.c C).2 (nI w)
    obtain ⟨e1, D2⟩ := D.say k4 k3 r.toInt64
    obtain ⟨h', g2, t2, D3, i1, i2⟩ := ih (w + 1) _ _ _ (by omega) D2
    refine ⟨h', g2, t2, D3, fun fuel hf => ?_, fun fuel hf => ?_⟩
    · obtain ⟨fuel, rfl⟩ : ∃ m, fuel = m + 1 := ⟨fuel - 1, by omega⟩
      rw [lm_lp]
      show bX8_digest_264 _ h (nI w) g = _
      unfold bX8_digest_264
      rw [if_neg (show ¬ (11 : Int32) < nI w from nI_nlt (a := 11) (by omega) (by omega)), k1, nI_1 w]
      exact i1 fuel (by omega)
    · obtain ⟨fuel, rfl⟩ : ∃ m, fuel = m + 1 := ⟨fuel - 1, by omega⟩
      rw [lm_lp]
      show bX9_digest_88 _ (nI w) s = _
      unfold bX9_digest_88
      rw [if_neg (show ¬ (12 : Int32) ≤ nI w from nI_ge (b := 12) (by omega) (by omega)), k2]
      simp only [Option.bind_some, lm_un2]
      rw [e1, nI_1 w]
      exact i2 fuel (by omega)
theorem dig_page {g0 : Nat → lm_St} {s0 : lm_St} {n b db dy tc : Nat} {kd wo lo si : Nat → Nat} (P : oP (g0 1) s0) (X : oX (g0 2) s0 n b db dy tc kd wo lo si) (S : oS (g0 4) s0) (C : (g0 0).1 1 = s0.1 6 ∧ (g0 0).1 2 = s0.1 8) {h : Int64} {g : Nat → lm_St} {s : lm_St} (D : dR g0 s0 h g s) : ∃ h' g' t, dR g0 s0 h' g' t ∧ jX8_digest_226 h g = some (h', g') ∧ jX9_digest_59 s = some (h', t) := by
  obtain ⟨m, p, p1, p2, p3, p4, p5⟩ := id P
  have hh : ∀ (d j : Nat) (h : Int64) (g : Nat → lm_St) (s : lm_St), j + d = m → dR g0 s0 h g s → ∃ h' g' t, dR g0 s0 h' g' t ∧ (∀ (fuel : Nat), d < fuel → lm_lp (fun k a => bX8_digest_228 k a.1 a.2.1 a.2.2) fuel (h, nI j, g) = some (h', g')) ∧ (∀ (fuel : Nat), d < fuel → lm_lp (fun k a => bX9_digest_61 k a.1 a.2) fuel (nI j, s) = some (h', t)) := by
    intro d
    induction d with
    | zero =>
      intro j h g s hj D
      have hjm : j = m := by omega
      subst hjm
      obtain ⟨h', g', t, D2, i1, i2⟩ := dig_count P X S C 12 0 h g s (by omega) D
      have q1 : (g 1).1 0 = nI j := by rw [D.1.2.1]; exact p3
      have q2 : s.1 0 = nI j := by rw [D.2.1 0 (by decide) (by decide) (by decide)]; exact p4
      refine ⟨h', g', t, D2, fun fuel hf => ?_, fun fuel hf => ?_⟩
      · obtain ⟨fuel, rfl⟩ : ∃ m, fuel = m + 1 := ⟨fuel - 1, by omega⟩
        rw [lm_lp]
        show bX8_digest_228 _ h (nI j) g = _
        unfold bX8_digest_228
        rw [q1, if_pos (nI_le (Nat.le_refl j) (by omega))]
        exact i1 5000 (by omega)
      · obtain ⟨fuel, rfl⟩ : ∃ m, fuel = m + 1 := ⟨fuel - 1, by omega⟩
        rw [lm_lp]
        show bX9_digest_61 _ (nI j) s = _
        unfold bX9_digest_61
        rw [q2, if_pos (nI_le (Nat.le_refl j) (by omega))]
        exact i2 5000 (by omega)
    | succ d ih =>
      intro j h g s hj D
      have q1 : (g 1).1 0 = nI m := by rw [D.1.2.1]; exact p3
      have q2 : s.1 0 = nI m := by rw [D.2.1 0 (by decide) (by decide) (by decide)]; exact p4
      have q3 : (g 1).2.1 0 j = nI (p j) := by rw [D.1.2.1]; exact (p5 j (by omega)).1
      have q4 : s.2.1 0 j = nI (p j) := by rw [D.2.2.1 0 (by decide) (by decide) (by decide) (by decide)]; exact (p5 j (by omega)).2
      obtain ⟨e1, D2⟩ := D.say (mF.rf s) (cW.rf g) (nI (p j)).toInt64
      obtain ⟨h', g2, t2, D3, i1, i2⟩ := ih (j + 1) _ _ _ (by omega) D2
      refine ⟨h', g2, t2, D3, fun fuel hf => ?_, fun fuel hf => ?_⟩
      · obtain ⟨fuel, rfl⟩ : ∃ m, fuel = m + 1 := ⟨fuel - 1, by omega⟩
        rw [lm_lp]
        show bX8_digest_228 _ h (nI j) g = _
        unfold bX8_digest_228
        rw [q1, if_neg (nI_ge (by omega) (by omega)), pg_I (by omega) (by decide), nI_clamp (n := j) (by omega), q3, nI_1 j]
        exact i1 fuel (by omega)
      · obtain ⟨fuel, rfl⟩ : ∃ m, fuel = m + 1 := ⟨fuel - 1, by omega⟩
        rw [lm_lp]
        show bX9_digest_61 _ (nI j) s = _
        unfold bX9_digest_61
        rw [q2, if_neg (nI_ge (by omega) (by omega)), pg_I (by omega) (by decide), nI_clamp (n := j) (by omega), q4, e1, nI_1 j]
        exact i2 fuel (by omega)
  obtain ⟨h', g', t, D2, i1, i2⟩ := hh m 0 h g s (by omega) D
  refine ⟨h', g', t, D2, ?_, ?_⟩
  · unfold jX8_digest_226
    exact i1 5000 (by omega)
  · unfold jX9_digest_59
    exact i2 5000 (by omega)
def oSimL (c : Nat) (f : Option (Int64 × (Nat → lm_St))) (m : Option (Int64 × lm_St)) : Prop := ∃ r g' t, f = some (r, g') ∧ m = some (r, t) ∧ Rel (c + 1) g' t
theorem sim_digest {c : Nat} {g : Nat → lm_St} {s : lm_St} (R : Rel c g s) : oSimL c (fX8_digest g) (fX9_digest s) := by
  obtain ⟨r1, r2, n, ⟨b, db, dy, tc, kd, wo, lo, si, X⟩, r4⟩ := id R
  have hn := X.1.1
  have D0 : dR g s 1259 g (lm_sL s 1259) := ⟨cW.rf g, mF.rf _⟩
  obtain ⟨h1, g1, t1, D1, i1, i2⟩ := dig_things X r2 n 0 1259 g (lm_sL s 1259) (by omega) D0
  have j1 := i1 5000 (by omega)
  have j2 := i2 5000 (by omega)
  rw [show nI 0 = (0 : Int32) from rfl] at j1 j2
  unfold fX8_digest fX9_digest
  rw [j1, j2]
  obtain ⟨X1, X2, X3, X4, X5, X6, X7, X8, X9, X10, X11⟩ := D1.oX X
  unfold bX8_digest_6 bX9_digest_9
  rw [X6.1, X9.1, if_pos (nI_le (Nat.le_refl n) (by omega)), if_pos (nI_le (Nat.le_refl n) (by omega))]
  rcases oNone X6.1 X9.1 X1.1 with ⟨q0, q1, q2⟩ | ⟨q0, q1, q2⟩
  · rw [q1, q2]
    simp only [Option.bind_some, lm_un2]
    rw [if_neg p10, if_neg p10]
    have D1' : dR g s h1 (va_up g1 2 (g1 2)) t1 := ⟨D1.1.tr ⟨rfl, rfl, rfl, rfl, rfl, rfl, rfl, rfl, rfl⟩, D1.2⟩
    obtain ⟨h2, g2, t2, D2, k1, k2⟩ := dig_page r1 X r2 r4.c1 D1'
    rw [k1, k2]
    exact ⟨h2, g2, t2, rfl, rfl, D2.rel R⟩
  · rw [q1, q2]
    simp only [Option.bind_some, lm_un2]
    rw [if_pos trivial, if_pos trivial]
    obtain ⟨u0, u1, k1, k2⟩ := pc_search (s0 := g1 6) (s1 := g1 7) X6.cT X1 X3 (m := 2) (by decide)
    obtain ⟨u2, k3, k4⟩ := pc_offer (s0 := g1 8) X6.cT X1 X3
    have k5 := pc_next X6.cT X1 (a := 0) (Nat.le_refl 0) (fun i hi => by have := X3 i hi; omega)
    have k6 := pc_next X6.cT X1 (a := 5) (Nat.zero_le 5) (fun i hi => by have := X3 i hi; omega)
    rw [show nI 2 = (2 : Int32) from rfl] at k1
    rw [show nI 0 = (0 : Int32) from rfl] at k5
    rw [show nI 5 = (5 : Int32) from rfl] at k6
    cases hacc : pSr n kd wo 2 b db lo si 0 0 none with
    | none => exact absurd hacc (pSr_some _ _ _ _ _ _ _ _)
    | some q =>
      obtain ⟨W, M, q⟩ := q
      rw [hacc] at k2
      have k7 := pc_touched k2 (by decide) (what := 10) (by decide)
      have k8 := pc_touched k2 (by decide) (what := 11) (by decide)
      rw [show nI 10 - (10 : Int32) = 0 from rfl] at k7
      rw [show nI 11 - (10 : Int32) = 1 from rfl] at k8
      rw [k1]
      simp only [Option.bind_some, lm_un3]
      rw [k3]
      simp only [Option.bind_some, lm_un2]
      rw [k5]
      simp only [Option.bind_some, lm_un2]
      rw [k6]
      simp only [Option.bind_some, lm_un2]
      rw [k7]
      simp only [Option.bind_some, lm_un2]
      rw [k8]
      simp only [Option.bind_some, lm_un2]
      unfold fX9_sayHouse
      have A : ∀ {h : Int64} {g' : Nat → lm_St} {t : lm_St}, dR g s h g' t → oX (g' 2) t n b db dy tc kd wo lo si := fun D => D.oX X
      obtain ⟨v1, a1, b1⟩ := pm_nextOf X9 X1 X3 (a := 0) (by decide)
      rw [show nI 0 = (0 : Int32) from rfl] at a1
      obtain ⟨c1, E1⟩ := D1.say b1 (cW.rf g1) (pE (if db = 0 then none else pN (fun i => pM (kd i) (lo i) (min (si i + (0 - 0)) 20)) b n)).toInt64
      obtain ⟨v2, a2, b2⟩ := pm_nextOf (A E1).2.2.2.2.2.2.2.2.1 X1 X3 (a := 5) (by decide)
      rw [show nI 5 = (5 : Int32) from rfl] at a2
      obtain ⟨c2, E2⟩ := E1.say b2 (cW.rf g1) (pE (if db = 0 then none else pN (fun i => pM (kd i) (lo i) (min (si i + (5 - 0)) 20)) b n)).toInt64
      obtain ⟨v3, a3, b3⟩ := pm_siegeOf (A E2).2.2.2.2.2.2.2.2.1 X1 X3 (m := 2) (what := 0) (by decide) (by decide) hacc
      rw [show nI 2 = (2 : Int32) from rfl, show nI 0 = (0 : Int32) from rfl] at a3
      obtain ⟨c3, E3⟩ := E2.say b3 (cW.rf g1) (pAn 2 W M q 0).toInt64
      obtain ⟨v4, a4, b4⟩ := pm_siegeOf (A E3).2.2.2.2.2.2.2.2.1 X1 X3 (m := 2) (what := 1) (by decide) (by decide) hacc
      rw [show nI 2 = (2 : Int32) from rfl, show nI 1 = (1 : Int32) from rfl] at a4
      obtain ⟨c4, E4⟩ := E3.say b4 (cW.rf g1) (pAn 2 W M q 1).toInt64
      obtain ⟨v5, a5, b5⟩ := pm_siegeOf (A E4).2.2.2.2.2.2.2.2.1 X1 X3 (m := 2) (what := 10) (by decide) (by decide) hacc
      rw [show nI 2 = (2 : Int32) from rfl, show nI 10 = (10 : Int32) from rfl] at a5
      obtain ⟨c5, E5⟩ := E4.say b5 (cW.rf g1) (pAn 2 W M q 10).toInt64
      obtain ⟨v6, a6, b6⟩ := pm_siegeOf (A E5).2.2.2.2.2.2.2.2.1 X1 X3 (m := 2) (what := 11) (by decide) (by decide) hacc
      rw [show nI 2 = (2 : Int32) from rfl, show nI 11 = (11 : Int32) from rfl] at a6
      obtain ⟨c6, E6⟩ := E5.say b6 (cW.rf g1) (pAn 2 W M q 11).toInt64
      obtain ⟨v7, a7, b7⟩ := pm_makeUp (A E6).2.2.2.2.2.2.2.2.1 X1 X3 X2 (what := 0) (by decide)
      rw [show nI 0 = (0 : Int32) from rfl] at a7
      obtain ⟨c7, E7⟩ := E6.say b7 (cW.rf g1) (pAm (pFd (pMk n b db kd wo lo si) (2 ^ n) none) 0).toInt64
      obtain ⟨v8, a8, b8⟩ := pm_makeUp (A E7).2.2.2.2.2.2.2.2.1 X1 X3 X2 (what := 1) (by decide)
      rw [show nI 1 = (1 : Int32) from rfl] at a8
      obtain ⟨c8, E8⟩ := E7.say b8 (cW.rf g1) (pAm (pFd (pMk n b db kd wo lo si) (2 ^ n) none) 1).toInt64
      obtain ⟨v9, a9, b9⟩ := pm_makeUp (A E8).2.2.2.2.2.2.2.2.1 X1 X3 X2 (what := 2) (by decide)
      rw [show nI 2 = (2 : Int32) from rfl] at a9
      obtain ⟨c9, E9⟩ := E8.say b9 (cW.rf g1) (pAm (pFd (pMk n b db kd wo lo si) (2 ^ n) none) 2).toInt64
      rw [a1]
      simp only [Option.bind_some, lm_un2]
      rw [c1]
      simp only [Option.bind_some, lm_un2]
      rw [a2]
      simp only [Option.bind_some, lm_un2]
      rw [c2]
      simp only [Option.bind_some, lm_un2]
      rw [a3]
      simp only [Option.bind_some, lm_un2]
      rw [c3]
      simp only [Option.bind_some, lm_un2]
      rw [a4]
      simp only [Option.bind_some, lm_un2]
      rw [c4]
      simp only [Option.bind_some, lm_un2]
      rw [a5]
      simp only [Option.bind_some, lm_un2]
      rw [c5]
      simp only [Option.bind_some, lm_un2]
      rw [a6]
      simp only [Option.bind_some, lm_un2]
      rw [c6]
      simp only [Option.bind_some, lm_un2]
      rw [a7]
      simp only [Option.bind_some, lm_un2]
      rw [c7]
      simp only [Option.bind_some, lm_un2]
      rw [a8]
      simp only [Option.bind_some, lm_un2]
      rw [c8]
      simp only [Option.bind_some, lm_un2]
      rw [a9]
      simp only [Option.bind_some, lm_un2]
      rw [c9]
      simp only [Option.bind_some]
      have o0 : u2.1 0 = pAm (pFd (pMk n b db kd wo lo si) (2 ^ n) none) 0 ∧ u2.1 1 = pAm (pFd (pMk n b db kd wo lo si) (2 ^ n) none) 1 ∧ u2.1 2 = pAm (pFd (pMk n b db kd wo lo si) (2 ^ n) none) 2 := by
        cases ha : pFd (pMk n b db kd wo lo si) (2 ^ n) none with
        | none => rw [ha] at k4; exact k4
        | some z =>
          obtain ⟨z1, z2, z3⟩ := z
          rw [ha] at k4
          exact ⟨k4.1, k4.2.1, k4.2.2.1⟩
      have o1 : u0.1 1 = pAn 2 W M q 0 := k2.2.1
      have o2 : u0.1 2 = pAn 2 W M q 1 := k2.2.2.1
      rw [o1, o2, o0.1, o0.2.1, o0.2.2]
      have E9' : dR g s _ (va_up (va_up (va_up (va_up (va_up (va_up (va_up (va_up (va_up (va_up g1 2 (g1 2)) 6 u0) 7 u1) 2 (g1 2)) 8 u2) 2 (g1 2)) 2 (g1 2)) 2 (g1 2)) 6 u0) 6 u0) _ := ⟨E9.1.tr ⟨rfl, rfl, rfl, rfl, rfl, rfl, rfl, rfl, rfl⟩, E9.2⟩
      obtain ⟨h2, g2, t2, D2, l1, l2⟩ := dig_page r1 X r2 r4.c1 E9'
      rw [l1, l2]
      exact ⟨h2, g2, t2, rfl, rfl, D2.rel R⟩
