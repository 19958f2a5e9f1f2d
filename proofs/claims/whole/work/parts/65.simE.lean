/-! THE CALLS: thing, count. -/
def cW (g g' : Nat → lm_St) : Prop := g' 0 = g 0 ∧ g' 1 = g 1 ∧ g' 2 = g 2 ∧ g' 3 = g 3 ∧ g' 5 = g 5 ∧ (g' 4).1 0 = (g 4).1 0 ∧ (g' 4).2.1 0 = (g 4).2.1 0 ∧ (g' 4).2.1 1 = (g 4).2.1 1 ∧ (g' 4).2.1 2 = (g 4).2.1 2
theorem cW.rf (g : Nat → lm_St) : cW g g := ⟨rfl, rfl, rfl, rfl, rfl, rfl, rfl, rfl, rfl⟩
theorem cW.tr {g g' g2 : Nat → lm_St} (a : cW g g') (b : cW g' g2) : cW g g2 := ⟨b.1.trans a.1, b.2.1.trans a.2.1, b.2.2.1.trans a.2.2.1, b.2.2.2.1.trans a.2.2.2.1, b.2.2.2.2.1.trans a.2.2.2.2.1, b.2.2.2.2.2.1.trans a.2.2.2.2.2.1, b.2.2.2.2.2.2.1.trans a.2.2.2.2.2.2.1, b.2.2.2.2.2.2.2.1.trans a.2.2.2.2.2.2.2.1, b.2.2.2.2.2.2.2.2.trans a.2.2.2.2.2.2.2.2⟩
theorem cW.oS {g g' : Nat → lm_St} {s t : lm_St} (a : cW g g') (f : mF s t) (h : oS (g 4) s) : oS (g' 4) t := h.fr a.2.2.2.2.2.1 a.2.2.2.2.2.2.1 a.2.2.2.2.2.2.2.1 a.2.2.2.2.2.2.2.2 (f.1 9 (by decide) (by decide) (by decide)) (f.2.1 10 (by decide) (by decide) (by decide) (by decide))
theorem cW.rel {c : Nat} {g g' : Nat → lm_St} {s t : lm_St} (a : cW g g') (f : mF s t) (h : Rel c g s) : Rel (c + 1) g' t := by
  obtain ⟨h1, h2, n, h3, h4⟩ := h
  exact ⟨f.oP h1 a.2.1, a.oS f h2, n, f.oH h3 a.2.2.1, f.oK h4 a.1 a.2.2.2.1 a.2.2.2.2.1⟩
theorem mSn.mF {s t : lm_St} {m : Nat} {st sd sm : Nat → Nat} (h : mSn s m st sd sm) (f : mF s t) : mSn t m st sd sm := by
  refine ⟨(f.1 9 (by decide) (by decide) (by decide)).trans h.1, fun j hj => ?_⟩
  rw [f.2.1 10 (by decide) (by decide) (by decide) (by decide)]
  exact h.2 j hj
theorem pc_missedH {s : lm_St} {n b db : Nat} {kd wo lo si : Nat → Nat} (h : cH s n b db kd wo lo si) (w : pW n b db kd wo lo) (hs : ∀ i, i < n → si i ≤ 20) {i : Nat} (hi : i < n) : fX3_missedBehind s (nI i) (0 : Int32) = some (nI (pM (kd i) (lo i) (si i)), s) := by
  have h1 := hs i hi
  have hn := w.1
  have hw := w.2.2.2 i hi
  unfold fX3_missedBehind
  rw [pg_I (i := i) (by omega) (by decide), pg_I (i := i) (by omega) (by decide), nI_clamp (n := i) (by omega), show (0 : Int32) = nI 0 from rfl, pc_sinceH h w.1 w.2.1 hi (by omega), (h.2.2.2 i hi).1, (h.2.2.2 i hi).2.2.1]
  simp only [Option.bind_some, lm_un2]
  have e : pEf b si i 0 = si i := by
    unfold pEf
    split
    · rfl
    · omega
  rw [e, pM_c _ (by omega) _ (by omega) _ (by omega)]
  rfl
theorem sim_tell {g : Nat → lm_St} {s : lm_St} {n b db dy tc k : Nat} {kd wo lo si : Nat → Nat} (X : oX (g 2) s n b db dy tc kd wo lo si) (S : oS (g 4) s) (hk : k < n) (x : Int32) : ∃ r g' t, fX8_thing g (nI k) x = some (r, g') ∧ fX9_tellThing s (nI k) x = some (r, t) ∧ cW g g' ∧ mF s t := by
  obtain ⟨X1, X2, X3, X4, X5, X6, X7, X8, X9, X10, X11⟩ := X
  have hn := X1.1
  have hb := X1.2.1
  obtain ⟨v1, m1, m2, m3⟩ := pm_begin hn X9
  have Y9 := X9.mF m2
  obtain ⟨m, st, sd, sm, a1, a2, a4⟩ := S
  have a4' := a4.mF m2
  have hw0 : cW g (va_up g 2 (g 2)) := ⟨rfl, rfl, rfl, rfl, rfl, rfl, rfl, rfl, rfl⟩
  unfold fX8_thing fX9_tellThing
  rw [pc_has X6.1 hn (by omega), if_pos hk, m1]
  simp only [Option.bind_some, lm_un2]
  rw [if_neg p10]
  obtain ⟨c1, c2, c3, c4⟩ := X6.2.2.2 k hk
  obtain ⟨d1, d2, d3, d4, d5⟩ := Y9.2.2 k hk
  rw [pg_I (i := k) (by omega) (by decide), pg_I (i := k) (by omega) (by decide), pg_I (i := k) (by omega) (by decide), pg_I (i := k) (by omega) (by decide), pg_I (i := k) (by omega) (by decide), pg_I (i := k) (by omega) (by decide), pg_I (i := k) (by omega) (by decide), pg_I (i := k) (by omega) (by decide), pg_I (i := k) (by omega) (by decide), nI_clamp (n := k) (by omega), c1, c2, c3, c4, d1, d2, d3, d4, d5]
  by_cases e0 : x = 0
  · rw [if_pos e0, if_pos e0]; exact ⟨_, _, _, rfl, rfl, hw0, m2⟩
  rw [if_neg e0, if_neg e0]
  by_cases e1 : x = 1
  · rw [if_pos e1, if_pos e1]; exact ⟨_, _, _, rfl, rfl, hw0, m2⟩
  rw [if_neg e1, if_neg e1]
  by_cases e2 : x = 2
  · rw [if_pos e2, if_pos e2]; exact ⟨_, _, _, rfl, rfl, hw0, m2⟩
  rw [if_neg e2, if_neg e2]
  by_cases e3 : x = 3
  · rw [if_pos e3, if_pos e3]; exact ⟨_, _, _, rfl, rfl, hw0, m2⟩
  rw [if_neg e3, if_neg e3]
  by_cases e4 : x = 4
  · rw [if_pos e4, if_pos e4, pc_missedH X6 X1 X3 hk, pm_missedThen m3 X1 hk (X3 k hk)]; exact ⟨_, _, _, rfl, rfl, hw0, m2⟩
  rw [if_neg e4, if_neg e4]
  by_cases e5 : x = 5
  · rw [if_pos e5, if_pos e5, X6.2.1, pb_isIn (by omega) (by omega)]
    cases b.testBit k with
    | true => exact ⟨_, _, _, rfl, rfl, hw0, m2⟩
    | false => exact ⟨_, _, _, rfl, rfl, hw0, m2⟩
  rw [if_neg e5, if_neg e5]
  by_cases e6 : x = 6
  · rw [if_pos e6, if_pos e6, pc_looks X6 X1 X3 a2 a1 hk, pm_looks Y9 X1 X3 a4' a1 hk]; exact ⟨_, _, _, rfl, rfl, ⟨rfl, rfl, rfl, rfl, rfl, rfl, rfl, rfl, rfl⟩, m2⟩
  rw [if_neg e6, if_neg e6]
  by_cases e7 : x = 7
  · obtain ⟨t, k1, k2, k3⟩ := pc_watch X6 X1 X3 a2 a1 hk
    rw [if_pos e7, if_pos e7, k1, pm_watch Y9 X1 X3 a4' a1 hk]; exact ⟨_, _, _, rfl, rfl, ⟨rfl, rfl, rfl, rfl, rfl, by show t.1 0 = _; rw [k2], k3 0 (by decide), k3 1 (by decide), k3 2 (by decide)⟩, m2⟩
  rw [if_neg e7, if_neg e7]
  by_cases e8 : x = 8
  · obtain ⟨t, k1⟩ := pc_buyerOf (s0 := g 11) hn X2 X6.1 X6.2.1 (fun i hi => ⟨(X6.2.2.2 i hi).2.2.1, (X1.2.2.2 i hi).2.2.2⟩) hk
    obtain ⟨t2, k2, k3⟩ := pm_buyerOf Y9 X1 hk
    rw [if_pos e8, if_pos e8, k1, k2]; exact ⟨_, _, _, rfl, rfl, ⟨rfl, rfl, rfl, rfl, rfl, rfl, rfl, rfl, rfl⟩, m2.tr k3⟩
  rw [if_neg e8, if_neg e8]
  exact ⟨_, _, _, rfl, rfl, hw0, m2⟩
theorem sim_thing {c : Nat} {g : Nat → lm_St} {s : lm_St} (h : Rel c g s) (x y : Int32) : oSim c (fX8_thing g x y) (fX9_thing s x y) := by
  obtain ⟨r1, r2, n, ⟨b, db, dy, tc, kd, wo, lo, si, X⟩, r4⟩ := id h
  rcases oThing X.2.2.2.2.2.1.1 X.2.2.2.2.2.2.2.2.1.1 X.1.1 x with ⟨q1, q2⟩ | ⟨k, hk, hx, q1, q2⟩
  · unfold fX8_thing fX9_thing
    rw [q1, q2]
    exact ⟨_, _, s, rfl, rfl, (mF.rf s).rel h rfl rfl rfl rfl rfl rfl⟩
  · obtain ⟨r, g', t, k1, k2, k3, k4⟩ := sim_tell X r2 hk y
    unfold fX9_thing
    rw [q2]
    simp only [Option.bind_some, lm_un2]
    rw [if_neg p10, hx, k1, k2]
    exact ⟨r, g', t, rfl, rfl, k3.rel k4 h⟩
theorem pm_takenMany {s : lm_St} {n b db : Nat} {kd wo lo si : Nat → Nat} (h : mH s n b db kd wo lo si) (hn : n ≤ 7) : fX9_takenMany s = some (nI (pS (fun _ => 1) (fun i => b.testBit i) n), s) := by
  unfold fX9_takenMany
  refine pl_run0 (fun j => (nI (pS (fun _ => 1) (fun i => b.testBit i) j), nI j, s)) n rfl (fun j k hj => ?_) (fun k => ?_) (by omega)
  · show bX9_takenMany_4 k (nI (pS (fun _ => 1) (fun i => b.testBit i) j)) (nI j) s = k (nI (pS (fun _ => 1) (fun i => b.testBit i) (j + 1)), nI (j + 1), s)
    unfold bX9_takenMany_4
    rw [h.1, if_neg (nI_ge hj (by omega)), pg_I (i := j) (by omega) (by decide), nI_clamp (n := j) (by omega), (h.2.2 j hj).2.2.2.2, nI_1 j]
    show _ = k (nI (pS (fun _ => 1) (fun i => b.testBit i) j + (if b.testBit j then 1 else 0)), nI (j + 1), s)
    rw [← nI_add (pS (fun _ => 1) (fun i => b.testBit i) j)]
    cases b.testBit j <;> rfl
  · show bX9_takenMany_4 k _ (nI n) s = _
    unfold bX9_takenMany_4
    rw [h.1, if_pos (nI_le (Nat.le_refl n) (by omega))]
theorem sim_cnt {g : Nat → lm_St} {s : lm_St} {n b db dy tc : Nat} {kd wo lo si : Nat → Nat} (P : oP (g 1) s) (X : oX (g 2) s n b db dy tc kd wo lo si) (S : oS (g 4) s) (C1 : (g 0).1 1 = s.1 6) (C2 : (g 0).1 2 = s.1 8) (x : Int32) : ∃ r g' t, fX8_count g x = some (r, g') ∧ fX9_countOf s x = some (r, t) ∧ cW g g' ∧ mF s t := by
  obtain ⟨X1, X2, X3, X4, X5, X6, X7, X8, X9, X10, X11⟩ := X
  have hn := X1.1
  have hb := X1.2.1
  obtain ⟨v1, m1, m2, m3⟩ := pm_begin hn X9
  have Y9 := X9.mF m2
  obtain ⟨m, st, sd, sm, a1, a2, a4⟩ := S
  obtain ⟨pm, pp, p1, p2, p3, p4, p5⟩ := P
  have fk : ∀ k, k ≠ 1 → k ≠ 7 → k ≠ 10 → v1.1 k = s.1 k := m2.1
  have hw0 : cW g (va_up g 2 (g 2)) := ⟨rfl, rfl, rfl, rfl, rfl, rfl, rfl, rfl, rfl⟩
  have hpos : ∀ i, i < n → fX8_isIn (nI b) (nI i) = some (if b.testBit i then 1 else 0) := fun i hi => pb_isIn (by omega) (by omega)
  have hneg : ∀ i, i < n → fX8_isIn (nI b ^^^ (-1 : Int32)) (nI i) = some (if (!b.testBit i) then 1 else 0) := fun i hi => by
    rw [pb_isInN b hb i (by omega)]
    cases b.testBit i <;> rfl
  unfold fX8_count fX9_countOf
  rw [m1]
  simp only [Option.bind_some]
  by_cases e0 : x = 0
  · rw [if_pos e0, if_pos e0, X6.1, Y9.1]; exact ⟨_, _, _, rfl, rfl, cW.rf g, m2⟩
  rw [if_neg e0, if_neg e0]
  by_cases e1 : x = 1
  · rw [if_pos e1, if_pos e1, X6.2.1, pb_cnt hn X2, pm_takenMany Y9 hn]; exact ⟨_, _, _, rfl, rfl, cW.rf g, m2⟩
  rw [if_neg e1, if_neg e1]
  by_cases e2 : x = 2
  · rw [if_pos e2, if_pos e2, X6.2.2.1, Y9.2.1]; exact ⟨_, _, _, rfl, rfl, cW.rf g, m2⟩
  rw [if_neg e2, if_neg e2]
  by_cases e3 : x = 3
  · rw [if_pos e3, if_pos e3, X7, fk 4 (by decide) (by decide) (by decide), X10]; exact ⟨_, _, _, rfl, rfl, cW.rf g, m2⟩
  rw [if_neg e3, if_neg e3]
  by_cases e4 : x = 4
  · have h2p : 0 < 2 ^ n := Nat.pow_pos (by decide)
    have h2n : 2 ^ n ≤ 128 := Nat.pow_le_pow_right (n := 2) (by decide) hn
    rw [if_pos e4, if_pos e4, X6.2.1, pc_worthOf X6.1 hn (fun i hi => (X6.2.2.2 i hi).2.1) hneg, pm_takenSet Y9.1 (fun i hi => (Y9.2.2 i hi).2.2.2.2) hn X2, Y9.1, pm_2 n (by omega)]
    simp only [Option.bind_some, lm_un2]
    rw [show nI (2 ^ n) - 1 - nI b = nI (2 ^ n - (b + 1)) by
      rw [show (1 : Int32) = nI 1 from rfl, pk_sub (by omega), pk_sub (by omega)]
      congr 1
      omega, pm_worthOf Y9.1 hn (by omega) (fun i hi => (Y9.2.2 i hi).2.1)]
    have e : pS wo (fun i => (2 ^ n - (b + 1)).testBit i) n = pS wo (fun i => !b.testBit i) n := pS_congr (fun i hi => by
      rw [Nat.testBit_two_pow_sub_succ X2]
      simp [hi]) (fun _ _ _ => rfl)
    rw [e]
    exact ⟨_, _, _, rfl, rfl, hw0, m2⟩
  rw [if_neg e4, if_neg e4]
  by_cases e5 : x = 5
  · rw [if_pos e5, if_pos e5, X6.2.1, pc_missedOf X6.1 hn (fun i hi _ => pc_missedH X6 X1 X3 hi) hneg, pm_missedLeft m3 X1 X3]; exact ⟨_, _, _, rfl, rfl, hw0, m2⟩
  rw [if_neg e5, if_neg e5]
  by_cases e6 : x = 6
  · rw [if_pos e6, if_pos e6, X8, fk 5 (by decide) (by decide) (by decide), X11]; exact ⟨_, _, _, rfl, rfl, cW.rf g, m2⟩
  rw [if_neg e6, if_neg e6]
  by_cases e7 : x = 7
  · rw [if_pos e7, if_pos e7, X6.2.1, pc_worthOf X6.1 hn (fun i hi => (X6.2.2.2 i hi).2.1) hpos, pm_takenSet Y9.1 (fun i hi => (Y9.2.2 i hi).2.2.2.2) hn X2]
    simp only [Option.bind_some, lm_un2]
    rw [pm_worthOf Y9.1 hn (by omega) (fun i hi => (Y9.2.2 i hi).2.1)]
    exact ⟨_, _, _, rfl, rfl, hw0, m2⟩
  rw [if_neg e7, if_neg e7]
  by_cases e8 : x = 8
  · rw [if_pos e8, if_pos e8, a2.1, fk 9 (by decide) (by decide) (by decide), a4.1]; exact ⟨_, _, _, rfl, rfl, cW.rf g, m2⟩
  rw [if_neg e8, if_neg e8]
  by_cases e9 : x = 9
  · rw [if_pos e9, if_pos e9, p3, fk 0 (by decide) (by decide) (by decide), p4]; exact ⟨_, _, _, rfl, rfl, cW.rf g, m2⟩
  rw [if_neg e9, if_neg e9]
  by_cases e10 : x = 10
  · rw [if_pos e10, if_pos e10, C1, fk 6 (by decide) (by decide) (by decide)]; exact ⟨_, _, _, rfl, rfl, cW.rf g, m2⟩
  rw [if_neg e10, if_neg e10]
  by_cases e11 : x = 11
  · rw [if_pos e11, if_pos e11, C2, fk 8 (by decide) (by decide) (by decide)]; exact ⟨_, _, _, rfl, rfl, cW.rf g, m2⟩
  rw [if_neg e11, if_neg e11]
  exact ⟨_, _, _, rfl, rfl, cW.rf g, m2⟩
theorem oK.c1 {c : Nat} {u0 u3 u5 s : lm_St} {n : Nat} (h : oK c u0 u3 u5 s n) : u0.1 1 = s.1 6 ∧ u0.1 2 = s.1 8 := by
  obtain ⟨hr, sal, a1, a2, a3, a4, a5, a6, a7⟩ := h
  exact ⟨a3.trans a4.symm, a5.trans a6.symm⟩
theorem sim_count {c : Nat} {g : Nat → lm_St} {s : lm_St} (h : Rel c g s) (x : Int32) : oSim c (fX8_count g x) (fX9_count s x) := by
  obtain ⟨r1, r2, n, ⟨b, db, dy, tc, kd, wo, lo, si, X⟩, r4⟩ := id h
  obtain ⟨r, g', t, k1, k2, k3, k4⟩ := sim_cnt r1 X r2 r4.c1.1 r4.c1.2 x
  unfold fX9_count
  rw [k1, k2]
  exact ⟨r, g', t, rfl, rfl, k3.rel k4 h⟩
