/-! THE CALLS: redeem, see, next, sale, image, restore. -/
def pCl (b k : Nat) : Nat := if b.testBit k then b - 2 ^ k else b
theorem pCl_I : ∀ b, b < 128 → ∀ k, k < 7 → nI b &&& (((1 : Int32) <<< (nI k &&& 31)) ^^^ (-1 : Int32)) = nI (pCl b k) := by decide +kernel
theorem pCl_bit : ∀ b, b < 128 → ∀ k, k < 7 → ∀ i, i < 7 → (pCl b k).testBit i = (b.testBit i && !decide (i = k)) := by decide +kernel
theorem pCl_le (b k : Nat) : pCl b k ≤ b := by unfold pCl; split <;> first | exact Nat.sub_le _ _ | exact Nat.le_refl _
theorem sim_redeem {c : Nat} {g : Nat → lm_St} {s : lm_St} (h : Rel c g s) (x : Int32) : oSim c (fX8_redeem g x) (fX9_redeem s x) := by
  obtain ⟨r1, r2, n, ⟨b, db, dy, tc, kd, wo, lo, si, X1, X2, X3, X4, X5, X6, X7, X8, X9, X10, X11⟩, r4⟩ := id h
  have hz : ∀ r : Int32, oSim c (some (r, va_up g 2 (g 2))) (some (r, s)) := fun r => ⟨r, _, s, rfl, rfl, (mF.rf s).rel h rfl rfl rfl rfl rfl rfl⟩
  unfold fX8_redeem fX9_redeem
  have hn := X1.1
  have hb := X1.2.1
  rcases oThing X6.1 X9.1 X1.1 x with ⟨q1, q2⟩ | ⟨k, hk, hx, q1, q2⟩
  · rw [q1, q2]; exact hz _
  · rw [q1, q2]
    simp only [Option.bind_some, lm_un2]
    rw [if_neg p10, if_neg p10, hx, X6.2.1, pb_isIn (by omega) (by omega), pg_I (i := k) (by omega) (by decide), pg_I (i := k) (by omega) (by decide), pg_I (i := k) (by omega) (by decide), pg_I (i := k) (by omega) (by decide), pg_I (i := k) (by omega) (by decide), pg_I (i := k) (by omega) (by decide), nI_clamp (n := k) (by omega), (X9.2.2 k hk).2.2.2.2]
    cases ht : b.testBit k with
    | false => exact hz _
    | true =>
      simp only [Option.bind_some, if_true]
      obtain ⟨w1, w2, w3, w4⟩ := X1
      have hw := w4 k hk
      rw [if_neg p10, if_neg p10, X6.2.2.1, X9.2.1, (X6.2.2.2 k hk).2.1, (X9.2.2 k hk).2.1, nI_add]
      by_cases d : db + wo k ≤ 99
      · rw [if_pos (show nI (db + wo k) ≤ (99 : Int32) from nI_le (b := 99) d (by decide)), if_pos (show nI (db + wo k) ≤ (99 : Int32) from nI_le (b := 99) d (by decide)), pCl_I b w2 k (by omega)]
        have hle := pCl_le b k
        refine ⟨_, _, _, rfl, rfl, mW.rel (s := s) ⟨fun k hk => ?_, fun k hk => ?_⟩ r1 r2 r4 ⟨pCl b k, db + wo k, dy, tc, kd, wo, lo, si, ⟨w1, by omega, d, w4⟩, by omega, X3, X4, X5, ⟨X6.1, rfl, rfl, X6.2.2.2⟩, X7, X8, ⟨X9.1, rfl, fun i hi => ?_⟩, X10, X11⟩ rfl rfl rfl rfl rfl⟩
        · rw [pu_1, if_neg (by omega)]; rfl
        · show (lm_sA s 5 _).2.1 k = _
          rw [pu_4, if_neg (by omega)]
        · obtain ⟨a1, a2, a3, a4, a5⟩ := X9.2.2 i hi
          refine ⟨a1, a2, a3, a4, ?_⟩
          show upd (s.2.1 5) k 0 i = _
          rw [pu_u, pCl_bit b w2 k (by omega) i (by omega)]
          by_cases e : i = k
          · rw [if_pos e, show decide (i = k) = true from decide_eq_true e]; simp
          · rw [if_neg e, show decide (i = k) = false from decide_eq_false e, a5]; simp
      · rw [if_neg (show ¬ nI (db + wo k) ≤ (99 : Int32) from nI_ge (a := 99) (by omega) (by omega)), if_neg (show ¬ nI (db + wo k) ≤ (99 : Int32) from nI_ge (a := 99) (by omega) (by omega))]
        exact hz _
theorem sim_see {c : Nat} {g : Nat → lm_St} {s : lm_St} (h : Rel c g s) (x y z : Int32) : oSim c (fX8_see g x y z) (fX9_see s x y z) := by
  obtain ⟨r1, r2, n, ⟨b, db, dy, tc, kd, wo, lo, si, X1, X2, X3, X4, X5, X6, X7, X8, X9, X10, X11⟩, r4⟩ := id h
  have hz : ∀ r : Int32, oSim c (some (r, va_up g 2 (g 2))) (some (r, s)) := fun r => ⟨r, _, s, rfl, rfl, (mF.rf s).rel h rfl rfl rfl rfl rfl rfl⟩
  unfold fX8_see fX9_see
  have hn := X1.1
  rcases oThing X6.1 X9.1 X1.1 x with ⟨q1, q2⟩ | ⟨k, hk, hx, q1, q2⟩
  · rw [q1, q2]; exact hz _
  · rw [q1, q2]
    simp only [Option.bind_some, lm_un2]
    rw [if_neg p10, if_neg p10]
    rcases pR (lo := 0) (hi := 9) (hi1 := 10) (lo' := 0) (hi' := 9) 0 9 rfl rfl rfl rfl rfl (by decide) (by decide) y with ⟨h1, h2⟩ | ⟨h1, h2, h3, h4, h5, h6⟩ | ⟨j, h1, h2, h3, h4, h5, h6, h7, h8, h9⟩
    · rw [if_pos h1, h2]; exact hz _
    · rw [if_neg h1, if_pos h2, h6]; exact hz _
    · rw [if_neg h4, if_neg h5, h9]
      simp only [Option.bind_some]
      rw [if_neg p10]
      rcases pR (lo := 0) (hi := 20) (hi1 := 21) (lo' := 0) (hi' := 20) 0 20 rfl rfl rfl rfl rfl (by decide) (by decide) z with ⟨i1, i2⟩ | ⟨i1, i2, i3, i4, i5, i6⟩ | ⟨v, i1, i2, i3, i4, i5, i6, i7, i8, i9⟩
      · rw [if_pos i1, i2]; exact hz _
      · rw [if_neg i1, if_neg i3, i6]; exact hz _
      · rw [if_neg i4, if_pos i6, i9]
        simp only [Option.bind_some]
        rw [if_neg p10]
        obtain ⟨m, st, sd, sm, ⟨a1, a1'⟩, ⟨a2, a3⟩, a4, a5⟩ := id r2
        unfold fX7_add
        rw [a2, a4]
        by_cases d : m = 6
        · subst d
          rw [if_neg (show ¬ nI 6 < (6 : Int32) by decide), if_pos (show nI 6 = (6 : Int32) from rfl)]
          exact ⟨_, _, s, rfl, rfl, (mF.rf s).rel h rfl rfl rfl rfl rfl rfl⟩
        · rw [if_pos (show nI m < (6 : Int32) from nI_lt (b := 6) (by omega) (by decide)), if_neg (show ¬ nI m = (6 : Int32) from fun z => d ((nI_eq (b := 6) (by omega) (by decide)).mp z)), show (3 : Int32) = nI 3 from rfl, pk_mul, nI_1 (3 * m), show (2 : Int32) = nI 2 from rfl, nI_add, pg_I (i := m) (by omega) (by decide), pg_I (i := m) (by omega) (by decide), pg_I (i := m) (by omega) (by decide), pg_I (i := 3 * m) (by omega) (by decide), pg_I (i := 3 * m + 1) (by omega) (by decide), pg_I (i := 3 * m + 2) (by omega) (by decide), nI_clamp (n := m) (by omega), nI_clamp (n := 3 * m) (by omega), nI_clamp (n := 3 * m + 1) (by omega), nI_clamp (n := 3 * m + 2) (by omega), nI_1 m]
          refine ⟨_, _, _, rfl, rfl, r1.fr rfl rfl rfl, ⟨m + 1, fun i => if i = m then k else st i, fun i => if i = m then j else sd i, fun i => if i = m then v else sm i, ⟨by omega, fun i hi => ?_⟩, ⟨rfl, fun i hi => ?_⟩, rfl, fun i hi => ?_⟩, n, ⟨b, db, dy, tc, kd, wo, lo, si, X1, X2, X3, X4, X5, X6, X7, X8, X9, X10, X11⟩, r4.fr rfl rfl rfl rfl rfl rfl rfl ⟨fun k k1 k2 => ?_, fun k' k1 k2 => ?_⟩⟩
          · dsimp only
            by_cases e : i = m
            · rw [if_pos e, if_pos e, if_pos e]; omega
            · rw [if_neg e, if_neg e, if_neg e]; exact a1' i (by omega)
          · show upd ((g 4).2.1 0) m x i = _ ∧ upd ((g 4).2.1 1) m y i = _ ∧ upd ((g 4).2.1 2) m z i = _
            rw [pu_u, pu_u, pu_u]
            dsimp only
            by_cases e : i = m
            · rw [if_pos e, if_pos e, if_pos e, if_pos e, if_pos e, if_pos e]; exact ⟨hx, h3, i3⟩
            · rw [if_neg e, if_neg e, if_neg e, if_neg e, if_neg e, if_neg e]; exact a3 i (by omega)
          · show upd (upd (upd (s.2.1 10) (3 * m) x) (3 * m + 1) y) (3 * m + 2) z (3 * i) = _ ∧ upd (upd (upd (s.2.1 10) (3 * m) x) (3 * m + 1) y) (3 * m + 2) z (3 * i + 1) = _ ∧ upd (upd (upd (s.2.1 10) (3 * m) x) (3 * m + 1) y) (3 * m + 2) z (3 * i + 2) = _
            rw [pu_u, pu_u, pu_u, pu_u, pu_u, pu_u, pu_u, pu_u, pu_u]
            dsimp only
            by_cases e : i = m
            · subst e
              exact ⟨by rw [if_neg (by omega), if_neg (by omega), if_pos rfl, if_pos rfl]; exact hx, by rw [if_neg (by omega), if_pos rfl, if_pos rfl]; exact h3, by rw [if_pos rfl, if_pos rfl]; exact i3⟩
            · have q := a5 i (by omega)
              exact ⟨by rw [if_neg (by omega), if_neg (by omega), if_neg (by omega), if_neg e]; exact q.1, by rw [if_neg (by omega), if_neg (by omega), if_neg (by omega), if_neg e]; exact q.2.1, by rw [if_neg (by omega), if_neg (by omega), if_neg (by omega), if_neg e]; exact q.2.2⟩
          · rw [pu_1, if_neg (by omega)]; rfl
          · show (lm_sA (lm_sA (lm_sA s 10 _) 10 _) 10 _).2.1 k' = _
            rw [pu_4, if_neg (by omega), pu_4, if_neg (by omega), pu_4, if_neg (by omega)]
theorem pm_nextOf {s : lm_St} {n b db a : Nat} {kd wo lo si : Nat → Nat} (h : mH s n b db kd wo lo si) (w : pW n b db kd wo lo) (hs : ∀ i, i < n → si i ≤ 20) (ha : a ≤ 20) : ∃ t, fX9_nextOf s (nI a) = some (pE (if db = 0 then none else pN (fun i => pM (kd i) (lo i) (min (si i + (a - 0)) 20)) b n), t) ∧ mF s t := by
  obtain ⟨v1, m1, m2, m3⟩ := pm_begin w.1 h
  unfold fX9_nextOf
  rw [m1]
  simp only [Option.bind_some]
  refine pl_inv0 (P := fun o => ∃ t, o = some (pE (if db = 0 then none else pN (fun i => pM (kd i) (lo i) (min (si i + (a - 0)) 20)) b n), t) ∧ mF s t) (fun (j : Nat) (q : Int32 × Int32 × lm_St) => q.1 = nI a ∧ q.2.1 = nI j ∧ mF s q.2.2 ∧ mV q.2.2 n b db kd wo lo (fun i => si i + j)) a ⟨rfl, rfl, m2, mH.mV (s := s) m3 hs⟩ ?_ ?_ (by omega)
  · intro j q hj hq
    obtain ⟨x1, x2, u⟩ := q
    obtain ⟨e1, e2, g1, g2⟩ := hq
    dsimp only at e1 e2 g1 g2
    subst e1 e2
    obtain ⟨t, f1, f2, f3⟩ := g2.day w.1
    refine ⟨(nI a, nI (j + 1), t), fun k => ?_, rfl, rfl, g1.tr f2, f3⟩
    show bX9_nextOf_6 k (nI a) (nI j) u = _
    unfold bX9_nextOf_6
    rw [if_neg (nI_ge hj (by omega)), f1, nI_1 j]
    rfl
  · intro q hq
    obtain ⟨x1, x2, u⟩ := q
    obtain ⟨e1, e2, g1, g2⟩ := hq
    dsimp only at e1 e2 g1 g2
    subst e1 e2
    refine ⟨some (pE (if db = 0 then none else pN (fun i => pM (kd i) (lo i) (min (si i + (a - 0)) 20)) b n), u), fun k => ?_, u, rfl, g1⟩
    show bX9_nextOf_6 k (nI a) (nI a) u = _
    unfold bX9_nextOf_6
    rw [if_pos (nI_le (Nat.le_refl a) (by omega)), g2.next w]
    rfl
theorem sim_next {c : Nat} {g : Nat → lm_St} {s : lm_St} (h : Rel c g s) (x : Int32) : oSim c (fX8_next g x) (fX9_next s x) := by
  obtain ⟨r1, r2, n, ⟨b, db, dy, tc, kd, wo, lo, si, X1, X2, X3, X4, X5, X6, X7, X8, X9, X10, X11⟩, r4⟩ := id h
  have hz : ∀ r : Int32, oSim c (some (r, va_up g 2 (g 2))) (some (r, s)) := fun r => ⟨r, _, s, rfl, rfl, (mF.rf s).rel h rfl rfl rfl rfl rfl rfl⟩
  have hz' : ∀ r : Int32, oSim c (some (r, g)) (some (r, s)) := fun r => ⟨r, _, s, rfl, rfl, (mF.rf s).rel h rfl rfl rfl rfl rfl rfl⟩
  unfold fX8_next fX9_next
  rcases pR (lo := 0) (hi := 20) (hi1 := 21) (lo' := 0) (hi' := 20) 0 20 rfl rfl rfl rfl rfl (by decide) (by decide) x with ⟨h1, h2⟩ | ⟨h1, h2, h3, h4, h5, h6⟩ | ⟨j, h1, h2, h3, h4, h5, h6, h7, h8, h9⟩
  · rw [if_pos h1, h2]; exact hz' _
  · rw [if_neg h1, if_neg h3, h6]; exact hz' _
  · rw [if_neg h4, if_pos h6, h9]
    simp only [Option.bind_some]
    rw [if_neg p10]
    rcases oNone X6.1 X9.1 X1.1 with ⟨q0, q1, q2⟩ | ⟨q0, q1, q2⟩
    · rw [q1, q2]; exact hz _
    · rw [q1, q2]
      simp only [Option.bind_some, lm_un2]
      obtain ⟨t, ht, hF⟩ := pm_nextOf X9 X1 X3 h2
      rw [if_pos trivial, if_pos trivial, h3, ht, pc_next X6.cT X1 (a := j) (Nat.zero_le j) (fun i hi => by have := X3 i hi; omega)]
      exact ⟨_, _, t, rfl, rfl, hF.rel h rfl rfl rfl rfl rfl rfl⟩
theorem sim_sale {c : Nat} {g : Nat → lm_St} {s : lm_St} (h : Rel c g s) : oSim c (fX8_sale g) (fX9_sale s) := by
  obtain ⟨r1, r2, n, ⟨b, db, dy, tc, kd, wo, lo, si, X1, X2, X3, X4, X5, X6, X7, X8, X9, X10, X11⟩, r4⟩ := id h
  have hz : ∀ r : Int32, oSim c (some (r, va_up g 2 (g 2))) (some (r, s)) := fun r => ⟨r, _, s, rfl, rfl, (mF.rf s).rel h rfl rfl rfl rfl rfl rfl⟩
  unfold fX8_sale fX9_sale
  rcases oNone X6.1 X9.1 X1.1 with ⟨q0, q1, q2⟩ | ⟨q0, q1, q2⟩
  · rw [q1, q2]; exact hz _
  · rw [q1, q2]
    simp only [Option.bind_some, lm_un2]
    obtain ⟨hr, sal, b1, b2, b3, b4, b5, b6, b7⟩ := r4
    rw [if_pos trivial, if_pos trivial, b5, b6]
    by_cases d : sal = 16
    · subst d
      rw [if_neg (show ¬ nI 16 < (16 : Int32) by decide), if_pos (show nI 16 = (16 : Int32) from rfl)]
      exact hz _
    · rw [if_pos (show nI sal < (16 : Int32) from nI_lt (b := 16) (by omega) (by decide)), if_neg (show ¬ nI sal = (16 : Int32) from fun z => d ((nI_eq (b := 16) (by omega) (by decide)).mp z)), nI_1 sal]
      obtain ⟨t, ht, hF, h0⟩ := pm_sale (s := lm_sF s 8 (nI (sal + 1))) X9 X1
      obtain ⟨t0, k1, k2⟩ := pc_mostOf (s0 := g 11) X1.1 X2 X6.1 X6.2.1 (fun i hi => ⟨(X6.2.2.2 i hi).2.2.1, (X1.2.2.2 i hi).2.2.2⟩)
      rw [ht, k1]
      simp only [Option.bind_some, lm_un3]
      rw [show (0 : Int32) = nI 0 from rfl, pg_I (by decide) (by decide), nI_clamp (by decide), h0]
      have e : ∀ k, k ≠ 8 → (lm_sF s 8 (nI (sal + 1))).1 k = s.1 k := fun k hk => by rw [pu_1, if_neg hk]
      refine ⟨_, _, t, rfl, rfl, hF.oP (r1.fr (t := lm_sF s 8 (nI (sal + 1))) rfl rfl rfl) rfl, hF.oS (r2.fr (t := lm_sF s 8 (nI (sal + 1))) rfl rfl rfl rfl rfl rfl) rfl, n, hF.oH (u := g 2) (s := lm_sF s 8 (nI (sal + 1))) ⟨b, db, dy, tc, kd, wo, lo, si, X1, X2, X3, X4, X5, X6, X7, X8, X9, X10, X11⟩ rfl, hF.oK (c := c) (u0 := lm_sF (g 0) 2 (nI (sal + 1))) (u3 := g 3) (u5 := g 5) (s := lm_sF s 8 (nI (sal + 1))) ⟨hr, sal + 1, b1, by omega, b3, b4, rfl, rfl, ?_⟩ rfl rfl rfl⟩
      rcases b7 with z | ⟨z1, z2, z3, z4⟩
      · exact Or.inl z
      · exact Or.inr ⟨z1, z2, z3.fr rfl rfl rfl rfl rfl (fun _ _ _ => rfl), z4.fr rfl rfl rfl rfl rfl rfl⟩
theorem pc_copyS (t s : lm_St) : ∃ u, fX7_copyFrom t s = some (u, s) ∧ (∀ i, i < 6 → u.2.1 0 i = s.2.1 0 i ∧ u.2.1 1 i = s.2.1 1 i ∧ u.2.1 2 i = s.2.1 2 i) ∧ u.1 0 = s.1 0 := by
  unfold fX7_copyFrom
  have g : ∀ {x : Option (lm_St × lm_St)}, lm_gC (6 : Int32) 6 6 x = x := fun {x} => lm_gCo (by decide)
  rw [g, g, g]
  refine ⟨_, rfl, fun i hi => ?_, rfl⟩
  have e : ∀ f h : Nat → Int32, va_cpy f h 0 0 (6 : Int32).toNatClampNeg i = f i := fun f h => by
    rw [show (6 : Int32).toNatClampNeg = 6 from rfl, pk_cpy_in (Nat.zero_le _) (by omega)]
    congr 1
    omega
  exact ⟨e _ _, e _ _, e _ _⟩
theorem cH.cp {s u : lm_St} {n b db : Nat} {kd wo lo si : Nat → Nat} (hn : n ≤ 7) (h : cH s n b db kd wo lo si) (a : ∀ k, k < 4 → ∀ i, i < 7 → u.2.1 k i = s.2.1 k i) (f : ∀ k, k < 5 → u.1 k = s.1 k) : cH u n b db kd wo lo si := by
  obtain ⟨h0, h1, h2, h3⟩ := h
  refine ⟨(f 0 (by decide)).trans h0, (f 1 (by decide)).trans h1, (f 2 (by decide)).trans h2, fun i hi => ?_⟩
  rw [a 0 (by decide) i (by omega), a 1 (by decide) i (by omega), a 2 (by decide) i (by omega), a 3 (by decide) i (by omega)]
  exact h3 i hi
theorem cSn.cp {s u : lm_St} {m : Nat} {st sd sm : Nat → Nat} (hm : m ≤ 6) (h : cSn s m st sd sm) (a : ∀ i, i < 6 → u.2.1 0 i = s.2.1 0 i ∧ u.2.1 1 i = s.2.1 1 i ∧ u.2.1 2 i = s.2.1 2 i) (f : u.1 0 = s.1 0) : cSn u m st sd sm := by
  refine ⟨f.trans h.1, fun j hj => ?_⟩
  obtain ⟨e1, e2, e3⟩ := a j (by omega)
  rw [e1, e2, e3]
  exact h.2 j hj
theorem sim_image {c : Nat} {g : Nat → lm_St} {s : lm_St} (h : Rel c g s) : oSim c (fX8_image g) (fX9_image s) := by
  obtain ⟨r1, r2, n, ⟨b, db, dy, tc, kd, wo, lo, si, X1, X2, X3, X4, X5, X6, X7, X8, X9, X10, X11⟩, r4⟩ := id h
  have hz : ∀ r : Int32, oSim c (some (r, va_up g 2 (g 2))) (some (r, s)) := fun r => ⟨r, _, s, rfl, rfl, (mF.rf s).rel h rfl rfl rfl rfl rfl rfl⟩
  unfold fX8_image fX9_image
  have hn := X1.1
  rcases oNone X6.1 X9.1 X1.1 with ⟨q0, q1, q2⟩ | ⟨q0, q1, q2⟩
  · rw [q1, q2]; exact hz _
  · rw [q1, q2]
    simp only [Option.bind_some, lm_un2]
    rw [if_pos trivial, if_pos trivial]
    obtain ⟨u3, k1, k2, k3⟩ := pc_copy (g 3) (g 2)
    obtain ⟨u5, k4, k5, k6⟩ := pc_copyS (g 5) (g 4)
    obtain ⟨f1, e1, g1⟩ := pm_copy (N := 7) (f := s.2.1 1) (g := s.2.1 11) (by decide)
    obtain ⟨f2, e2, g2⟩ := pm_copy (N := 7) (f := s.2.1 2) (g := s.2.1 12) (by decide)
    obtain ⟨f3, e3, g3⟩ := pm_copy (N := 7) (f := s.2.1 3) (g := s.2.1 13) (by decide)
    obtain ⟨f4, e4, g4⟩ := pm_copy (N := 7) (f := s.2.1 4) (g := s.2.1 14) (by decide)
    obtain ⟨f5, e5, g5⟩ := pm_copy (N := 7) (f := s.2.1 5) (g := s.2.1 15) (by decide)
    obtain ⟨f6, e6, g6⟩ := pm_copy (N := 18) (f := s.2.1 10) (g := s.2.1 16) (by decide)
    rw [k1, k4, e1, e2, e3, e4, e5, e6]
    simp only [Option.bind_some, lm_un2]
    rw [X7, X10]
    obtain ⟨hr, sal, b1, b2, b3, b4, b5, b6, b7⟩ := r4
    obtain ⟨m, st, sd, sm, a1, a2, a4, a5⟩ := id r2
    rw [b4]
    refine ⟨_, _, _, rfl, rfl, r1.fr rfl rfl rfl, r2.fr rfl rfl rfl rfl rfl rfl, n, ⟨b, db, dy, tc, kd, wo, lo, si, X1, X2, X3, X4, X5, X6, X7, X8, X9, X10, X11⟩, hr, sal, by omega, b2, b3, b4, b5, b6, Or.inr ⟨rfl, rfl, ⟨b, db, dy, tc, kd, wo, lo, si, X1, X2, X3, X4, X5, X6.cp hn k2 k3, (k3 3 (by decide)).trans X7, (k3 4 (by decide)).trans X8, ⟨X9.1, X9.2.1, fun i hi => ?_⟩, rfl, X11⟩, m, st, sd, sm, a1, a2.cp a1.1 k5 k6, a4, fun j hj => ?_⟩⟩
    · show f1 i = _ ∧ f2 i = _ ∧ f3 i = _ ∧ f4 i = _ ∧ f5 i = _
      rw [g1 i (by omega), g2 i (by omega), g3 i (by omega), g4 i (by omega), g5 i (by omega)]
      exact X9.2.2 i hi
    · have := a1.1
      show f6 (3 * j) = _ ∧ f6 (3 * j + 1) = _ ∧ f6 (3 * j + 2) = _
      rw [g6 _ (by omega), g6 _ (by omega), g6 _ (by omega)]
      exact a5 j hj
theorem sim_restore {c : Nat} {g : Nat → lm_St} {s : lm_St} (hc : c < 1000) (h : Rel c g s) : oSim c (fX8_restore g) (fX9_restore s) := by
  obtain ⟨r1, r2, n, r3, hr, sal, b1, b2, b3, b4, b5, b6, b7⟩ := id h
  unfold fX8_restore fX9_restore
  rw [b4]
  rcases b7 with ⟨z1, z2⟩ | ⟨z1, z2, ⟨b, db, dy, tc, kd, wo, lo, si, X1, X2, X3, X4, X5, X6, X7, X8, X9, X10, X11⟩, m, st, sd, sm, a1, a2, a4, a5⟩
  · have hne : ¬ s.1 11 = nI hr := by
      rcases z2 with z2 | ⟨h', z3, z4⟩
      · rw [z2]; exact fun z => pE_neg (j := hr) (by omega) z.symm
      · rw [z4]; exact fun z => by have := (nI_eq (by omega) (by omega)).mp z; omega
    rw [if_pos z1, if_neg hne]
    exact ⟨_, _, s, rfl, rfl, (mF.rf s).rel h rfl rfl rfl rfl rfl rfl⟩
  · have hn := X1.1
    rw [z1, z2, if_neg p10, if_pos rfl]
    obtain ⟨u2, k1, k2, k3⟩ := pc_copy (g 2) (g 3)
    obtain ⟨u4, k4, k5, k6⟩ := pc_copyS (g 4) (g 5)
    obtain ⟨f1, e1, g1⟩ := pm_copy (N := 7) (f := s.2.1 11) (g := s.2.1 1) (by decide)
    obtain ⟨f2, e2, g2⟩ := pm_copy (N := 7) (f := s.2.1 12) (g := s.2.1 2) (by decide)
    obtain ⟨f3, e3, g3⟩ := pm_copy (N := 7) (f := s.2.1 13) (g := s.2.1 3) (by decide)
    obtain ⟨f4, e4, g4⟩ := pm_copy (N := 7) (f := s.2.1 14) (g := s.2.1 4) (by decide)
    obtain ⟨f5, e5, g5⟩ := pm_copy (N := 7) (f := s.2.1 15) (g := s.2.1 5) (by decide)
    obtain ⟨f6, e6, g6⟩ := pm_copy (N := 18) (f := s.2.1 16) (g := s.2.1 10) (by decide)
    rw [k1, k4, e1, e2, e3, e4, e5, e6]
    simp only [Option.bind_some, lm_un2]
    have x10 : s.1 13 = nI dy := X10
    have x3 : u2.1 3 = nI dy := (k3 3 (by decide)).trans X7
    rw [x10, x3]
    have X6' := X6.cp hn k2 k3
    have a2' := a2.cp a1.1 k5 k6
    refine ⟨_, _, _, rfl, rfl, r1.fr rfl rfl rfl, ⟨m, st, sd, sm, a1, a2', a4, fun j hj => ?_⟩, n, ⟨b, db, dy, tc, kd, wo, lo, si, X1, X2, X3, X4, X5, X6', x3, (k3 4 (by decide)).trans X8, ⟨X9.1, X9.2.1, fun i hi => ?_⟩, rfl, X11⟩, hr, sal, by omega, b2, b3, b4, b5, b6, Or.inr ⟨z1, z2, ⟨b, db, dy, tc, kd, wo, lo, si, X1, X2, X3, X4, X5, X6, X7, X8, ⟨X9.1, X9.2.1, X9.2.2⟩, x10, X11⟩, m, st, sd, sm, a1, a2, a4, a5⟩⟩
    · have := a1.1
      show f6 (3 * j) = _ ∧ f6 (3 * j + 1) = _ ∧ f6 (3 * j + 2) = _
      rw [g6 _ (by omega), g6 _ (by omega), g6 _ (by omega)]
      exact a5 j hj
    · show f1 i = _ ∧ f2 i = _ ∧ f3 i = _ ∧ f4 i = _ ∧ f5 i = _
      rw [g1 i (by omega), g2 i (by omega), g3 i (by omega), g4 i (by omega), g5 i (by omega)]
      exact X9.2.2 i hi
