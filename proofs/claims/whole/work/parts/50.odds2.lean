/-! ODDS: the reference's loops, lowest terms. -/
theorem mV.next {s : lm_St} {n b db : Nat} {kd wo lo v : Nat → Nat} (h : mV s n b db kd wo lo v) (w : pW n b db kd wo lo) : fX9_nextThen s = some (pE (pNow n kd b db lo v), s) := by
  obtain ⟨si, h1, h2, h3⟩ := h
  rw [pm_next h1 w h2]
  unfold pNow
  rw [pN_congr (mi2 := fun i => pM (kd i) (lo i) (min (v i) 20)) (fun i hi hb => by show pM (kd i) (lo i) (si i) = _; rw [h3 i hi hb])]
def pUpv (o : Option Bool) : Nat := match o with
  | some true => 1
  | _ => 0
def pAlv (o : Option Bool) : Nat := match o with
  | none => 0
  | _ => 1
theorem pm_oddsRow {n b db one m row up all : Nat} {kd wo : Nat → Nat} {x3 : Int32} (hm : m ≤ 3) (hrow : row < 2 ^ 31) (hone : one < 7) : ∀ (r fuel : Nat) (s : lm_St) (lo v : Nat → Nat), r ≤ m → r < fuel → mV s n b db kd wo lo v → pW n b db kd wo lo → ∃ t, (∀ (k9 : Int32 × Int32 × Int32 × Int32 × Int32 × Int32 × lm_St → Option (Int32 × lm_St)), lm_lp (fun k a => bX9_oddsOf_29 k9 k a.1 a.2.1 a.2.2.1 a.2.2.2.1 a.2.2.2.2.1 a.2.2.2.2.2.1 a.2.2.2.2.2.2.1 a.2.2.2.2.2.2.2.1 a.2.2.2.2.2.2.2.2) fuel (nI one, nI m, x3, nI up, nI all, nI row, 1, nI (m - r), s) = k9 (nI one, nI m, x3, nI (up + pUpv (pRo n kd b db one r lo v row)), nI (all + pAlv (pRo n kd b db one r lo v row)), nI (row + 1), t)) ∧ mF s t := by
  intro r
  induction r with
  | zero =>
    intro fuel s lo v hrm hf h w
    obtain ⟨f, rfl⟩ : ∃ f, fuel = f + 1 := ⟨fuel - 1, by omega⟩
    refine ⟨s, fun k9 => ?_, mF.rf s⟩
    show bX9_oddsOf_29 k9 (lm_lp _ f) (nI one) (nI m) x3 (nI up) (nI all) (nI row) 1 (nI (m - 0)) s = _
    generalize lm_lp _ f = K
    unfold bX9_oddsOf_29 jX9_oddsOf_97 jX9_oddsOf_109 jX9_oddsOf_131 jX9_oddsOf_132
    rw [Nat.sub_zero, if_pos (nI_le (Nat.le_refl m) (by omega)), if_neg (by decide), if_neg (by decide), h.next w]
    simp only [Option.bind_some, lm_un2]
    rw [nI_1 all, nI_1 row]
    unfold pRo
    have hi := pE_inj (o := pNow n kd b db lo v) (j := one) (fun q hq => by have := (pNow_lt hq).1; have := w.1; omega) (by omega)
    by_cases c : pNow n kd b db lo v = some one
    · rw [if_pos (hi.mpr c), nI_1 up, decide_eq_true c]
      rfl
    · rw [if_neg (fun q => c (hi.mp q)), Int32.add_zero, decide_eq_false c]
      rfl
  | succ r ih =>
    intro fuel s lo v hrm hf h w
    obtain ⟨f, rfl⟩ : ∃ f, fuel = f + 1 := ⟨fuel - 1, by omega⟩
    have hn := w.1
    have em : m - (r + 1) + 1 = m - r := by omega
    have ed : m - 1 - (m - (r + 1)) = r := by omega
    obtain ⟨si, hT, hsi, hsv⟩ := id h
    obtain ⟨f', rfl⟩ : ∃ f', f = f' + 1 := ⟨f - 1, by omega⟩
    -- once it is none, the loop ends at the next turn
    have dead : ∀ (k9 : Int32 × Int32 × Int32 × Int32 × Int32 × Int32 × lm_St → Option (Int32 × lm_St)) (x8 : Int32), lm_lp (fun k a => bX9_oddsOf_29 k9 k a.1 a.2.1 a.2.2.1 a.2.2.2.1 a.2.2.2.2.1 a.2.2.2.2.2.1 a.2.2.2.2.2.2.1 a.2.2.2.2.2.2.2.1 a.2.2.2.2.2.2.2.2) (f' + 1) (nI one, nI m, x3, nI up, nI all, nI row, 0, x8, s) = k9 (nI one, nI m, x3, nI up, nI all, nI (row + 1), s) := by
      intro k9 x8
      show bX9_oddsOf_29 k9 (lm_lp _ f') (nI one) (nI m) x3 (nI up) (nI all) (nI row) 0 x8 s = _
      generalize lm_lp _ f' = K
      unfold bX9_oddsOf_29 jX9_oddsOf_97 jX9_oddsOf_109 jX9_oddsOf_131 jX9_oddsOf_132
      rw [if_pos (show (0 : Int32) = 0 from rfl), if_pos (show (0 : Int32) = 0 from rfl), if_pos (show (0 : Int32) = 0 from rfl), Int32.add_zero, Int32.add_zero, nI_1 row]
      split <;> rfl
    have hk8 : row / 8 ^ r % 8 < 8 := Nat.mod_lt _ (by decide)
    have first : ∀ (k9 : Int32 × Int32 × Int32 × Int32 × Int32 × Int32 × lm_St → Option (Int32 × lm_St)) (K : Int32 × Int32 × Int32 × Int32 × Int32 × Int32 × Int32 × Int32 × lm_St → Option (Int32 × lm_St)), n ≤ row / 8 ^ r % 8 ∨ b.testBit (row / 8 ^ r % 8) = true → bX9_oddsOf_29 k9 K (nI one) (nI m) x3 (nI up) (nI all) (nI row) 1 (nI (m - (r + 1))) s = K (nI one, nI m, x3, nI up, nI all, nI row, 0, nI (m - (r + 1)) + 1, s) := by
      intro k9 K hc
      unfold bX9_oddsOf_29 jX9_oddsOf_73 jX9_oddsOf_74 jX9_oddsOf_91
      rw [if_neg (nI_ge (by omega) (by omega)), if_neg (by decide), pm_figure hrow (by omega) (by omega), ed]
      simp only [Option.bind_some]
      rw [hT.1]
      by_cases c2 : n ≤ row / 8 ^ r % 8
      · rw [if_pos (nI_le c2 (by omega)), if_pos trivial]
      · have hb : b.testBit (row / 8 ^ r % 8) = true := hc.resolve_left c2
        rw [if_neg (nI_ge (by omega) (by omega)), pg_I (by omega) (by decide), nI_clamp (by omega), (hT.2.2 _ (by omega)).2.2.2.2, hb, if_neg (by decide), if_pos trivial]
    by_cases hc : n ≤ row / 8 ^ r % 8 ∨ b.testBit (row / 8 ^ r % 8) = true
    · refine ⟨s, fun k9 => ?_, mF.rf s⟩
      show bX9_oddsOf_29 k9 (lm_lp _ (f' + 1)) (nI one) (nI m) x3 (nI up) (nI all) (nI row) 1 (nI (m - (r + 1))) s = _
      rw [first k9 _ hc, pRo, if_pos hc]
      exact dead k9 _
    · have c2 : ¬ n ≤ row / 8 ^ r % 8 := fun q => hc (Or.inl q)
      have ht : b.testBit (row / 8 ^ r % 8) = false := by
        cases hq : b.testBit (row / 8 ^ r % 8) with
        | true => exact absurd (Or.inr hq) hc
        | false => rfl
      obtain ⟨t4, p1, p2, p3⟩ := h.touch w (k := row / 8 ^ r % 8) (by omega)
      obtain ⟨t5, q1, q2, q3⟩ := p3.day hn
      obtain ⟨t, z1, z2⟩ := ih (f' + 1) t5 (pTl lo (row / 8 ^ r % 8)) (fun i => pTs v (row / 8 ^ r % 8) i + 1) (by omega) (by omega) q3 (w.touch _)
      refine ⟨t, fun k9 => ?_, (p2.tr q2).tr z2⟩
      rw [pRo, if_neg hc, ← z1 k9]
      show bX9_oddsOf_29 k9 (lm_lp (fun k a => bX9_oddsOf_29 k9 k a.1 a.2.1 a.2.2.1 a.2.2.2.1 a.2.2.2.2.1 a.2.2.2.2.2.1 a.2.2.2.2.2.2.1 a.2.2.2.2.2.2.2.1 a.2.2.2.2.2.2.2.2) (f' + 1)) (nI one) (nI m) x3 (nI up) (nI all) (nI row) 1 (nI (m - (r + 1))) s = _
      generalize lm_lp (fun k a => bX9_oddsOf_29 k9 k a.1 a.2.1 a.2.2.1 a.2.2.2.1 a.2.2.2.2.1 a.2.2.2.2.2.1 a.2.2.2.2.2.2.1 a.2.2.2.2.2.2.2.1 a.2.2.2.2.2.2.2.2) (f' + 1) = K
      unfold bX9_oddsOf_29 jX9_oddsOf_73 jX9_oddsOf_74 jX9_oddsOf_91
      rw [if_neg (nI_ge (by omega) (by omega)), if_neg (by decide), pm_figure hrow (by omega) (by omega), ed]
      simp only [Option.bind_some]
      rw [hT.1, if_neg (nI_ge (by omega) (by omega)), pg_I (by omega) (by decide), nI_clamp (by omega), (hT.2.2 _ (by omega)).2.2.2.2, ht, if_pos (show (if false = true then (1 : Int32) else 0) = 0 from rfl), if_neg (by decide), p1]
      simp only [Option.bind_some]
      rw [q1, nI_1, em]
      rfl
/-- the common part -/
theorem pm_gcd {x3 : Int32} {up all : Nat} {s : lm_St} (hup : up < 2 ^ 30) (hall : all < 2 ^ 30) : ∀ (fuel x y : Nat), y < fuel → 0 < x → x < 2 ^ 30 → y < 2 ^ 30 → lm_lp (fun k a => bX9_oddsOf_149 k a.1 a.2.1 a.2.2.1 a.2.2.2.1 a.2.2.2.2.1 a.2.2.2.2.2) fuel (x3, nI up, nI all, nI x, nI y, s) = if x3 = 0 then some (nI (up / Nat.gcd y x), s) else some (nI (all / Nat.gcd y x), s) := by
  intro fuel
  induction fuel with
  | zero => intro x y h; omega
  | succ f ih =>
    intro x y hf hx hx2 hy
    show bX9_oddsOf_149 (lm_lp _ f) x3 (nI up) (nI all) (nI x) (nI y) s = _
    unfold bX9_oddsOf_149
    by_cases c : y = 0
    · subst c
      rw [if_pos (by decide), Nat.gcd_zero_left, lm_gZo (nI_ne0 hx (by omega)), lm_gZo (nI_ne0 hx (by omega)), pk_div (by omega) hx (by omega), pk_div (by omega) hx (by omega)]
    · rw [if_neg (nI_nle (by omega) (by omega)), lm_gZo (nI_ne0 (by omega) (by omega)), pk_rem (by omega) (by omega) (by omega)]
      have hlt : x % y < y := Nat.mod_lt _ (by omega)
      rw [Nat.gcd_rec y x]
      exact ih y (x % y) (by omega) (by omega) (by omega) (by omega)
theorem pS_mul {p : Nat → Bool} {c : Nat} : ∀ n, pS (fun _ => c) p n = pS (fun _ => 1) p n * c := by
  intro n
  induction n with
  | zero => unfold pS; rw [Nat.zero_mul]
  | succ n ih =>
    unfold pS
    rw [ih, Nat.add_mul]
    cases p n with
    | true => simp
    | false => simp
def pLc (n b : Nat) : Nat := pS (fun _ => 1) (fun k => !b.testBit k) n
def pAll (n b : Nat) : Nat → Nat
  | 0 => 1
  | r + 1 => pS (fun _ => pAll n b r) (fun k => !b.testBit k) n
theorem pAll_pow {n b : Nat} : ∀ r, pAll n b r = pLc n b ^ r := by
  intro r
  induction r with
  | zero => rfl
  | succ r ih =>
    unfold pAll
    rw [pS_mul, ih, Nat.pow_succ, Nat.mul_comm]
    rfl
theorem pLc_le {n b : Nat} (hn : n ≤ 7) : pLc n b ≤ 7 := by
  have h1 : pLc n b ≤ n * 1 := pS_le (fun _ _ => Nat.le_refl 1)
  omega
theorem pLc_pos {b j : Nat} : ∀ {n : Nat}, j < n → b.testBit j = false → 0 < pLc n b := by
  intro n
  induction n with
  | zero => intro h; omega
  | succ n ih =>
    intro h hb
    show 0 < pS _ _ n + _
    rcases Nat.lt_or_ge j n with q | q
    · have : 0 < pS (fun _ => 1) (fun k => !b.testBit k) n := ih q hb
      omega
    · have e : j = n := by omega
      subst e
      show 0 < pS _ _ j + (if (!b.testBit j) = true then 1 else 0)
      rw [hb]
      exact Nat.succ_pos _
theorem pm_odds {s : lm_St} {n b db one m : Nat} {kd wo lo si : Nat → Nat} (h : mH s n b db kd wo lo si) (w : pW n b db kd wo lo) (hs : ∀ i, i < n → si i ≤ 20) (hone : one < n) (ht : b.testBit one = false) (hm : m ≤ 3) (x3 : Int32) : ∃ t, fX9_oddsOf s (nI one) (nI m) x3 = (if x3 = 0 then some (nI (pWy n kd b db one m lo si / Nat.gcd (pWy n kd b db one m lo si) (pLc n b ^ m)), t) else some (nI (pLc n b ^ m / Nat.gcd (pWy n kd b db one m lo si) (pLc n b ^ m)), t)) ∧ mF s t := by
  have hn := w.1
  have h8 : 8 ^ m ≤ 8 ^ 3 := Nat.pow_le_pow_right (by decide) hm
  have hWy := pWy_le (kd := kd) (b := b) (db := db) (one := one) hn m lo si
  have h7 : 7 ^ m ≤ 7 ^ 3 := Nat.pow_le_pow_right (by decide) hm
  have hL7 : pLc n b ^ m ≤ 7 ^ m := Nat.pow_le_pow_left (pLc_le hn) m
  have hLp : 0 < pLc n b ^ m := Nat.pow_pos (pLc_pos hone ht)
  have sU := pRo_sum hn (kd := kd) (b := b) (db := db) (one := one) pUpv rfl (pWy n kd b db one) (fun lo v => by
    unfold pWy
    by_cases c : pNow n kd b db lo v = some one
    · rw [if_pos c, decide_eq_true c]; rfl
    · rw [if_neg c, decide_eq_false c]; rfl) (fun r lo v => rfl) m lo si
  have sA := pRo_sum hn (kd := kd) (b := b) (db := db) (one := one) pAlv rfl (fun r _ _ => pAll n b r) (fun lo v => rfl) (fun r lo v => rfl) m lo si
  rw [pAll_pow] at sA
  have bU : ∀ j, pSm (fun row => pUpv (pRo n kd b db one m lo si row)) j ≤ j := by
    intro j
    induction j with
    | zero => exact Nat.le_refl 0
    | succ j ih =>
      show _ + pUpv (pRo n kd b db one m lo si j) ≤ _
      have : pUpv (pRo n kd b db one m lo si j) ≤ 1 := by unfold pUpv; split <;> omega
      omega
  have bA : ∀ j, pSm (fun row => pAlv (pRo n kd b db one m lo si row)) j ≤ j := by
    intro j
    induction j with
    | zero => exact Nat.le_refl 0
    | succ j ih =>
      show _ + pAlv (pRo n kd b db one m lo si j) ≤ _
      have : pAlv (pRo n kd b db one m lo si j) ≤ 1 := by unfold pAlv; split <;> omega
      omega
  unfold fX9_oddsOf
  refine pl_inv0 (P := fun o => ∃ t : lm_St, o = (if x3 = 0 then some (nI (pWy n kd b db one m lo si / Nat.gcd (pWy n kd b db one m lo si) (pLc n b ^ m)), t) else some (nI (pLc n b ^ m / Nat.gcd (pWy n kd b db one m lo si) (pLc n b ^ m)), t)) ∧ mF s t) (fun (j : Nat) (a : Int32 × Int32 × Int32 × Int32 × Int32 × Int32 × lm_St) => a.1 = nI one ∧ a.2.1 = nI m ∧ a.2.2.1 = x3 ∧ a.2.2.2.1 = nI (pSm (fun row => pUpv (pRo n kd b db one m lo si row)) j) ∧ a.2.2.2.2.1 = nI (pSm (fun row => pAlv (pRo n kd b db one m lo si row)) j) ∧ a.2.2.2.2.2.1 = nI j ∧ mF s a.2.2.2.2.2.2) (8 ^ m) ⟨rfl, rfl, rfl, rfl, rfl, rfl, mF.rf s⟩ ?_ ?_ (by omega)
  · intro j a hj ha
    obtain ⟨x1, x2, y3, x4, x5, x6, u⟩ := a
    obtain ⟨rfl, rfl, e3, rfl, rfl, rfl, gF⟩ := ha
    dsimp only at e3 gF
    subst e3
    obtain ⟨v, q1, q2, q3⟩ := pm_begin hn (h.mF gF)
    have hV := mH.mV (s := s) q3 hs
    obtain ⟨t, z1, z2⟩ := pm_oddsRow (n := n) (b := b) (db := db) (one := one) (m := m) (row := j) (up := pSm (fun row => pUpv (pRo n kd b db one m lo si row)) j) (all := pSm (fun row => pAlv (pRo n kd b db one m lo si row)) j) (kd := kd) (wo := wo) (x3 := y3) hm (by omega) (by omega) m 5000 v lo si (Nat.le_refl m) (by omega) hV w
    refine ⟨(nI one, nI m, y3, nI (pSm (fun row => pUpv (pRo n kd b db one m lo si row)) (j + 1)), nI (pSm (fun row => pAlv (pRo n kd b db one m lo si row)) (j + 1)), nI (j + 1), t), fun k => ?_, rfl, rfl, rfl, rfl, rfl, rfl, (gF.tr q2).tr z2⟩
    show bX9_oddsOf_9 k (nI one) (nI m) y3 _ _ (nI j) u = _
    unfold bX9_oddsOf_9
    rw [pm_8 m (by omega), if_neg (nI_ge hj (by omega)), q1]
    simp only [Option.bind_some]
    have z3 := z1 k
    rw [Nat.sub_self] at z3
    exact z3
  · intro a ha
    obtain ⟨x1, x2, y3, x4, x5, x6, u⟩ := a
    obtain ⟨rfl, rfl, e3, rfl, rfl, rfl, gF⟩ := ha
    dsimp only at e3 gF
    subst e3
    refine ⟨lm_lp (fun k a => bX9_oddsOf_149 k a.1 a.2.1 a.2.2.1 a.2.2.2.1 a.2.2.2.2.1 a.2.2.2.2.2) 5000 (y3, nI (pSm (fun row => pUpv (pRo n kd b db one m lo si row)) (8 ^ m)), nI (pSm (fun row => pAlv (pRo n kd b db one m lo si row)) (8 ^ m)), nI (pSm (fun row => pAlv (pRo n kd b db one m lo si row)) (8 ^ m)), nI (pSm (fun row => pUpv (pRo n kd b db one m lo si row)) (8 ^ m)), u), fun k => ?_, u, ?_, gF⟩
    · show bX9_oddsOf_9 k (nI one) (nI m) y3 _ _ (nI (8 ^ m)) u = _
      unfold bX9_oddsOf_9
      rw [pm_8 m (by omega), if_pos (nI_le (Nat.le_refl _) (by omega))]
    · rw [sU, sA]
      exact pm_gcd (by omega) (by omega) 5000 _ _ (by omega) hLp (by omega) (by omega)
/-! the class's lowest terms -/
theorem pc_power {x m : Nat} (hm : m ≤ 3) : fX8_power (nI x) (nI m) = some (nI (x ^ m)) := by
  unfold fX8_power
  refine pl_run0 (fun j => (nI x, nI m, nI (x ^ j), nI j)) m rfl (fun j k hj => ?_) (fun k => ?_) (by omega)
  · show bX8_power_4 k (nI x) (nI m) (nI (x ^ j)) (nI j) = k (nI x, nI m, nI (x ^ (j + 1)), nI (j + 1))
    unfold bX8_power_4
    rw [if_neg (nI_ge hj (by omega)), pk_mul, nI_1, Nat.pow_succ]
  · show bX8_power_4 k (nI x) (nI m) (nI (x ^ m)) (nI m) = _
    unfold bX8_power_4
    rw [if_pos (nI_le (Nat.le_refl m) (by omega))]
theorem pc_lowest {part above below : Nat} (hp : part < 2 ^ 30) (ha : above < 2 ^ 30) (hb : 0 < below) (hb2 : below < 4000) : fX8_inLowestTerms (nI part) (nI above) (nI below) = some (nI (part / Nat.gcd above below)) := by
  have hg : 0 < Nat.gcd above below := Nat.gcd_pos_of_pos_right _ hb
  have hgle : Nat.gcd above below ≤ below := Nat.le_of_dvd hb (Nat.gcd_dvd_right _ _)
  unfold fX8_inLowestTerms
  refine pl_run0 (fun j => (nI part, nI above, nI below, nI (below - j))) (below - Nat.gcd above below) rfl (fun j k hj => ?_) (fun k => ?_) (by omega)
  · show bX8_inLowestTerms_2 k (nI part) (nI above) (nI below) (nI (below - j)) = k (nI part, nI above, nI below, nI (below - (j + 1)))
    have hnd : ¬ (above % (below - j) = 0 ∧ below % (below - j) = 0) := fun q => by
      have h1 := Nat.le_of_dvd hg (Nat.dvd_gcd (Nat.dvd_of_mod_eq_zero q.1) (Nat.dvd_of_mod_eq_zero q.2))
      omega
    have e1 : nI (below - j) + (-1) = nI (below - (j + 1)) := by
      rw [show below - j = (below - (j + 1)) + 1 by omega]
      exact pk_m1 _
    have m1 : above % (below - j) < below - j := Nat.mod_lt _ (by omega)
    have m2 : below % (below - j) < below - j := Nat.mod_lt _ (by omega)
    unfold bX8_inLowestTerms_2 jX8_inLowestTerms_23
    rw [if_neg (show ¬ nI (below - j) ≤ (1 : Int32) from nI_ge (a := 1) (by omega) (by omega)), lm_gZo (nI_ne0 (by omega) (by omega)), pk_rem (by omega) (by omega) (by omega), e1]
    by_cases c1 : above % (below - j) = 0
    · have c2 : ¬ below % (below - j) = 0 := fun q => hnd ⟨c1, q⟩
      rw [c1, if_pos (by rfl), lm_gZo (nI_ne0 (by omega) (by omega)), pk_rem (by omega) (by omega) (by omega), if_neg (nI_ne0 (by omega) (by omega))]
    · rw [if_neg (nI_ne0 (by omega) (by omega))]
  · show bX8_inLowestTerms_2 k (nI part) (nI above) (nI below) (nI (below - (below - Nat.gcd above below))) = _
    rw [show below - (below - Nat.gcd above below) = Nat.gcd above below by omega]
    have z1 : above % Nat.gcd above below = 0 := Nat.mod_eq_zero_of_dvd (Nat.gcd_dvd_left _ _)
    have z2 : below % Nat.gcd above below = 0 := Nat.mod_eq_zero_of_dvd (Nat.gcd_dvd_right _ _)
    generalize Nat.gcd above below = g at *
    unfold bX8_inLowestTerms_2
    by_cases c : g = 1
    · rw [c, if_pos (by decide), Nat.div_one]
    · rw [if_neg (show ¬ nI g ≤ (1 : Int32) from nI_ge (a := 1) (by omega) (by omega)), lm_gZo (nI_ne0 (by omega) (by omega)), pk_rem (by omega) (by omega) (by omega), z1, if_pos (by rfl), lm_gZo (nI_ne0 (by omega) (by omega)), pk_rem (by omega) (by omega) (by omega), z2, if_pos (by rfl), lm_gZo (nI_ne0 (by omega) (by omega)), pk_div (by omega) (by omega) (by omega)]
theorem pb_cnt7 : ∀ b, b < 128 → fJ6_bitCount_0f7a4 (nI b) = some (nI (pS (fun _ => 1) (fun i => b.testBit i) 7)) := by decide +kernel
theorem pS_tail {f : Nat → Nat} {p : Nat → Bool} {n : Nat} : ∀ m, n ≤ m → (∀ i, n ≤ i → p i = false) → pS f p m = pS f p n := by
  intro m
  induction m with
  | zero => intro h _; rw [show n = 0 by omega]
  | succ m ih =>
    intro h hp
    by_cases e : n = m + 1
    · rw [e]
    · show pS f p m + (if p m then f m else 0) = _
      rw [ih (by omega) hp, hp m (by omega)]
      rfl
theorem pS_neg {p : Nat → Bool} : ∀ n, pS (fun _ => 1) p n + pS (fun _ => 1) (fun i => !p i) n = n := by
  intro n
  induction n with
  | zero => rfl
  | succ n ih =>
    unfold pS
    cases p n with
    | true => simp; omega
    | false => simp; omega
theorem pb_cnt {n b : Nat} (hn : n ≤ 7) (hb : b < 2 ^ n) : fJ6_bitCount_0f7a4 (nI b) = some (nI (pS (fun _ => 1) (fun i => b.testBit i) n)) := by
  have h7 : b < 128 := Nat.lt_of_lt_of_le hb (Nat.pow_le_pow_right (n := 2) (by decide) hn)
  rw [pb_cnt7 b h7, pS_tail 7 hn (fun i hi => Nat.testBit_lt_two_pow (Nat.lt_of_lt_of_le hb (Nat.pow_le_pow_right (n := 2) (by decide) hi)))]
theorem pc_left {s : lm_St} {n b : Nat} (h0 : s.1 0 = nI n) (h1 : s.1 1 = nI b) (hn : n ≤ 7) (hb : b < 2 ^ n) : fX3_left s = some (nI (pLc n b), s) := by
  unfold fX3_left
  rw [h1, pb_cnt hn hb, h0]
  have hq := pS_neg (p := fun i => b.testBit i) n
  show some (nI n - nI _, s) = _
  rw [pk_sub (by omega)]
  congr 3
  show _ = pS (fun _ => 1) (fun i => !b.testBit i) n
  omega
