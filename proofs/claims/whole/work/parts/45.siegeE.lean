/-! SIEGE: both sides' answers. -/
theorem pLf_le {n b db : Nat} {kd wo lo v : Nat → Nat} (w : pW n b db kd wo lo) : pLf n kd b lo v ≤ 140 := by
  have hn := w.1
  have h1 : pLf n kd b lo v ≤ n * 20 := pS_le (fun i hi => Nat.le_trans (pM_le _ _ _) (w.2.2.2 i hi).2.2.2)
  have h2 : n * 20 ≤ 7 * 20 := Nat.mul_le_mul_right 20 hn
  omega
theorem pNx_lt {n b db : Nat} {kd lo v : Nat → Nat} {j : Nat} (h : pNx n kd b db lo v = some j) : j < n ∧ b.testBit j = false := by
  unfold pNx at h
  by_cases hd : db = 0
  · rw [if_pos hd] at h; cases h
  · rw [if_neg hd] at h; exact pN_lt h
theorem pRw_le {n : Nat} {kd wo : Nat → Nat} : ∀ (r b db : Nat) (lo v : Nat → Nat) (lost row L M : Nat), pW n b db kd wo lo → lost + pS wo (fun i => !b.testBit i) n ≤ 63 → pRw n kd wo r b db lo v lost row = some (L, M) → L ≤ 63 ∧ M ≤ 140 := by
  intro r
  induction r with
  | zero =>
    intro b db lo v lost row L M w hl h
    unfold pRw at h
    cases h
    exact ⟨by omega, pLf_le w⟩
  | succ r ih =>
    intro b db lo v lost row L M w hl h
    have go : ∀ (lo v : Nat → Nat), pW n b db kd wo lo → pGo n kd wo (fun b1 db1 lo1 v1 lost1 => pRw n kd wo r b1 db1 lo1 v1 lost1 row) b db lo v lost = some (L, M) → L ≤ 63 ∧ M ≤ 140 := by
      intro lo v w h
      unfold pGo at h
      cases hx : pNx n kd b db lo v with
      | none => rw [hx] at h; exact ih _ _ _ _ _ _ _ _ w hl h
      | some j =>
        rw [hx] at h
        have hj := pNx_lt hx
        have := pS_out (f := wo) hj.1 hj.2
        exact ih _ _ _ _ _ _ _ _ (w.take hj.1) (by omega) h
    unfold pRw at h
    by_cases c1 : row / 8 ^ r % 8 = 7
    · rw [if_pos c1] at h; exact go _ _ w h
    · rw [if_neg c1] at h
      by_cases c2 : n ≤ row / 8 ^ r % 8 ∨ b.testBit (row / 8 ^ r % 8) = true
      · rw [if_pos c2] at h; cases h
      · rw [if_neg c2] at h; exact go _ _ (w.touch _) h
theorem pS_all {n b db : Nat} {kd wo lo : Nat → Nat} (w : pW n b db kd wo lo) (p : Nat → Bool) : pS wo p n ≤ 63 := by
  have h1 : pS wo p n ≤ n * 9 := pS_le (fun i hi => (w.2.2.2 i hi).2.2.1)
  have h2 : n * 9 ≤ 7 * 9 := Nat.mul_le_mul_right 9 w.1
  omega
theorem mH.mV {s t : lm_St} {n b db : Nat} {kd wo lo si : Nat → Nat} (h : mT t n b db kd wo lo si) (hs : ∀ i, i < n → si i ≤ 20) : mV t n b db kd wo lo si := ⟨si, h, hs, fun i hi _ => (Nat.min_eq_left (hs i hi)).symm⟩
theorem pm_siegeBy {s : lm_St} {n b db : Nat} {kd wo lo si : Nat → Nat} (h : mH s n b db kd wo lo si) (w : pW n b db kd wo lo) (hs : ∀ i, i < n → si i ≤ 20) {m row : Nat} (hm : m ≤ 4) (hrow : row < 2 ^ 31) : ∃ t, fX9_siegeBy s (nI row) (nI m) = some (pVl (pRw n kd wo m b db lo si 0 row), t) ∧ mF s t := by
  obtain ⟨u, q1, q2, q3⟩ := pm_begin w.1 h
  have hall := pS_all w (fun i => !b.testBit i)
  obtain ⟨t, z1, z2⟩ := pm_siegeLoop (n := n) (kd := kd) (wo := wo) hm hrow m 5000 u b db lo si 0 (Nat.le_refl m) (by omega) (mH.mV (s := s) q3 hs) w (by omega)
  unfold fX9_siegeBy
  rw [q1]
  refine ⟨t, ?_, q2.tr z2⟩
  rw [← z1, Nat.sub_self]
  rfl
/-- the reference's best so far -/
def eR (m : Nat) (acc : pAc) (x y : Int32) : Prop := match acc with
  | none => x = 0 ∧ y = -1
  | some (W, M, c) => x = nI c ∧ y = nI (1000000 - 1000 * W + M) ∧ W ≤ 63 ∧ M ≤ 140 ∧ c < 8 ^ m
def pAn (m W M c what : Nat) : Int32 := if what = 0 then nI W else if what = 1 then nI M else if m ≤ what - 10 then -1 else nI (c / 8 ^ (m - 1 - (what - 10)) % 8)
theorem pm_8 : ∀ m, m < 5 → ((1 : Int32) <<< (((3 : Int32) * nI m) &&& 31)) = nI (8 ^ m) := by decide +kernel
theorem pBt_some (acc : pAc) (L M c : Nat) : pBt acc L M c ≠ none := by
  unfold pBt
  cases acc with
  | none => intro h; cases h
  | some q =>
    dsimp only
    split <;> (intro h; cases h)
theorem pSr_some {n : Nat} {kd wo : Nat → Nat} : ∀ (r b db : Nat) (lo v : Nat → Nat) (lost code : Nat) (acc : pAc), pSr n kd wo r b db lo v lost code acc ≠ none := by
  intro r
  induction r with
  | zero => intro b db lo v lost code acc; exact pBt_some _ _ _ _
  | succ r ih =>
    intro b db lo v lost code acc
    unfold pSr pGo
    cases pNx n kd b db lo v with
    | none => exact ih _ _ _ _ _ _ _
    | some j => exact ih _ _ _ _ _ _ _
theorem pm_siegeOf {s : lm_St} {n b db : Nat} {kd wo lo si : Nat → Nat} (h : mH s n b db kd wo lo si) (w : pW n b db kd wo lo) (hs : ∀ i, i < n → si i ≤ 20) {m what : Nat} (hm : m ≤ 4) (hw : what < 2 ∨ (10 ≤ what ∧ what < 14)) {W M c : Nat} (hacc : pSr n kd wo m b db lo si 0 0 none = some (W, M, c)) : ∃ t, fX9_siegeOf s (nI m) (nI what) = some (pAn m W M c what, t) ∧ mF s t := by
  have h8 : 8 ^ m < 5000 := by
    have : 8 ^ m ≤ 8 ^ 4 := Nat.pow_le_pow_right (by decide) hm
    omega
  have hall := pS_all w (fun i => !b.testBit i)
  rw [pSr_rows w.1] at hacc
  unfold fX9_siegeOf
  refine pl_inv0 (P := fun o => ∃ t : lm_St, o = some (pAn m W M c what, t) ∧ mF s t) (fun (j : Nat) (a : Int32 × Int32 × Int32 × Int32 × Int32 × lm_St) => a.1 = nI m ∧ a.2.1 = nI what ∧ a.2.2.2.2.1 = nI j ∧ eR m (pFd (fun row a => pUp a (pRw n kd wo m b db lo si 0 row) (0 * 8 ^ m + row)) j none) a.2.2.1 a.2.2.2.1 ∧ mF s a.2.2.2.2.2) (8 ^ m) ⟨rfl, rfl, rfl, ⟨rfl, rfl⟩, mF.rf s⟩ ?_ ?_ h8
  · intro j a hj ha
    obtain ⟨x1, x2, x3, x4, x5, u⟩ := a
    obtain ⟨rfl, rfl, e5, gR, gF⟩ := ha
    dsimp only at e5 gR gF
    subst e5
    obtain ⟨t, q1, q2⟩ := pm_siegeBy (h.mF gF) w hs hm (row := j) (by omega)
    -- the new best
    have key : ∀ y3 y4 : Int32, eR m (pFd (fun row a => pUp a (pRw n kd wo m b db lo si 0 row) (0 * 8 ^ m + row)) (j + 1) none) y3 y4 → (∀ k : Int32 × Int32 × Int32 × Int32 × Int32 × lm_St → Option (Int32 × lm_St), bX9_siegeOf_8 k (nI m) (nI what) x3 x4 (nI j) u = k (nI m, nI what, y3, y4, nI (j + 1), t)) → ∃ a', (∀ k : Int32 × Int32 × Int32 × Int32 × Int32 × lm_St → Option (Int32 × lm_St), bX9_siegeOf_8 k (nI m) (nI what) x3 x4 (nI j) u = k a') ∧ a'.1 = nI m ∧ a'.2.1 = nI what ∧ a'.2.2.2.2.1 = nI (j + 1) ∧ eR m (pFd (fun row a => pUp a (pRw n kd wo m b db lo si 0 row) (0 * 8 ^ m + row)) (j + 1) none) a'.2.2.1 a'.2.2.2.1 ∧ mF s a'.2.2.2.2.2 := fun y3 y4 h1 h2 => ⟨(nI m, nI what, y3, y4, nI (j + 1), t), h2, rfl, rfl, rfl, h1, gF.tr q2⟩
    have step : ∀ k : Int32 × Int32 × Int32 × Int32 × Int32 × lm_St → Option (Int32 × lm_St), bX9_siegeOf_8 k (nI m) (nI what) x3 x4 (nI j) u = if pVl (pRw n kd wo m b db lo si 0 j) ≤ x4 then k (nI m, nI what, x3, x4, nI (j + 1), t) else k (nI m, nI what, nI j, pVl (pRw n kd wo m b db lo si 0 j), nI (j + 1), t) := by
      intro k
      unfold bX9_siegeOf_8 jX9_siegeOf_40 jX9_siegeOf_55
      rw [pm_8 m (by omega), if_neg (nI_ge hj (by omega)), q1]
      simp only [Option.bind_some, lm_un2]
      rw [nI_1 j]
      by_cases c : pVl (pRw n kd wo m b db lo si 0 j) ≤ x4
      · rw [if_pos c, if_pos c, if_pos c]
      · rw [if_neg c, if_neg c, if_neg c]
    have e0 : (0 * 8 ^ m + j : Nat) = j := by omega
    show ∃ a', (∀ k : Int32 × Int32 × Int32 × Int32 × Int32 × lm_St → Option (Int32 × lm_St), bX9_siegeOf_8 k (nI m) (nI what) x3 x4 (nI j) u = k a') ∧ _
    have eS1 : pFd (fun row a => pUp a (pRw n kd wo m b db lo si 0 row) (0 * 8 ^ m + row)) (j + 1) none = pUp (pFd (fun row a => pUp a (pRw n kd wo m b db lo si 0 row) (0 * 8 ^ m + row)) j none) (pRw n kd wo m b db lo si 0 j) j := by
      show pUp _ _ (0 * 8 ^ m + j) = _
      rw [e0]
    rw [eS1] at key ⊢
    generalize pFd (fun row a => pUp a (pRw n kd wo m b db lo si 0 row) (0 * 8 ^ m + row)) j none = acc at gR key
    cases hrw : pRw n kd wo m b db lo si 0 j with
    | none =>
      rw [hrw] at key step
      refine key x3 x4 gR (fun k => (step k).trans (if_pos ?_))
      show (-1 : Int32) ≤ x4
      cases acc with
      | none => rw [gR.2]; decide
      | some q =>
        obtain ⟨W1, M1, c1⟩ := q
        rw [gR.2.1]
        have := gR.2.2.1
        have := gR.2.2.2.1
        exact Int32.le_of_lt (by rw [Int32.lt_iff_toInt_lt, nI_toInt (by omega)]; show (-1 : Int) < _; omega)
    | some lm =>
      obtain ⟨L, M0⟩ := lm
      have hb := pRw_le m b db lo si 0 j L M0 w (by omega) hrw
      rw [hrw] at key step
      have ev : pVl (some (L, M0)) = nI (1000000 - 1000 * L + M0) := rfl
      cases acc with
      | none =>
        refine key (nI j) _ ⟨rfl, rfl, hb.1, hb.2, hj⟩ (fun k => (step k).trans (if_neg ?_))
        rw [gR.2, ev]
        intro q
        rw [Int32.le_iff_toInt_le, nI_toInt (by omega)] at q
        have : ((-1 : Int32)).toInt = -1 := rfl
        omega
      | some q =>
        obtain ⟨W1, M1, c1⟩ := q
        obtain ⟨g1, g2, g3, g4, g5⟩ := gR
        have eu : pUp (some (W1, M1, c1)) (some (L, M0)) j = if L < W1 ∨ (L = W1 ∧ M1 < M0) then some (L, M0, j) else some (W1, M1, c1) := rfl
        rw [eu] at key ⊢
        by_cases c : L < W1 ∨ (L = W1 ∧ M1 < M0)
        · rw [if_pos c] at key ⊢
          refine key (nI j) _ ⟨rfl, rfl, hb.1, hb.2, hj⟩ (fun k => (step k).trans (if_neg ?_))
          rw [g2, ev]
          exact nI_ge (by omega) (by omega)
        · rw [if_neg c] at key ⊢
          refine key x3 x4 ⟨g1, g2, g3, g4, g5⟩ (fun k => (step k).trans (if_pos ?_))
          rw [g2, ev]
          exact nI_le (by omega) (by omega)
  · intro a ha
    obtain ⟨x1, x2, x3, x4, x5, u⟩ := a
    obtain ⟨rfl, rfl, e5, gR, gF⟩ := ha
    dsimp only at e5 gR gF
    subst e5
    rw [hacc] at gR
    obtain ⟨rfl, rfl, g3, g4, g5⟩ := gR
    refine ⟨some (pAn m W M c what, u), fun k => ?_, u, rfl, gF⟩
    show bX9_siegeOf_8 k (nI m) (nI what) (nI c) (nI (1000000 - 1000 * W + M)) (nI (8 ^ m)) u = _
    unfold bX9_siegeOf_8 pAn
    rw [pm_8 m (by omega), if_pos (nI_le (Nat.le_refl _) (by omega))]
    rcases Nat.lt_or_ge what 2 with c1 | c1
    · rw [if_neg (show ¬ (2 : Int32) ≤ nI what from nI_ge (b := 2) c1 (by decide))]
      by_cases c2 : what = 0
      · subst c2
        rw [if_pos (by rfl), if_pos rfl, show (1000999 : Int32) = nI 1000999 from rfl, pk_sub (by omega), show (1000 : Int32) = nI 1000 from rfl, pk_div (by omega) (by decide) (by decide)]
        congr 3
        omega
      · have c3 : what = 1 := by omega
        subst c3
        rw [if_neg (by decide), if_neg (by decide), if_pos rfl, show (1000 : Int32) = nI 1000 from rfl, pk_rem (by omega) (by decide) (by decide)]
        congr 3
        omega
    · have hw2 : 10 ≤ what ∧ what < 14 := by omega
      rw [if_pos (show (2 : Int32) ≤ nI what from nI_le (a := 2) c1 (by omega)), show (10 : Int32) = nI 10 from rfl, pk_sub hw2.1, if_neg (show ¬ what = 0 by omega), if_neg (show ¬ what = 1 by omega)]
      by_cases c2 : m ≤ what - 10
      · rw [if_pos (nI_le c2 (by omega)), if_pos c2]
      · rw [if_neg (nI_ge (by omega) (by omega)), if_neg c2, pm_figure (by omega) hm (by omega)]
        rfl
theorem pc_search {s0 s1 s2 : lm_St} {n b db : Nat} {kd wo lo v : Nat → Nat} (h : cT s2 n b db 0 kd wo lo v) (w : pW n b db kd wo lo) (hv : ∀ i, i < n → v i ≤ 20) {m : Nat} (hm : m ≤ 4) : ∃ t0 t1, fX6_search s0 s1 s2 (nI m) = some (t0, t1, s2) ∧ eS t0 m (pSr n kd wo m b db lo v 0 0 none) := by
  obtain ⟨u, q1, q2⟩ := pc_copyT (t := s1) h w.1
  have hall := pS_all w (fun i => !b.testBit i)
  have e4 : (if (4 : Int32) < nI m then (4 : Int32) else nI m) = nI m := by
    rw [if_neg (show ¬ (4 : Int32) < nI m from nI_nlt (a := 4) hm (by decide))]
  unfold fX6_search
  rw [q1]
  simp only [Option.bind_some, lm_un2]
  rw [e4]
  obtain ⟨t0, t1, z1, z2, -, -, -⟩ := pc_tryDay (n := n) (kd := kd) (wo := wo) hm m 6 (by omega) 0 (lm_sF (lm_sF (lm_sF s0 0 (nI m)) 1 64) 2 (-1)) u b db lo v 0 0 none (by omega) ⟨rfl, rfl, rfl⟩ (fun j hj => absurd hj (Nat.not_lt_zero j)) q2 w (fun i hi => by have := hv i hi; omega) (by omega)
  refine ⟨t0, t1, ?_, z2⟩
  rw [show (0 : Int32) = nI 0 from rfl, z1]
  rfl
theorem pc_touched {t : lm_St} {m W M c what : Nat} (h : eS t m (some (W, M, c))) (hm : m ≤ 4) (hw : 10 ≤ what ∧ what < 14) : fX6_touchedOn t (nI what - (10 : Int32)) = some (pAn m W M c what, t) := by
  obtain ⟨h0, h1, h2, h3, h4, h5⟩ := h
  unfold fX6_touchedOn pAn
  rw [show (10 : Int32) = nI 10 from rfl, pk_sub hw.1, if_neg (nI_pos (by omega)), h0, if_neg (show ¬ what = 0 by omega), if_neg (show ¬ what = 1 by omega)]
  by_cases c1 : m ≤ what - 10
  · rw [if_pos (nI_le c1 (by omega)), if_pos c1]
  · rw [if_neg (nI_ge (by omega) (by omega)), if_neg c1, pg_I (by omega) (by decide), nI_clamp (by omega), h5 _ (by omega)]
