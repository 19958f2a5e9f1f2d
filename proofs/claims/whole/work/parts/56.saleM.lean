/-! SALE, the reference. -/
theorem pm_wants {s : lm_St} {lo : Nat → Nat} {k q : Nat} (hk : k < 7) (hq : q < 7) (hl : s.2.1 3 k = nI (lo k)) : fX9_wants s (nI q) (nI k) = some (nI (pWn lo k q), s) := by
  unfold fX9_wants pWn
  by_cases c : q = k
  · subst c
    rw [if_pos rfl, if_pos rfl, pg_I (by omega) (by decide), nI_clamp (by omega), hl]
  · rw [if_neg (fun z => c ((nI_eq (by omega) (by omega)).mp z)), if_neg c]
    by_cases d : q ≤ k
    · rw [if_pos d, if_pos (nI_le d (by omega)), pk_sub d]
    · rw [if_neg d, if_neg (nI_ge (by omega) (by omega)), pk_sub (by omega)]
def pAq (z : Nat → Int32) (p : Nat → Bool) : Nat → Int32
  | 0 => -1000
  | j + 1 => if p j then (if z j ≤ pAq z p j then pAq z p j else z j) else pAq z p j
theorem pAq_mx {z : Nat → Int32} {p : Nat → Bool} {f : Nat → Nat} {n : Nat} (h : ∀ i, i < n → p i = true → z i = nI (f i) ∧ f i ≤ 200) (hf : ∀ i, i < n → f i ≤ 200) (hex : ∃ i, i < n ∧ p i = true) : pAq z p n = nI (pMx f p n) := by
  have hh : ∀ j, j ≤ n → (((∃ i, i < j ∧ p i = true) ∧ pAq z p j = nI (pMx f p j)) ∨ ((∀ i, i < j → p i = false) ∧ pAq z p j = -1000)) := by
    intro j
    induction j with
    | zero => intro _; exact Or.inr ⟨fun i hi => absurd hi (Nat.not_lt_zero i), rfl⟩
    | succ j ih =>
      intro hj
      have hb := pMx_le (p := p) (n := j) (fun i hi => hf i (by omega))
      rw [pAq, pMx]
      cases hp : p j with
      | false =>
        rw [if_neg (by decide), if_neg (by decide)]
        rcases ih (by omega) with ⟨⟨i, h1, h2⟩, h3⟩ | ⟨h1, h2⟩
        · exact Or.inl ⟨⟨i, by omega, h2⟩, h3⟩
        · refine Or.inr ⟨fun i hi => ?_, h2⟩
          by_cases e : i = j
          · rw [e]; exact hp
          · exact h1 i (by omega)
      | true =>
        rw [if_pos rfl, if_pos rfl]
        obtain ⟨hz, hz2⟩ := h j (by omega) hp
        refine Or.inl ⟨⟨j, by omega, hp⟩, ?_⟩
        rcases ih (by omega) with ⟨_, h3⟩ | ⟨h1, h2⟩
        · rw [h3, hz]
          by_cases d : f j ≤ pMx f p j
          · rw [if_pos (nI_le d (by omega)), Nat.max_eq_left d]
          · rw [if_neg (nI_ge (by omega) (by omega)), Nat.max_eq_right (by omega)]
        · rw [h2, hz, if_neg (fun q => ?_), pMx_0 (fun q => by obtain ⟨i, q1, q2⟩ := q; rw [h1 i q1] at q2; cases q2), Nat.max_eq_right (Nat.zero_le _)]
          have h5 : (0 : Int32) ≤ nI (f j) := nI_pos' (by omega)
          rw [Int32.le_iff_toInt_le] at q h5
          have h6 : (-1000 : Int32).toInt = -1000 := rfl
          have h7 : (0 : Int32).toInt = 0 := rfl
          omega
  rcases hh n (Nat.le_refl n) with ⟨_, h1⟩ | ⟨h1, _⟩
  · exact h1
  · obtain ⟨i, q1, q2⟩ := hex
    rw [h1 i q1] at q2; cases q2
theorem pI_128 (k set : Nat) : (128 : Int32) * nI k + nI set = nI (128 * k + set) := by
  rw [← nI_add, ← pk_mul]; rfl
theorem pI_129 (k set : Nat) : (128 : Int32) * nI k + (128 : Int32) + nI set = nI (128 * k + 128 + set) := by
  rw [← nI_add, ← nI_add, ← pk_mul]; rfl
/-- row k, of what can be reached -/
def pLr (f : Nat → Int32) (n b : Nat) (lo : Nat → Nat) (k set : Nat) : Prop := set < 2 ^ n → pRk set n = pRk b k → f (128 * k + set) = nI (pZr n b lo (pRk b n - pRk b k) set)
theorem pm_laySet {s : lm_St} {n b db k set : Nat} {kd wo lo si : Nat → Nat} (h : mH s n b db kd wo lo si) (w : pW n b db kd wo lo) (hk : k < n) (hset : set < 128) (hL : ∀ T, pLr (s.2.1 9) n b lo (k + 1) T) : ∃ v, (∀ (k38 : Int32 × lm_St → Option lm_St) (k44 : Int32 × Int32 × lm_St → Option lm_St), bX9_laySale_44 k38 k44 (nI k) (nI set) s = k44 (nI k, nI (set + 1), lm_sA s 9 (upd (s.2.1 9) (128 * k + set) v))) ∧ (set < 2 ^ n → pRk set n = pRk b k → v = nI (pZr n b lo (pRk b n - pRk b k) set)) := by
  obtain ⟨h2, h3, hA⟩ := h
  obtain ⟨w1, w2, w3, w4⟩ := w
  have ht := (hA k hk).2.2.2.2
  have hkn := pRk_mono (b := b) (show k + 1 ≤ n from hk)
  cases hb : b.testBit k with
  | false =>
    rw [hb, if_neg (by decide)] at ht
    refine ⟨s.2.1 9 (128 * k + 128 + set), fun k38 k44 => ?_, fun g1 g2 => ?_⟩
    · unfold bX9_laySale_44
      rw [if_neg (show ¬ (128 : Int32) ≤ nI set from nI_ge (b := 128) hset (by decide)), pg_I (by omega) (by decide), nI_clamp (n := k) (by omega), if_pos ht, pI_129, pg_I (by omega) (by decide), nI_clamp (n := 128 * k + 128 + set) (by omega)]
      unfold jX9_laySale_82
      refine pl_run0 (fun j => (nI k, nI set, s.2.1 9 (128 * k + 128 + set), nI j, s)) 0 rfl (fun j _ hj => absurd hj (Nat.not_lt_zero j)) (fun k86 => ?_) (by decide)
      show bX9_laySale_86 k38 k44 k86 (nI k) (nI set) (s.2.1 9 (128 * k + 128 + set)) (nI 0) s = _
      unfold bX9_laySale_86 jX9_laySale_164
      rw [h2, if_neg (nI_ge (by omega) (by omega)), pg_I (by omega) (by decide), nI_clamp (n := k) (by omega), ht, if_neg (by decide), pI_128, pg_I (by omega) (by decide), nI_clamp (n := 128 * k + set) (by omega), nI_1 set]
    · have e : pRk b (k + 1) = pRk b k := by rw [pRk_s, hb]; rfl
      have := hL set g1 (by rw [e]; exact g2)
      rw [e, show 128 * (k + 1) + set = 128 * k + 128 + set by omega] at this
      exact this
  | true =>
    rw [hb, if_pos rfl] at ht
    refine ⟨pAq (fun q => nI (pWn lo k q) + s.2.1 9 (128 * k + 128 + (set ||| 2 ^ q))) (fun q => !set.testBit q) n, fun k38 k44 => ?_, fun g1 g2 => ?_⟩
    · unfold bX9_laySale_44
      rw [if_neg (show ¬ (128 : Int32) ≤ nI set from nI_ge (b := 128) hset (by decide)), pg_I (by omega) (by decide), nI_clamp (n := k) (by omega), ht, if_neg (by decide)]
      unfold jX9_laySale_82
      refine pl_run0 (fun j => (nI k, nI set, pAq (fun q => nI (pWn lo k q) + s.2.1 9 (128 * k + 128 + (set ||| 2 ^ q))) (fun q => !set.testBit q) j, nI j, s)) n rfl (fun j k86 hj => ?_) (fun k86 => ?_) (by omega)
      · show bX9_laySale_86 k38 k44 k86 (nI k) (nI set) (pAq (fun q => nI (pWn lo k q) + s.2.1 9 (128 * k + 128 + (set ||| 2 ^ q))) (fun q => !set.testBit q) j) (nI j) s = k86 (nI k, nI set, pAq (fun q => nI (pWn lo k q) + s.2.1 9 (128 * k + 128 + (set ||| 2 ^ q))) (fun q => !set.testBit q) (j + 1), nI (j + 1), s)
        unfold bX9_laySale_86 jX9_laySale_157 jX9_laySale_158
        rw [h2, if_neg (nI_ge hj (by omega)), pg_I (by omega) (by decide), nI_clamp (n := k) (by omega), ht, if_pos rfl, pb_bit (by omega) (by omega), pAq, nI_1 j]
        have hor : set ||| 2 ^ j < 128 := pZ_lt (n := 7) (by decide) hset (by omega)
        cases hs : set.testBit j with
        | true => rw [if_pos rfl, if_neg (by decide), if_neg (by decide)]
        | false =>
          rw [if_pos (by decide), if_pos (by decide), pm_wants (by omega) (by omega) (hA k hk).2.2.1]
          simp only [Option.bind_some, lm_un2]
          rw [pb_orI set hset j (by omega), pI_129, pg_I (by omega) (by decide), nI_clamp (n := 128 * k + 128 + (set ||| 2 ^ j)) (by omega)]
          unfold lm_nm
          dsimp only
          split <;> rfl
      · show bX9_laySale_86 k38 k44 k86 (nI k) (nI set) _ (nI n) s = _
        unfold bX9_laySale_86 jX9_laySale_164
        rw [h2, if_pos (nI_le (Nat.le_refl n) (by omega)), pI_128, pg_I (by omega) (by decide), nI_clamp (n := 128 * k + set) (by omega), nI_1 set]
    · have e : pRk b (k + 1) = pRk b k + 1 := by rw [pRk_s, hb]; rfl
      have e2 : pRk b n - pRk b k = (pRk b n - (pRk b k + 1)) + 1 := by omega
      have hnn := pRk_le b n
      rw [e2, pZr, show pRk b n - (pRk b n - (pRk b k + 1) + 1) = pRk b k by omega, pSo_at hk hb]
      have hbd : ∀ q, q < n → pWn lo k q + pZr n b lo (pRk b n - (pRk b k + 1)) (set ||| 2 ^ q) ≤ 200 := fun q hq => by
        have a1 := pWn_le (lo := lo) w1 (show k < 7 by omega) hq (fun h => (w4 _ h).2.2.2) hk
        have a2 := pZr_le (b := b) (lo := lo) w1 (fun i hi => (w4 i hi).2.2.2) (pRk b n - (pRk b k + 1)) (set ||| 2 ^ q) (by omega)
        omega
      refine pAq_mx (fun q hq hp => ⟨?_, hbd q hq⟩) hbd ?_
      · have hf : set.testBit q = false := by simpa using hp
        have := hL (set ||| 2 ^ q) (pZ_lt w1 g1 hq) (by rw [pRk_add hq hf, e, g2])
        rw [e, show 128 * (k + 1) + (set ||| 2 ^ q) = 128 * k + 128 + (set ||| 2 ^ q) by omega] at this
        show nI _ + s.2.1 9 _ = _
        rw [this, nI_add]
      · have q1 := pS_neg (p := fun i => set.testBit i) n
        have q2 : pS (fun _ => 1) (fun i => set.testBit i) n = pRk b k := g2
        exact pS_some (by omega)
theorem pm_layRow {s : lm_St} {n b db k : Nat} {kd wo lo si : Nat → Nat} (h : mH s n b db kd wo lo si) (w : pW n b db kd wo lo) (hk : k < n) (hL : ∀ k', k + 1 ≤ k' → k' ≤ n → ∀ T, pLr (s.2.1 9) n b lo k' T) : ∃ t, (∀ (k38 : Int32 × lm_St → Option lm_St), lm_lp (fun k a => bX9_laySale_44 k38 k a.1 a.2.1 a.2.2) 5000 (nI k, (0 : Int32), s) = k38 (nI k + (-1), t)) ∧ mF s t ∧ ∀ k', k ≤ k' → k' ≤ n → ∀ T, pLr (t.2.1 9) n b lo k' T := by
  have h2n : 2 ^ n ≤ 128 := Nat.pow_le_pow_right (n := 2) (by decide) w.1
  have hh : ∀ d j (s' : lm_St), j + d = 128 → mF s s' → (∀ k', k + 1 ≤ k' → k' ≤ n → ∀ T, pLr (s'.2.1 9) n b lo k' T) → (∀ T, T < j → pLr (s'.2.1 9) n b lo k T) → ∃ t, (∀ (k38 : Int32 × lm_St → Option lm_St) (fuel : Nat), d < fuel → lm_lp (fun k a => bX9_laySale_44 k38 k a.1 a.2.1 a.2.2) fuel (nI k, nI j, s') = k38 (nI k + (-1), t)) ∧ mF s t ∧ ∀ k', k ≤ k' → k' ≤ n → ∀ T, pLr (t.2.1 9) n b lo k' T := by
    intro d
    induction d with
    | zero =>
      intro j s' hj hF g1 g2
      refine ⟨s', fun k38 fuel hf => ?_, hF, fun k' a1 a2 T => ?_⟩
      · obtain ⟨fuel, rfl⟩ : ∃ m, fuel = m + 1 := ⟨fuel - 1, by omega⟩
        rw [lm_lp]
        show bX9_laySale_44 k38 _ (nI k) (nI j) s' = _
        unfold bX9_laySale_44
        rw [if_pos (show (128 : Int32) ≤ nI j from nI_le (a := 128) (b := j) (by omega) (by omega))]
      · by_cases c : k' = k
        · subst c
          intro q1 q2
          exact g2 T (by omega) q1 q2
        · exact g1 k' (by omega) a2 T
    | succ d ih =>
      intro j s' hj hF g1 g2
      obtain ⟨v, e1, e2⟩ := pm_laySet (h.mF hF) w hk (show j < 128 by omega) (fun T => g1 (k + 1) (Nat.le_refl _) (by omega) T)
      obtain ⟨t, i1, i2, i3⟩ := ih (j + 1) (lm_sA s' 9 (upd (s'.2.1 9) (128 * k + j) v)) (by omega) (hF.tr (mF.sA s' _ (Or.inr (Or.inr (Or.inr rfl))))) (fun k' a1 a2 T q1 q2 => by
          show upd (s'.2.1 9) (128 * k + j) v (128 * k' + T) = _
          rw [pu_u, if_neg (by omega)]
          exact g1 k' a1 a2 T q1 q2) (fun T hT q1 q2 => by
          show upd (s'.2.1 9) (128 * k + j) v (128 * k + T) = _
          rw [pu_u]
          by_cases c : T = j
          · subst c
            rw [if_pos rfl]; exact e2 q1 q2
          · rw [if_neg (by omega)]
            exact g2 T (by omega) q1 q2)
      refine ⟨t, fun k38 fuel hf => ?_, i2, i3⟩
      obtain ⟨fuel, rfl⟩ : ∃ m, fuel = m + 1 := ⟨fuel - 1, by omega⟩
      rw [lm_lp]
      show bX9_laySale_44 k38 _ (nI k) (nI j) s' = _
      rw [e1]
      exact i1 k38 fuel (by omega)
  obtain ⟨t, i1, i2, i3⟩ := hh 128 0 s (by omega) (mF.rf s) hL (fun T hT => absurd hT (Nat.not_lt_zero T))
  exact ⟨t, fun k38 => i1 k38 5000 (by omega), i2, i3⟩
theorem pm_laySale {s : lm_St} {n b db : Nat} {kd wo lo si : Nat → Nat} (h : mH s n b db kd wo lo si) (w : pW n b db kd wo lo) : ∃ t, fX9_laySale s = some t ∧ mF s t ∧ ∀ k, k ≤ n → ∀ T, pLr (t.2.1 9) n b lo k T := by
  have hn := w.1
  have h2n : 2 ^ n ≤ 128 := Nat.pow_le_pow_right (n := 2) (by decide) w.1
  unfold fX9_laySale
  refine pl_inv0 (P := fun o => ∃ t : lm_St, o = some t ∧ mF s t ∧ ∀ k, k ≤ n → ∀ T, pLr (t.2.1 9) n b lo k T) (fun (j : Nat) (a : Int32 × lm_St) => a.1 = nI j ∧ mF s a.2 ∧ ∀ T, T < j → a.2.2.1 9 (128 * n + T) = 0) 128 ⟨rfl, mF.rf s, fun T hT => absurd hT (Nat.not_lt_zero T)⟩ ?_ ?_ (by decide)
  · intro j a hj ha
    obtain ⟨x, u⟩ := a
    obtain ⟨rfl, g1, g2⟩ := ha
    dsimp only at g1 g2
    refine ⟨(nI (j + 1), lm_sA u 9 (upd (u.2.1 9) (128 * n + j) 0)), fun k => ?_, rfl, g1.tr (mF.sA u _ (Or.inr (Or.inr (Or.inr rfl)))), fun T hT => ?_⟩
    · show bX9_laySale_2 k (nI j) u = _
      unfold bX9_laySale_2
      rw [if_neg (show ¬ (128 : Int32) ≤ nI j from nI_ge (b := 128) hj (by decide)), (h.mF g1).1, pI_128, pg_I (by omega) (by decide), nI_clamp (n := 128 * n + j) (by omega), nI_1 j]
    · show upd (u.2.1 9) (128 * n + j) 0 (128 * n + T) = 0
      rw [pu_u]
      by_cases c : T = j
      · rw [if_pos (by omega)]
      · rw [if_neg (by omega)]; exact g2 T (by omega)
  · intro a ha
    obtain ⟨x, u⟩ := a
    obtain ⟨rfl, g1, g2⟩ := ha
    dsimp only at g1 g2
    refine ⟨lm_lp (fun k a => bX9_laySale_38 k a.1 a.2) 5000 (nI n + (-1), u), fun k => ?_, ?_⟩
    · show bX9_laySale_2 k (nI 128) u = _
      unfold bX9_laySale_2
      rw [if_pos (show (128 : Int32) ≤ nI 128 from nI_le (a := 128) (b := 128) (by decide) (by decide)), (h.mF g1).1, show nI n - 1 = nI n + (-1) by grind]
    · refine pl_inv0 (P := fun o => ∃ t : lm_St, o = some t ∧ mF s t ∧ ∀ k, k ≤ n → ∀ T, pLr (t.2.1 9) n b lo k T) (fun (j : Nat) (a : Int32 × lm_St) => a.1 = nI (n - j) + (-1) ∧ mF s a.2 ∧ ∀ k, n - j ≤ k → k ≤ n → ∀ T, pLr (a.2.2.1 9) n b lo k T) n ⟨by rw [Nat.sub_zero], g1, fun k a1 a2 T q1 q2 => ?_⟩ ?_ ?_ (by omega)
      · rw [show k = n by omega, Nat.sub_self, pZr]
        exact g2 T (by omega)
      · intro j a hj ha
        obtain ⟨x, v⟩ := a
        obtain ⟨rfl, f1, f2⟩ := ha
        dsimp only at f1 f2
        have em : n - j = (n - (j + 1)) + 1 := by omega
        obtain ⟨t, i1, i2, i3⟩ := pm_layRow (h.mF f1) w (show n - (j + 1) < n by omega) (fun k' a1 a2 => f2 k' (by omega) a2)
        refine ⟨(nI (n - (j + 1)) + (-1), t), fun k => ?_, rfl, f1.tr i2, i3⟩
        show bX9_laySale_38 k (nI (n - j) + (-1)) v = _
        unfold bX9_laySale_38
        rw [em, pk_m1, if_neg (nI_pos (by omega)), i1]
      · intro a ha
        obtain ⟨x, v⟩ := a
        obtain ⟨rfl, f1, f2⟩ := ha
        dsimp only at f1 f2
        refine ⟨some v, fun k => ?_, v, rfl, f1, fun k hk => f2 k (by omega) hk⟩
        show bX9_laySale_38 k (nI (n - n) + (-1)) v = _
        unfold bX9_laySale_38
        rw [Nat.sub_self, if_pos (by decide)]
