/-! SALE: who buys, the reference. -/
def pTd (p : Nat → Bool) (n : Nat) : Nat → Int32
  | 0 => -1
  | j + 1 => if p (n - (j + 1)) then nI (n - (j + 1)) else pTd p n j
theorem pTd_fi {p : Nat → Bool} {n : Nat} (hex : ∃ i, i < n ∧ p i = true) : pTd p n n = nI (pFi p n) := by
  have hh : ∀ j, j ≤ n → ((∀ i, n - j ≤ i → i < n → p i = false) ∨ (∃ q, n - j ≤ q ∧ q < n ∧ p q = true ∧ (∀ i, n - j ≤ i → i < q → p i = false) ∧ pTd p n j = nI q)) := by
    intro j
    induction j with
    | zero => intro _; exact Or.inl (fun i h1 h2 => by omega)
    | succ j ih =>
      intro hj
      rw [pTd]
      cases hp : p (n - (j + 1)) with
      | true =>
        rw [if_pos rfl]
        exact Or.inr ⟨n - (j + 1), Nat.le_refl _, by omega, hp, fun i h1 h2 => by omega, rfl⟩
      | false =>
        rw [if_neg (by decide)]
        rcases ih (by omega) with h | ⟨q, h1, h2, h3, h4, h5⟩
        · refine Or.inl (fun i a1 a2 => ?_)
          by_cases e : i = n - (j + 1)
          · rw [e]; exact hp
          · exact h i (by omega) a2
        · refine Or.inr ⟨q, by omega, h2, h3, fun i a1 a2 => ?_, h5⟩
          by_cases e : i = n - (j + 1)
          · rw [e]; exact hp
          · exact h4 i (by omega) a2
  rcases hh n (Nat.le_refl n) with h | ⟨q, h1, h2, h3, h4, h5⟩
  · obtain ⟨i, g1, g2⟩ := hex
    rw [h i (by omega) g1] at g2; cases g2
  · rw [h5, pFi_un h2 h3 (fun i hi => h4 i (by omega) hi)]
def pBto (n b : Nat) (lo : Nat → Nat) : Nat → Int32
  | 0 => -1
  | k + 1 => pBo n b lo k
theorem pm_buyerOf {s : lm_St} {n b db one : Nat} {kd wo lo si : Nat → Nat} (h : mH s n b db kd wo lo si) (w : pW n b db kd wo lo) (hone : one < n) : ∃ t, fX9_buyerOf s (nI one) = some (pBo n b lo one, t) ∧ mF s t := by
  obtain ⟨t, ht, hF, hL⟩ := pm_laySale h w
  refine ⟨t, ?_, hF⟩
  have hT := h.mF hF
  obtain ⟨w1, w2, w3, w4⟩ := w
  have hbn := pRk_le b n
  unfold fX9_buyerOf
  rw [ht]
  simp only [Option.bind_some]
  refine pl_run0 (fun k => (nI one, nI (pSv n b lo (pRk b k)), pBto n b lo k, nI k, t)) (one + 1) rfl (fun k k11 hk => ?_) (fun k11 => ?_) (by omega)
  · show bX9_buyerOf_11 k11 (nI one) (nI (pSv n b lo (pRk b k))) (pBto n b lo k) (nI k) t = k11 (nI one, nI (pSv n b lo (pRk b (k + 1))), pBo n b lo k, nI (k + 1), t)
    unfold bX9_buyerOf_11
    rw [if_neg (nI_nlt (by omega) (by omega)), hT.1]
    have htk := (hT.2.2 k (by omega)).2.2.2.2
    have hkn := pRk_mono (b := b) (show k ≤ n by omega)
    obtain ⟨g1, g2⟩ := pSv_ok (b := b) (lo := lo) w1 (pRk b k) hkn
    have hs7 : pSv n b lo (pRk b k) < 128 := Nat.lt_of_lt_of_le g1 (Nat.pow_le_pow_right (n := 2) (by decide) w1)
    cases hb : b.testBit k with
    | false =>
      rw [hb, if_neg (by decide)] at htk
      refine pl_run0 (fun j => (nI one, nI (pSv n b lo (pRk b k)), (-1 : Int32), nI k, nI n - 1, t)) 0 rfl (fun j _ hj => absurd hj (Nat.not_lt_zero j)) (fun k27 => ?_) (by decide)
      show bX9_buyerOf_27 k11 k27 (nI one) (nI (pSv n b lo (pRk b k))) (-1) (nI k) (nI n - 1) t = _
      unfold bX9_buyerOf_27 jX9_buyerOf_124 jX9_buyerOf_137
      obtain ⟨m, rfl⟩ : ∃ m, n = m + 1 := ⟨n - 1, by omega⟩
      rw [nI_pred, if_neg (nI_pos (by omega)), pg_I (by omega) (by decide), nI_clamp (n := k) (by omega), htk, if_neg (by decide), if_pos rfl, nI_1 k, pRk_s, hb, show (0 : Int32) = nI 0 from rfl, pI_or]
      unfold pBo
      rw [hb]
      simp
    | true =>
      rw [hb, if_pos rfl] at htk
      have hlt := pRk_lt (b := b) (show k < n by omega) hb
      obtain ⟨c1, c2, c3⟩ := pCh_ok (lo := lo) hlt g2
      have hch : pTd (pDo n b lo (pRk b k) (pSv n b lo (pRk b k))) n n = nI (pCh n b lo (pRk b k) (pSv n b lo (pRk b k))) := pTd_fi ⟨_, c1, c2⟩
      have hso : pSo b n (pRk b k) = k := pSo_at (by omega) hb
      have e : pRk b (k + 1) = pRk b k + 1 := by rw [pRk_s, hb]; rfl
      refine pl_run0 (fun j => (nI one, nI (pSv n b lo (pRk b k)), pTd (pDo n b lo (pRk b k) (pSv n b lo (pRk b k))) n j, nI k, nI (n - j) + (-1), t)) n (by rw [Nat.sub_zero, show nI n - 1 = nI n + (-1) by grind]; rfl) (fun j k27 hj => ?_) (fun k27 => ?_) (by omega)
      · show bX9_buyerOf_27 k11 k27 (nI one) (nI (pSv n b lo (pRk b k))) (pTd (pDo n b lo (pRk b k) (pSv n b lo (pRk b k))) n j) (nI k) (nI (n - j) + (-1)) t = k27 (nI one, nI (pSv n b lo (pRk b k)), pTd (pDo n b lo (pRk b k) (pSv n b lo (pRk b k))) n (j + 1), nI k, nI (n - (j + 1)) + (-1), t)
        obtain ⟨q, hq⟩ : ∃ q, n - j = q + 1 := ⟨n - j - 1, by omega⟩
        rw [hq, pk_m1, show n - (j + 1) = q by omega]
        unfold bX9_buyerOf_27
        rw [if_neg (nI_pos (by omega)), pg_I (by omega) (by decide), nI_clamp (n := k) (by omega), htk, if_pos rfl, pb_bit (by omega) (by omega), pTd, show n - (j + 1) = q by omega]
        generalize pTd (pDo n b lo (pRk b k) (pSv n b lo (pRk b k))) n j = X
        cases hf : (pSv n b lo (pRk b k)).testBit q with
        | true =>
          rw [if_pos rfl, if_neg (by decide)]
          unfold jX9_buyerOf_57 jX9_buyerOf_116 jX9_buyerOf_117
          rw [if_pos rfl]
          unfold pDo
          rw [hf, if_neg (by simp)]
        | false =>
          have hlt2 := pZ_lt w1 g1 (show q < n by omega)
          have h2n : 2 ^ n ≤ 128 := Nat.pow_le_pow_right (n := 2) (by decide) w1
          rw [if_pos (by decide)]
          unfold jX9_buyerOf_57 jX9_buyerOf_116 jX9_buyerOf_117
          rw [if_neg (by decide), pm_wants (by omega) (by omega) (hT.2.2 k (by omega)).2.2.1]
          simp only [Option.bind_some, lm_un2]
          have a1 := pWn_le (lo := lo) w1 (show k < 7 by omega) (show q < n by omega) (fun h => (w4 _ h).2.2.2) (by omega)
          have a2 := pZr_le (b := b) (lo := lo) w1 (fun i hi => (w4 i hi).2.2.2) (pRk b n - (pRk b k + 1)) (pSv n b lo (pRk b k) ||| 2 ^ q) (by omega)
          have a3 := pZr_le (b := b) (lo := lo) w1 (fun i hi => (w4 i hi).2.2.2) (pRk b n - pRk b k) (pSv n b lo (pRk b k)) (by omega)
          have L1 := hL (k + 1) (by omega) (pSv n b lo (pRk b k) ||| 2 ^ q) hlt2 (by rw [pRk_add (by omega) hf, g2, e])
          have L2 := hL k (by omega) (pSv n b lo (pRk b k)) g1 g2
          rw [show 128 * (k + 1) + (pSv n b lo (pRk b k) ||| 2 ^ q) = 128 * k + 128 + (pSv n b lo (pRk b k) ||| 2 ^ q) by omega, e] at L1
          rw [pb_orI _ hs7 q (by omega), pI_129, pI_128, pg_I (by omega) (by decide), pg_I (by omega) (by decide), nI_clamp (n := 128 * k + 128 + (pSv n b lo (pRk b k) ||| 2 ^ q)) (by omega), nI_clamp (n := 128 * k + pSv n b lo (pRk b k)) (by omega), L1, L2, nI_add]
          unfold pDo
          rw [hf, hso]
          by_cases d : pWn lo k q + pZr n b lo (pRk b n - (pRk b k + 1)) (pSv n b lo (pRk b k) ||| 2 ^ q) = pZr n b lo (pRk b n - pRk b k) (pSv n b lo (pRk b k))
          · rw [if_pos (by rw [d]), if_pos (by simp [d])]
          · rw [if_neg (fun z => d ((nI_eq (by omega) (by omega)).mp z)), if_neg (by simp [d])]
      · show bX9_buyerOf_27 k11 k27 (nI one) (nI (pSv n b lo (pRk b k))) (pTd (pDo n b lo (pRk b k) (pSv n b lo (pRk b k))) n n) (nI k) (nI (n - n) + (-1)) t = _
        rw [hch, Nat.sub_self]
        unfold bX9_buyerOf_27 jX9_buyerOf_124 jX9_buyerOf_137
        rw [if_pos (by decide), if_neg (pE_neg (by omega)), pb_orI _ hs7 _ (by omega), nI_1 k, e]
        unfold pBo
        rw [hb, if_pos rfl]
        rfl
  · show bX9_buyerOf_11 k11 (nI one) _ (pBo n b lo one) (nI (one + 1)) t = _
    unfold bX9_buyerOf_11
    rw [if_pos (nI_lt (by omega) (by omega))]
theorem pm_sale {s : lm_St} {n b db : Nat} {kd wo lo si : Nat → Nat} (h : mH s n b db kd wo lo si) (w : pW n b db kd wo lo) : ∃ t, fX9_laySale s = some t ∧ mF s t ∧ t.2.1 9 0 = nI (pZr n b lo (pRk b n) 0) := by
  obtain ⟨t, ht, hF, hL⟩ := pm_laySale h w
  exact ⟨t, ht, hF, hL 0 (Nat.zero_le _) 0 (Nat.pow_pos (by decide)) (pRk_0 n)⟩
