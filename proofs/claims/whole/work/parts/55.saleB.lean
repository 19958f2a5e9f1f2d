/-! SALE: who buys, the class. -/
def pFi (p : Nat → Bool) : Nat → Nat
  | 0 => 0
  | k + 1 => if pFi p k < k then pFi p k else if p k then k else k + 1
theorem pFi_all {p : Nat → Bool} : ∀ n, pFi p n ≤ n ∧ (∀ i, i < pFi p n → p i = false) ∧ (pFi p n < n → p (pFi p n) = true) := by
  intro n
  induction n with
  | zero => exact ⟨Nat.le_refl 0, fun i h => absurd h (Nat.not_lt_zero i), fun h => absurd h (Nat.not_lt_zero 0)⟩
  | succ n ih =>
    obtain ⟨h1, h2, h3⟩ := ih
    rw [pFi]
    by_cases c : pFi p n < n
    · rw [if_pos c]
      exact ⟨by omega, h2, fun _ => h3 c⟩
    · rw [if_neg c]
      have e : pFi p n = n := by omega
      rw [e] at h2
      cases hp : p n with
      | true => rw [if_pos rfl]; exact ⟨by omega, h2, fun _ => hp⟩
      | false =>
        rw [if_neg (by decide)]
        refine ⟨Nat.le_refl _, fun i hi => ?_, fun h => absurd h (Nat.lt_irrefl _)⟩
        by_cases d : i = n
        · rw [d]; exact hp
        · exact h2 i (by omega)
theorem pFi_lt {p : Nat → Bool} {n : Nat} (h : ∃ i, i < n ∧ p i = true) : pFi p n < n := by
  obtain ⟨h1, h2, _⟩ := pFi_all (p := p) n
  obtain ⟨i, hi, hp⟩ := h
  rcases Nat.lt_or_ge (pFi p n) n with c | c
  · exact c
  · have := h2 i (by omega)
    rw [this] at hp; cases hp
theorem pFi_un {p : Nat → Bool} {n q : Nat} (hq : q < n) (hp : p q = true) (hl : ∀ i, i < q → p i = false) : pFi p n = q := by
  obtain ⟨h1, h2, h3⟩ := pFi_all (p := p) n
  have hn := pFi_lt ⟨q, hq, hp⟩
  rcases Nat.lt_trichotomy (pFi p n) q with c | c | c
  · have := hl _ c
    rw [h3 hn] at this; cases this
  · exact c
  · have := h2 _ c
    rw [hp] at this; cases this
theorem pS_some {p : Nat → Bool} : ∀ {n : Nat}, 0 < pS (fun _ => 1) p n → ∃ i, i < n ∧ p i = true := by
  intro n
  induction n with
  | zero => intro h; exact absurd h (Nat.lt_irrefl 0)
  | succ n ih =>
    intro h
    cases hp : p n with
    | true => exact ⟨n, Nat.lt_succ_self n, hp⟩
    | false =>
      have e : pS (fun _ => 1) p (n + 1) = pS (fun _ => 1) p n := by
        show pS (fun _ => 1) p n + (if p n then 1 else 0) = _
        rw [hp]; rfl
      rw [e] at h
      obtain ⟨i, h1, h2⟩ := ih h
      exact ⟨i, by omega, h2⟩
/-- buyer q would do for the i-th sold -/
def pDo (n b : Nat) (lo : Nat → Nat) (i set : Nat) (q : Nat) : Bool := !set.testBit q && decide (pWn lo (pSo b n i) q + pZr n b lo (pRk b n - (i + 1)) (set ||| 2 ^ q) = pZr n b lo (pRk b n - i) set)
def pCh (n b : Nat) (lo : Nat → Nat) (i set : Nat) : Nat := pFi (pDo n b lo i set) n
def pSv (n b : Nat) (lo : Nat → Nat) : Nat → Nat
  | 0 => 0
  | i + 1 => pSv n b lo i ||| 2 ^ pCh n b lo i (pSv n b lo i)
theorem pCh_ok {n b i set : Nat} {lo : Nat → Nat} (hi : i < pRk b n) (hr : pRk set n = i) : pCh n b lo i set < n ∧ pDo n b lo i set (pCh n b lo i set) = true ∧ (∀ q, q < pCh n b lo i set → pDo n b lo i set q = false) := by
  have hbn := pRk_le b n
  have hex : ∃ q, q < n ∧ pDo n b lo i set q = true := by
    have h1 := pS_neg (p := fun i => set.testBit i) n
    have h2 : pS (fun _ => 1) (fun i => set.testBit i) n = i := hr
    obtain ⟨q0, g1, g2⟩ := pS_some (p := fun i => !set.testBit i) (n := n) (by omega)
    obtain ⟨q, k1, k2, k3⟩ := pMx_ex (f := fun q => pWn lo (pSo b n i) q + pZr n b lo (pRk b n - (i + 1)) (set ||| 2 ^ q)) (p := fun q => !set.testBit q) ⟨q0, g1, g2⟩
    refine ⟨q, k1, ?_⟩
    unfold pDo
    have e : pZr n b lo (pRk b n - i) set = pMx (fun q => pWn lo (pSo b n i) q + pZr n b lo (pRk b n - (i + 1)) (set ||| 2 ^ q)) (fun q => !set.testBit q) n := by
      rw [show pRk b n - i = (pRk b n - (i + 1)) + 1 by omega, pZr, show pRk b n - (pRk b n - (i + 1) + 1) = i by omega]
    rw [e, k3]
    simp at k2 ⊢
    exact k2
  have hlt := pFi_lt hex
  obtain ⟨h1, h2, h3⟩ := pFi_all (p := pDo n b lo i set) n
  exact ⟨hlt, h3 hlt, h2⟩
theorem pDo_free {n b i set q : Nat} {lo : Nat → Nat} (h : pDo n b lo i set q = true) : set.testBit q = false := by
  unfold pDo at h
  cases hs : set.testBit q with
  | false => rfl
  | true => rw [hs] at h; simp at h
theorem pSv_ok {n b : Nat} {lo : Nat → Nat} (hn : n ≤ 7) : ∀ i, i ≤ pRk b n → pSv n b lo i < 2 ^ n ∧ pRk (pSv n b lo i) n = i := by
  intro i
  induction i with
  | zero => intro _; exact ⟨Nat.pow_pos (by decide), pRk_0 n⟩
  | succ i ih =>
    intro hi
    obtain ⟨h1, h2⟩ := ih (by omega)
    obtain ⟨c1, c2, _⟩ := pCh_ok (lo := lo) (show i < pRk b n by omega) h2
    unfold pSv
    exact ⟨pZ_lt hn h1 c1, by rw [pRk_add c1 (pDo_free c2), h2]⟩
theorem pc_firstBuyer {s0 s1 : lm_St} {n b i set : Nat} {lo : Nat → Nat} (hn : n ≤ 7) (h0 : s1.1 0 = nI n) (hlo : ∀ i, i < n → s1.2.1 2 i = nI (lo i) ∧ lo i ≤ 20) (hT : pTb s0 n b lo 0) (hi : i < pRk b n) (hs : set < 2 ^ n) (hr : pRk set n = i) : fX0_firstBuyer s0 s1 (nI set) (nI (pSo b n i)) = some (nI (pCh n b lo i set), s0, s1) := by
  obtain ⟨c1, c2, c3⟩ := pCh_ok (lo := lo) hi hr
  obtain ⟨t0, t1, t2⟩ := hT
  have hbn := pRk_le b n
  have hso := pSo_lt (b := b) (n := n) (p := i) hi
  have hs7 : set < 128 := Nat.lt_of_lt_of_le hs (Nat.pow_le_pow_right (n := 2) (by decide) hn)
  have h2n : 2 ^ n ≤ 128 := Nat.pow_le_pow_right (n := 2) (by decide) hn
  have hstep : ∀ q, q < n → set.testBit q = false → ∀ (k : Int32 × Int32 × Int32 × lm_St × lm_St → Option (Int32 × lm_St × lm_St)), bX0_firstBuyer_3 k (nI set) (nI (pSo b n i)) (nI q) s0 s1 = if pDo n b lo i set q = true then some (nI q, s0, s1) else k (nI set, nI (pSo b n i), nI (q + 1), s0, s1) := fun q hq hf k => by
    have hlt := pZ_lt hn hs hq
    have hb1 := pWn_le (lo := lo) hn (show pSo b n i < 7 by omega) hq (fun h => (hlo _ h).2) hso.1
    have hb2 := pZr_le (b := b) (lo := lo) hn (fun i hi => (hlo i hi).2) (pRk b n - (i + 1)) (set ||| 2 ^ q) (by omega)
    have hb3 := pZr_le (b := b) (lo := lo) hn (fun i hi => (hlo i hi).2) (pRk b n - i) set (by omega)
    unfold bX0_firstBuyer_3 jX0_firstBuyer_52
    rw [h0, if_neg (nI_ge hq (by omega)), pb_isIn (by omega) (by omega), hf]
    simp only [Option.bind_some, Bool.false_eq_true, if_false, if_true]
    rw [pc_wanted (by omega) (by omega) (hlo _ hso.1).1]
    simp only [Option.bind_some, lm_un2]
    rw [pb_orI set hs7 q (by omega), pg_I (by omega) (by decide), pg_I (by omega) (by decide), nI_clamp (n := set ||| 2 ^ q) (by omega), nI_clamp (n := set) (by omega), t2 _ (Nat.zero_le _) hlt, t2 _ (Nat.zero_le _) hs, pRk_add hq hf, hr, nI_add, nI_1 q]
    unfold pDo
    rw [hf]
    by_cases d : pWn lo (pSo b n i) q + pZr n b lo (pRk b n - (i + 1)) (set ||| 2 ^ q) = pZr n b lo (pRk b n - i) set
    · rw [if_pos (by rw [d]), if_pos (by simp [d])]
    · rw [if_neg (fun z => d ((nI_eq (by omega) (by omega)).mp z)), if_neg (by simp [d])]
  unfold fX0_firstBuyer
  refine pl_run0 (fun j => (nI set, nI (pSo b n i), nI j, s0, s1)) (pCh n b lo i set) rfl (fun j k hj => ?_) (fun k => ?_) (by omega)
  · show bX0_firstBuyer_3 k (nI set) (nI (pSo b n i)) (nI j) s0 s1 = k (nI set, nI (pSo b n i), nI (j + 1), s0, s1)
    have hc := c3 j hj
    cases ht : set.testBit j with
    | false => rw [hstep j (by omega) ht, hc, if_neg (by decide)]
    | true =>
      unfold bX0_firstBuyer_3 jX0_firstBuyer_52
      rw [h0, if_neg (nI_ge (by omega) (by omega)), pb_isIn (by omega) (by omega), ht, nI_1 j]
      rfl
  · show bX0_firstBuyer_3 k (nI set) (nI (pSo b n i)) (nI (pCh n b lo i set)) s0 s1 = _
    rw [hstep _ c1 (pDo_free c2), if_pos c2]
/-- what buyerOf says -/
def pBo (n b : Nat) (lo : Nat → Nat) (one : Nat) : Int32 := if b.testBit one then nI (pCh n b lo (pRk b one) (pSv n b lo (pRk b one))) else -1
theorem pc_buyerOf {s0 s1 : lm_St} {n b one : Nat} {lo : Nat → Nat} (hn : n ≤ 7) (hb : b < 2 ^ n) (h0 : s1.1 0 = nI n) (h1 : s1.1 1 = nI b) (hlo : ∀ i, i < n → s1.2.1 2 i = nI (lo i) ∧ lo i ≤ 20) (hone : one < n) : ∃ t, fX0_buyerOf s0 s1 (nI one) = some (pBo n b lo one, t, s1) := by
  obtain ⟨t, ht, hT⟩ := pc_mostOf (s0 := s0) hn hb h0 h1 hlo
  refine ⟨t, ?_⟩
  unfold fX0_buyerOf
  rw [ht]
  simp only [Option.bind_some, lm_un3]
  have hbn := pRk_le b n
  have hstep : ∀ i, i < pRk b n → ∀ (k : Int32 × Int32 × Int32 × lm_St × lm_St → Option (Int32 × lm_St × lm_St)), bX0_buyerOf_11 k (nI one) (nI (pSv n b lo i)) (nI i) t s1 = if pSo b n i = one then some (nI (pCh n b lo i (pSv n b lo i)), t, s1) else k (nI one, nI (pSv n b lo (i + 1)), nI (i + 1), t, s1) := fun i hi k => by
    obtain ⟨g1, g2⟩ := pSv_ok (b := b) (lo := lo) hn i (by omega)
    have hs7 : pSv n b lo i < 128 := Nat.lt_of_lt_of_le g1 (Nat.pow_le_pow_right (n := 2) (by decide) hn)
    have hso := pSo_lt (b := b) (n := n) (p := i) hi
    obtain ⟨c1, c2, c3⟩ := pCh_ok (lo := lo) hi g2
    unfold bX0_buyerOf_11
    rw [hT.1, if_neg (nI_ge hi (by omega)), pg_I (by omega) (by decide), nI_clamp (n := i) (by omega), hT.2.1 i hi, pc_firstBuyer hn h0 hlo hT hi g1 g2]
    simp only [Option.bind_some, lm_un3]
    rw [pg_I (by omega) (by decide), hT.2.1 i hi, pb_orI _ hs7 _ (by omega), nI_1 i]
    by_cases d : pSo b n i = one
    · rw [if_pos (by rw [d]), if_pos d]
    · rw [if_neg (fun z => d ((nI_eq (by omega) (by omega)).mp z)), if_neg d]
      rfl
  unfold pBo
  cases ho : b.testBit one with
  | true =>
    rw [if_pos rfl]
    have hlt := pRk_lt (b := b) hone ho
    refine pl_run0 (fun j => (nI one, nI (pSv n b lo j), nI j, t, s1)) (pRk b one) rfl (fun j k hj => ?_) (fun k => ?_) (by omega)
    · show bX0_buyerOf_11 k (nI one) (nI (pSv n b lo j)) (nI j) t s1 = _
      rw [hstep j (by omega), if_neg (fun z => by
        have := (pSo_lt (b := b) (n := n) (p := j) (by omega)).2.2
        rw [z] at this; omega)]
    · show bX0_buyerOf_11 k (nI one) (nI (pSv n b lo (pRk b one))) (nI (pRk b one)) t s1 = _
      rw [hstep _ hlt, if_pos (pSo_at hone ho)]
  | false =>
    rw [if_neg (by decide)]
    refine pl_run0 (fun j => (nI one, nI (pSv n b lo j), nI j, t, s1)) (pRk b n) rfl (fun j k hj => ?_) (fun k => ?_) (by omega)
    · show bX0_buyerOf_11 k (nI one) (nI (pSv n b lo j)) (nI j) t s1 = _
      rw [hstep j (by omega), if_neg (fun z => by
        have := (pSo_lt (b := b) (n := n) (p := j) (by omega)).2.1
        rw [z, ho] at this; cases this)]
    · show bX0_buyerOf_11 k (nI one) (nI (pSv n b lo (pRk b n))) (nI (pRk b n)) t s1 = _
      unfold bX0_buyerOf_11
      rw [hT.1, if_pos (nI_le (Nat.le_refl _) (by omega))]
