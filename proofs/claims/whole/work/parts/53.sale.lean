/-! SALE: plain, and the class. -/
def pRk (b : Nat) (k : Nat) : Nat := pS (fun _ => 1) (fun i => b.testBit i) k
theorem pRk_le (b k : Nat) : pRk b k ≤ k := by
  have h : pRk b k ≤ k * 1 := pS_le (fun _ _ => Nat.le_refl 1)
  omega
theorem pRk_s (b k : Nat) : pRk b (k + 1) = pRk b k + (if b.testBit k then 1 else 0) := rfl
theorem pRk_mono {b j : Nat} : ∀ {k : Nat}, j ≤ k → pRk b j ≤ pRk b k := by
  intro k
  induction k with
  | zero => intro h; rw [show j = 0 by omega]; exact Nat.le_refl _
  | succ k ih =>
    intro h
    by_cases e : j = k + 1
    · rw [e]; exact Nat.le_refl _
    · rw [pRk_s]
      exact Nat.le_trans (ih (by omega)) (Nat.le_add_right _ _)
theorem pRk_lt {b j k : Nat} (h : j < k) (hj : b.testBit j = true) : pRk b j < pRk b k := by
  have h1 := pRk_mono (b := b) (show j + 1 ≤ k from h)
  rw [pRk_s, hj, if_pos rfl] at h1
  omega
/-- the so-manieth that is taken -/
def pSo (b : Nat) : Nat → Nat → Nat
  | 0, _ => 0
  | k + 1, p => if b.testBit k = true ∧ pRk b k = p then k else pSo b k p
theorem pSo_at {b : Nat} : ∀ {n k : Nat}, k < n → b.testBit k = true → pSo b n (pRk b k) = k := by
  intro n
  induction n with
  | zero => intro k h; omega
  | succ n ih =>
    intro k h hk
    unfold pSo
    by_cases e : k = n
    · subst e
      rw [if_pos ⟨hk, rfl⟩]
    · rw [if_neg (fun q => by
        have := pRk_lt (b := b) (show k < n by omega) hk
        omega)]
      exact ih (by omega) hk
theorem pSo_ex {b : Nat} : ∀ {n p : Nat}, p < pRk b n → ∃ k, k < n ∧ b.testBit k = true ∧ pRk b k = p := by
  intro n
  induction n with
  | zero => intro p h; exact absurd h (Nat.not_lt_zero p)
  | succ n ih =>
    intro p h
    rw [pRk_s] at h
    by_cases c : p < pRk b n
    · obtain ⟨k, h1, h2, h3⟩ := ih c
      exact ⟨k, by omega, h2, h3⟩
    · cases hb : b.testBit n with
      | true => rw [hb, if_pos rfl] at h; exact ⟨n, by omega, hb, by omega⟩
      | false => rw [hb, if_neg (by decide)] at h; omega
/-- wanted -/
def pWn (lo : Nat → Nat) (k q : Nat) : Nat := if q = k then lo k else if q ≤ k then k - q else q - k
/-- the most over those of the first n with p -/
def pMx (f : Nat → Nat) (p : Nat → Bool) : Nat → Nat
  | 0 => 0
  | i + 1 => if p i then max (pMx f p i) (f i) else pMx f p i
theorem pMx_ge {f : Nat → Nat} {p : Nat → Bool} : ∀ {n i : Nat}, i < n → p i = true → f i ≤ pMx f p n := by
  intro n
  induction n with
  | zero => intro i h; omega
  | succ n ih =>
    intro i h hp
    unfold pMx
    by_cases e : i = n
    · subst e
      rw [hp, if_pos rfl]
      exact Nat.le_max_right _ _
    · have := ih (show i < n by omega) hp
      split
      · exact Nat.le_trans this (Nat.le_max_left _ _)
      · exact this
theorem pMx_0 {f : Nat → Nat} {p : Nat → Bool} : ∀ {n : Nat}, (¬ ∃ i, i < n ∧ p i = true) → pMx f p n = 0 := by
  intro n
  induction n with
  | zero => intro _; rfl
  | succ n ih =>
    intro h
    unfold pMx
    rw [if_neg (fun q => h ⟨n, by omega, q⟩)]
    exact ih (fun q => by obtain ⟨i, h1, h2⟩ := q; exact h ⟨i, by omega, h2⟩)
theorem pMx_ex {f : Nat → Nat} {p : Nat → Bool} : ∀ {n : Nat}, (∃ i, i < n ∧ p i = true) → ∃ i, i < n ∧ p i = true ∧ pMx f p n = f i := by
  intro n
  induction n with
  | zero => intro h; obtain ⟨i, h, _⟩ := h; omega
  | succ n ih =>
    intro h
    unfold pMx
    cases hp : p n with
    | false =>
      rw [if_neg (by decide)]
      obtain ⟨i, h1, h2⟩ := h
      have hi : i < n := by
        rcases Nat.lt_or_ge i n with q | q
        · exact q
        · rw [show i = n by omega, hp] at h2; cases h2
      obtain ⟨j, j1, j2, j3⟩ := ih ⟨i, hi, h2⟩
      exact ⟨j, by omega, j2, j3⟩
    | true =>
      rw [if_pos rfl]
      rcases Nat.le_total (pMx f p n) (f n) with q | q
      · exact ⟨n, by omega, hp, Nat.max_eq_right q⟩
      · rw [Nat.max_eq_left q]
        by_cases hz : pMx f p n = 0
        · exact ⟨n, by omega, hp, by omega⟩
        · have hex : ∃ i, i < n ∧ p i = true := by
            rcases Classical.em (∃ i, i < n ∧ p i = true) with z | z
            · exact z
            · exact absurd (pMx_0 z) hz
          obtain ⟨j, j1, j2, j3⟩ := ih hex
          exact ⟨j, by omega, j2, j3⟩
theorem pMx_le {f : Nat → Nat} {p : Nat → Bool} {m : Nat} : ∀ {n : Nat}, (∀ i, i < n → f i ≤ m) → pMx f p n ≤ m := by
  intro n
  induction n with
  | zero => intro _; exact Nat.zero_le m
  | succ n ih =>
    intro h
    have := ih (fun i hi => h i (by omega))
    unfold pMx
    split
    · exact Nat.max_le.mpr ⟨this, h n (by omega)⟩
    · exact this
/-- what the things not yet sold can bring, r of them left, set served -/
def pZr (n b : Nat) (lo : Nat → Nat) : Nat → Nat → Nat
  | 0, _ => 0
  | r + 1, set => pMx (fun q => pWn lo (pSo b n (pRk b n - (r + 1))) q + pZr n b lo r (set ||| 2 ^ q)) (fun q => !set.testBit q) n
theorem pWn_le {lo : Nat → Nat} {n k q : Nat} (hn : n ≤ 7) (hk : k < 7) (hq : q < n) (hl : k < n → lo k ≤ 20) (hkn : k < n) : pWn lo k q ≤ 20 := by
  have := hl hkn
  unfold pWn
  split
  · exact this
  · split <;> omega
theorem pSo_lt {b n p : Nat} (h : p < pRk b n) : pSo b n p < n ∧ b.testBit (pSo b n p) = true ∧ pRk b (pSo b n p) = p := by
  obtain ⟨k, h1, h2, h3⟩ := pSo_ex h
  have := pSo_at (b := b) h1 h2
  rw [h3] at this
  rw [this]
  exact ⟨h1, h2, h3⟩
theorem pZr_le {n b : Nat} {lo : Nat → Nat} (hn : n ≤ 7) (hl : ∀ i, i < n → lo i ≤ 20) : ∀ (r set : Nat), r ≤ pRk b n → pZr n b lo r set ≤ 20 * r := by
  intro r
  induction r with
  | zero => intro set _; exact Nat.le_refl 0
  | succ r ih =>
    intro set hr
    unfold pZr
    refine pMx_le (fun q hq => ?_)
    have h1 := pSo_lt (b := b) (n := n) (p := pRk b n - (r + 1)) (by omega)
    have h2 := pWn_le (lo := lo) hn (show pSo b n (pRk b n - (r + 1)) < 7 by omega) hq (hl _) h1.1
    have h3 := ih (set ||| 2 ^ q) (by omega)
    omega
