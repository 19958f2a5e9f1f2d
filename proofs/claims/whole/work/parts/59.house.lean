/-! THE HOUSE: read from the page. -/
theorem pEn_59 {p : Nat → Nat} : ∀ {j : Nat}, pEn p j ≠ 0 → p (pEn p j) = 59 ∧ pEn p j < j := by
  intro j
  induction j with
  | zero => intro h; exact absurd rfl h
  | succ j ih =>
    intro h
    unfold pEn at h ⊢
    by_cases c : p j = 59
    · rw [if_pos c]; exact ⟨c, Nat.lt_succ_self j⟩
    · rw [if_neg c] at h ⊢
      have := ih h
      exact ⟨this.1, by omega⟩
theorem pEn_up {p : Nat → Nat} {i : Nat} (h : pEn p i ≠ 0) : ∀ d, pEn p (i + d) ≠ 0 := by
  intro d
  induction d with
  | zero => exact h
  | succ d ih =>
    show pEn p (i + d + 1) ≠ 0
    unfold pEn
    split
    · intro z
      have := (pEn_59 h).2
      omega
    · exact ih
theorem pEn_zero {p : Nat → Nat} {i j : Nat} (hij : i ≤ j) (h : pEn p j = 0) : pEn p i = 0 := by
  rcases Nat.eq_zero_or_pos (pEn p i) with c | c
  · exact c
  · have := pEn_up (p := p) (i := i) (by omega) (j - i)
    rw [show i + (j - i) = j by omega] at this
    exact absurd h this
theorem pFt_all {p : Nat → Nat} {m : Nat} (h : pFt p m = m) : ∀ j, j < m → pGq p j = true := fun j hj => by
  have := (pFi_all (p := fun j => !pGq p j) m).2.1 j (by unfold pFt at h; omega)
  simpa using this
/-- the page is a house -/
def pHs (p : Nat → Nat) (m : Nat) : Prop := pFt p m = m ∧ 3 ≤ m ∧ p (m - 3) = 59
theorem pGq_dig {p : Nat → Nat} {j : Nat} (h : pGq p j = true) (he : pEn p j ≠ 0) : 48 ≤ p j ∧ p j ≤ 57 := by
  unfold pGq pGd at h
  rw [if_pos (by omega)] at h
  simp at h
  exact h.2
theorem pHs_end {p : Nat → Nat} {m : Nat} (h : pHs p m) : pEn p m = m - 3 ∧ 3 < m - 3 ∧ (m - 3) % 4 = 3 ∧ pEn p (m - 3) = 0 ∧ (48 ≤ p (m - 2) ∧ p (m - 2) ≤ 57) ∧ (48 ≤ p (m - 1) ∧ p (m - 1) ≤ 57) := by
  obtain ⟨h1, h2, h3⟩ := h
  have ha := pFt_all h1
  obtain ⟨g1, g2, g3⟩ := pGq_59 (ha (m - 3) (by omega)) h3
  obtain ⟨q, rfl⟩ : ∃ q, m = q + 3 := ⟨m - 3, by omega⟩
  rw [show q + 3 - 3 = q by omega] at *
  rw [show q + 3 - 2 = q + 1 by omega, show q + 3 - 1 = q + 2 by omega]
  have e1 : pEn p (q + 1) = q := by
    show (if p q = 59 then q else pEn p q) = q
    rw [if_pos h3]
  have d1 := pGq_dig (ha (q + 1) (by omega)) (by omega)
  have e2 : pEn p (q + 2) = q := by
    show (if p (q + 1) = 59 then q + 1 else pEn p (q + 1)) = q
    rw [if_neg (by omega), e1]
  have d2 := pGq_dig (ha (q + 2) (by omega)) (by omega)
  have e3 : pEn p (q + 3) = q := by
    show (if p (q + 2) = 59 then q + 2 else pEn p (q + 2)) = q
    rw [if_neg (by omega), e2]
  exact ⟨e3, g2, g3, g1, d1, d2⟩
theorem pHs_iff {p : Nat → Nat} {m : Nat} (hf : pFt p m = m) : pHs p m ↔ pEn p m ≠ 0 ∧ m = pEn p m + 3 := by
  constructor
  · intro h
    have := pHs_end h
    have h2 := h.2.1
    omega
  · intro h
    have := pEn_59 h.1
    refine ⟨hf, by omega, ?_⟩
    rw [show m - 3 = pEn p m by omega]
    exact this.1
theorem pHs_things {p : Nat → Nat} {m : Nat} (h : pHs p m) {k : Nat} (hk : k < (m - 2) / 4) : pKn (p (4 * k)) < 5 ∧ (49 ≤ p (4 * k + 1) ∧ p (4 * k + 1) ≤ 57) ∧ (48 ≤ p (4 * k + 2) ∧ p (4 * k + 2) ≤ 57) := by
  obtain ⟨e1, e2, e3, e4, _, _⟩ := pHs_end h
  have ha := pFt_all h.1
  have h2 := h.2.1
  have a0 := ha (4 * k) (by omega)
  have a1 := ha (4 * k + 1) (by omega)
  have a2 := ha (4 * k + 2) (by omega)
  unfold pGq pGd at a0 a1 a2
  rw [pEn_zero (show 4 * k ≤ m - 3 by omega) e4, if_neg (Nat.lt_irrefl 0), if_pos (by omega)] at a0
  rw [pEn_zero (show 4 * k + 1 ≤ m - 3 by omega) e4, if_neg (Nat.lt_irrefl 0), if_neg (by omega), if_pos (by omega)] at a1
  rw [pEn_zero (show 4 * k + 2 ≤ m - 3 by omega) e4, if_neg (Nat.lt_irrefl 0), if_neg (by omega), if_neg (by omega), if_pos (by omega)] at a2
  have hk6 : pKn (p (4 * k)) < 6 := by
    unfold pKn
    repeat' split
    all_goals decide
  simp at a0 a1 a2
  exact ⟨by omega, a1, a2⟩
def hK (p : Nat → Nat) : Nat → Nat := fun k => pKn (p (4 * k))
def hW (p : Nat → Nat) : Nat → Nat := fun k => p (4 * k + 1) - 48
def hL (p : Nat → Nat) : Nat → Nat := fun k => p (4 * k + 2) - 48
def hD (p : Nat → Nat) (m : Nat) : Nat := 10 * (p (m - 2) - 48) + (p (m - 1) - 48)
theorem pHs_pW {p : Nat → Nat} {m : Nat} (hm : m ≤ 32) (h : pHs p m) : pW ((m - 2) / 4) 0 (hD p m) (hK p) (hW p) (hL p) := by
  obtain ⟨e1, e2, e3, e4, d1, d2⟩ := pHs_end h
  refine ⟨by omega, by decide, by unfold hD; omega, fun i hi => ?_⟩
  have := pHs_things h hi
  unfold hK hW hL
  omega
theorem pc_isHouse {s : lm_St} {m : Nat} {p : Nat → Nat} (hm : m ≤ 32) (hp : ∀ i, i < m → 1 ≤ p i ∧ p i ≤ 126) (h0 : s.1 0 = nI m) (hs : ∀ i, i < m → s.2.1 0 i = nI (p i)) : (pHs p m ∧ fX5_isHouse s = some (1, s)) ∨ (¬ pHs p m ∧ fX5_isHouse s = some (0, s)) := by
  unfold fX5_isHouse
  rw [h0, pc_firstFault hm hp h0 hs]
  have hle : pFt p m ≤ m := (pFi_all (p := fun j => !pGq p j) m).1
  simp only [Option.bind_some, lm_un2]
  by_cases c : 3 ≤ m
  · rw [if_neg (show ¬ nI m < (3 : Int32) from nI_nlt (b := 3) c (by omega)), h0]
    by_cases c2 : pFt p m = m
    · rw [c2, if_pos rfl, show (3 : Int32) = nI 3 from rfl, pk_sub c, pg_I (by omega) (by decide), nI_clamp (n := m - 3) (by omega), hs _ (by omega)]
      by_cases c3 : p (m - 3) = 59
      · exact Or.inl ⟨⟨c2, c, c3⟩, by rw [c3, show nI 59 = 59 from rfl, if_pos rfl]; rfl⟩
      · have := hp (m - 3) (by omega)
        exact Or.inr ⟨fun z => c3 z.2.2, by rw [if_neg (show ¬ nI (p (m - 3)) = (59 : Int32) from fun z => c3 ((nI_eq (b := 59) (by omega) (by decide)).mp z))]; rfl⟩
    · exact Or.inr ⟨fun z => c2 z.1, by rw [if_neg (fun z => c2 ((nI_eq (by omega) (by omega)).mp z))]; rfl⟩
  · exact Or.inr ⟨fun z => c z.2.1, by rw [if_pos (show nI m < (3 : Int32) from nI_lt (b := 3) (by omega) (by decide))]; rfl⟩
theorem pI_48 {c : Nat} (h : 48 ≤ c) : nI c - (48 : Int32) = nI (c - 48) := pk_sub (b := 48) h
theorem pc_readInto {s0 s1 : lm_St} {m : Nat} {p : Nat → Nat} (hm : m ≤ 32) (hp : ∀ i, i < m → 1 ≤ p i ∧ p i ≤ 126) (h0 : s0.1 0 = nI m) (hs : ∀ i, i < m → s0.2.1 0 i = nI (p i)) (h : pHs p m) : ∃ t, fX5_readInto s0 s1 = some (s0, t) ∧ cH t ((m - 2) / 4) 0 (hD p m) (hK p) (hW p) (hL p) (fun _ => 0) ∧ t.1 3 = nI 0 ∧ t.1 4 = nI 0 := by
  obtain ⟨e1, e2, e3, e4, d1, d2⟩ := pHs_end h
  unfold fX5_readInto
  rw [h0, show (2 : Int32) = nI 2 from rfl, pk_sub (by omega), show (4 : Int32) = nI 4 from rfl, pk_div (by omega) (by decide) (by decide)]
  have hmin : (if nI ((m - 2) / 4) < (7 : Int32) then nI ((m - 2) / 4) else (7 : Int32)) = nI ((m - 2) / 4) := by
    by_cases c : (m - 2) / 4 < 7
    · rw [if_pos (show nI ((m - 2) / 4) < (7 : Int32) from nI_lt (b := 7) c (by decide))]
    · rw [if_neg (show ¬ nI ((m - 2) / 4) < (7 : Int32) from nI_nlt (b := 7) (by omega) (by omega)), show (m - 2) / 4 = 7 by omega]; rfl
  rw [hmin]
  generalize hn : (m - 2) / 4 = n
  have hn7 : n ≤ 7 := by omega
  refine pl_inv0 (P := fun o => ∃ t : lm_St, o = some (s0, t) ∧ cH t n 0 (hD p m) (hK p) (hW p) (hL p) (fun _ => 0) ∧ t.1 3 = nI 0 ∧ t.1 4 = nI 0) (fun (j : Nat) (a : Int32 × lm_St × lm_St) => a.1 = nI j ∧ a.2.1 = s0 ∧ a.2.2.1 0 = nI n ∧ ∀ i, i < j → a.2.2.2.1 0 i = nI (hK p i) ∧ a.2.2.2.1 1 i = nI (hW p i) ∧ a.2.2.2.1 2 i = nI (hL p i) ∧ a.2.2.2.1 3 i = nI 0) n ⟨rfl, rfl, rfl, fun i hi => absurd hi (Nat.not_lt_zero i)⟩ ?_ ?_ (by omega)
  · intro j a hj ha
    obtain ⟨x, u, v⟩ := a
    obtain ⟨rfl, g1, g2, g3⟩ := ha
    dsimp only at g1 g2 g3
    subst g1
    have ht := pHs_things h (k := j) (by omega)
    refine ⟨(nI (j + 1), u, lm_sA (lm_sA (lm_sA (lm_sA v 0 (upd (v.2.1 0) j (nI (hK p j)))) 1 (upd (v.2.1 1) j (nI (hW p j)))) 2 (upd (v.2.1 2) j (nI (hL p j)))) 3 (upd (v.2.1 3) j 0)), fun k => ?_, rfl, rfl, g2, fun i hi => ?_⟩
    · show bX5_readInto_19 k (nI j) u v = _
      unfold bX5_readInto_19
      have q0 := hp (4 * j) (by omega)
      rw [g2, if_neg (nI_ge hj (by omega)), show (4 : Int32) = nI 4 from rfl, pk_mul, pg_I (by omega) (by decide), nI_clamp (n := 4 * j) (by omega), hs (4 * j) (by omega), pp_ix _ (by omega), if_neg (by omega)]
      simp only [Option.bind_some]
      rw [nI_1 (4 * j), show (2 : Int32) = nI 2 from rfl, nI_add, pg_I (i := j) (by omega) (by decide), pg_I (i := 4 * j + 1) (by omega) (by decide), pg_I (i := j) (by omega) (by decide), pg_I (i := 4 * j + 2) (by omega) (by decide), pg_I (i := j) (by omega) (by decide), pg_I (i := j) (by omega) (by decide), nI_clamp (n := j) (by omega), nI_clamp (n := 4 * j + 1) (by omega), nI_clamp (n := 4 * j + 2) (by omega), hs (4 * j + 1) (by omega), hs (4 * j + 2) (by omega), pI_48 (by omega), pI_48 (by omega), nI_1 j]
      rfl
    · show upd (v.2.1 0) j (nI (hK p j)) i = _ ∧ upd (v.2.1 1) j (nI (hW p j)) i = _ ∧ upd (v.2.1 2) j (nI (hL p j)) i = _ ∧ upd (v.2.1 3) j 0 i = _
      rw [pu_u, pu_u, pu_u, pu_u]
      by_cases c : i = j
      · subst c
        rw [if_pos rfl, if_pos rfl, if_pos rfl, if_pos rfl]
        exact ⟨rfl, rfl, rfl, rfl⟩
      · rw [if_neg c, if_neg c, if_neg c, if_neg c]
        exact g3 i (by omega)
  · intro a ha
    obtain ⟨x, u, v⟩ := a
    obtain ⟨rfl, g1, g2, g3⟩ := ha
    dsimp only at g1 g2 g3
    subst g1
    refine ⟨some (u, lm_sF (lm_sF (lm_sF (lm_sF v 2 (nI (hD p m))) 1 0) 3 0) 4 0), fun k => ?_, _, rfl, ⟨g2, rfl, rfl, fun i hi => g3 i hi⟩, rfl, rfl⟩
    show bX5_readInto_19 k (nI n) u v = _
    unfold bX5_readInto_19
    rw [g2, if_pos (nI_le (Nat.le_refl n) (by omega)), h0, show (2 : Int32) = nI 2 from rfl, pk_sub (by omega), show nI m - 1 = nI (m - 1) from pk_sub (b := 1) (by omega), pg_I (by omega) (by decide), pg_I (by omega) (by decide), nI_clamp (n := m - 2) (by omega), nI_clamp (n := m - 1) (by omega), hs (m - 2) (by omega), hs (m - 1) (by omega), pI_48 (by omega), pI_48 (by omega), show (10 : Int32) = nI 10 from rfl, pk_mul, nI_add]
    rfl
/-- what house leaves alone -/
def mG (s t : lm_St) : Prop := (∀ k, k = 8 ∨ (11 ≤ k ∧ k < 17) → t.1 k = s.1 k) ∧ ∀ k, k = 0 ∨ 10 ≤ k → t.2.1 k = s.2.1 k
theorem pm_house {s : lm_St} {m : Nat} {p : Nat → Nat} (hm : m ≤ 32) (hp : ∀ i, i < m → 1 ≤ p i ∧ p i ≤ 126) (h0 : s.1 0 = nI m) (hs : ∀ i, i < m → s.2.1 0 i = nI (p i)) : (¬ pHs p m → ∃ t, fX9_house s = some (-103, t) ∧ mF s t) ∧ (pHs p m → ∃ t, fX9_house s = some (nI ((m - 2) / 4), t) ∧ mH t ((m - 2) / 4) 0 (hD p m) (hK p) (hW p) (hL p) (fun _ => 0) ∧ t.1 4 = nI 0 ∧ t.1 5 = nI 0 ∧ t.1 9 = nI 0 ∧ t.1 6 = s.1 6 + 1 ∧ t.1 0 = nI 0 ∧ mG s t) := by
  obtain ⟨t, ht, hF, hE⟩ := pm_faultOf hm hp h0 hs
  have hle : pFt p m ≤ m := (pFi_all (p := fun j => !pGq p j) m).1
  have ht0 : t.1 0 = nI m := by rw [hF.1 0 (by decide) (by decide) (by decide)]; exact h0
  have htA : ∀ i, i < m → t.2.1 0 i = nI (p i) := fun i hi => by rw [hF.2.1 0 (by decide) (by decide) (by decide) (by decide)]; exact hs i hi
  unfold fX9_house
  rw [ht]
  simp only [Option.bind_some, lm_un2]
  rw [ht0]
  constructor
  · intro hn
    refine ⟨t, ?_, hF⟩
    by_cases c : pFt p m < m
    · rw [if_pos (nI_lt c (by omega))]
    · have e : pFt p m = m := by omega
      have he := hE e
      have hl := pEn_le p m
      rw [if_neg (by rw [e]; exact nI_nlt (Nat.le_refl m) (by omega)), he]
      by_cases c2 : pEn p m = 0
      · rw [c2, show nI 0 = 0 from rfl, if_pos rfl]
      · rw [if_neg (nI_ne0 (by omega) (by omega)), show (3 : Int32) = nI 3 from rfl, nI_add, if_neg (fun z => hn ((pHs_iff e).mpr ⟨c2, (nI_eq (by omega) (by omega)).mp z⟩))]
  · intro h
    obtain ⟨e1, e2, e3, e4, d1, d2⟩ := pHs_end h
    have e := h.1
    have he := hE e
    rw [e1] at he
    rw [if_neg (by rw [e]; exact nI_nlt (Nat.le_refl m) (by omega)), he, if_neg (nI_ne0 (by omega) (by omega)), show (3 : Int32) = nI 3 from rfl, nI_add, if_pos (by rw [show m - 3 + 3 = m by omega]), nI_1 (m - 3), show (4 : Int32) = nI 4 from rfl, pk_div (by omega) (by decide) (by decide), show m - 3 + 1 = m - 2 by omega]
    generalize hn : (m - 2) / 4 = n
    have hn7 : n ≤ 7 := by omega
    refine pl_inv0 (P := fun o => ∃ t : lm_St, o = some (nI n, t) ∧ mH t n 0 (hD p m) (hK p) (hW p) (hL p) (fun _ => 0) ∧ t.1 4 = nI 0 ∧ t.1 5 = nI 0 ∧ t.1 9 = nI 0 ∧ t.1 6 = s.1 6 + 1 ∧ t.1 0 = nI 0 ∧ mG s t) (fun (j : Nat) (a : Int32 × lm_St) => a.1 = nI j ∧ a.2.1 = (lm_sF t 2 (nI n)).1 ∧ (∀ k, k = 0 ∨ 10 ≤ k → a.2.2.1 k = s.2.1 k) ∧ ∀ i, i < j → a.2.2.1 1 i = nI (hK p i) ∧ a.2.2.1 2 i = nI (hW p i) ∧ a.2.2.1 3 i = nI (hL p i) ∧ a.2.2.1 4 i = nI 0 ∧ a.2.2.1 5 i = 0) n ⟨rfl, rfl, fun k hk => hF.2.1 k (by omega) (by omega) (by omega) (by omega), fun i hi => absurd hi (Nat.not_lt_zero i)⟩ ?_ ?_ (by omega)
    · intro j a hj ha
      obtain ⟨x, v⟩ := a
      obtain ⟨rfl, g1, g2, g3⟩ := ha
      dsimp only at g1 g2 g3
      have g2' : v.1 2 = nI n := by rw [g1]; rfl
      have hv0 : ∀ i, i < m → v.2.1 0 i = nI (p i) := fun i hi => by rw [g2 0 (Or.inl rfl)]; exact hs i hi
      have hth := pHs_things h (k := j) (by omega)
      refine ⟨(nI (j + 1), lm_sA (lm_sA (lm_sA (lm_sA (lm_sA v 1 (upd (v.2.1 1) j (nI (hK p j)))) 2 (upd (v.2.1 2) j (nI (hW p j)))) 3 (upd (v.2.1 3) j (nI (hL p j)))) 4 (upd (v.2.1 4) j 0)) 5 (upd (v.2.1 5) j 0)), fun k => ?_, rfl, g1, fun k hk => ?_, fun i hi => ?_⟩
      · show bX9_house_48 k (nI j) v = _
        unfold bX9_house_48
        have q0 := hp (4 * j) (by omega)
        rw [g2', if_neg (nI_ge hj (by omega)), show (4 : Int32) = nI 4 from rfl, pk_mul, pg_I (by omega) (by decide), nI_clamp (n := 4 * j) (by omega), hv0 (4 * j) (by omega), pp_kd _ (by omega), if_neg (by omega)]
        simp only [Option.bind_some]
        rw [nI_1 (4 * j), show (2 : Int32) = nI 2 from rfl, nI_add, pg_I (i := j) (by omega) (by decide), pg_I (i := 4 * j + 1) (by omega) (by decide), pg_I (i := j) (by omega) (by decide), pg_I (i := 4 * j + 2) (by omega) (by decide), pg_I (i := j) (by omega) (by decide), pg_I (i := j) (by omega) (by decide), pg_I (i := j) (by omega) (by decide), nI_clamp (n := j) (by omega), nI_clamp (n := 4 * j + 1) (by omega), nI_clamp (n := 4 * j + 2) (by omega), hv0 (4 * j + 1) (by omega), hv0 (4 * j + 2) (by omega), pI_48 (by omega), pI_48 (by omega), nI_1 j]
        rfl
      · rw [← g2 k hk]
        show (lm_sA (lm_sA (lm_sA (lm_sA (lm_sA v 1 _) 2 _) 3 _) 4 _) 5 _).2.1 k = v.2.1 k
        rw [pu_4, if_neg (by omega), pu_4, if_neg (by omega), pu_4, if_neg (by omega), pu_4, if_neg (by omega), pu_4, if_neg (by omega)]
      · show upd (v.2.1 1) j (nI (hK p j)) i = _ ∧ upd (v.2.1 2) j (nI (hW p j)) i = _ ∧ upd (v.2.1 3) j (nI (hL p j)) i = _ ∧ upd (v.2.1 4) j 0 i = _ ∧ upd (v.2.1 5) j 0 i = _
        rw [pu_u, pu_u, pu_u, pu_u, pu_u]
        by_cases c : i = j
        · subst c
          rw [if_pos rfl, if_pos rfl, if_pos rfl, if_pos rfl, if_pos rfl]
          exact ⟨rfl, rfl, rfl, rfl, rfl⟩
        · rw [if_neg c, if_neg c, if_neg c, if_neg c, if_neg c]
          exact g3 i (by omega)
    · intro a ha
      obtain ⟨x, v⟩ := a
      obtain ⟨rfl, g1, g2, g3⟩ := ha
      dsimp only at g1 g2 g3
      have g2' : v.1 2 = nI n := by rw [g1]; rfl
      have g1' : v.1 1 = nI (m - 3) := by rw [g1]; exact he
      have hv0 : ∀ i, i < m → v.2.1 0 i = nI (p i) := fun i hi => by rw [g2 0 (Or.inl rfl)]; exact hs i hi
      refine ⟨some (nI n, lm_sF (lm_sF (lm_sF (lm_sF (lm_sF (lm_sF v 3 (nI (hD p m))) 4 0) 5 0) 9 0) 6 (v.1 6 + 1)) 0 0), fun k => ?_, _, rfl, ⟨g2', rfl, fun i hi => ?_⟩, rfl, rfl, rfl, ?_, rfl, fun k hk => ?_, g2⟩
      · show bX9_house_48 k (nI n) v = _
        unfold bX9_house_48
        rw [g2', g1', if_pos (nI_le (Nat.le_refl n) (by omega)), nI_1 (m - 3), show (2 : Int32) = nI 2 from rfl, nI_add, show m - 3 + 1 = m - 2 by omega, show m - 3 + 2 = m - 1 by omega, pg_I (by omega) (by decide), pg_I (by omega) (by decide), nI_clamp (n := m - 2) (by omega), nI_clamp (n := m - 1) (by omega), hv0 (m - 2) (by omega), hv0 (m - 1) (by omega), pI_48 (by omega), show (10 : Int32) = nI 10 from rfl, pk_mul, nI_add, pI_48 (by omega), show 10 * (p (m - 2) - 48) + p (m - 1) - 48 = hD p m by unfold hD; omega]
      · obtain ⟨a1, a2, a3, a4, a5⟩ := g3 i hi
        refine ⟨a1, a2, a3, a4, ?_⟩
        rw [Nat.zero_testBit]
        exact a5
      · show v.1 6 + 1 = _
        rw [g1]
        show t.1 6 + 1 = _
        rw [hF.1 6 (by decide) (by decide) (by decide)]
      · rw [← hF.1 k (by omega) (by omega) (by omega)]
        show (lm_sF (lm_sF (lm_sF (lm_sF (lm_sF (lm_sF v 3 _) 4 _) 5 _) 9 _) 6 _) 0 _).1 k = t.1 k
        rw [pu_1, if_neg (by omega), pu_1, if_neg (by omega), pu_1, if_neg (by omega), pu_1, if_neg (by omega), pu_1, if_neg (by omega), pu_1, if_neg (by omega), g1, pu_1, if_neg (by omega)]
