/-! THE PAGE: the fault. -/
def pKn (c : Nat) : Nat := if c = 116 then 0 else if c = 99 then 1 else if c = 117 then 2 else if c = 112 then 3 else if c = 115 then 4 else 5
def pGd (e j c : Nat) : Bool := if 0 < e then decide (j < e + 3) && (decide (48 ≤ c) && decide (c ≤ 57)) else if j % 4 = 0 then decide (pKn c ≠ 5) else if j % 4 = 1 then (decide (49 ≤ c) && decide (c ≤ 57)) else if j % 4 = 2 then (decide (48 ≤ c) && decide (c ≤ 57)) else ((decide (c = 59) && decide (3 < j)) || (decide (c = 44) && decide (j < 27)))
def pEn (p : Nat → Nat) : Nat → Nat
  | 0 => 0
  | j + 1 => if p j = 59 then j else pEn p j
def pGq (p : Nat → Nat) (j : Nat) : Bool := pGd (pEn p j) j (p j)
def pFt (p : Nat → Nat) (m : Nat) : Nat := pFi (fun j => !pGq p j) m
theorem pp_ix : ∀ c, c < 127 → fJ0_indexOf_0f7a4 (((nI c).toUInt32 % 65536).toInt32) = some (if pKn c = 5 then (-1 : Int32) else nI (pKn c)) := by decide +kernel
theorem pp_kd : ∀ c, c < 127 → fX9_kindBy (nI c) = some (if pKn c = 5 then (-1 : Int32) else nI (pKn c)) := by decide +kernel
theorem pp_dg : ∀ c, c < 127 → fX5_isDigit (nI c) = some (if (decide (48 ≤ c) && decide (c ≤ 57)) then 1 else 0) := by decide +kernel
theorem pp_in0 : ∀ c, c < 127 → fX9_in (nI c).toInt64 (48 : Int64) (57 : Int64) = some (if (decide (48 ≤ c) && decide (c ≤ 57)) then 1 else 0) := by decide +kernel
theorem pp_in1 : ∀ c, c < 127 → fX9_in (nI c).toInt64 (49 : Int64) (57 : Int64) = some (if (decide (49 ≤ c) && decide (c ≤ 57)) then 1 else 0) := by decide +kernel
theorem pp_be : ∀ j, j < 32 → ∀ c, c < 127 → fX5_fitsBehindThings (nI (j / 4 + 1)) (nI c) = some (if ((decide (c = 59) && decide (3 < j)) || (decide (c = 44) && decide (j / 4 < 6))) then 1 else 0) := by decide +kernel
theorem pp_b01 (b : Bool) : ((if b then (1 : Int32) else 0) = 0) ↔ b = false := by cases b <;> simp
theorem pp_gB (b : Bool) {α : Type} (x : Option α) : lm_gB (if b then (1 : Int32) else 0) x = x := by
  cases b <;> rfl
theorem pc_fitsThings {s : lm_St} {j c : Nat} (hj : j < 32) (hc : c < 127) (hs : s.2.1 0 j = nI c) : fX5_fitsThings s (nI j) = some (if pGd 0 j c then 1 else 0, s) := by
  unfold fX5_fitsThings pGd
  rw [pg_I hj (by decide), nI_clamp (by omega), hs, show (4 : Int32) = nI 4 from rfl, pk_rem (by omega) (by decide) (by decide), if_neg (Nat.lt_irrefl 0)]
  by_cases h0 : j % 4 = 0
  · rw [h0, show nI 0 = 0 from rfl, if_pos rfl, if_pos rfl, pp_ix c hc]
    simp only [Option.bind_some]
    by_cases hk : pKn c = 5
    · rw [if_pos hk, if_pos (by decide), hk]; rfl
    · have : pKn c < 6 := by unfold pKn; repeat' split
                             all_goals decide
      rw [if_neg hk, if_neg (nI_pos (by omega)), if_pos (by simp [hk])]; rfl
  · rw [if_neg (nI_ne0 (by omega) (by omega)), if_neg h0]
    by_cases h1 : j % 4 = 1
    · rw [h1, show nI 1 = 1 from rfl, if_pos rfl, if_pos rfl, pp_dg c hc]
      simp only [Option.bind_some]
      by_cases h48 : c = 48
      · subst h48; rw [show nI 48 = 48 from rfl, if_pos rfl]; rfl
      · rw [if_neg (show ¬ nI c = (48 : Int32) from fun z => h48 ((nI_eq (b := 48) (by omega) (by decide)).mp z))]
        have e : (decide (48 ≤ c) && decide (c ≤ 57)) = (decide (49 ≤ c) && decide (c ≤ 57)) := by
          rw [show decide (48 ≤ c) = decide (49 ≤ c) from decide_eq_decide.mpr ⟨fun _ => by omega, fun _ => by omega⟩]
        rw [e]
        generalize (decide (49 ≤ c) && decide (c ≤ 57)) = B
        cases B <;> rfl
    · rw [if_neg (show ¬ nI (j % 4) = (1 : Int32) from fun z => h1 ((nI_eq (b := 1) (by omega) (by decide)).mp z)), if_neg h1]
      by_cases h2 : j % 4 = 2
      · rw [h2, show nI 2 = 2 from rfl, if_pos rfl, if_pos rfl, pp_dg c hc]
        simp only [Option.bind_some]
        rw [pp_gB]
      · rw [if_neg (show ¬ nI (j % 4) = (2 : Int32) from fun z => h2 ((nI_eq (b := 2) (by omega) (by decide)).mp z)), if_neg h2, pk_div (by omega) (by decide) (by decide), nI_1 (j / 4), pp_be j hj c hc]
        simp only [Option.bind_some]
        rw [pp_gB, show decide (j / 4 < 6) = decide (j < 27) from decide_eq_decide.mpr ⟨fun _ => by omega, fun _ => by omega⟩]
theorem pc_fitsDebt {s : lm_St} {e j c : Nat} (he : 0 < e) (he2 : e < 32) (hj : j < 32) (hc : c < 127) (hs : s.2.1 0 j = nI c) : fX5_fitsDebt s (nI j) (nI e) = some (if pGd e j c then 1 else 0, s) := by
  unfold fX5_fitsDebt pGd
  rw [if_pos he, show (2 : Int32) = nI 2 from rfl, nI_add]
  by_cases h : j < e + 3
  · rw [if_neg (nI_nlt (by omega) (by omega)), pg_I hj (by decide), nI_clamp (by omega), hs, pp_dg c hc]
    simp only [Option.bind_some]
    rw [show decide (j < e + 3) = true from decide_eq_true h, Bool.true_and]
    generalize (decide (48 ≤ c) && decide (c ≤ 57)) = B
    cases B <;> rfl
  · rw [if_pos (nI_lt (by omega) (by omega)), show decide (j < e + 3) = false from decide_eq_false h]
    rfl
def cE (e : Nat) : Int32 := if e = 0 then -1 else nI e
theorem pEn_le (p : Nat → Nat) : ∀ j, pEn p j ≤ j := by
  intro j
  induction j with
  | zero => exact Nat.le_refl 0
  | succ j ih => unfold pEn; split <;> omega
theorem pGq_59 {p : Nat → Nat} {j : Nat} (h : pGq p j = true) (h59 : p j = 59) : pEn p j = 0 ∧ 3 < j ∧ j % 4 = 3 := by
  unfold pGq pGd at h
  rw [h59] at h
  by_cases c : 0 < pEn p j
  · rw [if_pos c] at h; simp at h
  · rw [if_neg c] at h
    by_cases c0 : j % 4 = 0
    · rw [if_pos c0] at h; simp [pKn] at h
    · rw [if_neg c0] at h
      by_cases c1 : j % 4 = 1
      · rw [if_pos c1] at h; simp at h
      · rw [if_neg c1] at h
        by_cases c2 : j % 4 = 2
        · rw [if_pos c2] at h; simp at h
        · rw [if_neg c2] at h
          simp at h
          exact ⟨by omega, h, by omega⟩
theorem pc_firstFault {s : lm_St} {m : Nat} {p : Nat → Nat} (hm : m ≤ 32) (hp : ∀ i, i < m → 1 ≤ p i ∧ p i ≤ 126) (h0 : s.1 0 = nI m) (hs : ∀ i, i < m → s.2.1 0 i = nI (p i)) : fX5_firstFault s = some (nI (pFt p m), s) := by
  obtain ⟨f1, f2, f3⟩ := pFi_all (p := fun j => !pGq p j) m
  have hfit : ∀ j, j < m → ∀ (k : Int32 × Int32 × lm_St → Option (Int32 × lm_St)), bX5_firstFault_4 k (cE (pEn p j)) (nI j) s = jX5_firstFault_31 k (cE (pEn p j)) (nI j) (if pGq p j then 1 else 0) s := fun j hj k => by
    have hpj := hp j hj
    have hle := pEn_le p j
    unfold bX5_firstFault_4 pGq
    rw [h0, if_neg (nI_ge hj (by omega))]
    unfold cE
    by_cases c : pEn p j = 0
    · rw [if_pos c, if_pos rfl, pc_fitsThings (by omega) (by omega) (hs j hj), c]
      rfl
    · rw [if_neg c, if_neg (pE_neg (by omega)), pc_fitsDebt (by omega) (by omega) (by omega) (by omega) (hs j hj)]
      rfl
  unfold fX5_firstFault
  refine pl_run0 (fun j => (cE (pEn p j), nI j, s)) (pFt p m) rfl (fun j k hj => ?_) (fun k => ?_) (by unfold pFt; omega)
  · show bX5_firstFault_4 k (cE (pEn p j)) (nI j) s = k (cE (pEn p (j + 1)), nI (j + 1), s)
    have hg : pGq p j = true := by simpa using f2 j hj
    have hjm : j < m := Nat.lt_of_lt_of_le hj f1
    rw [hfit j hjm, hg]
    unfold jX5_firstFault_31 jX5_firstFault_51
    rw [if_pos rfl, if_neg (by decide), pg_I (by omega) (by decide), nI_clamp (n := j) (by omega), hs j hjm, nI_1 j, pEn]
    have hpj := hp j hjm
    by_cases c : p j = 59
    · rw [if_pos (by rw [c]; rfl), if_pos c]
      have := pGq_59 hg c
      unfold cE
      rw [if_neg (by omega)]
    · rw [if_neg (show ¬ nI (p j) = (59 : Int32) from fun z => c ((nI_eq (b := 59) (by omega) (by decide)).mp z)), if_neg c]
  · show bX5_firstFault_4 k (cE (pEn p (pFt p m))) (nI (pFt p m)) s = _
    by_cases c : pFt p m < m
    · have hg : pGq p (pFt p m) = false := by
        have := f3 c
        rw [Bool.not_eq_true'] at this
        exact this
      rw [hfit _ c, hg]
      rfl
    · have e : pFt p m = m := Nat.le_antisymm f1 (Nat.le_of_not_lt c)
      rw [e]
      unfold bX5_firstFault_4
      rw [h0, if_pos (nI_le (Nat.le_refl m) (by omega))]
/-- the reference: one letter -/
theorem pm_isGood {s : lm_St} {e j c : Nat} (he : e < 32) (hj : j < 32) (hc : c < 127) (h1 : s.1 1 = nI e) (hs : s.2.1 0 j = nI c) : fX9_isGood s (nI j) = some (if pGd e j c then 1 else 0, if pGd e j c && decide (c = 59) then lm_sF s 1 (nI j) else s) := by
  unfold fX9_isGood
  rw [pg_I hj (by decide), nI_clamp (by omega), hs, h1, show (4 : Int32) = nI 4 from rfl, pk_rem (by omega) (by decide) (by decide)]
  by_cases h : e = 0
  · subst h
    have hx : pGd 0 j c = if j % 4 = 0 then decide (pKn c ≠ 5) else if j % 4 = 1 then (decide (49 ≤ c) && decide (c ≤ 57)) else if j % 4 = 2 then (decide (48 ≤ c) && decide (c ≤ 57)) else ((decide (c = 59) && decide (3 < j)) || (decide (c = 44) && decide (j < 27))) := by
      unfold pGd; rw [if_neg (Nat.lt_irrefl 0)]
    rw [hx, if_pos (by decide)]
    by_cases h0 : j % 4 = 0
    · rw [h0, show nI 0 = 0 from rfl, if_pos rfl, pp_kd c hc]
      simp only [Option.bind_some, if_true]
      by_cases hk : pKn c = 5
      · rw [if_pos hk, if_pos rfl, hk]; rfl
      · have : pKn c < 6 := by unfold pKn; repeat' split
                               all_goals decide
        rw [if_neg hk, if_neg (pE_neg (by omega))]
        have h59 : ¬ c = 59 := fun z => hk (by rw [z]; rfl)
        rw [show decide (pKn c ≠ 5) = true from decide_eq_true hk, show decide (c = 59) = false from decide_eq_false h59]; rfl
    · rw [if_neg (nI_ne0 (by omega) (by omega)), if_neg h0]
      by_cases h1 : j % 4 = 1
      · rw [h1, show nI 1 = 1 from rfl, if_pos rfl, pp_in1 c hc]
        simp only [Option.bind_some, if_true]
        rw [pp_gB]
        by_cases d : 49 ≤ c ∧ c ≤ 57
        · rw [show decide (c = 59) = false from decide_eq_false (by omega)]; simp
        · rw [show (decide (49 ≤ c) && decide (c ≤ 57)) = false by simp; omega]; rfl
      · rw [if_neg (show ¬ nI (j % 4) = (1 : Int32) from fun z => h1 ((nI_eq (b := 1) (by omega) (by decide)).mp z)), if_neg h1]
        by_cases h2 : j % 4 = 2
        · rw [h2, show nI 2 = 2 from rfl, if_pos rfl, pp_in0 c hc]
          simp only [Option.bind_some, if_true]
          rw [pp_gB]
          by_cases d : 48 ≤ c ∧ c ≤ 57
          · rw [show decide (c = 59) = false from decide_eq_false (by omega)]; simp
          · rw [show (decide (48 ≤ c) && decide (c ≤ 57)) = false by simp; omega]; rfl
        · rw [if_neg (show ¬ nI (j % 4) = (2 : Int32) from fun z => h2 ((nI_eq (b := 2) (by omega) (by decide)).mp z)), if_neg h2]
          unfold jX9_isGood_128
          by_cases h59 : c = 59
          · subst h59
            rw [show nI 59 = 59 from rfl, if_pos rfl]
            by_cases h3 : 3 < j
            · rw [if_neg (show ¬ nI j ≤ (3 : Int32) from nI_ge (b := j) (a := 3) h3 (by omega)), show decide (3 < j) = true from decide_eq_true h3]; rfl
            · rw [if_pos (show nI j ≤ (3 : Int32) from nI_le (a := j) (b := 3) (by omega) (by decide)), if_neg (by decide), show decide (3 < j) = false from decide_eq_false h3]; rfl
          · rw [if_neg (show ¬ nI c = (59 : Int32) from fun z => h59 ((nI_eq (b := 59) (by omega) (by decide)).mp z)), show decide (c = 59) = false from decide_eq_false h59]
            by_cases h44 : c = 44
            · subst h44
              rw [show nI 44 = 44 from rfl, if_pos rfl]
              by_cases h3 : j < 27
              · rw [if_neg (show ¬ (27 : Int32) ≤ nI j from nI_ge (a := j) (b := 27) h3 (by omega)), show decide (j < 27) = true from decide_eq_true h3]; rfl
              · rw [if_pos (show (27 : Int32) ≤ nI j from nI_le (a := 27) (b := j) (by omega) (by omega)), show decide (j < 27) = false from decide_eq_false h3]; rfl
            · rw [if_neg (show ¬ nI c = (44 : Int32) from fun z => h44 ((nI_eq (b := 44) (by omega) (by decide)).mp z)), show decide (c = 44) = false from decide_eq_false h44]; rfl
  · have hx : pGd e j c = (decide (j < e + 3) && (decide (48 ≤ c) && decide (c ≤ 57))) := by
      unfold pGd; rw [if_pos (by omega)]
    rw [hx, if_neg (nI_nle (by omega) (by omega)), show (3 : Int32) = nI 3 from rfl, nI_add]
    by_cases d : j < e + 3
    · rw [if_neg (nI_ge d (by omega)), pp_in0 c hc, show decide (j < e + 3) = true from decide_eq_true d]
      simp only [Option.bind_some, Bool.true_and]
      by_cases d2 : 48 ≤ c ∧ c ≤ 57
      · rw [show (decide (48 ≤ c) && decide (c ≤ 57)) = true by simp; exact d2, show decide (c = 59) = false from decide_eq_false (by omega)]; rfl
      · rw [show (decide (48 ≤ c) && decide (c ≤ 57)) = false by simp; omega]; rfl
    · rw [if_pos (nI_le (by omega) (by omega)), show decide (j < e + 3) = false from decide_eq_false d]; rfl
theorem pm_faultOf {s : lm_St} {m : Nat} {p : Nat → Nat} (hm : m ≤ 32) (hp : ∀ i, i < m → 1 ≤ p i ∧ p i ≤ 126) (h0 : s.1 0 = nI m) (hs : ∀ i, i < m → s.2.1 0 i = nI (p i)) : ∃ t, fX9_faultOf s = some (nI (pFt p m), t) ∧ mF s t ∧ (pFt p m = m → t.1 1 = nI (pEn p m)) := by
  obtain ⟨f1, f2, f3⟩ := pFi_all (p := fun j => !pGq p j) m
  unfold fX9_faultOf
  refine pl_inv0 (P := fun o => ∃ t : lm_St, o = some (nI (pFt p m), t) ∧ mF s t ∧ (pFt p m = m → t.1 1 = nI (pEn p m))) (fun (j : Nat) (a : Int32 × lm_St) => a.1 = nI j ∧ mF s a.2 ∧ a.2.1 1 = nI (pEn p j)) (pFt p m) ⟨rfl, mF.sF s _ (Or.inl rfl), rfl⟩ ?_ ?_ (by unfold pFt; omega)
  · intro j a hj ha
    obtain ⟨x, u⟩ := a
    obtain ⟨rfl, g1, g2⟩ := ha
    dsimp only at g1 g2
    have hg : pGq p j = true := by simpa using f2 j hj
    have hjm : j < m := Nat.lt_of_lt_of_le hj f1
    have hpj := hp j hjm
    have hle := pEn_le p j
    have hgood := pm_isGood (s := u) (by omega) (show j < 32 by omega) (show p j < 127 by omega) g2 (by rw [g1.2.1 0 (by decide) (by decide) (by decide) (by decide)]; exact hs j hjm)
    have hg' : pGd (pEn p j) j (p j) = true := hg
    rw [hg', if_pos rfl, Bool.true_and] at hgood
    by_cases c : p j = 59
    · rw [if_pos (decide_eq_true c)] at hgood
      refine ⟨(nI (j + 1), lm_sF u 1 (nI j)), fun k => ?_, rfl, g1.tr (mF.sF u _ (Or.inl rfl)), ?_⟩
      · show bX9_faultOf_7 k (nI j) u = _
        unfold bX9_faultOf_7
        rw [g1.1 0 (by decide) (by decide) (by decide), h0, if_neg (nI_ge hjm (by omega)), hgood, nI_1 j]
        rfl
      · rw [pEn, if_pos c]; rfl
    · rw [if_neg (by simp [c])] at hgood
      refine ⟨(nI (j + 1), u), fun k => ?_, rfl, g1, ?_⟩
      · show bX9_faultOf_7 k (nI j) u = _
        unfold bX9_faultOf_7
        rw [g1.1 0 (by decide) (by decide) (by decide), h0, if_neg (nI_ge hjm (by omega)), hgood, nI_1 j]
        rfl
      · rw [pEn, if_neg c]; exact g2
  · intro a ha
    obtain ⟨x, u⟩ := a
    obtain ⟨rfl, g1, g2⟩ := ha
    dsimp only at g1 g2
    by_cases c : pFt p m < m
    · have hg : pGq p (pFt p m) = false := by
        have := f3 c
        rw [Bool.not_eq_true'] at this
        exact this
      have hpj := hp _ c
      have hle := pEn_le p (pFt p m)
      have hgood := pm_isGood (s := u) (by omega) (show pFt p m < 32 by omega) (show p (pFt p m) < 127 by omega) g2 (by rw [g1.2.1 0 (by decide) (by decide) (by decide) (by decide)]; exact hs _ c)
      have hg' : pGd (pEn p (pFt p m)) (pFt p m) (p (pFt p m)) = false := hg
      rw [hg', Bool.false_and] at hgood
      refine ⟨some (nI (pFt p m), u), fun k => ?_, u, rfl, g1, fun e => by omega⟩
      show bX9_faultOf_7 k (nI (pFt p m)) u = _
      unfold bX9_faultOf_7
      rw [g1.1 0 (by decide) (by decide) (by decide), h0, if_neg (nI_ge c (by omega)), hgood]
      rfl
    · have e : pFt p m = m := Nat.le_antisymm f1 (Nat.le_of_not_lt c)
      refine ⟨some (nI (pFt p m), u), fun k => ?_, u, rfl, g1, fun e2 => by rw [← e]; rw [e]; rw [e] at g2; exact g2⟩
      show bX9_faultOf_7 k (nI (pFt p m)) u = _
      rw [e]
      unfold bX9_faultOf_7
      rw [g1.1 0 (by decide) (by decide) (by decide), h0, if_pos (nI_le (Nat.le_refl m) (by omega))]
