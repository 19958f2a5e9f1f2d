/-! LOOKS it can have, WATCH: both sides. -/
def pEf (b : Nat) (si : Nat → Nat) (i d : Nat) : Nat := if b.testBit i then si i else min (si i + d) 20
theorem pEf_le {b : Nat} {si : Nat → Nat} {i d : Nat} (h : si i ≤ 20) : pEf b si i d ≤ 20 := by
  unfold pEf
  split <;> omega
/-- the class's house with all that is since -/
def cH (s : lm_St) (n b db : Nat) (kd wo lo si : Nat → Nat) : Prop := s.1 0 = nI n ∧ s.1 1 = nI b ∧ s.1 2 = nI db ∧ ∀ i, i < n → s.2.1 0 i = nI (kd i) ∧ s.2.1 1 i = nI (wo i) ∧ s.2.1 2 i = nI (lo i) ∧ s.2.1 3 i = nI (si i)
theorem cH.cT {s : lm_St} {n b db : Nat} {kd wo lo si : Nat → Nat} (h : cH s n b db kd wo lo si) : cT s n b db 0 kd wo lo si := by
  obtain ⟨h0, h1, h2, h3⟩ := h
  refine ⟨h0, h1, h2, fun i hi => ⟨(h3 i hi).1, (h3 i hi).2.1, (h3 i hi).2.2.1⟩, fun i hi _ => ?_⟩
  rw [(h3 i hi).2.2.2, pI_s0]
theorem pc_sinceH {s : lm_St} {n b db : Nat} {kd wo lo si : Nat → Nat} (h : cH s n b db kd wo lo si) (hn : n ≤ 7) (hb : b < 128) {i d : Nat} (hi : i < n) (hv : si i + d < 1000) : fX3_sinceBehind s (nI i) (nI d) = some (nI (pEf b si i d), s) := by
  obtain ⟨h0, h1, h2, h3⟩ := h
  unfold fX3_sinceBehind pEf
  rw [h1, pb_isIn (by omega) (by omega)]
  cases ht : b.testBit i with
  | true =>
    show lm_gI (nI i) 7 (some (((s.2.1 3) (nI i).toNatClampNeg), s)) = _
    rw [pg_I (by omega) (by decide), nI_clamp (by omega), (h3 i hi).2.2.2]
    rfl
  | false =>
    show lm_gI (nI i) 7 (some ((if ((s.2.1 3) (nI i).toNatClampNeg + nI d) < (20 : Int32) then ((s.2.1 3) (nI i).toNatClampNeg + nI d) else (20 : Int32)), s)) = _
    rw [pg_I (by omega) (by decide), nI_clamp (by omega), (h3 i hi).2.2.2, nI_add, pI_min (by omega)]
    rfl
theorem pm_missedIf {s : lm_St} {n b db : Nat} {kd wo lo si : Nat → Nat} (h : mH s n b db kd wo lo si) (w : pW n b db kd wo lo) (hs : ∀ i, i < n → si i ≤ 20) {i look d : Nat} (hi : i < n) (hl : look < 21) (hd : d < 100) : fX9_missedIf s (nI i) (nI look) (nI d) = some (nI (pM (kd i) look (pEf b si i d)), s) := by
  have hn := w.1
  have hsi := hs i hi
  obtain ⟨a1, a2, a3, a4, a5⟩ := h.2.2 i hi
  have hk := (w.2.2.2 i hi).1
  have key : ∀ x : Nat, x < 2000 → jX9_missedIf_27 (nI i) (nI look) (nI x) s = some (nI (pM (kd i) look (min x 20)), s) := by
    intro x hx
    unfold jX9_missedIf_27 jX9_missedIf_50
    rw [pg_I (by omega) (by decide), nI_clamp (by omega), a1]
    by_cases c : x ≤ 20
    · rw [if_pos (show nI x ≤ (20 : Int32) from nI_le (b := 20) c (by decide)), pM_m (kd i) hk look hl x (by omega), Nat.min_eq_left c]
      rfl
    · rw [if_neg (show ¬ nI x ≤ (20 : Int32) from nI_ge (a := 20) (by omega) (by omega)), show (20 : Int32) = nI 20 from rfl, pM_m (kd i) hk look hl 20 (by omega), Nat.min_eq_right (by omega)]
      rfl
  unfold fX9_missedIf pEf
  rw [pg_I (by omega) (by decide), nI_clamp (by omega), a5]
  cases ht : b.testBit i with
  | true =>
    rw [if_pos (by rfl), pg_I (by omega) (by decide), a4, key _ (by omega), Nat.min_eq_left hsi]
    rfl
  | false =>
    rw [if_neg (by decide), pg_I (by omega) (by decide), a4, nI_add, key _ (by omega)]
    rfl
theorem pl_first {α β : Type} {b : (α → Option β) → α → Option β} {r : Option β} {a : α} (T : Nat → α) (n : Nat) (ok : Nat → Bool) (h0 : T 0 = a) (hs : ∀ (j : Nat) (k : α → Option β), j < n → ok j = true → b k (T j) = k (T (j + 1))) (hf : ∀ (j : Nat) (k : α → Option β), j < n → ok j = false → b k (T j) = r) (hex : ∃ j, j < n ∧ ok j = false) (hn : n < 5000) : lm_lp b 5000 a = r := by
  obtain ⟨f, ⟨hf1, hf2⟩, hf3⟩ := pk_least (fun j => j < n ∧ ok j = false) hex
  refine pl_run0 T f h0 (fun j k hj => hs j k (by omega) ?_) (fun k => hf f k hf1 hf2) (by omega)
  cases hq : ok j with
  | true => rfl
  | false => exact absurd ⟨by omega, hq⟩ (hf3 j hj)
/-- what is seen -/
def pSn (m : Nat) (st sd sm : Nat → Nat) : Prop := m ≤ 6 ∧ ∀ j, j < m → st j < 7 ∧ sd j ≤ 9 ∧ sm j ≤ 20
def cSn (s : lm_St) (m : Nat) (st sd sm : Nat → Nat) : Prop := s.1 0 = nI m ∧ ∀ j, j < m → s.2.1 0 j = nI (st j) ∧ s.2.1 1 j = nI (sd j) ∧ s.2.1 2 j = nI (sm j)
def mSn (s : lm_St) (m : Nat) (st sd sm : Nat → Nat) : Prop := s.1 9 = nI m ∧ ∀ j, j < m → s.2.1 10 (3 * j) = nI (st j) ∧ s.2.1 10 (3 * j + 1) = nI (sd j) ∧ s.2.1 10 (3 * j + 2) = nI (sm j)
def pOk (kd : Nat → Nat) (b : Nat) (si st sd sm : Nat → Nat) (i look j : Nat) : Bool := decide (st j ≠ i) || decide (pM (kd i) look (pEf b si i (sd j)) = sm j)
def pAg (kd : Nat → Nat) (b : Nat) (si st sd sm : Nat → Nat) (i look : Nat) : Nat → Bool
  | 0 => true
  | j + 1 => pAg kd b si st sd sm i look j && pOk kd b si st sd sm i look j
theorem pAg_iff {kd : Nat → Nat} {b : Nat} {si st sd sm : Nat → Nat} {i look : Nat} : ∀ {m : Nat}, pAg kd b si st sd sm i look m = true ↔ ∀ j, j < m → pOk kd b si st sd sm i look j = true := by
  intro m
  induction m with
  | zero => exact ⟨fun _ j hj => absurd hj (Nat.not_lt_zero j), fun _ => rfl⟩
  | succ m ih =>
    unfold pAg
    rw [Bool.and_eq_true, ih]
    constructor
    · intro h j hj
      rcases Nat.lt_or_ge j m with q | q
      · exact h.1 j q
      · rw [show j = m by omega]; exact h.2
    · intro h
      exact ⟨fun j hj => h j (by omega), h m (by omega)⟩
theorem pc_agrees {s0 s1 : lm_St} {n b db m : Nat} {kd wo lo si st sd sm : Nat → Nat} (h : cH s1 n b db kd wo lo si) (w : pW n b db kd wo lo) (hs : ∀ i, i < n → si i ≤ 20) (hS : cSn s0 m st sd sm) (hb : pSn m st sd sm) {i look : Nat} (hi : i < n) (hl : look < 21) : fX7_agrees s0 s1 (nI i) (nI look) = some (if pAg kd b si st sd sm i look m then 1 else 0, s0, s1) := by
  have hn := w.1
  have hm := hb.1
  have hsi := hs i hi
  have hk := (w.2.2.2 i hi).1
  obtain ⟨hS0, hS1⟩ := hS
  have body : ∀ (j : Nat) (k : Int32 × Int32 × Int32 × lm_St × lm_St → Option (Int32 × lm_St × lm_St)), j < m → bX7_agrees_3 k (nI i) (nI look) (nI j) s0 s1 = if pOk kd b si st sd sm i look j then k (nI i, nI look, nI (j + 1), s0, s1) else some (0, s0, s1) := by
    intro j k hj
    obtain ⟨a1, a2, a3⟩ := hS1 j hj
    obtain ⟨b1, b2, b3⟩ := hb.2 j hj
    have hef := pEf_le (b := b) (d := sd j) hsi
    have hpm := pM_le (kd i) look (pEf b si i (sd j))
    unfold bX7_agrees_3 jX7_agrees_57 pOk
    rw [hS0, if_neg (nI_ge hj (by omega)), pg_I (by omega) (by decide), nI_clamp (n := j) (by omega), a1, nI_1 j]
    by_cases c : st j = i
    · rw [if_pos (by rw [c]), pg_I (by omega) (by decide), pg_I (by omega) (by decide), a2, pc_sinceH h hn w.2.1 hi (by omega)]
      simp only [Option.bind_some, lm_un2]
      rw [nI_clamp (n := i) (by omega), (h.2.2.2 i hi).1, pM_c (kd i) hk look hl _ (by omega)]
      simp only [Option.bind_some]
      rw [pg_I (by omega) (by decide), a3]
      by_cases c2 : pM (kd i) look (pEf b si i (sd j)) = sm j
      · rw [if_pos (by rw [c2])]
        simp [c2]
      · rw [if_neg (fun q => c2 ((nI_eq (by omega) (by omega)).mp q)), lm_gBo (Or.inl rfl)]
        simp [c, c2]
    · rw [if_neg (fun q => c ((nI_eq (by omega) (by omega)).mp q))]
      simp [c]
  unfold fX7_agrees
  cases hA : pAg kd b si st sd sm i look m with
  | true =>
    have hall := pAg_iff.mp hA
    refine pl_run0 (fun j => (nI i, nI look, nI j, s0, s1)) m rfl (fun j k hj => ?_) (fun k => ?_) (by omega)
    · show bX7_agrees_3 k (nI i) (nI look) (nI j) s0 s1 = _
      rw [body j k hj, hall j hj]
      rfl
    · show bX7_agrees_3 k (nI i) (nI look) (nI m) s0 s1 = _
      unfold bX7_agrees_3
      rw [hS0, if_pos (nI_le (Nat.le_refl m) (by omega)), lm_gBo (Or.inr rfl)]
      rfl
  | false =>
    have hex : ∃ j, j < m ∧ pOk kd b si st sd sm i look j = false := by
      rcases Classical.em (∃ j, j < m ∧ pOk kd b si st sd sm i look j = false) with q | q
      · exact q
      · exfalso
        have : pAg kd b si st sd sm i look m = true := pAg_iff.mpr (fun j hj => by
          cases hq : pOk kd b si st sd sm i look j with
          | true => rfl
          | false => exact absurd ⟨j, hj, hq⟩ q)
        rw [hA] at this
        cases this
    refine pl_first (fun j => (nI i, nI look, nI j, s0, s1)) m (pOk kd b si st sd sm i look) rfl (fun j k hj hq => ?_) (fun j k hj hq => ?_) hex (by omega)
    · show bX7_agrees_3 k (nI i) (nI look) (nI j) s0 s1 = _
      rw [body j k hj, hq]
      rfl
    · show bX7_agrees_3 k (nI i) (nI look) (nI j) s0 s1 = _
      rw [body j k hj, hq]
      rfl
/-- the bits of what it can have -/
def pLk (ag : Nat → Bool) : Nat → Nat
  | 0 => 0
  | k + 1 => pLk ag k ||| (if ag k then 2 ^ k else 0)
theorem pLk_lt {ag : Nat → Bool} : ∀ k, pLk ag k < 2 ^ k := by
  intro k
  induction k with
  | zero => exact Nat.one_pos
  | succ k ih =>
    unfold pLk
    have h1 : 2 ^ k < 2 ^ (k + 1) := Nat.pow_lt_pow_right (by decide) (by omega)
    refine Nat.or_lt_two_pow (Nat.lt_trans ih h1) ?_
    split
    · exact h1
    · exact Nat.pow_pos (by decide)
theorem pI_or (a b : Nat) : nI a ||| nI b = nI (a ||| b) := by
  apply Int32.toBitVec_inj.mp
  show BitVec.ofNat 32 a ||| BitVec.ofNat 32 b = BitVec.ofNat 32 (a ||| b)
  apply BitVec.eq_of_getLsbD_eq
  intro i hi
  simp [hi]
theorem pm_1s : ∀ k, k < 31 → ((1 : Int32) <<< (nI k &&& 31)) = nI (2 ^ k) := by decide +kernel
theorem pc_looks {s0 s1 : lm_St} {n b db m : Nat} {kd wo lo si st sd sm : Nat → Nat} (h : cH s1 n b db kd wo lo si) (w : pW n b db kd wo lo) (hs : ∀ i, i < n → si i ≤ 20) (hS : cSn s0 m st sd sm) (hb : pSn m st sd sm) {i : Nat} (hi : i < n) : fX7_looksOf s0 s1 (nI i) = some (nI (pLk (fun look => pAg kd b si st sd sm i look m) 21), s0, s1) := by
  unfold fX7_looksOf
  refine pl_run0 (fun j => (nI i, nI (pLk (fun look => pAg kd b si st sd sm i look m) j), nI j, s0, s1)) 21 rfl (fun j k hj => ?_) (fun k => ?_) (by decide)
  · show bX7_looksOf_5 k (nI i) (nI (pLk (fun look => pAg kd b si st sd sm i look m) j)) (nI j) s0 s1 = k (nI i, nI (pLk (fun look => pAg kd b si st sd sm i look m) (j + 1)), nI (j + 1), s0, s1)
    unfold bX7_looksOf_5 jX7_looksOf_32
    rw [if_neg (show ¬ (20 : Int32) < nI j from nI_nlt (a := 20) (by omega) (by decide)), pc_agrees h w hs hS hb hi hj]
    simp only [Option.bind_some, lm_un3]
    rw [pm_1s j (by omega), pI_or, nI_1 j, pLk]
    cases pAg kd b si st sd sm i j m with
    | true => rfl
    | false =>
      show k (nI i, nI _ ||| nI 0, nI (j + 1), s0, s1) = _
      rw [pI_or]
      rfl
  · show bX7_looksOf_5 k (nI i) _ (nI 21) s0 s1 = _
    unfold bX7_looksOf_5
    rw [if_pos (by decide)]
theorem pm_looks {s : lm_St} {n b db m : Nat} {kd wo lo si st sd sm : Nat → Nat} (h : mH s n b db kd wo lo si) (w : pW n b db kd wo lo) (hs : ∀ i, i < n → si i ≤ 20) (hS : mSn s m st sd sm) (hb : pSn m st sd sm) {i : Nat} (hi : i < n) : fX9_looksOf s (nI i) = some (nI (pLk (fun look => pAg kd b si st sd sm i look m) 21), s) := by
  have hn := w.1
  have hm := hb.1
  have hsi := hs i hi
  obtain ⟨hS0, hS1⟩ := hS
  unfold fX9_looksOf
  refine pl_run0 (fun j => (nI i, nI (pLk (fun look => pAg kd b si st sd sm i look m) j), nI j, s)) 21 rfl (fun look k hl => ?_) (fun k => ?_) (by decide)
  · show bX9_looksOf_4 k (nI i) (nI (pLk (fun look => pAg kd b si st sd sm i look m) look)) (nI look) s = k (nI i, nI (pLk (fun look => pAg kd b si st sd sm i look m) look ||| (if pAg kd b si st sd sm i look m then 2 ^ look else 0)), nI (look + 1), s)
    unfold bX9_looksOf_4
    rw [if_neg (show ¬ (21 : Int32) ≤ nI look from nI_ge (b := 21) (by omega) (by decide))]
    generalize pLk (fun look => pAg kd b si st sd sm i look m) look = bits at *
    refine pl_run0 (fun j => (nI i, nI bits, nI look, (if pAg kd b si st sd sm i look j then (1 : Int32) else 0), nI (3 * j), s)) m rfl (fun j k2 hj => ?_) (fun k2 => ?_) (by omega)
    · show bX9_looksOf_16 k k2 (nI i) (nI bits) (nI look) (if pAg kd b si st sd sm i look j then (1 : Int32) else 0) (nI (3 * j)) s = k2 (nI i, nI bits, nI look, (if pAg kd b si st sd sm i look (j + 1) then (1 : Int32) else 0), nI (3 * (j + 1)), s)
      obtain ⟨a1, a2, a3⟩ := hS1 j hj
      obtain ⟨b1, b2, b3⟩ := hb.2 j hj
      have hpm := pM_le (kd i) look (pEf b si i (sd j))
      unfold bX9_looksOf_16 jX9_looksOf_74 jX9_looksOf_70 jX9_looksOf_75
      rw [hS0, show (3 : Int32) = nI 3 from rfl, pk_mul, if_neg (nI_ge (by omega) (by omega)), show (1 : Int32) = nI 1 from rfl, show (2 : Int32) = nI 2 from rfl, nI_add (3 * j) 1, nI_add (3 * j) 2, nI_add (3 * j) 3, show 3 * j + 3 = 3 * (j + 1) by omega, pAg]
      cases hA : pAg kd b si st sd sm i look j with
      | false =>
        rw [if_pos (by rfl)]
        rfl
      | true =>
        rw [if_neg (by decide), pg_I (by omega) (by decide), nI_clamp (n := 3 * j) (by omega), a1]
        unfold pOk
        by_cases c : st j = i
        · rw [if_pos (by rw [c]), pg_I (by omega) (by decide), nI_clamp (n := 3 * j + 1) (by omega), a2, pm_missedIf h w hs hi hl (by omega)]
          simp only [Option.bind_some, lm_un2]
          rw [pg_I (by omega) (by decide), nI_clamp (n := 3 * j + 2) (by omega), a3]
          by_cases c2 : pM (kd i) look (pEf b si i (sd j)) = sm j
          · rw [if_pos (by rw [c2])]
            simp [c2]
          · rw [if_neg (fun q => c2 ((nI_eq (by omega) (by omega)).mp q))]
            simp [c, c2]
        · rw [if_neg (fun q => c ((nI_eq (by omega) (by omega)).mp q))]
          simp [c]
    · show bX9_looksOf_16 k k2 (nI i) (nI bits) (nI look) (if pAg kd b si st sd sm i look m then (1 : Int32) else 0) (nI (3 * m)) s = _
      unfold bX9_looksOf_16 jX9_looksOf_96
      rw [hS0, show (3 : Int32) = nI 3 from rfl, pk_mul, if_pos (nI_le (Nat.le_refl _) (by omega)), pm_1s look (by omega), pI_or, nI_1 look]
      cases pAg kd b si st sd sm i look m with
      | true => rw [if_neg (by decide)]; rfl
      | false =>
        rw [if_pos (by rfl), show (0 : Int32) = nI 0 from rfl, pI_or]
        rfl
  · show bX9_looksOf_4 k (nI i) _ (nI 21) s = _
    unfold bX9_looksOf_4
    rw [if_pos (by decide)]
