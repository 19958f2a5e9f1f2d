/-! SALE, the class. -/
theorem pc_wanted {s : lm_St} {lo : Nat → Nat} {k q : Nat} (hk : k < 7) (hq : q < 7) (hl : s.2.1 2 k = nI (lo k)) : fX0_wanted s (nI k) (nI q) = some (nI (pWn lo k q), s) := by
  unfold fX0_wanted pWn
  by_cases c : q = k
  · subst c
    rw [if_pos rfl, if_pos rfl, pg_I (by omega) (by decide), nI_clamp (by omega), hl]
  · rw [if_neg (fun z => c ((nI_eq (by omega) (by omega)).mp z)), if_neg c]
    by_cases d : q ≤ k
    · rw [if_pos d, if_neg (show ¬ (0 : Int32) ≤ nI q - nI k from fun z => by
        have h1 := pk_sneg (a := q) (b := k) (by omega) (by omega)
        rw [Int32.lt_iff_toInt_lt] at h1
        rw [Int32.le_iff_toInt_le] at z
        omega), show (0 : Int32) - (nI q - nI k) = nI k - nI q by grind, pk_sub d]
    · rw [if_neg d, pk_sub (by omega), if_pos (nI_pos' (by omega))]
theorem pRk_add {n s q : Nat} (hq : q < n) (hs : s.testBit q = false) : pRk (s ||| 2 ^ q) n = pRk s n + 1 := by
  have h1 := pS_neg (p := fun i => s.testBit i) n
  have h2 := pS_neg (p := fun i => (s ||| 2 ^ q).testBit i) n
  have h3 := pS_out (f := fun _ => 1) hq hs
  show pS _ _ n = pS _ _ n + 1
  omega
theorem pZ_lt {n s q : Nat} (hn : n ≤ 7) (hs : s < 2 ^ n) (hq : q < n) : s ||| 2 ^ q < 2 ^ n := Nat.or_lt_two_pow hs (Nat.pow_lt_pow_right (by decide) hq)
theorem pZ_gt {s q : Nat} (hs : s.testBit q = false) : s < s ||| 2 ^ q := by
  rcases Nat.lt_or_ge s (s ||| 2 ^ q) with h | h
  · exact h
  · exfalso
    have e : s ||| 2 ^ q = s := Nat.le_antisymm h Nat.left_le_or
    have h2 := pb_or (b := s) (k := q) q
    rw [e, hs] at h2
    simp at h2
/-- the class's table -/
def pTb (s0 : lm_St) (n b : Nat) (lo : Nat → Nat) (from_ : Nat) : Prop := s0.1 0 = nI (pRk b n) ∧ (∀ p, p < pRk b n → s0.2.1 1 p = nI (pSo b n p)) ∧ ∀ T, from_ ≤ T → T < 2 ^ n → s0.2.1 0 T = nI (pZr n b lo (pRk b n - pRk T n) T)
theorem pc_mostBehind {s0 s1 : lm_St} {n b served : Nat} {lo : Nat → Nat} (hn : n ≤ 7) (hb : b < 2 ^ n) (h0 : s1.1 0 = nI n) (hlo : ∀ i, i < n → s1.2.1 2 i = nI (lo i) ∧ lo i ≤ 20) (hs : served < 2 ^ n) (hT : pTb s0 n b lo (served + 1)) : fX0_mostBehind s0 s1 (nI served) = some (nI (pZr n b lo (pRk b n - pRk served n) served), s0, s1) := by
  have hbn := pRk_le b n
  have hsn := pRk_le served n
  have hs7 : served < 128 := Nat.lt_of_lt_of_le hs (Nat.pow_le_pow_right (n := 2) (by decide) hn)
  obtain ⟨t0, t1, t2⟩ := hT
  unfold fX0_mostBehind
  rw [pb_cnt hn hs]
  simp only [Option.bind_some]
  show lm_lp _ 5000 (nI served, nI (pRk served n), 0, 0, s0, s1) = _
  by_cases c : pRk b n ≤ pRk served n
  · rw [show pRk b n - pRk served n = 0 by omega]
    refine pl_run0 (fun j => (nI served, nI (pRk served n), (0 : Int32), nI j, s0, s1)) 0 rfl (fun j k hj => absurd hj (Nat.not_lt_zero j)) (fun k => ?_) (by decide)
    show bX0_mostBehind_11 k (nI served) (nI (pRk served n)) 0 (nI 0) s0 s1 = _
    unfold bX0_mostBehind_11
    by_cases d : s1.1 0 ≤ nI 0
    · rw [if_pos d]; rfl
    · rw [if_neg d, t0, if_pos (nI_le c (by omega))]; rfl
  · obtain ⟨r, hr⟩ : ∃ r, pRk b n - pRk served n = r + 1 := ⟨pRk b n - pRk served n - 1, by omega⟩
    have eso : pRk b n - (r + 1) = pRk served n := by omega
    have hso := pSo_lt (b := b) (n := n) (p := pRk served n) (by omega)
    rw [hr, pZr, eso]
    have hZ : ∀ q, q < n → served.testBit q = false → s0.2.1 0 (served ||| 2 ^ q) = nI (pZr n b lo r (served ||| 2 ^ q)) := fun q hq hf => by
      rw [t2 _ (pZ_gt hf) (pZ_lt hn hs hq), pRk_add hq hf, show pRk b n - (pRk served n + 1) = r by omega]
    refine pl_run0 (fun j => (nI served, nI (pRk served n), nI (pMx (fun q => pWn lo (pSo b n (pRk served n)) q + pZr n b lo r (served ||| 2 ^ q)) (fun q => !served.testBit q) j), nI j, s0, s1)) n rfl (fun j k hj => ?_) (fun k => ?_) (by omega)
    · show bX0_mostBehind_11 k (nI served) (nI (pRk served n)) (nI (pMx (fun q => pWn lo (pSo b n (pRk served n)) q + pZr n b lo r (served ||| 2 ^ q)) (fun q => !served.testBit q) j)) (nI j) s0 s1 = k (nI served, nI (pRk served n), nI (pMx (fun q => pWn lo (pSo b n (pRk served n)) q + pZr n b lo r (served ||| 2 ^ q)) (fun q => !served.testBit q) (j + 1)), nI (j + 1), s0, s1)
      have hb1 : ∀ q, q < n → pWn lo (pSo b n (pRk served n)) q + pZr n b lo r (served ||| 2 ^ q) ≤ 200 := fun q hq => by
        have h1 := pWn_le (lo := lo) hn (show pSo b n (pRk served n) < 7 by omega) hq (fun h => (hlo _ h).2) hso.1
        have h2 := pZr_le (b := b) (lo := lo) hn (fun i hi => (hlo i hi).2) r (served ||| 2 ^ q) (by omega)
        omega
      have hb2 := pMx_le (p := fun q => !served.testBit q) (n := j) (fun i hi => hb1 i (by omega))
      have hb3 := hb1 j hj
      have hZr := pZr_le (b := b) (lo := lo) hn (fun i hi => (hlo i hi).2) r (served ||| 2 ^ j) (by omega)
      unfold bX0_mostBehind_11 jX0_mostBehind_68
      rw [h0, t0, if_neg (nI_ge hj (by omega)), if_neg (nI_ge (by omega) (by omega)), pb_isIn (by omega) (by omega), pMx]
      cases ht : served.testBit j with
      | true =>
        simp only [Option.bind_some, if_true]
        rw [if_neg (by decide), nI_1 j]
        simp
      | false =>
        simp only [Option.bind_some, Bool.false_eq_true, if_false, if_true]
        have hlt := pZ_lt hn hs hj
        have h2n : 2 ^ n ≤ 128 := Nat.pow_le_pow_right (n := 2) (by decide) hn
        rw [pg_I (by omega) (by decide), nI_clamp (n := pRk served n) (by omega), t1 _ (by omega), pc_wanted (by omega) (by omega) (hlo _ hso.1).1]
        simp only [Option.bind_some, lm_un2]
        rw [pb_orI served hs7 j (by omega), pg_I (by omega) (by decide), nI_clamp (n := served ||| 2 ^ j) (by omega), hZ j hj ht, nI_add, nI_1 j]
        unfold lm_nm
        generalize pMx (fun q => pWn lo (pSo b n (pRk served n)) q + pZr n b lo r (served ||| 2 ^ q)) (fun q => !served.testBit q) j = X at hb2
        generalize pWn lo (pSo b n (pRk served n)) j + pZr n b lo r (served ||| 2 ^ j) = Y at hb3
        by_cases d : X < Y
        · rw [if_pos ((nI_ltI (by omega) (by omega)).mpr d)]
          simp [Nat.max_eq_right (Nat.le_of_lt d)]
        · rw [if_neg (fun z => d ((nI_ltI (by omega) (by omega)).mp z))]
          simp [Nat.max_eq_left (Nat.le_of_not_lt d)]
    · show bX0_mostBehind_11 k (nI served) (nI (pRk served n)) _ (nI n) s0 s1 = _
      unfold bX0_mostBehind_11
      rw [h0, if_pos (nI_le (Nat.le_refl n) (by omega))]
theorem pRk_0 (n : Nat) : pRk 0 n = 0 := by
  induction n with
  | zero => rfl
  | succ n ih => rw [pRk_s, ih, Nat.zero_testBit]; rfl
theorem pc_mostOf {s0 s1 : lm_St} {n b : Nat} {lo : Nat → Nat} (hn : n ≤ 7) (hb : b < 2 ^ n) (h0 : s1.1 0 = nI n) (h1 : s1.1 1 = nI b) (hlo : ∀ i, i < n → s1.2.1 2 i = nI (lo i) ∧ lo i ≤ 20) : ∃ t, fX0_mostOf s0 s1 = some (nI (pZr n b lo (pRk b n) 0), t, s1) ∧ pTb t n b lo 0 := by
  have hbn := pRk_le b n
  have hb7 : b < 128 := Nat.lt_of_lt_of_le hb (Nat.pow_le_pow_right (n := 2) (by decide) hn)
  have h2n : 2 ^ n ≤ 128 := Nat.pow_le_pow_right (n := 2) (by decide) hn
  have hp : 0 < 2 ^ n := Nat.pow_pos (by decide)
  unfold fX0_mostOf
  refine pl_inv0 (P := fun o => ∃ t : lm_St, o = some (nI (pZr n b lo (pRk b n) 0), t, s1) ∧ pTb t n b lo 0) (fun (j : Nat) (a : Int32 × lm_St × lm_St) => a.1 = nI j ∧ a.2.2 = s1 ∧ a.2.1.1 0 = nI (pRk b j) ∧ ∀ p, p < pRk b j → a.2.1.2.1 1 p = nI (pSo b n p)) n ⟨rfl, rfl, rfl, fun p hp => absurd hp (Nat.not_lt_zero p)⟩ ?_ ?_ (by omega)
  · intro j a hj ha
    obtain ⟨x, u, u1⟩ := a
    obtain ⟨rfl, e1, g1, g2⟩ := ha
    dsimp only at e1 g1 g2
    subst e1
    have hrj := pRk_le b j
    cases ht : b.testBit j with
    | false =>
      refine ⟨(nI (j + 1), u, u1), fun k => ?_, rfl, rfl, ?_, ?_⟩
      · show bX0_mostOf_7 k (nI j) u u1 = _
        unfold bX0_mostOf_7 jX0_mostOf_46
        rw [h0, if_neg (nI_ge hj (by omega)), h1, pb_isIn (by omega) (by omega), ht, nI_1 j]
        rfl
      · show u.1 0 = nI (pRk b (j + 1))
        rw [pRk_s, ht]; exact g1
      · rw [pRk_s, ht]; exact g2
    | true =>
      refine ⟨(nI (j + 1), lm_sF (lm_sA u 1 (upd (u.2.1 1) (pRk b j) (nI j))) 0 (nI (pRk b j + 1)), u1), fun k => ?_, rfl, rfl, ?_, ?_⟩
      · show bX0_mostOf_7 k (nI j) u u1 = _
        unfold bX0_mostOf_7 jX0_mostOf_46
        rw [h0, if_neg (nI_ge hj (by omega)), h1, pb_isIn (by omega) (by omega), ht]
        simp only [Option.bind_some, if_true]
        rw [if_neg (by decide), g1, pg_I (by omega) (by decide), nI_clamp (by omega), nI_1 j, nI_1]
      · rw [pRk_s, ht]; rfl
      · intro p hp
        rw [pRk_s, ht, if_pos rfl] at hp
        show upd (u.2.1 1) (pRk b j) (nI j) p = _
        rw [pu_u]
        by_cases c : p = pRk b j
        · rw [if_pos c, c, pSo_at hj ht]
        · rw [if_neg c]; exact g2 p (by omega)
  · intro a ha
    obtain ⟨x, u, u1⟩ := a
    obtain ⟨rfl, e1, g1, g2⟩ := ha
    dsimp only at e1 g1 g2
    subst e1
    refine ⟨lm_lp (fun k a => bX0_mostOf_61 k a.1 a.2.1 a.2.2) 5000 (nI (2 ^ n - 0) + (-1), u, u1), fun k => ?_, ?_⟩
    · show bX0_mostOf_7 k (nI n) u u1 = _
      unfold bX0_mostOf_7
      rw [h0, if_pos (nI_le (Nat.le_refl n) (by omega)), pm_2 n (by omega), Nat.sub_zero, show nI (2 ^ n) - 1 = nI (2 ^ n) + (-1) by grind]
    · refine pl_inv0 (P := fun o => ∃ t : lm_St, o = some (nI (pZr n b lo (pRk b n) 0), t, u1) ∧ pTb t n b lo 0) (fun (j : Nat) (a : Int32 × lm_St × lm_St) => a.1 = nI (2 ^ n - j) + (-1) ∧ a.2.2 = u1 ∧ pTb a.2.1 n b lo (2 ^ n - j)) (2 ^ n) ⟨rfl, rfl, g1, g2, fun T h1 h2 => by omega⟩ ?_ ?_ (by omega)
      · intro j a hj ha
        obtain ⟨x, v, v1⟩ := a
        obtain ⟨rfl, e1, gT⟩ := ha
        dsimp only at e1 gT
        subst e1
        have em : 2 ^ n - j = (2 ^ n - (j + 1)) + 1 := by omega
        rw [em] at gT
        have hmb := pc_mostBehind hn hb h0 hlo (show 2 ^ n - (j + 1) < 2 ^ n by omega) gT
        refine ⟨(nI (2 ^ n - (j + 1)) + (-1), lm_sA v 0 (upd (v.2.1 0) (2 ^ n - (j + 1)) (nI (pZr n b lo (pRk b n - pRk (2 ^ n - (j + 1)) n) (2 ^ n - (j + 1))))), v1), fun k => ?_, rfl, rfl, gT.1, gT.2.1, fun T h1 h2 => ?_⟩
        · show bX0_mostOf_61 k (nI (2 ^ n - j) + (-1)) v v1 = _
          unfold bX0_mostOf_61
          rw [em, pk_m1, if_neg (nI_pos (by omega)), hmb]
          simp only [Option.bind_some, lm_un3]
          rw [pg_I (by omega) (by decide), nI_clamp (by omega)]
        · show upd (v.2.1 0) (2 ^ n - (j + 1)) _ T = _
          rw [pu_u]
          by_cases c : T = 2 ^ n - (j + 1)
          · rw [if_pos c, c]
          · rw [if_neg c]; exact gT.2.2 T (by omega) h2
      · intro a ha
        obtain ⟨x, v, v1⟩ := a
        obtain ⟨rfl, e1, gT⟩ := ha
        dsimp only at e1 gT
        subst e1
        rw [Nat.sub_self] at gT
        refine ⟨some (nI (pZr n b lo (pRk b n) 0), v, v1), fun k => ?_, v, rfl, gT⟩
        show bX0_mostOf_61 k (nI (2 ^ n - 2 ^ n) + (-1)) v v1 = _
        unfold bX0_mostOf_61
        rw [Nat.sub_self, if_pos (by decide), show (0 : Int32) = nI 0 from rfl, pg_I (by decide) (by decide), nI_clamp (by decide)]
        have := gT.2.2 0 (Nat.le_refl 0) hp
        rw [pRk_0, Nat.sub_zero] at this
        show some (v.2.1 0 0, v, v1) = _
        rw [this]
