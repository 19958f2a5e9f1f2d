/-! MONTHS, both sides. -/
theorem pL_and (a b : Nat) : lN a &&& lN b = lN (a &&& b) := by
  apply Int64.toBitVec_inj.mp
  show BitVec.ofNat 64 a &&& BitVec.ofNat 64 b = BitVec.ofNat 64 (a &&& b)
  apply BitVec.eq_of_getLsbD_eq
  intro i hi
  simp [hi]
def pSd (sd : Nat) : Nat := (1103515245 * sd + 12345) % 2147483648
theorem pSd_lt (sd : Nat) : pSd sd < 2147483648 := Nat.mod_lt _ (by decide)
theorem pSd_l {sd : Nat} (h : sd < 2147483648) : ((1103515245 : Int64) * (nI sd).toInt64) + (12345 : Int64) = lN (1103515245 * sd + 12345) := by
  rw [nI_l (by omega), show (1103515245 : Int64) = lN 1103515245 from rfl, lN_mul, show (12345 : Int64) = lN 12345 from rfl, lN_add]
theorem pSd_c {sd : Nat} (h : sd < 2147483648) : ((((1103515245 : Int64) * (nI sd).toInt64) + (12345 : Int64)) - (((1103515245 : Int64) * (nI sd).toInt64) + (12345 : Int64)) / (2147483648 : Int64) * (2147483648 : Int64)).toInt32 = nI (pSd sd) := by
  rw [pSd_l h, show (2147483648 : Int64) = lN 2147483648 from rfl, pk_lRem (by omega) (by decide) (by decide), lN_i]
  rfl
theorem pSd_m {sd : Nat} (h : sd < 2147483648) : ((((1103515245 : Int64) * (nI sd).toInt64) + (12345 : Int64)) &&& (2147483647 : Int64)).toInt32 = nI (pSd sd) := by
  rw [pSd_l h, show (2147483647 : Int64) = lN 2147483647 from rfl, pL_and, show (2147483647 : Nat) = 2 ^ 31 - 1 from rfl, Nat.and_two_pow_sub_one_eq_mod, lN_i]
  rfl
theorem pc_draw {s : lm_St} {sd n : Nat} (h : s.1 2 = nI sd) (hs : sd < 2147483648) (hn : n ≤ 7) : fX1_draw s (nI (n + 1)) = some (nI (pSd sd / 65536 % (n + 1)), lm_sF s 2 (nI (pSd sd))) := by
  have := pSd_lt sd
  unfold fX1_draw
  rw [h, pSd_c hs, if_neg (nI_nle (by omega) (by omega)), lm_gZo (nI_ne0 (by omega) (by omega)), show (65536 : Int32) = nI 65536 from rfl, pk_div (by omega) (by decide) (by decide), pk_rem (by omega) (by omega) (by omega)]
theorem pm_draw {s : lm_St} {sd n : Nat} (h : s.1 10 = nI sd) (hs : sd < 2147483648) (hn : n ≤ 7) : fX9_draw s (nI (n + 1)) = some (nI (pSd sd / 65536 % (n + 1)), lm_sF s 10 (nI (pSd sd))) := by
  have := pSd_lt sd
  unfold fX9_draw
  rw [h, pSd_m hs, lm_gZo (nI_ne0 (by omega) (by omega)), show (65536 : Int32) = nI 65536 from rfl, pk_div (by omega) (by decide) (by decide), pk_rem (by omega) (by omega) (by omega)]
/-- a month's state: taken, debt, looks, since, seed, worth -/
abbrev pMs : Type := Nat × Nat × (Nat → Nat) × (Nat → Nat) × Nat × Nat
def pMt (n : Nat) (kd wo : Nat → Nat) (five : Bool) (b db : Nat) (lo v : Nat → Nat) (sd sum : Nat) : pMs := if five then (match pNx n kd b db lo v with
  | none => (b, db, lo, fun i => v i + 1, sd, sum)
  | some j => (b ||| 2 ^ j, db - wo j, lo, fun i => v i + 1, sd, sum + wo j)) else (b, db, lo, fun i => v i + 1, sd, sum)
def pMd (n : Nat) (kd wo : Nat → Nat) (dy g : Nat) (q : pMs) : pMs := if pSd q.2.2.2.2.1 / 65536 % (n + 1) < n ∧ q.1.testBit (pSd q.2.2.2.2.1 / 65536 % (n + 1)) = false then pMt n kd wo (decide ((dy + g + 1) % 5 = 0)) q.1 q.2.1 (pTl q.2.2.1 (pSd q.2.2.2.2.1 / 65536 % (n + 1))) (pTs q.2.2.2.1 (pSd q.2.2.2.2.1 / 65536 % (n + 1))) (pSd q.2.2.2.2.1) q.2.2.2.2.2 else pMt n kd wo (decide ((dy + g + 1) % 5 = 0)) q.1 q.2.1 q.2.2.1 q.2.2.2.1 (pSd q.2.2.2.2.1) q.2.2.2.2.2
def pMo (n : Nat) (kd wo : Nat → Nat) (dy : Nat) (q0 : pMs) : Nat → pMs
  | 0 => q0
  | g + 1 => pMd n kd wo dy g (pMo n kd wo dy q0 g)
/-- what holds of a month's state after g days -/
def pMg (n : Nat) (kd wo : Nat → Nat) (g : Nat) (q : pMs) : Prop := pW n q.1 q.2.1 kd wo q.2.2.1 ∧ (∀ i, i < n → q.2.2.2.1 i ≤ 20 + g) ∧ q.2.2.2.2.1 < 2147483648 ∧ q.2.2.2.2.2 + pS wo (fun i => !q.1.testBit i) n ≤ 63
theorem pMt_g {n : Nat} {kd wo : Nat → Nat} {g b db sd sum : Nat} {lo v : Nat → Nat} (h : pMg n kd wo g (b, db, lo, v, sd, sum)) (five : Bool) : pMg n kd wo (g + 1) (pMt n kd wo five b db lo v sd sum) := by
  obtain ⟨h1, h2, h3, h4⟩ := h
  dsimp only at h1 h2 h3 h4
  unfold pMt
  cases five with
  | false => exact ⟨h1, fun i hi => by have := h2 i hi; show v i + 1 ≤ _; omega, h3, h4⟩
  | true =>
    rw [if_pos rfl]
    cases hx : pNx n kd b db lo v with
    | none => exact ⟨h1, fun i hi => by have := h2 i hi; show v i + 1 ≤ _; omega, h3, h4⟩
    | some j =>
      have hj := pNx_lt hx
      have := pS_out (f := wo) hj.1 hj.2
      exact ⟨h1.take hj.1, fun i hi => by have := h2 i hi; show v i + 1 ≤ _; omega, h3, by show sum + wo j + pS wo (fun i => !(b ||| 2 ^ j).testBit i) n ≤ 63; omega⟩
theorem pMd_g {n : Nat} {kd wo : Nat → Nat} {dy g : Nat} {q : pMs} (h : pMg n kd wo g q) : pMg n kd wo (g + 1) (pMd n kd wo dy g q) := by
  obtain ⟨b, db, lo, v, sd, sum⟩ := q
  obtain ⟨h1, h2, h3, h4⟩ := h
  dsimp only at h1 h2 h3 h4
  unfold pMd
  dsimp only
  split
  · refine pMt_g ⟨h1.touch _, fun i hi => ?_, pSd_lt _, h4⟩ _
    have := h2 i hi
    show pTs v _ i ≤ _
    unfold pTs
    split <;> omega
  · exact pMt_g ⟨h1, h2, pSd_lt _, h4⟩ _
theorem pMo_g {n : Nat} {kd wo : Nat → Nat} {dy : Nat} {q0 : pMs} (h : pMg n kd wo 0 q0) : ∀ g, pMg n kd wo g (pMo n kd wo dy q0 g) := by
  intro g
  induction g with
  | zero => exact h
  | succ g ih => exact pMd_g ih
/-- the class's calendar -/
def cC (s0 s1 : lm_St) (n : Nat) (kd wo : Nat → Nat) (g : Nat) (q : pMs) : Prop := s0.1 0 = nI q.2.2.2.2.2 ∧ s0.1 2 = nI q.2.2.2.2.1 ∧ cT s1 n q.1 q.2.1 g kd wo q.2.2.1 q.2.2.2.1
theorem pc_five {dy g : Nat} (h : dy + g < 100000) : ((((nI dy) + nI g) + (1 : Int32)) - (((nI dy) + nI g) + (1 : Int32)) / (5 : Int32) * (5 : Int32)) = nI ((dy + g + 1) % 5) := by
  rw [nI_add, nI_1, show (5 : Int32) = nI 5 from rfl, pk_rem (by omega) (by decide) (by decide)]
theorem pc_monthEnd {s0 s1 s2 : lm_St} {n g b db sd sum dy : Nat} {kd wo lo v : Nat → Nat} (h : cC s0 s1 n kd wo g (b, db, lo, v, sd, sum)) (hg : pMg n kd wo g (b, db, lo, v, sd, sum)) (hgl : g < 100) (h2 : s2.1 3 = nI dy) (hdy : dy < 2000) (x2 : Int32) : ∃ t0 t1, (∀ k : Int32 × Int32 × lm_St × lm_St × lm_St → Option (lm_St × lm_St × lm_St), jX1_goThrough_80 k x2 (nI g) s0 s1 s2 = k (x2, nI (g + 1), t0, t1, s2)) ∧ cC t0 t1 n kd wo (g + 1) (pMt n kd wo (decide ((dy + g + 1) % 5 = 0)) b db lo v sd sum) := by
  obtain ⟨c1, c2, c3⟩ := h
  obtain ⟨w, hv, hsd, hsum⟩ := hg
  dsimp only at c1 c2 c3 w hv hsd hsum
  have hn := w.1
  unfold pMt
  by_cases c : (dy + g + 1) % 5 = 0
  · rw [decide_eq_true c, if_pos rfl]
    have hnx : fX3_wouldTake s1 (nI (g + 1)) = some (pE (pNx n kd b db lo v), s1) := by
      rw [pc_next c3.day w (Nat.le_refl (g + 1)) (fun i hi => by have := hv i hi; omega)]
      unfold pNx
      rw [Nat.sub_self]
    cases hx : pNx n kd b db lo v with
    | none =>
      refine ⟨s0, s1, fun k => ?_, c1, c2, c3.day⟩
      unfold jX1_goThrough_80 jX1_goThrough_102 fX1_haveNext
      rw [h2, pc_five (by omega), c, if_pos (by rfl), nI_1 g, hnx, hx]
      simp only [Option.bind_some, lm_un2]
      rw [if_pos (by rfl)]
      rfl
    | some j =>
      have hj := pNx_lt hx
      obtain ⟨t4, p1, p2, p3, p4⟩ := pc_away c3.day w hj.1
      refine ⟨lm_sF s0 0 (nI (sum + wo j)), t4, fun k => ?_, rfl, c2, p2⟩
      unfold jX1_goThrough_80 jX1_goThrough_102 fX1_haveNext
      rw [h2, pc_five (by omega), c, if_pos (by rfl), nI_1 g, hnx, hx]
      simp only [Option.bind_some, lm_un2]
      rw [show pE (some j) = nI j from rfl, if_neg (pE_neg (by omega)), pg_I (by omega) (by decide), p1, nI_clamp (by omega), (c3.2.2.2.1 j hj.1).2.1, c1]
      show k (x2, nI (g + 1), lm_sF s0 0 (nI sum + nI (wo j)), t4, s2) = _
      rw [nI_add]
  · rw [decide_eq_false c, if_neg (by decide)]
    refine ⟨s0, s1, fun k => ?_, c1, c2, c3.day⟩
    unfold jX1_goThrough_80 jX1_goThrough_102
    rw [h2, pc_five (by omega), if_neg (nI_ne0 (by omega) (by omega)), nI_1 g]
theorem pc_has {s : lm_St} {n k : Nat} (h : s.1 0 = nI n) (hn : n ≤ 7) (hk : k < 2 ^ 31) : fX3_has s (nI k) = some (if k < n then 1 else 0, s) := by
  unfold fX3_has
  rw [if_neg (nI_pos hk), h]
  by_cases c : k < n
  · rw [if_neg (nI_ge c (by omega)), if_pos c, lm_gBo (Or.inr rfl)]
  · rw [if_pos (nI_le (by omega) hk), if_neg c, lm_gBo (Or.inl rfl)]
theorem pc_months {s0 s1 s2 : lm_St} {n b db dy sd m : Nat} {kd wo lo si : Nat → Nat} (h : cT s2 n b db 0 kd wo lo si) (w : pW n b db kd wo lo) (hs : ∀ i, i < n → si i ≤ 20) (h2 : s2.1 3 = nI dy) (hdy : dy < 2000) (hsd : sd < 2147483648) (hm : m ≤ 60) : ∃ t0 t1, fX1_goThrough s0 s1 s2 (nI m) (nI sd) = some (t0, t1, s2) ∧ t0.1 0 = nI (pMo n kd wo dy (b, db, lo, si, sd, 0) m).2.2.2.2.2 ∧ t0.1 1 = nI (pMo n kd wo dy (b, db, lo, si, sd, 0) m).2.1 ∧ t0.1 2 = nI (pMo n kd wo dy (b, db, lo, si, sd, 0) m).2.2.2.2.1 := by
  have hn := w.1
  obtain ⟨u, q1, q2⟩ := pc_copyT (t := s1) h hn
  have hall := pS_all w (fun i => !b.testBit i)
  have hG := pMo_g (n := n) (kd := kd) (wo := wo) (dy := dy) (q0 := (b, db, lo, si, sd, 0)) ⟨w, hs, hsd, by show 0 + pS wo (fun i => !b.testBit i) n ≤ 63; omega⟩
  unfold fX1_goThrough
  rw [q1]
  simp only [Option.bind_some, lm_un2]
  refine pl_inv0 (P := fun o => ∃ t0 t1 : lm_St, o = some (t0, t1, s2) ∧ t0.1 0 = nI (pMo n kd wo dy (b, db, lo, si, sd, 0) m).2.2.2.2.2 ∧ t0.1 1 = nI (pMo n kd wo dy (b, db, lo, si, sd, 0) m).2.1 ∧ t0.1 2 = nI (pMo n kd wo dy (b, db, lo, si, sd, 0) m).2.2.2.2.1) (fun (g : Nat) (a : Int32 × Int32 × lm_St × lm_St × lm_St) => a.1 = nI m ∧ a.2.1 = nI g ∧ a.2.2.2.2 = s2 ∧ cC a.2.2.1 a.2.2.2.1 n kd wo g (pMo n kd wo dy (b, db, lo, si, sd, 0) g)) m ⟨rfl, rfl, rfl, rfl, rfl, q2⟩ ?_ ?_ (by omega)
  · intro g a hg ha
    obtain ⟨x1, x2, u0, u1, u2⟩ := a
    obtain ⟨rfl, rfl, e2, gC⟩ := ha
    dsimp only at e2 gC
    subst e2
    have hGg := hG g
    show ∃ a', (∀ k : Int32 × Int32 × lm_St × lm_St × lm_St → Option (lm_St × lm_St × lm_St), bX1_goThrough_21 k (nI m) (nI g) u0 u1 u2 = k a') ∧ a'.1 = nI m ∧ a'.2.1 = nI (g + 1) ∧ a'.2.2.2.2 = u2 ∧ cC a'.2.2.1 a'.2.2.2.1 n kd wo (g + 1) (pMd n kd wo dy g (pMo n kd wo dy (b, db, lo, si, sd, 0) g))
    generalize pMo n kd wo dy (b, db, lo, si, sd, 0) g = q at gC hGg
    obtain ⟨b1, db1, lo1, v1, sd1, sum1⟩ := q
    obtain ⟨c1, c2, c3⟩ := gC
    obtain ⟨w1, hv1, hsd1, hsum1⟩ := hGg
    dsimp only at c1 c2 c3 w1 hv1 hsd1 hsum1
    have hk : pSd sd1 / 65536 % (n + 1) < n + 1 := Nat.mod_lt _ (by omega)
    have hdr := pc_draw (s := u0) (n := n) c2 hsd1 hn
    unfold pMd
    dsimp only
    generalize hkk : pSd sd1 / 65536 % (n + 1) = kk at hk hdr
    by_cases c : kk < n ∧ b1.testBit kk = false
    · rw [if_pos c]
      obtain ⟨t9, p1, p2, p3, p4⟩ := pc_look c3 w1 c.1
      obtain ⟨t0, t1, z1, z2⟩ := pc_monthEnd (s0 := lm_sF u0 2 (nI (pSd sd1))) (s1 := t9) (s2 := u2) (sum := sum1) ⟨c1, rfl, p2⟩ ⟨w1.touch kk, fun i hi => by have := hv1 i hi; show pTs v1 kk i ≤ _; unfold pTs; split <;> omega, pSd_lt sd1, hsum1⟩ (by omega) h2 hdy (nI m)
      refine ⟨(nI m, nI (g + 1), t0, t1, u2), fun k => ?_, rfl, rfl, rfl, z2⟩
      unfold bX1_goThrough_21
      rw [if_neg (nI_ge hg (by omega)), c3.1, nI_1 n, hdr]
      simp only [Option.bind_some, lm_un2]
      rw [pc_has c3.1 hn (by omega), if_pos c.1]
      simp only [Option.bind_some]
      rw [if_neg (by decide), c3.2.1, pb_isIn (by have := w1.2.1; omega) (by omega), c.2]
      simp only [Option.bind_some, Bool.false_eq_true, if_false, if_true]
      rw [p1]
      exact z1 k
    · rw [if_neg c]
      obtain ⟨t0, t1, z1, z2⟩ := pc_monthEnd (s0 := lm_sF u0 2 (nI (pSd sd1))) (s1 := u1) (s2 := u2) (sum := sum1) ⟨c1, rfl, c3⟩ ⟨w1, hv1, pSd_lt sd1, hsum1⟩ (by omega) h2 hdy (nI m)
      refine ⟨(nI m, nI (g + 1), t0, t1, u2), fun k => ?_, rfl, rfl, rfl, z2⟩
      unfold bX1_goThrough_21
      rw [if_neg (nI_ge hg (by omega)), c3.1, nI_1 n, hdr]
      simp only [Option.bind_some, lm_un2]
      rw [pc_has c3.1 hn (by omega)]
      by_cases d : kk < n
      · rw [if_pos d]
        simp only [Option.bind_some]
        have hb : b1.testBit kk = true := by
          cases hq : b1.testBit kk with
          | true => rfl
          | false => exact absurd ⟨d, hq⟩ c
        rw [if_neg (by decide), c3.2.1, pb_isIn (by have := w1.2.1; omega) (by omega), hb]
        simp only [Option.bind_some, if_true]
        rw [if_neg (by decide)]
        exact z1 k
      · rw [if_neg d]
        simp only [Option.bind_some]
        rw [if_pos trivial]
        exact z1 k
  · intro a ha
    obtain ⟨x1, x2, u0, u1, u2⟩ := a
    obtain ⟨rfl, rfl, e2, gC⟩ := ha
    dsimp only at e2 gC
    subst e2
    refine ⟨some (lm_sF u0 1 (u1.1 2), u1, u2), fun k => ?_, lm_sF u0 1 (u1.1 2), u1, rfl, gC.1, gC.2.2.2.2.1, gC.2.1⟩
    show bX1_goThrough_21 k (nI m) (nI m) u0 u1 u2 = _
    unfold bX1_goThrough_21
    rw [if_pos (nI_le (Nat.le_refl m) (by omega))]
