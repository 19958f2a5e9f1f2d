/-! ODDS, both sides. -/
def pNow (n : Nat) (kd : Nat → Nat) (b db : Nat) (lo v : Nat → Nat) : Option Nat := if db = 0 then none else pN (fun i => pM (kd i) (lo i) (min (v i) 20)) b n
def pWy (n : Nat) (kd : Nat → Nat) (b db one : Nat) : Nat → (Nat → Nat) → (Nat → Nat) → Nat
  | 0, lo, v => if pNow n kd b db lo v = some one then 1 else 0
  | r + 1, lo, v => pS (fun k => pWy n kd b db one r (pTl lo k) (fun i => pTs v k i + 1)) (fun k => !b.testBit k) n
theorem pWy_le {n : Nat} {kd : Nat → Nat} {b db one : Nat} (hn : n ≤ 7) : ∀ (r : Nat) (lo v : Nat → Nat), pWy n kd b db one r lo v ≤ 7 ^ r := by
  intro r
  induction r with
  | zero => intro lo v; unfold pWy; split <;> decide
  | succ r ih =>
    intro lo v
    unfold pWy
    refine Nat.le_trans (pS_le (m := 7 ^ r) (fun i _ => ih _ _)) ?_
    rw [Nat.pow_succ, Nat.mul_comm (7 ^ r) 7]
    exact Nat.mul_le_mul_right _ hn
theorem pE_inj {o : Option Nat} {j : Nat} (h : ∀ q, o = some q → q < 2 ^ 31) (hj : j < 2 ^ 31) : pE o = nI j ↔ o = some j := by
  cases o with
  | none =>
    constructor
    · intro q; exact absurd q.symm (pE_neg hj)
    · intro q; cases q
  | some q =>
    show nI q = nI j ↔ _
    rw [nI_eq (h q rfl) hj]
    constructor
    · intro z; rw [z]
    · intro z; cases z; rfl
theorem pNow_lt {n b db : Nat} {kd lo v : Nat → Nat} {j : Nat} (h : pNow n kd b db lo v = some j) : j < n ∧ b.testBit j = false := by
  unfold pNow at h
  by_cases hd : db = 0
  · rw [if_pos hd] at h; cases h
  · rw [if_neg hd] at h; exact pN_lt h
/-- what waysFrom tells, r days before the end -/
theorem pc_ways {n b db one len : Nat} {kd wo : Nat → Nat} (hlen : len ≤ 3) (hone : one < 7) : ∀ (r d gone : Nat) (s0 s1 : lm_St) (lo v : Nat → Nat), r < d → gone + r = len → s0.1 0 = nI len → s0.1 1 = nI one → cT s1 n b db gone kd wo lo v → pW n b db kd wo lo → (∀ i, i < n → v i + r < 900) → ∃ t1, fX2_waysFrom d s0 s1 (nI gone) = some (nI (pWy n kd b db one r lo v), s0, t1) ∧ cT t1 n b db gone kd wo lo v := by
  intro r
  induction r with
  | zero =>
    intro d gone s0 s1 lo v hd hg h0 h1 h w hv
    obtain ⟨d', rfl⟩ : ∃ d', d = d' + 1 := ⟨d - 1, by omega⟩
    have hge : gone = len := by omega
    subst hge
    have hn := w.1
    show ∃ t1, tX2_waysFrom (fX2_waysFrom d') s0 s1 (nI gone) = _ ∧ _
    unfold tX2_waysFrom
    rw [h0, if_neg (nI_nlt (Nat.le_refl gone) (by omega)), pc_next h w (Nat.le_refl gone) (fun i hi => by have := hv i hi; omega), Nat.sub_self]
    simp only [Option.bind_some, lm_un2]
    show ∃ t1, (if pE (pNow n kd b db lo v) = s0.1 1 then some ((1 : Int32), s0, s1) else some ((0 : Int32), s0, s1)) = _ ∧ _
    rw [h1]
    unfold pWy
    have hi := pE_inj (o := pNow n kd b db lo v) (j := one) (fun q hq => by have := (pNow_lt hq).1; omega) (by omega)
    by_cases c : pNow n kd b db lo v = some one
    · rw [if_pos (hi.mpr c), if_pos c]; exact ⟨s1, rfl, h⟩
    · rw [if_neg (fun q => c (hi.mp q)), if_neg c]; exact ⟨s1, rfl, h⟩
  | succ r ih =>
    intro d gone s0 s1 lo v hd hg h0 h1 h w hv
    obtain ⟨d', rfl⟩ : ∃ d', d = d' + 1 := ⟨d - 1, by omega⟩
    have hn := w.1
    show ∃ t1, tX2_waysFrom (fX2_waysFrom d') s0 s1 (nI gone) = _ ∧ _
    unfold tX2_waysFrom
    rw [h0, if_pos ((nI_ltI (by omega) (by omega)).mpr (by omega))]
    refine pl_inv0 (P := fun o => ∃ t1 : lm_St, o = some (nI (pWy n kd b db one (r + 1) lo v), s0, t1) ∧ cT t1 n b db gone kd wo lo v) (fun (j : Nat) (a : Int32 × Int32 × Int32 × lm_St × lm_St) => a.1 = nI gone ∧ a.2.1 = nI (pS (fun k => pWy n kd b db one r (pTl lo k) (fun i => pTs v k i + 1)) (fun k => !b.testBit k) j) ∧ a.2.2.1 = nI j ∧ a.2.2.2.1 = s0 ∧ cT a.2.2.2.2 n b db gone kd wo lo v) n ⟨rfl, rfl, rfl, rfl, h⟩ ?_ ?_ (by omega)
    · intro j a hj ha
      obtain ⟨x1, x2, x3, u0, u1⟩ := a
      obtain ⟨rfl, e2, rfl, e0, gT⟩ := ha
      dsimp only at e2 e0 gT
      subst e0
      subst e2
      cases ht : b.testBit j with
      | true =>
        refine ⟨(nI gone, nI (pS (fun k => pWy n kd b db one r (pTl lo k) (fun i => pTs v k i + 1)) (fun k => !b.testBit k) j), nI (j + 1), u0, u1), fun k => ?_, rfl, ?_, rfl, rfl, gT⟩
        · show bX2_waysFrom_33 (fX2_waysFrom d') k (nI gone) _ (nI j) u0 u1 = _
          unfold bX2_waysFrom_33 jX2_waysFrom_124
          rw [gT.1, gT.2.1, if_neg (nI_ge hj (by omega)), pb_isIn (by have := w.2.1; omega) (by omega), ht, nI_1 j]
          rfl
        · show nI _ = nI (pS _ _ (j + 1))
          rw [pS, ht]
          rfl
      | false =>
        obtain ⟨t6, p1, p2, p3, p4⟩ := pc_look gT w hj
        obtain ⟨t7, q1, q2⟩ := ih d' (gone + 1) u0 t6 (pTl lo j) (fun i => pTs v j i + 1) (by omega) (by omega) h0 h1 p2.day (w.touch j) (fun i hi => by have := hv i hi; unfold pTs; split <;> omega)
        refine ⟨(nI gone, nI (pS (fun k => pWy n kd b db one r (pTl lo k) (fun i => pTs v k i + 1)) (fun k => !b.testBit k) (j + 1)), nI (j + 1), u0, lm_sA (lm_sA t7 2 (upd (t7.2.1 2) j (u1.2.1 2 j))) 3 (upd (t7.2.1 3) j (u1.2.1 3 j))), fun k => ?_, rfl, rfl, rfl, rfl, pc_unlook gT hj ht q2.back⟩
        show bX2_waysFrom_33 (fX2_waysFrom d') k (nI gone) _ (nI j) u0 u1 = _
        unfold bX2_waysFrom_33 jX2_waysFrom_124
        rw [gT.1, gT.2.1, if_neg (nI_ge hj (by omega)), pb_isIn (by have := w.2.1; omega) (by omega), ht]
        simp only [Option.bind_some, Bool.false_eq_true, if_false, if_true]
        rw [pg_I (by omega) (by decide), pg_I (by omega) (by decide), p1]
        simp only [Option.bind_some]
        rw [nI_1 gone, q1]
        simp only [Option.bind_some, lm_un3]
        rw [pg_I (by omega) (by decide), pg_I (by omega) (by decide), nI_clamp (by omega), nI_1 j, nI_add, pS, ht]
        rfl
    · intro a ha
      obtain ⟨x1, x2, x3, u0, u1⟩ := a
      obtain ⟨rfl, e2, rfl, e0, gT⟩ := ha
      dsimp only at e2 e0 gT
      subst e0
      subst e2
      refine ⟨some (nI (pWy n kd b db one (r + 1) lo v), u0, u1), fun k => ?_, u1, rfl, gT⟩
      show bX2_waysFrom_33 (fX2_waysFrom d') k (nI gone) _ (nI n) u0 u1 = _
      unfold bX2_waysFrom_33
      rw [gT.1, if_pos (nI_le (Nat.le_refl n) (by omega))]
      rfl
theorem pc_waysTo {s0 s1 s2 : lm_St} {n b db one m : Nat} {kd wo lo si : Nat → Nat} (h : cT s2 n b db 0 kd wo lo si) (w : pW n b db kd wo lo) (hs : ∀ i, i < n → si i ≤ 20) (hone : one < 7) (hm : m ≤ 3) : ∃ t0 t1, fX2_waysTo s0 s1 s2 (nI one) (nI m) = some (nI (pWy n kd b db one m lo si), t0, t1, s2) := by
  obtain ⟨u, q1, q2⟩ := pc_copyT (t := s1) h w.1
  have e3 : (if (3 : Int32) < nI m then (3 : Int32) else nI m) = nI m := by
    rw [if_neg (show ¬ (3 : Int32) < nI m from nI_nlt (a := 3) hm (by decide))]
  unfold fX2_waysTo
  rw [q1]
  simp only [Option.bind_some, lm_un2]
  rw [e3]
  obtain ⟨t1, z1, z2⟩ := pc_ways (n := n) (b := b) (db := db) (one := one) (kd := kd) (wo := wo) hm hone m 6 0 (lm_sF (lm_sF s0 0 (nI m)) 1 (nI one)) u lo si (by omega) (by omega) rfl rfl q2 w (fun i hi => by have := hs i hi; omega)
  refine ⟨lm_sF (lm_sF s0 0 (nI m)) 1 (nI one), t1, ?_⟩
  rw [show (0 : Int32) = nI 0 from rfl, z1]
  rfl
/-! the reference's rows -/
def pRo (n : Nat) (kd : Nat → Nat) (b db one : Nat) : Nat → (Nat → Nat) → (Nat → Nat) → Nat → Option Bool
  | 0, lo, v, _ => some (decide (pNow n kd b db lo v = some one))
  | r + 1, lo, v, row => if n ≤ row / 8 ^ r % 8 ∨ b.testBit (row / 8 ^ r % 8) = true then none else pRo n kd b db one r (pTl lo (row / 8 ^ r % 8)) (fun i => pTs v (row / 8 ^ r % 8) i + 1) row
theorem pRo_mod {n : Nat} {kd : Nat → Nat} {b db one : Nat} : ∀ (r : Nat) (lo v : Nat → Nat) (t i : Nat), pRo n kd b db one r lo v (t * 8 ^ r + i) = pRo n kd b db one r lo v i := by
  intro r
  induction r with
  | zero => intros; rfl
  | succ r ih =>
    intro lo v t i
    have hp : 0 < 8 ^ r := Nat.pow_pos (by decide)
    have e0 : t * 8 ^ (r + 1) = (8 * t) * 8 ^ r := by rw [Nat.pow_succ, Nat.mul_comm (8 ^ r) 8, ← Nat.mul_assoc, Nat.mul_comm t 8]
    have e1 : (t * 8 ^ (r + 1) + i) / 8 ^ r % 8 = i / 8 ^ r % 8 := by
      rw [e0, Nat.mul_comm (8 * t), Nat.mul_add_div hp]
      omega
    have e2 : ∀ (lo v : Nat → Nat), pRo n kd b db one r lo v (t * 8 ^ (r + 1) + i) = pRo n kd b db one r lo v i := by
      intro lo v
      rw [e0, ih]
    unfold pRo
    rw [e1]
    simp only [e2]
/-- a sum over the first so many -/
def pSm (f : Nat → Nat) : Nat → Nat
  | 0 => 0
  | k + 1 => pSm f k + f k
theorem pSm_add (f : Nat → Nat) (m : Nat) : ∀ k, pSm f (m + k) = pSm f m + pSm (fun i => f (m + i)) k := by
  intro k
  induction k with
  | zero => rfl
  | succ k ih => show pSm f (m + k) + f (m + k) = _; rw [ih]; exact Nat.add_assoc _ _ _
theorem pSm_blocks (f : Nat → Nat) (M : Nat) : ∀ t, pSm f (t * M) = pSm (fun t => pSm (fun i => f (t * M + i)) M) t := by
  intro t
  induction t with
  | zero => rw [Nat.zero_mul]; rfl
  | succ t ih => rw [Nat.succ_mul, pSm_add, ih]; rfl
theorem pSm_congr {f g : Nat → Nat} : ∀ {n : Nat}, (∀ k, k < n → f k = g k) → pSm f n = pSm g n := by
  intro n
  induction n with
  | zero => intro _; rfl
  | succ n ih => intro h; show _ + _ = _ + _; rw [ih (fun k hk => h k (by omega)), h n (by omega)]
theorem pSm_zero {f : Nat → Nat} : ∀ {n : Nat}, (∀ k, k < n → f k = 0) → pSm f n = 0 := by
  intro n
  induction n with
  | zero => intro _; rfl
  | succ n ih => intro h; show _ + _ = 0; rw [ih (fun k hk => h k (by omega)), h n (by omega)]
theorem pSm_pS {f : Nat → Nat} {p : Nat → Bool} : ∀ n, pSm (fun k => if p k then f k else 0) n = pS f p n := by
  intro n
  induction n with
  | zero => rfl
  | succ n ih => show _ + _ = _ + _; rw [ih]
theorem pSm_8 {n : Nat} (hn : n ≤ 7) {g : Nat → Nat} {f : Nat → Nat} {p : Nat → Bool} (h1 : ∀ t, t < n → g t = if p t then f t else 0) (h2 : ∀ t, n ≤ t → t < 8 → g t = 0) : pSm g 8 = pS f p n := by
  rw [show (8 : Nat) = n + (8 - n) by omega, pSm_add, ← pSm_pS n, pSm_congr h1, pSm_zero (fun k hk => h2 _ (by omega) (by omega)), Nat.add_zero]
/-- a value of a row, summed over all rows -/
theorem pRo_sum {n : Nat} (hn : n ≤ 7) {kd : Nat → Nat} {b db one : Nat} (val : Option Bool → Nat) (h0 : val none = 0) (W : Nat → (Nat → Nat) → (Nat → Nat) → Nat) (hW0 : ∀ lo v, W 0 lo v = val (some (decide (pNow n kd b db lo v = some one)))) (hWs : ∀ r lo v, W (r + 1) lo v = pS (fun k => W r (pTl lo k) (fun i => pTs v k i + 1)) (fun k => !b.testBit k) n) : ∀ (r : Nat) (lo v : Nat → Nat), pSm (fun row => val (pRo n kd b db one r lo v row)) (8 ^ r) = W r lo v := by
  intro r
  induction r with
  | zero => intro lo v; rw [hW0]; show 0 + _ = _; rw [Nat.zero_add]; rfl
  | succ r ih =>
    intro lo v
    have hp : 0 < 8 ^ r := Nat.pow_pos (by decide)
    have dig : ∀ t i, t < 8 → i < 8 ^ r → (t * 8 ^ r + i) / 8 ^ r % 8 = t := fun t i ht hi => by
      rw [Nat.mul_comm t, Nat.mul_add_div hp, Nat.div_eq_of_lt hi]
      omega
    rw [show 8 ^ (r + 1) = 8 * 8 ^ r by rw [Nat.pow_succ, Nat.mul_comm], pSm_blocks, hWs]
    refine pSm_8 hn (fun t ht => ?_) (fun t h1 h2 => ?_)
    · cases hb : b.testBit t with
      | true =>
        rw [pSm_zero (fun i hi => by rw [pRo, dig t i (by omega) hi, if_pos (Or.inr hb), h0])]
        rfl
      | false =>
        rw [pSm_congr (g := fun i => val (pRo n kd b db one r (pTl lo t) (fun i => pTs v t i + 1) i)) (fun i hi => by
          rw [pRo, dig t i (by omega) hi, if_neg (by rw [hb]; intro q; rcases q with q | q; omega; cases q), pRo_mod]), ih]
        rfl
    · exact pSm_zero (fun i hi => by rw [pRo, dig t i h2 hi, if_pos (Or.inl h1), h0])
