/-! SIEGE: the search as a plain function, and the class's search. -/
abbrev pAc : Type := Option (Nat × Nat × Nat)
def pBt (acc : pAc) (lost left code : Nat) : pAc := match acc with
  | none => some (lost, left, code)
  | some (W, M, c) => if lost < W ∨ (lost = W ∧ M < left) then some (lost, left, code) else some (W, M, c)
def pFd {α : Type} (f : Nat → α → α) : Nat → α → α
  | 0, a => a
  | k + 1, a => f k (pFd f k a)
def pNx (n : Nat) (kd : Nat → Nat) (b db : Nat) (lo v : Nat → Nat) : Option Nat := if db = 0 then none else pN (fun i => pM (kd i) (lo i) (min (v i + 1) 20)) b n
def pGo {α : Type} (n : Nat) (kd wo : Nat → Nat) (rec : Nat → Nat → (Nat → Nat) → (Nat → Nat) → Nat → α) (b db : Nat) (lo v : Nat → Nat) (lost : Nat) : α := match pNx n kd b db lo v with
  | none => rec b db lo (fun i => v i + 1) lost
  | some j => rec (b ||| 2 ^ j) (db - wo j) lo (fun i => v i + 1) (lost + wo j)
def pLf (n : Nat) (kd : Nat → Nat) (b : Nat) (lo v : Nat → Nat) : Nat := pS (fun i => pM (kd i) (lo i) (min (v i) 20)) (fun i => !b.testBit i) n
def pSr (n : Nat) (kd wo : Nat → Nat) : Nat → Nat → Nat → (Nat → Nat) → (Nat → Nat) → Nat → Nat → pAc → pAc
  | 0, b, _, lo, v, lost, code, acc => pBt acc lost (pLf n kd b lo v) code
  | r + 1, b, db, lo, v, lost, code, acc => pGo n kd wo (fun b1 db1 lo1 v1 lost1 => pSr n kd wo r b1 db1 lo1 v1 lost1 (8 * code + 7) (pFd (fun k a => if b.testBit k then a else pGo n kd wo (fun b1 db1 lo1 v1 lost1 => pSr n kd wo r b1 db1 lo1 v1 lost1 (8 * code + k) a) b db (pTl lo k) (pTs v k) lost) n acc)) b db lo v lost
theorem pFd_id {α : Type} {f : Nat → α → α} {a : α} : ∀ {n : Nat}, (∀ k, k < n → f k a = a) → pFd f n a = a := by
  intro n
  induction n with
  | zero => intro _; rfl
  | succ k ih =>
    intro h
    unfold pFd
    rw [ih (fun j hj => h j (by omega)), h k (by omega)]
theorem pSr_prune {n : Nat} {kd wo : Nat → Nat} : ∀ (r b db : Nat) (lo v : Nat → Nat) (lost code W M c : Nat), W < lost → pSr n kd wo r b db lo v lost code (some (W, M, c)) = some (W, M, c) := by
  intro r
  induction r with
  | zero =>
    intro b db lo v lost code W M c h
    unfold pSr pBt
    dsimp only
    rw [if_neg (by omega)]
  | succ r ih =>
    intro b db lo v lost code W M c h
    have hg : ∀ (lo v : Nat → Nat) (code : Nat), pGo n kd wo (fun b1 db1 lo1 v1 lost1 => pSr n kd wo r b1 db1 lo1 v1 lost1 code (some (W, M, c))) b db lo v lost = some (W, M, c) := by
      intro lo v code
      unfold pGo
      cases pNx n kd b db lo v with
      | none => exact ih _ _ _ _ _ _ _ _ _ h
      | some j => exact ih _ _ _ _ _ _ _ _ _ (by omega)
    unfold pSr
    rw [pFd_id (fun k hk => by
      by_cases hb : b.testBit k = true
      · rw [if_pos hb]
      · rw [if_neg hb]; exact hg _ _ _)]
    exact hg _ _ _
/-- the class's best so far, and what is tried -/
def eS (s : lm_St) (len : Nat) (acc : pAc) : Prop := s.1 0 = nI len ∧ match acc with
  | none => s.1 1 = nI 64 ∧ s.1 2 = -1
  | some (W, M, c) => s.1 1 = nI W ∧ s.1 2 = nI M ∧ W ≤ 63 ∧ M ≤ 140 ∧ ∀ j, j < len → s.2.1 1 j = nI (c / 8 ^ (len - 1 - j) % 8)
def eP (s : lm_St) (gone code : Nat) : Prop := ∀ j, j < gone → s.2.1 0 j = nI (code / 8 ^ (gone - 1 - j) % 8)
theorem eS.tried {s : lm_St} {len : Nat} {acc : pAc} (h : eS s len acc) (f : Nat → Int32) : eS (lm_sA s 0 f) len acc := by
  obtain ⟨h0, h1⟩ := h
  refine ⟨h0, ?_⟩
  cases acc with
  | none => exact h1
  | some q => exact h1
theorem eP.tried {s : lm_St} {gone code k : Nat} (h : eP s gone code) (hk : k < 8) : eP (lm_sA s 0 (upd (s.2.1 0) gone (nI k))) (gone + 1) (8 * code + k) := by
  intro j hj
  show upd (s.2.1 0) gone (nI k) j = _
  rw [pu_u]
  by_cases e : j = gone
  · rw [if_pos e, e, show gone + 1 - 1 - gone = 0 by omega, Nat.pow_zero, Nat.div_one]
    congr 1
    omega
  · rw [if_neg e, h j (by omega), show gone + 1 - 1 - j = (gone - 1 - j) + 1 by omega, Nat.pow_succ, Nat.mul_comm (8 ^ (gone - 1 - j)) 8, ← Nat.div_div_eq_div_mul, show (8 * code + k) / 8 = code by omega]
theorem eP.less {s : lm_St} {gone code k : Nat} (h : eP s (gone + 1) (8 * code + k)) (hk : k < 8) : eP s gone code := by
  intro j hj
  rw [h j (by omega), show gone + 1 - 1 - j = (gone - 1 - j) + 1 by omega, Nat.pow_succ, Nat.mul_comm (8 ^ (gone - 1 - j)) 8, ← Nat.div_div_eq_div_mul, show (8 * code + k) / 8 = code by omega]
theorem pS_out {f : Nat → Nat} {b j : Nat} : ∀ {n : Nat}, j < n → b.testBit j = false → pS f (fun i => !b.testBit i) n = f j + pS f (fun i => !(b ||| 2 ^ j).testBit i) n := by
  intro n
  induction n with
  | zero => intro h; omega
  | succ i ih =>
    intro hj hb
    unfold pS
    by_cases e : i = j
    · subst e
      have h1 : pS f (fun i => !b.testBit i) i = pS f (fun q => !(b ||| 2 ^ i).testBit q) i := pS_congr (fun q hq => by
        rw [pb_or]
        have : ¬ i = q := by omega
        simp [this]) (fun _ _ _ => rfl)
      rw [h1, pb_or, hb]
      simp
      omega
    · rw [ih (by omega) hb, pb_or]
      have : ¬ j = i := fun q => e q.symm
      simp [this]
      omega
theorem pc_keep {s0 s1 : lm_St} {n b db len : Nat} {kd wo lo v : Nat → Nat} {acc : pAc} {lost code : Nat} (hS : eS s0 len acc) (hP : eP s0 len code) (hlen : len ≤ 4) (h : cT s1 n b db len kd wo lo v) (w : pW n b db kd wo lo) (hv : ∀ i, i < n → v i + len < 1000) (hl : lost ≤ 63) : ∃ t0, fX6_keepIfBetter s0 s1 (nI lost) = some (t0, s1) ∧ eS t0 len (pBt acc lost (pLf n kd b lo v) code) ∧ (t0.2.1 0 = s0.2.1 0) := by
  have hn := w.1
  have hM : fX3_missedOf s1 (nI b ^^^ (-1 : Int32)) (nI len) = some (nI (pLf n kd b lo v), s1) := by
    refine pc_missedOf h.1 hn (fun i hi hp => ?_) (fun i hi => ?_)
    · have ht : b.testBit i = false := by simpa using hp
      rw [pc_missedBehind h w hi ht (Nat.le_refl len) (hv i hi), Nat.sub_self, Nat.add_zero]
    · rw [pb_isInN b w.2.1 i (by omega)]
      cases b.testBit i <;> rfl
  have hLf : pLf n kd b lo v ≤ 140 := by
    have h1 : pLf n kd b lo v ≤ n * 20 := pS_le (fun i hi => Nat.le_trans (pM_le _ _ _) (w.2.2.2 i hi).2.2.2)
    have h2 : n * 20 ≤ 7 * 20 := Nat.mul_le_mul_right 20 hn
    omega
  obtain ⟨h0, h1⟩ := id hS
  have hput : ∃ t0, jX6_keepIfBetter_45 (nI lost) (nI (pLf n kd b lo v)) s0 s1 = some (t0, s1) ∧ eS t0 len (some (lost, pLf n kd b lo v, code)) ∧ t0.2.1 0 = s0.2.1 0 := by
    unfold jX6_keepIfBetter_45
    rw [h0, lm_gCo (by rw [nI_clamp (by omega)]; intro q; rcases q with q | q | q; exact nI_pos (by omega) q; omega; omega), nI_clamp (by omega)]
    refine ⟨_, rfl, ⟨h0, rfl, rfl, hl, hLf, fun j hj => ?_⟩, rfl⟩
    show va_cpy (s0.2.1 0) (s0.2.1 1) 0 0 len j = _
    rw [pk_cpy_in (Nat.zero_le _) (by omega), Nat.zero_add, Nat.sub_zero, hP j hj]
  unfold fX6_keepIfBetter
  rw [h.2.1, h0, hM]
  simp only [Option.bind_some, lm_un2]
  cases acc with
  | none =>
    obtain ⟨e1, e2⟩ := h1
    rw [e1, if_pos ((nI_ltI (by omega) (by decide)).mpr (by omega))]
    exact hput
  | some q =>
    obtain ⟨W, M, c⟩ := q
    obtain ⟨e1, e2, hW, hM2, e3⟩ := h1
    rw [e1, e2]
    unfold pBt
    dsimp only
    by_cases c1 : lost < W
    · rw [if_pos ((nI_ltI (by omega) (by omega)).mpr c1), if_pos (Or.inl c1)]
      exact hput
    · rw [if_neg (fun q => c1 ((nI_ltI (by omega) (by omega)).mp q))]
      by_cases c2 : lost = W
      · rw [if_pos (by rw [c2])]
        by_cases c3 : pLf n kd b lo v ≤ M
        · rw [if_pos (nI_le c3 (by omega)), if_neg (by omega)]
          exact ⟨s0, rfl, ⟨h0, e1, e2, hW, hM2, e3⟩, rfl⟩
        · rw [if_neg (nI_ge (by omega) (by omega)), if_pos (Or.inr ⟨c2, by omega⟩)]
          exact hput
      · rw [if_neg (fun q => c2 ((nI_eq (by omega) (by omega)).mp q)), if_neg (by omega)]
        exact ⟨s0, rfl, ⟨h0, e1, e2, hW, hM2, e3⟩, rfl⟩
/-- what tryDay does, r days before the end -/
def pTry (n : Nat) (kd wo : Nat → Nat) (len r : Nat) (F : lm_St → lm_St → Int32 → Int32 → Option (lm_St × lm_St)) : Prop :=
  ∀ (gone : Nat) (s0 s1 : lm_St) (b db : Nat) (lo v : Nat → Nat) (lost code : Nat) (acc : pAc), gone + r = len → eS s0 len acc → eP s0 gone code → cT s1 n b db gone kd wo lo v → pW n b db kd wo lo → (∀ i, i < n → v i + r < 900) → lost + pS wo (fun i => !b.testBit i) n ≤ 63 → ∃ t0 t1, F s0 s1 (nI gone) (nI lost) = some (t0, t1) ∧ eS t0 len (pSr n kd wo r b db lo v lost code acc) ∧ eP t0 gone code ∧ cT t1 n b db gone kd wo lo v ∧ ∀ i, i < n → t1.2.1 3 i = s1.2.1 3 i
theorem pc_endDay {n : Nat} {kd wo : Nat → Nat} {len r : Nat} (hlen : len ≤ 4) {F : lm_St → lm_St → Int32 → Int32 → Option (lm_St × lm_St)} (hF : pTry n kd wo len r F) {gone : Nat} {s0 s1 : lm_St} {b db : Nat} {lo v : Nat → Nat} {lost code : Nat} {acc : pAc} (hg : gone + 1 + r = len) (hS : eS s0 len acc) (hP : eP s0 (gone + 1) code) (h : cT s1 n b db gone kd wo lo v) (w : pW n b db kd wo lo) (hv : ∀ i, i < n → v i + 1 + r < 900) (hl : lost + pS wo (fun i => !b.testBit i) n ≤ 63) : ∃ t0 t1, fX6_endDay F s0 s1 (nI (gone + 1)) (nI lost) = some (t0, t1) ∧ eS t0 len (pGo n kd wo (fun b1 db1 lo1 v1 lost1 => pSr n kd wo r b1 db1 lo1 v1 lost1 code acc) b db lo v lost) ∧ eP t0 (gone + 1) code ∧ cT t1 n b db gone kd wo lo v ∧ ∀ i, i < n → t1.2.1 3 i = s1.2.1 3 i := by
  have hn := w.1
  have h1 := h.day
  have hnx : fX3_wouldTake s1 (nI (gone + 1)) = some (pE (pNx n kd b db lo v), s1) := by
    rw [pc_next h1 w (Nat.le_refl (gone + 1)) (fun i hi => by have := hv i hi; omega)]
    unfold pNx
    rw [Nat.sub_self]
  unfold fX6_endDay
  rw [hnx]
  simp only [Option.bind_some, lm_un2]
  unfold pGo
  cases ho : pNx n kd b db lo v with
  | none =>
    rw [if_pos (by rfl)]
    obtain ⟨t0, t1, q1, q2, q3, q4, q5⟩ := hF (gone + 1) s0 s1 b db lo (fun i => v i + 1) lost code acc hg hS hP h1 w hv hl
    rw [q1]
    exact ⟨t0, t1, rfl, q2, q3, q4.back, q5⟩
  | some j =>
    have hj : j < n ∧ b.testBit j = false := by
      unfold pNx at ho
      by_cases hd : db = 0
      · rw [if_pos hd] at ho; cases ho
      · rw [if_neg hd] at ho; exact pN_lt ho
    have hwj := w.2.2.2 j hj.1
    have hout := pS_out (f := wo) hj.1 hj.2
    rw [show pE (some j) = nI j from rfl, if_neg (pE_neg (show j < 2 ^ 31 by omega)), pg_I (by omega) (by decide), nI_clamp (by omega), (h.2.2.2.1 j hj.1).2.1, nI_add]
    by_cases hc : nI (lost + wo j) ≤ s0.1 1
    · rw [if_pos hc]
      obtain ⟨t5, p1, p2, p3, p4⟩ := pc_away h1 w hj.1
      rw [p1]
      simp only [Option.bind_some]
      obtain ⟨t0, t1, q1, q2, q3, q4, q5⟩ := hF (gone + 1) s0 t5 (b ||| 2 ^ j) (db - wo j) lo (fun i => v i + 1) (lost + wo j) code acc hg hS hP p2 (w.take hj.1) hv (by omega)
      rw [q1]
      refine ⟨t0, _, rfl, q2, q3, ?_, fun i hi => ?_⟩
      · exact (pc_unaway h1 q4 (fun i hi => (q5 i hi).trans (by rw [p3]))).back
      · show t1.2.1 3 i = _
        rw [q5 i hi, p3]
    · rw [if_neg hc]
      refine ⟨s0, s1, rfl, ?_, hP, h, fun _ _ => rfl⟩
      obtain ⟨h0, h2⟩ := id hS
      cases acc with
      | none =>
        exfalso
        rw [h2.1] at hc
        exact hc (nI_le (by omega) (by decide))
      | some q =>
        obtain ⟨W, M, c⟩ := q
        dsimp only
        rw [pSr_prune r _ _ _ _ _ _ W M c (by
          have e1 := h2.1
          rw [e1] at hc
          rcases Nat.lt_or_ge W (lost + wo j) with q | q
          · exact q
          · exact absurd (nI_le q (by have := h2.2.2.1; omega)) hc)]
        exact hS
theorem pc_tryDay {n : Nat} {kd wo : Nat → Nat} {len : Nat} (hlen : len ≤ 4) : ∀ (r d : Nat), r < d → pTry n kd wo len r (fX6_tryDay d) := by
  intro r
  induction r with
  | zero =>
    intro d hd gone s0 s1 b db lo v lost code acc hg hS hP h w hv hl
    obtain ⟨d', rfl⟩ : ∃ d', d = d' + 1 := ⟨d - 1, by omega⟩
    have hge : gone = len := by omega
    subst hge
    show ∃ t0 t1, tX6_tryDay (fX6_tryDay d') s0 s1 (nI gone) (nI lost) = some (t0, t1) ∧ _
    unfold tX6_tryDay
    rw [hS.1, if_neg (nI_nlt (Nat.le_refl gone) (by omega))]
    obtain ⟨t0, q1, q2, q3⟩ := pc_keep (lost := lost) hS hP hlen h w (fun i hi => by have := hv i hi; omega) (by omega)
    rw [q1]
    exact ⟨t0, s1, rfl, q2, fun j hj => by rw [q3]; exact hP j hj, h, fun _ _ => rfl⟩
  | succ r ih =>
    intro d hd gone s0 s1 b db lo v lost code acc hg hS hP h w hv hl
    obtain ⟨d', rfl⟩ : ∃ d', d = d' + 1 := ⟨d - 1, by omega⟩
    have hn := w.1
    have hF := ih d' (by omega)
    show ∃ t0 t1, tX6_tryDay (fX6_tryDay d') s0 s1 (nI gone) (nI lost) = some (t0, t1) ∧ _
    unfold tX6_tryDay
    rw [hS.1, if_pos ((nI_ltI (by omega) (by omega)).mpr (by omega))]
    refine pl_inv0 (P := fun o => ∃ t0 t1 : lm_St, o = some (t0, t1) ∧ eS t0 len (pSr n kd wo (r + 1) b db lo v lost code acc) ∧ eP t0 gone code ∧ cT t1 n b db gone kd wo lo v ∧ ∀ i, i < n → t1.2.1 3 i = s1.2.1 3 i) (fun (j : Nat) (a : Int32 × Int32 × Int32 × lm_St × lm_St) => a.1 = nI gone ∧ a.2.1 = nI lost ∧ a.2.2.1 = nI j ∧ eS a.2.2.2.1 len (pFd (fun k a => if b.testBit k then a else pGo n kd wo (fun b1 db1 lo1 v1 lost1 => pSr n kd wo r b1 db1 lo1 v1 lost1 (8 * code + k) a) b db (pTl lo k) (pTs v k) lost) j acc) ∧ eP a.2.2.2.1 gone code ∧ cT a.2.2.2.2 n b db gone kd wo lo v ∧ ∀ i, i < n → a.2.2.2.2.2.1 3 i = s1.2.1 3 i) n ⟨rfl, rfl, rfl, hS, hP, h, fun _ _ => rfl⟩ ?_ ?_ (by omega)
    · intro j a hj ha
      obtain ⟨x1, x2, x3, u0, u1⟩ := a
      obtain ⟨rfl, rfl, rfl, gS, gP, gT, gs⟩ := ha
      dsimp only at gS gP gT gs
      cases ht : b.testBit j with
      | true =>
        refine ⟨(nI gone, nI lost, nI (j + 1), u0, u1), fun k => ?_, rfl, rfl, rfl, ?_, gP, gT, gs⟩
        · show bX6_tryDay_16 (fX6_tryDay d') k (nI gone) (nI lost) (nI j) u0 u1 = _
          unfold bX6_tryDay_16 jX6_tryDay_112
          rw [gT.1, gT.2.1, if_neg (nI_ge hj (by omega)), pb_isIn (by have := w.2.1; omega) (by omega), ht, nI_1 j]
          rfl
        · unfold pFd
          rw [if_pos ht]
          exact gS
      | false =>
        obtain ⟨t8, p1, p2, p3, p4⟩ := pc_look gT w hj
        obtain ⟨t0, t1, q1, q2, q3, q4, q5⟩ := pc_endDay hlen hF (gone := gone) (s0 := lm_sA u0 0 (upd (u0.2.1 0) gone (nI j))) (s1 := t8) (lost := lost) (code := 8 * code + j) (by omega) (gS.tried _) (gP.tried (by omega)) p2 (w.touch j) (fun i hi => by have := hv i hi; unfold pTs; split <;> omega) hl
        refine ⟨(nI gone, nI lost, nI (j + 1), t0, lm_sA (lm_sA t1 2 (upd (t1.2.1 2) j (u1.2.1 2 j))) 3 (upd (t1.2.1 3) j (u1.2.1 3 j))), fun k => ?_, rfl, rfl, rfl, ?_, q3.less (by omega), pc_unlook gT hj ht q4, fun i hi => ?_⟩
        · show bX6_tryDay_16 (fX6_tryDay d') k (nI gone) (nI lost) (nI j) u0 u1 = _
          unfold bX6_tryDay_16 jX6_tryDay_112
          rw [gT.1, gT.2.1, if_neg (nI_ge hj (by omega)), pb_isIn (by have := w.2.1; omega) (by omega), ht]
          simp only [Option.bind_some, if_true, Bool.false_eq_true, if_false]
          rw [pg_I (by omega) (by decide), pg_I (by omega) (by decide), p1]
          simp only [Option.bind_some]
          rw [pg_I (by omega) (by decide), nI_clamp (n := gone) (by omega), nI_1 gone, q1]
          simp only [Option.bind_some, lm_un2]
          rw [pg_I (by omega) (by decide), pg_I (by omega) (by decide), nI_clamp (by omega), nI_1 j]
        · unfold pFd
          rw [if_neg (by rw [ht]; decide)]
          exact q2
        · show upd (t1.2.1 3) j (u1.2.1 3 j) i = _
          rw [pu_u]
          by_cases e : i = j
          · rw [if_pos e, e]; exact gs j hj
          · rw [if_neg e, q5 i hi]
            rw [p3 i e]
            exact gs i hi
    · intro a ha
      obtain ⟨x1, x2, x3, u0, u1⟩ := a
      obtain ⟨rfl, rfl, rfl, gS, gP, gT, gs⟩ := ha
      dsimp only at gS gP gT gs
      obtain ⟨t0, t1, q1, q2, q3, q4, q5⟩ := pc_endDay hlen hF (gone := gone) (s0 := lm_sA u0 0 (upd (u0.2.1 0) gone (nI 7))) (s1 := u1) (lost := lost) (code := 8 * code + 7) (by omega) (gS.tried _) (gP.tried (by omega)) gT w (fun i hi => by have := hv i hi; omega) hl
      refine ⟨some (t0, t1), fun k => ?_, t0, t1, rfl, q2, q3.less (by omega), q4, fun i hi => (q5 i hi).trans (gs i hi)⟩
      show bX6_tryDay_16 (fX6_tryDay d') k (nI gone) (nI lost) (nI n) u0 u1 = _
      unfold bX6_tryDay_16
      rw [gT.1, if_pos (nI_le (Nat.le_refl n) (by omega)), pg_I (by omega) (by decide), nI_clamp (by omega), nI_1 gone, show (7 : Int32) = nI 7 from rfl, q1]
      rfl
