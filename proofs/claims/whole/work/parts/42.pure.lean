/-! The class's trial: touched, a day on, taken, copied. -/
theorem pI_sh (a b : Int32) : (a + 1) - (b + 1) = a - b := by grind
theorem pI_s0 (a : Int32) : a - nI 0 = a := by
  show a - 0 = a
  grind
theorem cT.day {s : lm_St} {n b db gone : Nat} {kd wo lo v : Nat → Nat} (h : cT s n b db gone kd wo lo v) : cT s n b db (gone + 1) kd wo lo (fun i => v i + 1) := by
  obtain ⟨h0, h1, h2, h3, h4⟩ := h
  refine ⟨h0, h1, h2, h3, fun i hi ht => ?_⟩
  rw [h4 i hi ht, nI_succ, nI_succ, pI_sh]
theorem cT.back {s : lm_St} {n b db gone : Nat} {kd wo lo v : Nat → Nat} (h : cT s n b db (gone + 1) kd wo lo (fun i => v i + 1)) : cT s n b db gone kd wo lo v := by
  obtain ⟨h0, h1, h2, h3, h4⟩ := h
  refine ⟨h0, h1, h2, h3, fun i hi ht => ?_⟩
  rw [h4 i hi ht, nI_succ, nI_succ, pI_sh]
theorem pW.touch {n b db : Nat} {kd wo lo : Nat → Nat} (w : pW n b db kd wo lo) (k : Nat) : pW n b db kd wo (pTl lo k) := by
  refine ⟨w.1, w.2.1, w.2.2.1, fun i hi => ?_⟩
  obtain ⟨a1, a2, a3, a4⟩ := w.2.2.2 i hi
  refine ⟨a1, a2, a3, ?_⟩
  unfold pTl
  split
  · omega
  · exact a4
theorem pW.take {n b db : Nat} {kd wo lo : Nat → Nat} (w : pW n b db kd wo lo) {j : Nat} (hj : j < n) : pW n (b ||| 2 ^ j) (db - wo j) kd wo lo := by
  refine ⟨w.1, ?_, by have := w.2.2.1; omega, w.2.2.2⟩
  have h1 := w.1
  exact Nat.or_lt_two_pow (n := 7) w.2.1 (Nat.pow_lt_pow_right (by decide) (by omega))
theorem pc_look {s : lm_St} {n b db gone : Nat} {kd wo lo v : Nat → Nat} (h : cT s n b db gone kd wo lo v) (w : pW n b db kd wo lo) {k : Nat} (hk : k < n) : ∃ t, fX3_lookAt s (nI k) (nI gone) = some t ∧ cT t n b db gone kd wo (pTl lo k) (pTs v k) ∧ (∀ i, i ≠ k → t.2.1 3 i = s.2.1 3 i) ∧ t.1 = s.1 := by
  obtain ⟨h0, h1, h2, h3, h4⟩ := h
  have hn := w.1
  have hlo := (w.2.2.2 k hk).2.2.2
  have e1 : (if (nI (lo k) + (1 : Int32)) < (20 : Int32) then (nI (lo k) + (1 : Int32)) else (20 : Int32)) = nI (min (lo k + 1) 20) := by
    rw [nI_1]; exact pI_min (by omega)
  unfold fX3_lookAt
  rw [pg_I (by omega) (by decide), pg_I (by omega) (by decide), pg_I (by omega) (by decide), nI_clamp (by omega), (h3 k hk).2.2, e1]
  refine ⟨_, rfl, ⟨h0, h1, h2, fun i hi => ?_, fun i hi ht => ?_⟩, fun i q1 => by show upd (s.2.1 3) k (-nI gone) i = _; rw [pu_u, if_neg q1], rfl⟩
  · obtain ⟨a1, a2, a3⟩ := h3 i hi
    refine ⟨a1, a2, ?_⟩
    show upd (s.2.1 2) k (nI (min (lo k + 1) 20)) i = nI (pTl lo k i)
    rw [pu_u, pTl]
    by_cases e : i = k
    · rw [if_pos e, if_pos e]
    · rw [if_neg e, if_neg e, a3]
  · show upd (s.2.1 3) k (-nI gone) i = nI (pTs v k i) - nI gone
    rw [pu_u, pTs]
    by_cases e : i = k
    · rw [if_pos e, if_pos e, show nI 0 = 0 from rfl, Int32.zero_sub]
    · rw [if_neg e, if_neg e, h4 i hi ht]
/-- put back -/
theorem pc_unlook {s t : lm_St} {n b db gone : Nat} {kd wo lo v : Nat → Nat} (h : cT s n b db gone kd wo lo v) {k : Nat} (hk : k < n) (hkt : b.testBit k = false) (ht : cT t n b db gone kd wo (pTl lo k) (pTs v k)) : cT (lm_sA (lm_sA t 2 (upd (t.2.1 2) k (s.2.1 2 k))) 3 (upd (t.2.1 3) k (s.2.1 3 k))) n b db gone kd wo lo v := by
  obtain ⟨h0, h1, h2, h3, h4⟩ := h
  obtain ⟨t0, t1, t2, t3, t4⟩ := ht
  refine ⟨t0, t1, t2, fun i hi => ?_, fun i hi hb => ?_⟩
  · obtain ⟨a1, a2, a3⟩ := t3 i hi
    refine ⟨a1, a2, ?_⟩
    show upd (t.2.1 2) k (s.2.1 2 k) i = nI (lo i)
    rw [pu_u]
    by_cases e : i = k
    · rw [if_pos e, (h3 k hk).2.2, e]
    · rw [if_neg e, a3, pTl, if_neg e]
  · show upd (t.2.1 3) k (s.2.1 3 k) i = nI (v i) - nI gone
    rw [pu_u]
    by_cases e : i = k
    · rw [if_pos e, h4 k hk hkt, e]
    · rw [if_neg e, t4 i hi hb, pTs, if_neg e]
theorem pb_orI : ∀ b, b < 128 → ∀ j, j < 7 → nI b ||| ((1 : Int32) <<< (nI j &&& 31)) = nI (b ||| 2 ^ j) := by decide +kernel
theorem pI_max0 {a b : Nat} (ha : a < 2 ^ 30) (hb : b < 2 ^ 30) : (if (0 : Int32) < (nI a - nI b) then (nI a - nI b) else (0 : Int32)) = nI (a - b) := by
  by_cases h : b < a
  · rw [pk_sub (by omega), if_pos (show (0 : Int32) < nI (a - b) from (nI_ltI (a := 0) (by decide) (by omega)).mpr (by omega))]
  · rw [show a - b = 0 by omega]
    by_cases e : a = b
    · subst e
      rw [Int32.sub_self, if_neg (by decide)]
      rfl
    · rw [if_neg (fun q => absurd (pk_sneg (a := a) (b := b) hb (by omega)) (by rw [Int32.lt_iff_toInt_lt] at q ⊢; omega))]
      rfl
theorem pc_away {s : lm_St} {n b db gone : Nat} {kd wo lo v : Nat → Nat} (h : cT s n b db gone kd wo lo v) (w : pW n b db kd wo lo) {j : Nat} (hj : j < n) : ∃ t, fX3_haveAway s (nI j) = some t ∧ cT t n (b ||| 2 ^ j) (db - wo j) gone kd wo lo v ∧ t.2 = s.2 ∧ (∀ i, i ≠ 1 → i ≠ 2 → t.1 i = s.1 i) := by
  obtain ⟨h0, h1, h2, h3, h4⟩ := h
  have hn := w.1
  have hwj := w.2.2.2 j hj
  have hdb := w.2.2.1
  unfold fX3_haveAway
  rw [pg_I (by omega) (by decide), nI_clamp (by omega), h1, h2, (h3 j hj).2.1, pb_orI b w.2.1 j (by omega), pI_max0 (by omega) (by omega)]
  refine ⟨_, rfl, ⟨h0, rfl, rfl, h3, fun i hi ht => h4 i hi ?_⟩, rfl, fun i q1 q2 => by rw [pu_1, if_neg q2, pu_1, if_neg q1]⟩
  rw [pb_or] at ht
  cases hb : b.testBit i with
  | true => rw [hb] at ht; cases ht
  | false => rfl
theorem pc_unaway {s t : lm_St} {n b db b2 db2 gone : Nat} {kd wo lo v v2 : Nat → Nat} (h : cT s n b db gone kd wo lo v) (ht : cT t n b2 db2 gone kd wo lo v2) (h3 : ∀ i, i < n → t.2.1 3 i = s.2.1 3 i) : cT (lm_sF (lm_sF t 1 (s.1 1)) 2 (s.1 2)) n b db gone kd wo lo v := by
  obtain ⟨h0, h1, h2, -, h4⟩ := h
  obtain ⟨t0, t1, t2, t3, t4⟩ := ht
  exact ⟨t0, h1, h2, t3, fun i hi hb => (h3 i hi).trans (h4 i hi hb)⟩
theorem pc_copy (t s : lm_St) : ∃ u, fX3_copyFrom t s = some (u, s) ∧ (∀ k, k < 4 → ∀ i, i < 7 → u.2.1 k i = s.2.1 k i) ∧ (∀ k, k < 5 → u.1 k = s.1 k) := by
  unfold fX3_copyFrom
  have g : ∀ {x : Option (lm_St × lm_St)}, lm_gC (7 : Int32) 7 7 x = x := fun {x} => lm_gCo (by decide)
  rw [g, g, g, g]
  refine ⟨_, rfl, fun k hk i hi => ?_, fun k hk => ?_⟩
  · have e : ∀ f h : Nat → Int32, va_cpy f h 0 0 (7 : Int32).toNatClampNeg i = f i := fun f h => by
      rw [show (7 : Int32).toNatClampNeg = 7 from rfl, pk_cpy_in (Nat.zero_le _) (by omega)]
      congr 1
      omega
    match k, hk with
    | 0, _ => exact e _ _
    | 1, _ => exact e _ _
    | 2, _ => exact e _ _
    | 3, _ => exact e _ _
  · match k, hk with
    | 0, _ => rfl
    | 1, _ => rfl
    | 2, _ => rfl
    | 3, _ => rfl
    | 4, _ => rfl
theorem pc_copyT {s t : lm_St} {n b db : Nat} {kd wo lo v : Nat → Nat} (h : cT s n b db 0 kd wo lo v) (hn : n ≤ 7) : ∃ u, fX3_copyFrom t s = some (u, s) ∧ cT u n b db 0 kd wo lo v := by
  obtain ⟨u, h1, h2, h3⟩ := pc_copy t s
  obtain ⟨a0, a1, a2, a3, a4⟩ := h
  refine ⟨u, h1, (h3 0 (by decide)).trans a0, (h3 1 (by decide)).trans a1, (h3 2 (by decide)).trans a2, fun i hi => ?_, fun i hi hb => (h2 3 (by decide) i (by omega)).trans (a4 i hi hb)⟩
  obtain ⟨b1, b2, b3⟩ := a3 i hi
  exact ⟨(h2 0 (by decide) i (by omega)).trans b1, (h2 1 (by decide) i (by omega)).trans b2, (h2 2 (by decide) i (by omega)).trans b3⟩
