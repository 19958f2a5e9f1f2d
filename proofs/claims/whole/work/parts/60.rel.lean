/-! THE RELATION between the class and the reference. -/
def oP (u s : lm_St) : Prop := ∃ (m : Nat) (p : Nat → Nat), m ≤ 32 ∧ (∀ i, i < m → 1 ≤ p i ∧ p i ≤ 126) ∧ u.1 0 = nI m ∧ s.1 0 = nI m ∧ ∀ i, i < m → u.2.1 0 i = nI (p i) ∧ s.2.1 0 i = nI (p i)
def oS (u s : lm_St) : Prop := ∃ (m : Nat) (st sd sm : Nat → Nat), pSn m st sd sm ∧ cSn u m st sd sm ∧ mSn s m st sd sm
/-- one house, as its words -/
def oX (u s : lm_St) (n b db dy tc : Nat) (kd wo lo si : Nat → Nat) : Prop := pW n b db kd wo lo ∧ b < 2 ^ n ∧ (∀ i, i < n → si i ≤ 20) ∧ dy ≤ 999 ∧ tc ≤ 999 ∧ cH u n b db kd wo lo si ∧ u.1 3 = nI dy ∧ u.1 4 = nI tc ∧ mH s n b db kd wo lo si ∧ s.1 4 = nI dy ∧ s.1 5 = nI tc
def oH (u s : lm_St) (n : Nat) : Prop := ∃ (b db dy tc : Nat) (kd wo lo si : Nat → Nat), oX u s n b db dy tc kd wo lo si
/-- what is kept, seen as a house -/
def mKs (s : lm_St) : lm_St := (fun k => if k = 2 then s.1 2 else if k = 3 then s.1 12 else if k = 4 then s.1 13 else if k = 5 then s.1 14 else s.1 15, fun k => if k = 10 then s.2.1 16 else s.2.1 (k + 10), s.2.2)
def oK (c : Nat) (u0 u3 u5 s : lm_St) (n : Nat) : Prop := ∃ hr sal : Nat, hr ≤ c ∧ sal ≤ 16 ∧ u0.1 1 = nI hr ∧ s.1 6 = nI hr ∧ u0.1 2 = nI sal ∧ s.1 8 = nI sal ∧ ((u0.1 0 = 0 ∧ (s.1 11 = -1 ∨ ∃ h, h < hr ∧ s.1 11 = nI h)) ∨ (u0.1 0 = 1 ∧ s.1 11 = nI hr ∧ oH u3 (mKs s) n ∧ oS u5 (mKs s)))
def Rel (c : Nat) (g : Nat → lm_St) (s : lm_St) : Prop := oP (g 1) s ∧ oS (g 4) s ∧ ∃ n, oH (g 2) s n ∧ oK c (g 0) (g 3) (g 5) s n
theorem oP.fr {u u' s t : lm_St} (h : oP u s) (e : u' = u) (h0 : t.1 0 = s.1 0) (hA : t.2.1 0 = s.2.1 0) : oP u' t := by
  obtain ⟨m, p, a1, a2, a3, a4, a5⟩ := h
  subst e
  exact ⟨m, p, a1, a2, a3, h0.trans a4, fun i hi => ⟨(a5 i hi).1, by rw [hA]; exact (a5 i hi).2⟩⟩
theorem oS.fr {u u' s t : lm_St} (h : oS u s) (e0 : u'.1 0 = u.1 0) (e1 : u'.2.1 0 = u.2.1 0) (e2 : u'.2.1 1 = u.2.1 1) (e3 : u'.2.1 2 = u.2.1 2) (h0 : t.1 9 = s.1 9) (hA : t.2.1 10 = s.2.1 10) : oS u' t := by
  obtain ⟨m, st, sd, sm, a1, ⟨a2, a3⟩, a4, a5⟩ := h
  refine ⟨m, st, sd, sm, a1, ⟨e0.trans a2, fun j hj => ?_⟩, h0.trans a4, fun j hj => ?_⟩
  · rw [e1, e2, e3]; exact a3 j hj
  · rw [hA]; exact a5 j hj
theorem oX.fr {u u' s t : lm_St} {n b db dy tc : Nat} {kd wo lo si : Nat → Nat} (h : oX u s n b db dy tc kd wo lo si) (e : u' = u) (h2 : t.1 2 = s.1 2) (h3 : t.1 3 = s.1 3) (h4 : t.1 4 = s.1 4) (h5 : t.1 5 = s.1 5) (hA : ∀ k, 1 ≤ k → k ≤ 5 → t.2.1 k = s.2.1 k) : oX u' t n b db dy tc kd wo lo si := by
  obtain ⟨a1, a2, a3, a4, a5, a6, a7, a8, ⟨b1, b2, b3⟩, a10, a11⟩ := h
  subst e
  refine ⟨a1, a2, a3, a4, a5, a6, a7, a8, ⟨h2.trans b1, h3.trans b2, fun i hi => ?_⟩, h4.trans a10, h5.trans a11⟩
  rw [hA 1 (by decide) (by decide), hA 2 (by decide) (by decide), hA 3 (by decide) (by decide), hA 4 (by decide) (by decide), hA 5 (by decide) (by decide)]
  exact b3 i hi
theorem oH.fr {u u' s t : lm_St} {n : Nat} (h : oH u s n) (e : u' = u) (h2 : t.1 2 = s.1 2) (h3 : t.1 3 = s.1 3) (h4 : t.1 4 = s.1 4) (h5 : t.1 5 = s.1 5) (hA : ∀ k, 1 ≤ k → k ≤ 5 → t.2.1 k = s.2.1 k) : oH u' t n := by
  obtain ⟨b, db, dy, tc, kd, wo, lo, si, h⟩ := h
  exact ⟨b, db, dy, tc, kd, wo, lo, si, h.fr e h2 h3 h4 h5 hA⟩
/-- the kept part of the reference stays -/
def mQ (s t : lm_St) : Prop := (∀ k, 12 ≤ k → k ≤ 15 → t.1 k = s.1 k) ∧ ∀ k, 11 ≤ k → k ≤ 16 → t.2.1 k = s.2.1 k
theorem oK.fr {c : Nat} {u0 u3 u5 u0' u3' u5' s t : lm_St} {n : Nat} (h : oK c u0 u3 u5 s n) (e0 : u0' = u0) (e3 : u3' = u3) (e5 : u5' = u5) (h2 : t.1 2 = s.1 2) (h6 : t.1 6 = s.1 6) (h8 : t.1 8 = s.1 8) (h11 : t.1 11 = s.1 11) (q : mQ s t) : oK (c + 1) u0' u3' u5' t n := by
  obtain ⟨hr, sal, a1, a2, a3, a4, a5, a6, a7⟩ := h
  subst e0 e3 e5
  refine ⟨hr, sal, by omega, a2, a3, h6.trans a4, a5, h8.trans a6, ?_⟩
  rcases a7 with ⟨b1, b2⟩ | ⟨b1, b2, b3, b4⟩
  · exact Or.inl ⟨b1, by rw [h11]; exact b2⟩
  · refine Or.inr ⟨b1, h11.trans b2, b3.fr rfl h2 (q.1 12 (by decide) (by decide)) (q.1 13 (by decide) (by decide)) (q.1 14 (by decide) (by decide)) (fun k k1 k2 => ?_), b4.fr rfl rfl rfl rfl (q.1 15 (by decide) (by decide)) (q.2 16 (by decide) (by decide))⟩
    show (if k = 10 then t.2.1 16 else t.2.1 (k + 10)) = (if k = 10 then s.2.1 16 else s.2.1 (k + 10))
    rw [if_neg (by omega), if_neg (by omega)]
    exact q.2 (k + 10) (by omega) (by omega)
theorem mF.q {s t : lm_St} (f : mF s t) : mQ s t := ⟨fun k a b => f.1 k (by omega) (by omega) (by omega), fun k a b => f.2.1 k (by omega) (by omega) (by omega) (by omega)⟩
theorem mF.oP {u u' s t : lm_St} (f : mF s t) (h : oP u s) (e : u' = u) : oP u' t := h.fr e (f.1 0 (by decide) (by decide) (by decide)) (f.2.1 0 (by decide) (by decide) (by decide) (by decide))
theorem mF.oS {u u' s t : lm_St} (f : mF s t) (h : oS u s) (e : u' = u) : oS u' t := by
  subst e
  exact h.fr rfl rfl rfl rfl (f.1 9 (by decide) (by decide) (by decide)) (f.2.1 10 (by decide) (by decide) (by decide) (by decide))
theorem mF.oX {u u' s t : lm_St} {n b db dy tc : Nat} {kd wo lo si : Nat → Nat} (f : mF s t) (h : oX u s n b db dy tc kd wo lo si) (e : u' = u) : oX u' t n b db dy tc kd wo lo si := h.fr e (f.1 2 (by decide) (by decide) (by decide)) (f.1 3 (by decide) (by decide) (by decide)) (f.1 4 (by decide) (by decide) (by decide)) (f.1 5 (by decide) (by decide) (by decide)) (fun k a b => f.2.1 k (by omega) (by omega) (by omega) (by omega))
theorem mF.oH {u u' s t : lm_St} {n : Nat} (f : mF s t) (h : oH u s n) (e : u' = u) : oH u' t n := by
  obtain ⟨b, db, dy, tc, kd, wo, lo, si, h⟩ := h
  exact ⟨b, db, dy, tc, kd, wo, lo, si, f.oX h e⟩
theorem mF.oK {c : Nat} {u0 u3 u5 u0' u3' u5' s t : lm_St} {n : Nat} (f : mF s t) (h : oK c u0 u3 u5 s n) (e0 : u0' = u0) (e3 : u3' = u3) (e5 : u5' = u5) : oK (c + 1) u0' u3' u5' t n := h.fr e0 e3 e5 (f.1 2 (by decide) (by decide) (by decide)) (f.1 6 (by decide) (by decide) (by decide)) (f.1 8 (by decide) (by decide) (by decide)) (f.1 11 (by decide) (by decide) (by decide)) f.q
theorem mF.rel {c : Nat} {g g' : Nat → lm_St} {s t : lm_St} (f : mF s t) (h : Rel c g s) (e0 : g' 0 = g 0) (e1 : g' 1 = g 1) (e2 : g' 2 = g 2) (e3 : g' 3 = g 3) (e4 : g' 4 = g 4) (e5 : g' 5 = g 5) : Rel (c + 1) g' t := by
  obtain ⟨h1, h2, n, h3, h4⟩ := h
  exact ⟨f.oP h1 e1, f.oS h2 e4, n, f.oH h3 e2, f.oK h4 e0 e3 e5⟩
/-- one call, both sides -/
def oSim (c : Nat) (f : Option (Int32 × (Nat → lm_St))) (m : Option (Int32 × lm_St)) : Prop := ∃ r g' t, f = some (r, g') ∧ m = some (r, t) ∧ Rel (c + 1) g' t
theorem pR {lo hi hi1 : Int32} {lo' hi' : Int64} (a b : Nat) (e1 : lo = nI a) (e2 : hi = nI b) (e3 : hi1 = nI (b + 1)) (e4 : lo' = lN a) (e5 : hi' = lN b) (hab : a ≤ b) (hb : b < 1000) (x : Int32) : (x < lo ∧ fX9_in x.toInt64 lo' hi' = some 0) ∨ (¬ x < lo ∧ hi < x ∧ ¬ x ≤ hi ∧ hi1 ≤ x ∧ ¬ x < hi1 ∧ fX9_in x.toInt64 lo' hi' = some 0) ∨ (∃ j, a ≤ j ∧ j ≤ b ∧ x = nI j ∧ ¬ x < lo ∧ ¬ hi < x ∧ x ≤ hi ∧ ¬ hi1 ≤ x ∧ x < hi1 ∧ fX9_in x.toInt64 lo' hi' = some 1) := by
  subst e1 e2 e3 e4 e5
  have t1 := nI_toInt (n := a) (by omega)
  have t2 := nI_toInt (n := b) (by omega)
  have t3 := nI_toInt (n := b + 1) (by omega)
  have l1 := lN_toInt (n := a) (by omega)
  have l2 := lN_toInt (n := b) (by omega)
  have tx : x.toInt64.toInt = x.toInt := Int32.toInt_toInt64 x
  unfold fX9_in lg_cmp
  by_cases c1 : x < nI a
  · refine Or.inl ⟨c1, ?_⟩
    rw [Int32.lt_iff_toInt_lt] at c1
    rw [if_neg (show ¬ x.toInt64 > lN a from fun z => by
      have z' : lN a < x.toInt64 := z
      rw [Int64.lt_iff_toInt_lt] at z'; omega), if_neg (show ¬ x.toInt64 = lN a from fun z => by rw [z] at tx; omega), if_pos (by decide)]
    rfl
  · have c1' := c1
    rw [Int32.lt_iff_toInt_lt] at c1'
    have hge : ¬ (if x.toInt64 > lN a then (1 : Int32) else if x.toInt64 = lN a then 0 else -1) < 0 := by
      by_cases d : x.toInt64 > lN a
      · rw [if_pos d]; decide
      · rw [if_neg d]
        have d' : ¬ lN a < x.toInt64 := d
        rw [Int64.lt_iff_toInt_lt] at d'
        rw [if_pos (Int64.toInt_inj.mp (by omega))]; decide
    rw [if_neg hge]
    by_cases c2 : nI b < x
    · refine Or.inr (Or.inl ⟨c1, c2, ?_, ?_, ?_, ?_⟩)
      all_goals rw [Int32.lt_iff_toInt_lt] at c2
      · rw [Int32.le_iff_toInt_le]; omega
      · rw [Int32.le_iff_toInt_le]; omega
      · rw [Int32.lt_iff_toInt_lt]; omega
      · rw [if_pos (show x.toInt64 > lN b from by
          show lN b < x.toInt64
          rw [Int64.lt_iff_toInt_lt]; omega), if_pos (by decide)]
        rfl
    · have c2' := c2
      rw [Int32.lt_iff_toInt_lt] at c2'
      have hj : x = nI x.toInt.toNat := Int32.toInt_inj.mp (by rw [nI_toInt (by omega)]; omega)
      refine Or.inr (Or.inr ⟨x.toInt.toNat, by omega, by omega, hj, c1, c2, ?_, ?_, ?_, ?_⟩)
      · rw [Int32.le_iff_toInt_le]; omega
      · rw [Int32.le_iff_toInt_le]; omega
      · rw [Int32.lt_iff_toInt_lt]; omega
      · rw [if_neg (show ¬ x.toInt64 > lN b from fun z => by
          have z' : lN b < x.toInt64 := z
          rw [Int64.lt_iff_toInt_lt] at z'; omega)]
        by_cases d : x.toInt64 = lN b
        · rw [if_pos d, if_neg (by decide)]; rfl
        · rw [if_neg d, if_neg (by decide)]; rfl
theorem oThing {u s : lm_St} {n : Nat} (hu : u.1 0 = nI n) (hs : s.1 2 = nI n) (hn : n ≤ 7) (x : Int32) : (fX3_has u x = some (0, u) ∧ fX9_isThing s x = some (0, s)) ∨ ∃ k, k < n ∧ x = nI k ∧ fX3_has u x = some (1, u) ∧ fX9_isThing s x = some (1, s) := by
  unfold fX3_has fX9_isThing
  rw [hu, hs]
  rcases Nat.eq_zero_or_pos n with c | c
  · subst c
    refine Or.inl ⟨?_, ?_⟩
    · by_cases d : x < 0
      · rw [if_pos d]; rfl
      · rw [if_neg d, if_pos (show nI 0 ≤ x by
          rw [Int32.lt_iff_toInt_lt] at d
          rw [Int32.le_iff_toInt_le, nI_toInt (by decide)]
          have : (0 : Int32).toInt = 0 := rfl
          omega)]; rfl
    · have tx : x.toInt64.toInt = x.toInt := Int32.toInt_toInt64 x
      have l0 : (0 : Int64).toInt = 0 := rfl
      have l1 : ((nI 0 - 1 : Int32).toInt64).toInt = -1 := by decide
      unfold fX9_in lg_cmp
      by_cases d : (if x.toInt64 > 0 then (1 : Int32) else if x.toInt64 = 0 then 0 else -1) < 0
      · rw [if_pos d]; rfl
      · rw [if_neg d]
        have d2 : x.toInt64 > (nI 0 - 1).toInt64 := by
          show (nI 0 - 1).toInt64 < x.toInt64
          rw [Int64.lt_iff_toInt_lt, l1]
          by_cases e1 : x.toInt64 > 0
          · have e1' : (0 : Int64) < x.toInt64 := e1
            rw [Int64.lt_iff_toInt_lt] at e1'; omega
          · rw [if_neg e1] at d
            by_cases e2 : x.toInt64 = 0
            · rw [e2]; decide
            · rw [if_neg e2] at d; exact absurd (by decide) d
        rw [if_pos d2, if_pos (by decide)]; rfl
  · have e : (nI n - 1).toInt64 = lN (n - 1) := by
      rw [show (1 : Int32) = nI 1 from rfl, pk_sub c, nI_l (by omega)]
    rcases pR (lo := 0) (hi := nI (n - 1)) (hi1 := nI n) (lo' := 0) (hi' := lN (n - 1)) 0 (n - 1) rfl rfl (by rw [show n - 1 + 1 = n by omega]) rfl rfl (by omega) (by omega) x with ⟨h1, h2⟩ | ⟨h1, h2, h3, h4, h5, h6⟩ | ⟨j, h1, h2, h3, h4, h5, h6, h7, h8, h9⟩
    · exact Or.inl ⟨by rw [if_pos h1]; rfl, by rw [e, h2]; rfl⟩
    · exact Or.inl ⟨by rw [if_neg h1, if_pos h4]; rfl, by rw [e, h6]; rfl⟩
    · exact Or.inr ⟨j, by omega, h3, by rw [if_neg h4, if_neg h7]; rfl, by rw [e, h9]; rfl⟩
theorem oNone {u s : lm_St} {n : Nat} (hu : u.1 0 = nI n) (hs : s.1 2 = nI n) (hn : n ≤ 7) : (n = 0 ∧ fX3_isNone u = some (1, u) ∧ fX9_lacks s = some (1, s)) ∨ (0 < n ∧ fX3_isNone u = some (0, u) ∧ fX9_lacks s = some (0, s)) := by
  unfold fX3_isNone fX9_lacks
  rw [hu, hs]
  rcases Nat.eq_zero_or_pos n with c | c
  · subst c
    exact Or.inl ⟨rfl, rfl, rfl⟩
  · exact Or.inr ⟨c, by rw [if_neg (nI_ne0 c (by omega))]; rfl, by rw [if_neg (nI_ne0 c (by omega))]; rfl⟩
