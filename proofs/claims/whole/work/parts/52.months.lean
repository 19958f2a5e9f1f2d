/-! MONTHS, the reference. -/
theorem fr_touch {s t : lm_St} {x : Int32} (h : fX9_touchThen s x = some t) : t.1 = s.1 := by
  unfold fX9_touchThen at h
  obtain ⟨_, h⟩ := lm_gIe h
  obtain ⟨_, h⟩ := lm_gIe h
  have key : ∀ a b c : Int32, jX9_touchThen_23 x a b c s = some t → t.1 = s.1 := by
    intro a b c h
    unfold jX9_touchThen_23 at h
    obtain ⟨_, h⟩ := lm_gIe h
    obtain ⟨_, h⟩ := lm_gIe h
    cases h
    rfl
  split at h
  · exact key _ _ _ h
  · exact key _ _ _ h
theorem fr_day {s t : lm_St} (h : fX9_dayThen s = some t) : t.1 = s.1 := by
  have key : ∀ (fuel : Nat) (x : Int32) (u t : lm_St), lm_lp (fun k a => bX9_dayThen_2 k a.1 a.2) fuel (x, u) = some t → t.1 = u.1 := by
    intro fuel
    induction fuel with
    | zero => intro x u t h; exact (lm_lpz h).elim
    | succ f ih =>
      intro x u t h
      have h : bX9_dayThen_2 (lm_lp (fun k a => bX9_dayThen_2 k a.1 a.2) f) x u = some t := lm_lps h
      generalize lm_lp (fun k a => bX9_dayThen_2 k a.1 a.2) f = K at h ih
      have k42 : ∀ a b c : Int32, jX9_dayThen_42 K x a b c u = some t → t.1 = u.1 := by
        intro a b c h
        unfold jX9_dayThen_42 at h
        obtain ⟨_, h⟩ := lm_gIe h
        have q := ih _ _ _ h
        exact q
      unfold bX9_dayThen_2 jX9_dayThen_41 at h
      split at h
      · cases h; rfl
      · obtain ⟨_, h⟩ := lm_gIe h
        obtain ⟨_, h⟩ := lm_gIe h
        split at h
        · obtain ⟨_, h⟩ := lm_gIe h
          split at h
          · exact k42 _ _ _ h
          · exact k42 _ _ _ h
        · exact k42 _ _ _ h
  exact key 5000 0 s t h
theorem fr_take {s t : lm_St} {r : Int32} {n b db : Nat} {kd wo lo v : Nat → Nat} (hV : mV s n b db kd wo lo v) (w : pW n b db kd wo lo) (h : fX9_takeThen s = some (r, t)) : t.1 10 = s.1 10 ∧ t.1 4 = s.1 4 := by
  unfold fX9_takeThen at h
  rw [hV.next w] at h
  simp only [Option.bind_some, lm_un2] at h
  split at h
  · cases h; exact ⟨rfl, rfl⟩
  · obtain ⟨_, h⟩ := lm_gIe h
    obtain ⟨_, h⟩ := lm_gIe h
    unfold jX9_takeThen_48 at h
    split at h
    · obtain ⟨_, h⟩ := lm_gIe h
      cases h; exact ⟨rfl, rfl⟩
    · obtain ⟨_, h⟩ := lm_gIe h
      obtain ⟨_, h⟩ := lm_gIe h
      cases h; exact ⟨rfl, rfl⟩
theorem fr_begin {s t : lm_St} (h : fX9_begin s = some t) : t.1 10 = s.1 10 := by
  unfold fX9_begin at h
  obtain ⟨w1, _, h⟩ := lm_bd h
  obtain ⟨w2, _, h⟩ := lm_bd h
  obtain ⟨w3, _, h⟩ := lm_bd h
  cases h
  rfl
/-- the reference's month -/
def mC (s t : lm_St) (n : Nat) (kd wo : Nat → Nat) (q : pMs) : Prop := mF s t ∧ t.1 10 = nI q.2.2.2.2.1 ∧ mV t n q.1 q.2.1 kd wo q.2.2.1 q.2.2.2.1
theorem pm_five {dy g : Nat} (h : dy + g < 100000) : ((nI dy + nI (g + 1)) - (nI dy + nI (g + 1)) / (5 : Int32) * (5 : Int32)) = nI ((dy + g + 1) % 5) := by
  rw [nI_add, show (5 : Int32) = nI 5 from rfl, pk_rem (by omega) (by decide) (by decide), ← Nat.add_assoc]
theorem pm_monthEnd {s u : lm_St} {n g b db sd sum dy : Nat} {kd wo lo v : Nat → Nat} (h : mC s u n kd wo (b, db, lo, v, sd, sum)) (w : pW n b db kd wo lo) (hgl : g < 100) (h4 : s.1 4 = nI dy) (hdy : dy < 2000) (x1 x3 : Int32) : ∃ t, (∀ k : Int32 × Int32 × Int32 × Int32 × lm_St → Option (Int32 × lm_St), jX9_months_99 k x1 x3 (nI sum) (nI (g + 1)) u = k (x1, x3, nI (pMt n kd wo (decide ((dy + g + 1) % 5 = 0)) b db lo v sd sum).2.2.2.2.2, nI (g + 1 + 1), t)) ∧ mC s t n kd wo (pMt n kd wo (decide ((dy + g + 1) % 5 = 0)) b db lo v sd sum) := by
  obtain ⟨c1, c2, c3⟩ := h
  dsimp only at c2 c3
  have hn := w.1
  obtain ⟨t1, p1, p2, p3⟩ := c3.day hn
  have f1 := fr_day p1
  have e4 : t1.1 4 = nI dy := by rw [(p2.1 4 (by decide) (by decide) (by decide)), (c1.1 4 (by decide) (by decide) (by decide)), h4]
  have e10 : t1.1 10 = nI sd := by rw [f1, c2]
  unfold pMt
  by_cases c : (dy + g + 1) % 5 = 0
  · rw [decide_eq_true c, if_pos rfl]
    rcases p3.take w with ⟨q1, q2⟩ | ⟨j, q1, q2, q3, t2, q4, q5, q6⟩
    · rw [q1]
      refine ⟨t1, fun k => ?_, c1.tr p2, e10, p3⟩
      unfold jX9_months_99 jX9_months_125
      rw [p1]
      simp only [Option.bind_some]
      rw [e4, pm_five (by omega), c, if_pos (by rfl), q2]
      simp only [Option.bind_some, lm_un2]
      rw [Int32.add_zero, nI_1]
    · rw [q1]
      have f2 := fr_take p3 w q4
      refine ⟨t2, fun k => ?_, (c1.tr p2).tr q5, by rw [f2.1]; exact e10, q6⟩
      unfold jX9_months_99 jX9_months_125
      rw [p1]
      simp only [Option.bind_some]
      rw [e4, pm_five (by omega), c, if_pos (by rfl), q4]
      simp only [Option.bind_some, lm_un2]
      rw [nI_add, nI_1]
  · rw [decide_eq_false c, if_neg (by decide)]
    refine ⟨t1, fun k => ?_, c1.tr p2, e10, p3⟩
    unfold jX9_months_99 jX9_months_125
    rw [p1]
    simp only [Option.bind_some]
    rw [e4, pm_five (by omega), if_neg (nI_ne0 (by omega) (by omega)), Int32.add_zero, nI_1]
theorem pm_months {s : lm_St} {n b db dy sd m : Nat} {kd wo lo si : Nat → Nat} (h : mH s n b db kd wo lo si) (w : pW n b db kd wo lo) (hs : ∀ i, i < n → si i ≤ 20) (h4 : s.1 4 = nI dy) (hdy : dy < 2000) (hsd : sd < 2147483648) (hm : m ≤ 60) (x3 : Int32) : ∃ t, ((fX9_begin (lm_sF s 10 (nI sd))).bind (fun t19_0 => lm_lp (fun k a => bX9_months_56 k a.1 a.2.1 a.2.2.1 a.2.2.2.1 a.2.2.2.2) 5000 (nI m, x3, (0 : Int32), (1 : Int32), t19_0))) = some (if x3 = 0 then nI (pMo n kd wo dy (b, db, lo, si, sd, 0) m).2.2.2.2.2 else if x3 = 1 then nI (pMo n kd wo dy (b, db, lo, si, sd, 0) m).2.1 else nI (pMo n kd wo dy (b, db, lo, si, sd, 0) m).2.2.2.2.1, t) ∧ mF s t := by
  have hn := w.1
  have hF0 := mF.sF s (k := 10) (nI sd) (Or.inr (Or.inr rfl))
  obtain ⟨u, q1, q2, q3⟩ := pm_begin hn (h.mF hF0)
  have e10 := fr_begin q1
  have hall := pS_all w (fun i => !b.testBit i)
  have hG := pMo_g (n := n) (kd := kd) (wo := wo) (dy := dy) (q0 := (b, db, lo, si, sd, 0)) ⟨w, hs, hsd, by show 0 + pS wo (fun i => !b.testBit i) n ≤ 63; omega⟩
  rw [q1]
  simp only [Option.bind_some]
  refine pl_inv0 (P := fun o => ∃ t : lm_St, o = some (if x3 = 0 then nI (pMo n kd wo dy (b, db, lo, si, sd, 0) m).2.2.2.2.2 else if x3 = 1 then nI (pMo n kd wo dy (b, db, lo, si, sd, 0) m).2.1 else nI (pMo n kd wo dy (b, db, lo, si, sd, 0) m).2.2.2.2.1, t) ∧ mF s t) (fun (g : Nat) (a : Int32 × Int32 × Int32 × Int32 × lm_St) => a.1 = nI m ∧ a.2.1 = x3 ∧ a.2.2.1 = nI (pMo n kd wo dy (b, db, lo, si, sd, 0) g).2.2.2.2.2 ∧ a.2.2.2.1 = nI (g + 1) ∧ mC s a.2.2.2.2 n kd wo (pMo n kd wo dy (b, db, lo, si, sd, 0) g)) m ⟨rfl, rfl, rfl, rfl, hF0.tr q2, e10, mH.mV (s := s) q3 hs⟩ ?_ ?_ (by omega)
  · intro g a hg ha
    obtain ⟨x1, y3, x4, x5, u1⟩ := a
    obtain ⟨rfl, e3, e4, rfl, gC⟩ := ha
    dsimp only at e3 e4 gC
    subst e3
    subst e4
    have hGg := hG g
    show ∃ a', (∀ k : Int32 × Int32 × Int32 × Int32 × lm_St → Option (Int32 × lm_St), bX9_months_56 k (nI m) y3 (nI (pMo n kd wo dy (b, db, lo, si, sd, 0) g).2.2.2.2.2) (nI (g + 1)) u1 = k a') ∧ a'.1 = nI m ∧ a'.2.1 = y3 ∧ a'.2.2.1 = nI (pMd n kd wo dy g (pMo n kd wo dy (b, db, lo, si, sd, 0) g)).2.2.2.2.2 ∧ a'.2.2.2.1 = nI (g + 1 + 1) ∧ mC s a'.2.2.2.2 n kd wo (pMd n kd wo dy g (pMo n kd wo dy (b, db, lo, si, sd, 0) g))
    generalize pMo n kd wo dy (b, db, lo, si, sd, 0) g = q at gC hGg
    obtain ⟨b1, db1, lo1, v1, sd1, sum1⟩ := q
    obtain ⟨c1, c2, c3⟩ := gC
    obtain ⟨w1, hv1, hsd1, hsum1⟩ := hGg
    dsimp only at c1 c2 c3 w1 hv1 hsd1 hsum1 ⊢
    have hk : pSd sd1 / 65536 % (n + 1) < n + 1 := Nat.mod_lt _ (by omega)
    have hdr := pm_draw (s := u1) (n := n) c2 hsd1 hn
    obtain ⟨si1, hT, hsi, hsv⟩ := id c3
    have hu2 : mC s (lm_sF u1 10 (nI (pSd sd1))) n kd wo (b1, db1, lo1, v1, pSd sd1, sum1) := ⟨c1.tr (mF.sF u1 _ (Or.inr (Or.inr rfl))), rfl, si1, hT, hsi, hsv⟩
    unfold pMd
    dsimp only
    generalize hkk : pSd sd1 / 65536 % (n + 1) = kk at hk hdr
    by_cases c : kk < n ∧ b1.testBit kk = false
    · rw [if_pos c]
      obtain ⟨t9, p1, p2, p3⟩ := hu2.2.2.touch w1 c.1
      have f9 := fr_touch p1
      obtain ⟨t, z1, z2⟩ := pm_monthEnd (g := g) (sd := pSd sd1) (sum := sum1) (s := s) (u := t9) ⟨hu2.1.tr p2, by rw [f9]; rfl, p3⟩ (w1.touch kk) (by omega) h4 hdy (nI m) y3
      refine ⟨(nI m, y3, _, nI (g + 1 + 1), t), fun k => ?_, rfl, rfl, rfl, rfl, z2⟩
      unfold bX9_months_56
      rw [if_neg (nI_nlt (by omega) (by omega)), hT.1, nI_1 n, hdr]
      simp only [Option.bind_some, lm_un2]
      rw [show (lm_sF u1 10 (nI (pSd sd1))).1 2 = nI n from hT.1, if_neg (nI_ge c.1 (by omega)), pg_I (by omega) (by decide), nI_clamp (by omega), show (lm_sF u1 10 (nI (pSd sd1))).2.1 8 kk = (if b1.testBit kk then 1 else 0) from (hT.2.2 kk c.1).2.2.2.2, c.2, if_pos (by rfl), p1]
      exact z1 k
    · rw [if_neg c]
      obtain ⟨t, z1, z2⟩ := pm_monthEnd (g := g) (sd := pSd sd1) (sum := sum1) (s := s) hu2 w1 (by omega) h4 hdy (nI m) y3
      refine ⟨(nI m, y3, _, nI (g + 1 + 1), t), fun k => ?_, rfl, rfl, rfl, rfl, z2⟩
      unfold bX9_months_56
      rw [if_neg (nI_nlt (by omega) (by omega)), hT.1, nI_1 n, hdr]
      simp only [Option.bind_some, lm_un2]
      rw [show (lm_sF u1 10 (nI (pSd sd1))).1 2 = nI n from hT.1]
      by_cases d : kk < n
      · have hb : b1.testBit kk = true := by
          cases hq : b1.testBit kk with
          | true => rfl
          | false => exact absurd ⟨d, hq⟩ c
        rw [if_neg (nI_ge d (by omega)), pg_I (by omega) (by decide), nI_clamp (by omega), show (lm_sF u1 10 (nI (pSd sd1))).2.1 8 kk = (if b1.testBit kk then 1 else 0) from (hT.2.2 kk d).2.2.2.2, hb, if_neg (by decide)]
        exact z1 k
      · rw [if_pos (nI_le (by omega) (by omega))]
        exact z1 k
  · intro a ha
    obtain ⟨x1, y3, x4, x5, u1⟩ := a
    obtain ⟨rfl, e3, e4, rfl, gC⟩ := ha
    dsimp only at e3 e4 gC
    subst e3
    subst e4
    refine ⟨_, fun k => ?_, u1, rfl, gC.1⟩
    show bX9_months_56 k (nI m) y3 _ (nI (m + 1)) u1 = _
    unfold bX9_months_56
    obtain ⟨si1, hT, _⟩ := gC.2.2
    rw [if_pos ((nI_ltI (by omega) (by omega)).mpr (by omega)), gC.2.1, hT.2.1]
    by_cases d1 : y3 = 0
    · rw [if_pos d1, if_pos d1]
    · rw [if_neg d1, if_neg d1]
      by_cases d2 : y3 = 1
      · rw [if_pos d2, if_pos d2]
      · rw [if_neg d2, if_neg d2]
