/-! SIEGE, the reference's rows: the same plain search. -/
def pRw (n : Nat) (kd wo : Nat → Nat) : Nat → Nat → Nat → (Nat → Nat) → (Nat → Nat) → Nat → Nat → Option (Nat × Nat)
  | 0, b, _, lo, v, lost, _ => some (lost, pLf n kd b lo v)
  | r + 1, b, db, lo, v, lost, row => if row / 8 ^ r % 8 = 7 then pGo n kd wo (fun b1 db1 lo1 v1 lost1 => pRw n kd wo r b1 db1 lo1 v1 lost1 row) b db lo v lost else if n ≤ row / 8 ^ r % 8 ∨ b.testBit (row / 8 ^ r % 8) = true then none else pGo n kd wo (fun b1 db1 lo1 v1 lost1 => pRw n kd wo r b1 db1 lo1 v1 lost1 row) b db (pTl lo (row / 8 ^ r % 8)) (pTs v (row / 8 ^ r % 8)) lost
def pUp (a : pAc) (o : Option (Nat × Nat)) (code : Nat) : pAc := match o with
  | none => a
  | some (L, M) => pBt a L M code
theorem pFd_add {α : Type} (f : Nat → α → α) (m : Nat) : ∀ (k : Nat) (a : α), pFd f (m + k) a = pFd (fun i => f (m + i)) k (pFd f m a) := by
  intro k
  induction k with
  | zero => intro a; rfl
  | succ k ih => intro a; show f (m + k) (pFd f (m + k) a) = f (m + k) _; rw [ih]
theorem pFd_blocks {α : Type} (f : Nat → α → α) (M : Nat) : ∀ (t : Nat) (a : α), pFd f (t * M) a = pFd (fun t a => pFd (fun i => f (t * M + i)) M a) t a := by
  intro t
  induction t with
  | zero => intro a; rw [Nat.zero_mul]; rfl
  | succ t ih => intro a; rw [Nat.succ_mul, pFd_add, ih]; rfl
theorem pFd_more {α : Type} {f : Nat → α → α} {n : Nat} : ∀ {m : Nat} (a : α), n ≤ m → (∀ k, n ≤ k → k < m → ∀ a, f k a = a) → pFd f m a = pFd f n a := by
  intro m
  induction m with
  | zero => intro a h _; rw [show n = 0 by omega]
  | succ m ih =>
    intro a h hk
    by_cases e : n = m + 1
    · rw [e]
    · show f m (pFd f m a) = _
      rw [hk m (by omega) (by omega), ih a (by omega) (fun k h1 h2 => hk k h1 (by omega))]
theorem pFd_congr {α : Type} {f g : Nat → α → α} : ∀ {n : Nat} (a : α), (∀ k, k < n → ∀ a, f k a = g k a) → pFd f n a = pFd g n a := by
  intro n
  induction n with
  | zero => intro a _; rfl
  | succ n ih => intro a h; show f n (pFd f n a) = g n (pFd g n a); rw [ih a (fun k hk => h k (by omega)), h n (by omega)]
theorem pRw_mod {n : Nat} {kd wo : Nat → Nat} : ∀ (r b db : Nat) (lo v : Nat → Nat) (lost t i : Nat), pRw n kd wo r b db lo v lost (t * 8 ^ r + i) = pRw n kd wo r b db lo v lost i := by
  intro r
  induction r with
  | zero => intros; rfl
  | succ r ih =>
    intro b db lo v lost t i
    have hp : 0 < 8 ^ r := Nat.pow_pos (by decide)
    have e0 : t * 8 ^ (r + 1) = (8 * t) * 8 ^ r := by rw [Nat.pow_succ, Nat.mul_comm (8 ^ r) 8, ← Nat.mul_assoc, Nat.mul_comm t 8]
    have e1 : (t * 8 ^ (r + 1) + i) / 8 ^ r % 8 = i / 8 ^ r % 8 := by
      rw [e0, Nat.mul_comm (8 * t), Nat.mul_add_div hp]
      omega
    have e2 : ∀ (b db : Nat) (lo v : Nat → Nat) (lost : Nat), pRw n kd wo r b db lo v lost (t * 8 ^ (r + 1) + i) = pRw n kd wo r b db lo v lost i := by
      intro b db lo v lost
      rw [e0, ih]
    unfold pRw
    rw [e1]
    simp only [e2]
theorem pSr_rows {n : Nat} {kd wo : Nat → Nat} (hn : n ≤ 7) : ∀ (r b db : Nat) (lo v : Nat → Nat) (lost code : Nat) (acc : pAc), pSr n kd wo r b db lo v lost code acc = pFd (fun row a => pUp a (pRw n kd wo r b db lo v lost row) (code * 8 ^ r + row)) (8 ^ r) acc := by
  intro r
  induction r with
  | zero =>
    intro b db lo v lost code acc
    show pBt acc lost (pLf n kd b lo v) code = pBt acc lost (pLf n kd b lo v) (code * 1 + 0)
    rw [Nat.mul_one, Nat.add_zero]
  | succ r ih =>
    intro b db lo v lost code acc
    have hp : 0 < 8 ^ r := Nat.pow_pos (by decide)
    rw [show 8 ^ (r + 1) = 8 * 8 ^ r by rw [Nat.pow_succ, Nat.mul_comm], pFd_blocks]
    -- a digit's block
    have dig : ∀ t i, t < 8 → i < 8 ^ r → (t * 8 ^ r + i) / 8 ^ r % 8 = t := fun t i ht hi => by
      rw [Nat.mul_comm t, Nat.mul_add_div hp, Nat.div_eq_of_lt hi]
      omega
    have blk : ∀ (t : Nat) (lo v : Nat → Nat) (a : pAc), pFd (fun i a => pUp a (pGo n kd wo (fun b1 db1 lo1 v1 lost1 => pRw n kd wo r b1 db1 lo1 v1 lost1 (t * 8 ^ r + i)) b db lo v lost) (code * (8 * 8 ^ r) + (t * 8 ^ r + i))) (8 ^ r) a = pGo n kd wo (fun b1 db1 lo1 v1 lost1 => pSr n kd wo r b1 db1 lo1 v1 lost1 (8 * code + t) a) b db lo v lost := by
      intro t lo v a
      have ec : ∀ i, code * (8 * 8 ^ r) + (t * 8 ^ r + i) = (8 * code + t) * 8 ^ r + i := fun i => by
        rw [Nat.add_mul, ← Nat.mul_assoc, Nat.mul_comm code 8]
        omega
      unfold pGo
      cases pNx n kd b db lo v with
      | none =>
        dsimp only
        rw [ih]
        exact pFd_congr a (fun k _ a => by rw [ec, pRw_mod])
      | some j =>
        dsimp only
        rw [ih]
        exact pFd_congr a (fun k _ a => by rw [ec, pRw_mod])
    have hG : ∀ t, t < 8 → ∀ a : pAc, pFd (fun i a => pUp a (pRw n kd wo (r + 1) b db lo v lost (t * 8 ^ r + i)) (code * (8 * 8 ^ r) + (t * 8 ^ r + i))) (8 ^ r) a = if t = 7 then pGo n kd wo (fun b1 db1 lo1 v1 lost1 => pSr n kd wo r b1 db1 lo1 v1 lost1 (8 * code + 7) a) b db lo v lost else if n ≤ t ∨ b.testBit t = true then a else pGo n kd wo (fun b1 db1 lo1 v1 lost1 => pSr n kd wo r b1 db1 lo1 v1 lost1 (8 * code + t) a) b db (pTl lo t) (pTs v t) lost := by
      intro t ht a
      by_cases c1 : t = 7
      · rw [if_pos c1, ← blk 7 lo v a]
        subst c1
        exact pFd_congr a (fun i hi a => by
          rw [show pRw n kd wo (r + 1) b db lo v lost (7 * 8 ^ r + i) = pGo n kd wo (fun b1 db1 lo1 v1 lost1 => pRw n kd wo r b1 db1 lo1 v1 lost1 (7 * 8 ^ r + i)) b db lo v lost by
            rw [pRw, dig 7 i (by decide) hi, if_pos rfl]])
      · rw [if_neg c1]
        by_cases c2 : n ≤ t ∨ b.testBit t = true
        · rw [if_pos c2]
          exact pFd_id (fun i hi => by
            rw [show pRw n kd wo (r + 1) b db lo v lost (t * 8 ^ r + i) = none by rw [pRw, dig t i ht hi, if_neg c1, if_pos c2]]
            rfl)
        · rw [if_neg c2, ← blk t (pTl lo t) (pTs v t) a]
          exact pFd_congr a (fun i hi a => by
            rw [show pRw n kd wo (r + 1) b db lo v lost (t * 8 ^ r + i) = pGo n kd wo (fun b1 db1 lo1 v1 lost1 => pRw n kd wo r b1 db1 lo1 v1 lost1 (t * 8 ^ r + i)) b db (pTl lo t) (pTs v t) lost by
              rw [pRw, dig t i ht hi, if_neg c1, if_neg c2]])
    obtain ⟨GG, hGG⟩ : ∃ GG : Nat → pAc → pAc, GG = (fun t a => pFd (fun i a => pUp a (pRw n kd wo (r + 1) b db lo v lost (t * 8 ^ r + i)) (code * (8 * 8 ^ r) + (t * 8 ^ r + i))) (8 ^ r) a) := ⟨_, rfl⟩
    have hG2 : ∀ t, t < 8 → ∀ a : pAc, GG t a = if t = 7 then pGo n kd wo (fun b1 db1 lo1 v1 lost1 => pSr n kd wo r b1 db1 lo1 v1 lost1 (8 * code + 7) a) b db lo v lost else if n ≤ t ∨ b.testBit t = true then a else pGo n kd wo (fun b1 db1 lo1 v1 lost1 => pSr n kd wo r b1 db1 lo1 v1 lost1 (8 * code + t) a) b db (pTl lo t) (pTs v t) lost := by
      subst hGG
      exact hG
    have main : pSr n kd wo (r + 1) b db lo v lost code acc = pFd GG 8 acc := by
      show _ = GG 7 (pFd GG 7 acc)
      rw [hG2 7 (by decide), if_pos rfl, pFd_more (f := GG) (n := n) acc hn (fun t h1 h2 a => by rw [hG2 t (by omega), if_neg (by omega), if_pos (Or.inl h1)]), pFd_congr (f := GG) (g := fun k a => if b.testBit k then a else pGo n kd wo (fun b1 db1 lo1 v1 lost1 => pSr n kd wo r b1 db1 lo1 v1 lost1 (8 * code + k) a) b db (pTl lo k) (pTs v k) lost) acc (fun t ht a => by
        rw [hG2 t (by omega), if_neg (by omega)]
        by_cases c : b.testBit t = true
        · rw [if_pos (Or.inr c), if_pos c]
        · rw [if_neg (by simp [c]; omega), if_neg c])]
      rfl
    subst hGG
    exact main
theorem pN_congr {mi mi2 : Nat → Nat} {b : Nat} : ∀ {n : Nat}, (∀ i, i < n → b.testBit i = false → mi i = mi2 i) → pN mi b n = pN mi2 b n := by
  intro n
  induction n with
  | zero => intro _; rfl
  | succ i ih =>
    intro h
    have hi := ih (fun j hj => h j (by omega))
    unfold pN
    rw [hi]
    by_cases hb : b.testBit i = true
    · rw [if_pos hb, if_pos hb]
    · rw [if_neg hb, if_neg hb]
      cases hq : pN mi2 b i with
      | none => rfl
      | some q =>
        have hq2 := pN_lt hq
        dsimp only
        rw [h i (by omega) (by simpa using hb), h q (by omega) hq2.2]
/-- the reference's trial by days v that are not held at 20 -/
def mV (s : lm_St) (n b db : Nat) (kd wo lo v : Nat → Nat) : Prop := ∃ si, mT s n b db kd wo lo si ∧ (∀ i, i < n → si i ≤ 20) ∧ ∀ i, i < n → b.testBit i = false → si i = min (v i) 20
theorem mV.touch {s : lm_St} {n b db : Nat} {kd wo lo v : Nat → Nat} (h : mV s n b db kd wo lo v) (w : pW n b db kd wo lo) {k : Nat} (hk : k < n) : ∃ t, fX9_touchThen s (nI k) = some t ∧ mF s t ∧ mV t n b db kd wo (pTl lo k) (pTs v k) := by
  obtain ⟨si, h1, h2, h3⟩ := h
  obtain ⟨t, q1, q2, q3⟩ := pm_touch h1 w hk
  refine ⟨t, q1, q2, pTs si k, q3, fun i hi => ?_, fun i hi hb => ?_⟩
  · unfold pTs
    split
    · omega
    · exact h2 i hi
  · unfold pTs
    split
    · rfl
    · exact h3 i hi hb
theorem mV.day {s : lm_St} {n b db : Nat} {kd wo lo v : Nat → Nat} (h : mV s n b db kd wo lo v) (hn : n ≤ 7) : ∃ t, fX9_dayThen s = some t ∧ mF s t ∧ mV t n b db kd wo lo (fun i => v i + 1) := by
  obtain ⟨si, h1, h2, h3⟩ := h
  obtain ⟨t, q1, q2, q3⟩ := pm_day h1 hn h2
  refine ⟨t, q1, q2, pDs b si, q3, fun i hi => ?_, fun i hi hb => ?_⟩
  · have := h2 i hi
    unfold pDs
    split <;> omega
  · have := h3 i hi hb
    unfold pDs
    rw [hb, if_neg (by decide)]
    show min (si i + 1) 20 = min (v i + 1) 20
    omega
/-- taken, behind a day -/
theorem mV.take {s : lm_St} {n b db : Nat} {kd wo lo v : Nat → Nat} (h : mV s n b db kd wo lo (fun i => v i + 1)) (w : pW n b db kd wo lo) : (pNx n kd b db lo v = none ∧ fX9_takeThen s = some (0, s)) ∨ ∃ j, pNx n kd b db lo v = some j ∧ j < n ∧ b.testBit j = false ∧ ∃ t, fX9_takeThen s = some (nI (wo j), t) ∧ mF s t ∧ mV t n (b ||| 2 ^ j) (db - wo j) kd wo lo (fun i => v i + 1) := by
  obtain ⟨si, h1, h2, h3⟩ := h
  have e : pN (fun i => pM (kd i) (lo i) (si i)) b n = pN (fun i => pM (kd i) (lo i) (min (v i + 1) 20)) b n := pN_congr (fun i hi hb => by show pM (kd i) (lo i) (si i) = _; rw [h3 i hi hb])
  have e2 : (if db = 0 then none else pN (fun i => pM (kd i) (lo i) (si i)) b n) = pNx n kd b db lo v := by rw [e]; rfl
  rcases pm_take h1 w h2 with ⟨q1, q2⟩ | ⟨j, q1, q2, t, q3, q4, q5⟩
  · refine Or.inl ⟨?_, q2⟩
    rw [e2] at q1
    cases hx : pNx n kd b db lo v with
    | none => rfl
    | some j =>
      rw [hx] at q1
      have hj : j < n := by
        unfold pNx at hx
        by_cases hd : db = 0
        · rw [if_pos hd] at hx; cases hx
        · rw [if_neg hd] at hx; exact (pN_lt hx).1
      exact absurd q1 (pE_neg (by have := w.1; omega))
  · have hj := pN_lt q2
    refine Or.inr ⟨j, by rw [← e2, if_neg q1, q2], hj.1, hj.2, t, q3, q4, si, q5, h2, fun i hi hb => h3 i hi ?_⟩
    rw [pb_or] at hb
    cases hc : b.testBit i with
    | true => rw [hc] at hb; cases hb
    | false => rfl
theorem mV.left {s : lm_St} {n b db : Nat} {kd wo lo v : Nat → Nat} (h : mV s n b db kd wo lo v) (w : pW n b db kd wo lo) : fX9_missedLeft s = some (nI (pLf n kd b lo v), s) := by
  obtain ⟨si, h1, h2, h3⟩ := h
  rw [pm_missedLeft h1 w h2]
  congr 3
  exact pS_congr (fun _ _ => rfl) (fun i hi hb => by show pM (kd i) (lo i) (si i) = _; rw [h3 i hi (by simpa using hb)])
theorem pm_figure {row m j : Nat} (hr : row < 2 ^ 31) (hm : m ≤ 4) (hj : j < m) : fX9_figure (nI row) (nI m) (nI j) = some (nI (row / 8 ^ (m - 1 - j) % 8)) := by
  unfold fX9_figure
  rw [show (1 : Int32) = nI 1 from rfl, pk_sub (by omega), pk_sub (by omega), show (3 : Int32) = nI 3 from rfl, pk_mul, pk_shrN hr _ (3 * (m - 1 - j)) (pb_sh _ (by omega)), pk_andN (m := 7) (n := row / 2 ^ (3 * (m - 1 - j))) (Nat.lt_of_le_of_lt (Nat.div_le_self _ _) (by omega)) 3 (by decide), Nat.pow_mul]
/-- a row's worth as the reference tells it -/
def pVl (o : Option (Nat × Nat)) : Int32 := match o with
  | none => -1
  | some (L, M) => nI (1000000 - 1000 * L + M)
theorem pm_siegeLoop {n : Nat} {kd wo : Nat → Nat} {m row : Nat} (hm : m ≤ 4) (hrow : row < 2 ^ 31) : ∀ (r fuel : Nat) (s : lm_St) (b db : Nat) (lo v : Nat → Nat) (lost : Nat), r ≤ m → r < fuel → mV s n b db kd wo lo v → pW n b db kd wo lo → lost + pS wo (fun i => !b.testBit i) n ≤ 63 → ∃ t, lm_lp (fun k a => bX9_siegeBy_10 k a.1 a.2.1 a.2.2.1 a.2.2.2.1 a.2.2.2.2) fuel (nI row, nI m, nI (1000000 - 1000 * lost), nI (m - r), s) = some (pVl (pRw n kd wo r b db lo v lost row), t) ∧ mF s t := by
  intro r
  induction r with
  | zero =>
    intro fuel s b db lo v lost hrm hf h w hl
    obtain ⟨f, rfl⟩ : ∃ f, fuel = f + 1 := ⟨fuel - 1, by omega⟩
    show ∃ t, bX9_siegeBy_10 (lm_lp _ f) (nI row) (nI m) (nI (1000000 - 1000 * lost)) (nI (m - 0)) s = _ ∧ _
    unfold bX9_siegeBy_10
    rw [Nat.sub_zero, if_pos (nI_le (Nat.le_refl m) (by omega)), h.left w]
    refine ⟨s, ?_, mF.rf s⟩
    show some (nI (1000000 - 1000 * lost) + nI (pLf n kd b lo v), s) = _
    rw [nI_add]
    rfl
  | succ r ih =>
    intro fuel s b db lo v lost hrm hf h w hl
    obtain ⟨f, rfl⟩ : ∃ f, fuel = f + 1 := ⟨fuel - 1, by omega⟩
    have hn := w.1
    have em : m - (r + 1) + 1 = m - r := by omega
    have ed : m - 1 - (m - (r + 1)) = r := by omega
    -- a day and the taking, then the loop goes on
    have go : ∀ (u : lm_St) (lo v : Nat → Nat), mF s u → mV u n b db kd wo lo v → pW n b db kd wo lo → ∃ t, jX9_siegeBy_67 (lm_lp (fun k a => bX9_siegeBy_10 k a.1 a.2.1 a.2.2.1 a.2.2.2.1 a.2.2.2.2) f) (nI row) (nI m) (nI (1000000 - 1000 * lost)) (nI (m - (r + 1))) u = some (pVl (pGo n kd wo (fun b1 db1 lo1 v1 lost1 => pRw n kd wo r b1 db1 lo1 v1 lost1 row) b db lo v lost), t) ∧ mF s t := by
      intro u lo v hu hV w
      obtain ⟨t1, p1, p2, p3⟩ := hV.day hn
      unfold jX9_siegeBy_67
      rw [p1]
      simp only [Option.bind_some]
      unfold pGo
      rcases p3.take w with ⟨q1, q2⟩ | ⟨j, q1, q2, q3, t2, q4, q5, q6⟩
      · rw [q1, q2]
        obtain ⟨t, z1, z2⟩ := ih f t1 b db lo (fun i => v i + 1) lost (by omega) (by omega) p3 w hl
        refine ⟨t, ?_, (hu.tr p2).tr z2⟩
        rw [← z1, ← em, ← nI_1]
        show lm_lp _ f (nI row, nI m, nI (1000000 - 1000 * lost) - (1000 : Int32) * 0, nI (m - (r + 1)) + 1, t1) = _
        rw [Int32.mul_zero, Int32.sub_zero]
      · rw [q1, q4]
        have hout := pS_out (f := wo) q2 q3
        obtain ⟨t, z1, z2⟩ := ih f t2 (b ||| 2 ^ j) (db - wo j) lo (fun i => v i + 1) (lost + wo j) (by omega) (by omega) q6 (w.take q2) (by omega)
        refine ⟨t, ?_, ((hu.tr p2).tr q5).tr z2⟩
        rw [← z1, ← em, ← nI_1]
        show lm_lp _ f (nI row, nI m, nI (1000000 - 1000 * lost) - (1000 : Int32) * nI (wo j), nI (m - (r + 1)) + 1, t2) = _
        rw [show (1000 : Int32) = nI 1000 from rfl, pk_mul, pk_sub (by omega), show 1000000 - 1000 * lost - 1000 * wo j = 1000000 - 1000 * (lost + wo j) by omega]
    show ∃ t, bX9_siegeBy_10 (lm_lp (fun k a => bX9_siegeBy_10 k a.1 a.2.1 a.2.2.1 a.2.2.2.1 a.2.2.2.2) f) (nI row) (nI m) (nI (1000000 - 1000 * lost)) (nI (m - (r + 1))) s = _ ∧ _
    generalize lm_lp (fun k a => bX9_siegeBy_10 k a.1 a.2.1 a.2.2.1 a.2.2.2.1 a.2.2.2.2) f = K at go ⊢
    unfold bX9_siegeBy_10 jX9_siegeBy_54
    rw [if_neg (nI_ge (by omega) (by omega)), pm_figure hrow hm (by omega), ed]
    simp only [Option.bind_some]
    have hk8 : row / 8 ^ r % 8 < 8 := Nat.mod_lt _ (by decide)
    unfold pRw
    by_cases c1 : row / 8 ^ r % 8 = 7
    · rw [c1, if_pos (by decide), if_pos (by decide), if_pos rfl]
      exact go s lo v (mF.rf s) h w
    · have c1' : ¬ (7 : Int32) ≤ nI (row / 8 ^ r % 8) := nI_ge (b := 7) (by omega) (by decide)
      rw [if_neg c1', if_neg c1]
      obtain ⟨si, hT, hsi, hsv⟩ := id h
      rw [hT.1]
      by_cases c2 : n ≤ row / 8 ^ r % 8
      · rw [if_pos (nI_le c2 (by omega)), if_pos (Or.inl c2)]
        exact ⟨s, rfl, mF.rf s⟩
      · rw [if_neg (nI_ge (by omega) (by omega)), pg_I (by omega) (by decide), nI_clamp (by omega), (hT.2.2 _ (by omega)).2.2.2.2]
        cases ht : b.testBit (row / 8 ^ r % 8) with
        | true =>
          rw [if_pos (by rfl), if_pos (Or.inr rfl)]
          exact ⟨s, rfl, mF.rf s⟩
        | false =>
          rw [if_neg (by decide), if_neg c1', if_neg (show ¬ (n ≤ row / 8 ^ r % 8 ∨ false = true) by simp; omega)]
          obtain ⟨t4, p1, p2, p3⟩ := h.touch w (k := row / 8 ^ r % 8) (by omega)
          rw [p1]
          exact go t4 _ _ p2 p3 (w.touch _)
