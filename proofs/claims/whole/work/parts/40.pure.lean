/-! Pure rows: loops by their course, bits, what is missed. -/
theorem pl_run {α β : Type} {b : (α → Option β) → α → Option β} {r : Option β} (T : Nat → α) (n : Nat) (hs : ∀ (j : Nat) (k : α → Option β), j < n → b k (T j) = k (T (j + 1))) (hx : ∀ k : α → Option β, b k (T n) = r) : ∀ (fuel i : Nat), i ≤ n → n < i + fuel → lm_lp b fuel (T i) = r := by
  intro fuel
  induction fuel with
  | zero => intro i h1 h2; omega
  | succ f ih =>
    intro i h1 h2
    show b (lm_lp b f) (T i) = r
    by_cases h : i = n
    · subst h; exact hx _
    · rw [hs i _ (by omega)]; exact ih (i + 1) (by omega) (by omega)
theorem pl_run0 {α β : Type} {b : (α → Option β) → α → Option β} {r : Option β} {a : α} (T : Nat → α) (n : Nat) (h0 : T 0 = a) (hs : ∀ (j : Nat) (k : α → Option β), j < n → b k (T j) = k (T (j + 1))) (hx : ∀ k : α → Option β, b k (T n) = r) (hn : n < 5000) : lm_lp b 5000 a = r := by
  rw [← h0]
  exact pl_run T n hs hx 5000 0 (Nat.zero_le _) (by omega)
theorem pb_sh : ∀ n, n < 32 → ((nI n &&& 31).toBitVec.smod 32).toNat = n := by decide +kernel
theorem pb_bit {b i : Nat} (hb : b < 2 ^ 31) (hi : i < 32) : (nI b >>> (nI i &&& 31)) &&& (1 : Int32) = if b.testBit i then 1 else 0 := by
  rw [pk_shrN hb _ i (pb_sh i hi), pk_andN (m := 1) (n := b / 2 ^ i) (Nat.lt_of_le_of_lt (Nat.div_le_self _ _) (by omega)) 1 (by decide), Nat.testBit_eq_decide_div_mod_eq]
  rcases Nat.mod_two_eq_zero_or_one (b / 2 ^ i) with h | h
  · rw [show 2 ^ 1 = 2 from rfl, h]; rfl
  · rw [show 2 ^ 1 = 2 from rfl, h]; rfl
theorem pb_isIn {b i : Nat} (hb : b < 2 ^ 31) (hi : i < 32) : fX8_isIn (nI b) (nI i) = some (if b.testBit i then 1 else 0) := by
  unfold fX8_isIn
  rw [pb_bit hb hi]
  cases b.testBit i <;> rfl
theorem pb_isInN : ∀ b, b < 128 → ∀ i, i < 7 → fX8_isIn (nI b ^^^ (-1 : Int32)) (nI i) = some (if b.testBit i then 0 else 1) := by decide +kernel
/-- by how much a thing is missed -/
def pM (k l s : Nat) : Nat := if k = 1 then l - 2 * s else if k = 2 then l else if k = 3 then l / 2 - s else if k = 4 then l - 4 * s else l - s
theorem pM_c : ∀ k, k < 5 → ∀ l, l < 21 → ∀ s, s < 21 → fX8_missedBy (nI k) (nI l) (nI s) = some (nI (pM k l s)) := by decide +kernel
theorem pM_m : ∀ k, k < 5 → ∀ l, l < 21 → ∀ s, s < 21 → fX9_missedBy (nI k) (nI l) (nI s) = some (nI (pM k l s)) := by decide +kernel
theorem pM_le (k l s : Nat) : pM k l s ≤ l := by
  unfold pM
  repeat' split
  all_goals omega
theorem pI_min {x : Nat} (hx : x < 2 ^ 31) : (if nI x < (20 : Int32) then nI x else (20 : Int32)) = nI (min x 20) := by
  have e : (20 : Int32) = nI 20 := rfl
  rw [e]
  by_cases h : x < 20
  · rw [if_pos ((nI_ltI hx (by decide)).mpr h), Nat.min_eq_left (by omega)]
  · rw [if_neg (fun q => h ((nI_ltI hx (by decide)).mp q)), Nat.min_eq_right (by omega)]
theorem pI_sub {v gone a : Nat} (h : gone ≤ a) : nI v - nI gone + nI a = nI (v + (a - gone)) := by
  obtain ⟨d, rfl⟩ := Nat.exists_eq_add_of_le h
  rw [Nat.add_sub_cancel_left, ← nI_add gone d, ← nI_add v d, Int32.sub_eq_add_neg, Int32.add_assoc, ← Int32.add_assoc (-nI gone), Int32.add_left_neg, Int32.zero_add]
/-- which is the next: the first of the least missed of those that are not taken -/
def pN (mi : Nat → Nat) (b : Nat) : Nat → Option Nat
  | 0 => none
  | i + 1 => if b.testBit i then pN mi b i else match pN mi b i with
    | none => some i
    | some j => if mi i < mi j then some i else some j
def pE (o : Option Nat) : Int32 := match o with
  | none => -1
  | some j => nI j
def pV (mi : Nat → Nat) (o : Option Nat) : Int32 := match o with
  | none => 0
  | some j => nI (mi j)
theorem pN_lt {mi : Nat → Nat} {b : Nat} : ∀ {n j : Nat}, pN mi b n = some j → j < n ∧ b.testBit j = false := by
  intro n
  induction n with
  | zero => intro j h; cases h
  | succ i ih =>
    intro j h
    unfold pN at h
    by_cases hb : b.testBit i = true
    · rw [if_pos hb] at h
      have := ih h
      exact ⟨by omega, this.2⟩
    · rw [if_neg hb] at h
      have hb' : b.testBit i = false := by simpa using hb
      cases hq : pN mi b i with
      | none => rw [hq] at h; cases h; exact ⟨by omega, hb'⟩
      | some q =>
        rw [hq] at h
        dsimp only at h
        by_cases hm : mi i < mi q
        · rw [if_pos hm] at h; cases h; exact ⟨by omega, hb'⟩
        · rw [if_neg hm] at h; cases h
          have := ih hq
          exact ⟨by omega, this.2⟩
theorem pE_neg {j : Nat} (h : j < 2 ^ 31) : ¬ nI j = (-1 : Int32) := fun e => by
  have h1 := nI_toInt h
  rw [e] at h1
  have h2 : ((-1 : Int32)).toInt = -1 := rfl
  omega
/-- House.wouldTake, where missedBehind is known of those that are not taken -/
theorem pc_wouldTake {s : lm_St} {x : Int32} {n b db : Nat} {mi : Nat → Nat} (h0 : s.1 0 = nI n) (h1 : s.1 1 = nI b) (h2 : s.1 2 = nI db) (hn : n ≤ 7) (hb : b < 2 ^ 31) (hdb : db < 2 ^ 31) (hmi : ∀ i, i < n → mi i < 2 ^ 31) (hM : ∀ i, i < n → b.testBit i = false → fX3_missedBehind s (nI i) x = some (nI (mi i), s)) : fX3_wouldTake s x = some (pE (if db = 0 then none else pN mi b n), s) := by
  unfold fX3_wouldTake
  rw [h2]
  by_cases hd : db = 0
  · subst hd
    rw [if_neg (by decide), if_pos rfl]
    rfl
  · rw [if_pos (show (0 : Int32) < nI db from (nI_ltI (a := 0) (by decide) hdb).mpr (by omega)), if_neg hd]
    refine pl_run0 (fun j => (x, pE (pN mi b j), pV mi (pN mi b j), nI j, s)) n rfl ?_ ?_ (by omega)
    · intro j k hj
      show bX3_wouldTake_16 k x (pE (pN mi b j)) (pV mi (pN mi b j)) (nI j) s = k (x, pE (pN mi b (j + 1)), pV mi (pN mi b (j + 1)), nI (j + 1), s)
      unfold bX3_wouldTake_16 jX3_wouldTake_60 jX3_wouldTake_66
      rw [h0, h1, if_neg (nI_ge hj (by omega)), pb_isIn hb (by omega), nI_1, pN]
      cases ht : b.testBit j with
      | true => simp only [Option.bind_some, if_true]; rfl
      | false =>
        rw [hM j hj ht]
        simp only [Option.bind_some, lm_un2]
        cases hq : pN mi b j with
        | none => simp [pE, pV]
        | some q =>
          have hq2 := pN_lt hq
          have e1 : ¬ pE (some q) = (-1 : Int32) := pE_neg (by omega)
          by_cases hm : mi j < mi q
          · have e2 : ¬ pV mi (some q) ≤ nI (mi j) := nI_ge hm (hmi q (by omega))
            have e3 : ¬ nI q = (-1 : Int32) := e1
            have e4 : ¬ nI (mi q) ≤ nI (mi j) := e2
            simp [e3, e4, hm, pE, pV]
          · have e2 : pV mi (some q) ≤ nI (mi j) := nI_le (by omega) (hmi j hj)
            simp [e1, e2, hm]
    · intro k
      show bX3_wouldTake_16 k x (pE (pN mi b n)) (pV mi (pN mi b n)) (nI n) s = _
      unfold bX3_wouldTake_16
      rw [h0, if_pos (nI_le (Nat.le_refl n) (by omega))]
/-! The class's house: its cells against plain numbers. A trial counts its days: what is not taken has since = v - gone. -/
def pW (n b db : Nat) (kd wo lo : Nat → Nat) : Prop := n ≤ 7 ∧ b < 128 ∧ db ≤ 99 ∧ ∀ i, i < n → kd i < 5 ∧ 1 ≤ wo i ∧ wo i ≤ 9 ∧ lo i ≤ 20
def cT (s : lm_St) (n b db gone : Nat) (kd wo lo v : Nat → Nat) : Prop := s.1 0 = nI n ∧ s.1 1 = nI b ∧ s.1 2 = nI db ∧ (∀ i, i < n → s.2.1 0 i = nI (kd i) ∧ s.2.1 1 i = nI (wo i) ∧ s.2.1 2 i = nI (lo i)) ∧ ∀ i, i < n → b.testBit i = false → s.2.1 3 i = nI (v i) - nI gone
theorem pg_I {α : Type} {i n : Nat} {x : Option α} (h : i < n) (hn : n < 2 ^ 31) : lm_gI (nI i) n x = x := lm_gIo (vp_in_nI h hn)
theorem pc_since {s : lm_St} {n b db gone : Nat} {kd wo lo v : Nat → Nat} (h : cT s n b db gone kd wo lo v) (w : pW n b db kd wo lo) {i a : Nat} (hi : i < n) (ht : b.testBit i = false) (ha : gone ≤ a) (hv : v i + a < 1000) : fX3_sinceBehind s (nI i) (nI a) = some (nI (min (v i + (a - gone)) 20), s) := by
  obtain ⟨h0, h1, h2, h3, h4⟩ := h
  obtain ⟨w0, w1, w2, w3⟩ := w
  unfold fX3_sinceBehind
  rw [h1, pb_isIn (by omega) (by omega), ht]
  show lm_gI (nI i) 7 (some ((if ((s.2.1 3) (nI i).toNatClampNeg + nI a) < (20 : Int32) then ((s.2.1 3) (nI i).toNatClampNeg + nI a) else (20 : Int32)), s)) = _
  rw [pg_I (by omega) (by decide), nI_clamp (by omega), h4 i hi ht, pI_sub ha, pI_min (by omega)]
theorem pc_missedBehind {s : lm_St} {n b db gone : Nat} {kd wo lo v : Nat → Nat} (h : cT s n b db gone kd wo lo v) (w : pW n b db kd wo lo) {i a : Nat} (hi : i < n) (ht : b.testBit i = false) (ha : gone ≤ a) (hv : v i + a < 1000) : fX3_missedBehind s (nI i) (nI a) = some (nI (pM (kd i) (lo i) (min (v i + (a - gone)) 20)), s) := by
  unfold fX3_missedBehind
  have hw := w.2.2.2 i hi
  rw [pg_I (by have := w.1; omega) (by decide), pg_I (by have := w.1; omega) (by decide), pc_since h w hi ht ha hv, nI_clamp (by have := w.1; omega), (h.2.2.2.1 i hi).1, (h.2.2.2.1 i hi).2.2]
  show (fX8_missedBy (nI (kd i)) (nI (lo i)) (nI (min (v i + (a - gone)) 20))).bind (fun r4 => some (r4, s)) = _
  rw [pM_c (kd i) hw.1 (lo i) (by omega) _ (by omega)]
  rfl
theorem pc_next {s : lm_St} {n b db gone : Nat} {kd wo lo v : Nat → Nat} (h : cT s n b db gone kd wo lo v) (w : pW n b db kd wo lo) {a : Nat} (ha : gone ≤ a) (hv : ∀ i, i < n → v i + a < 1000) : fX3_wouldTake s (nI a) = some (pE (if db = 0 then none else pN (fun i => pM (kd i) (lo i) (min (v i + (a - gone)) 20)) b n), s) := by
  refine pc_wouldTake h.1 h.2.1 h.2.2.1 w.1 (by have := w.2.1; omega) (by have := w.2.2.1; omega) (fun i hi => ?_) (fun i hi ht => pc_missedBehind h w hi ht ha (hv i hi))
  have h1 := pM_le (kd i) (lo i) (min (v i + (a - gone)) 20)
  have h2 := (w.2.2.2 i hi).2.2.2
  show pM (kd i) (lo i) (min (v i + (a - gone)) 20) < 2 ^ 31
  omega
/-- a sum over those of the first n whose bit is p -/
def pS (f : Nat → Nat) (p : Nat → Bool) : Nat → Nat
  | 0 => 0
  | i + 1 => pS f p i + if p i then f i else 0
theorem pS_le {f : Nat → Nat} {p : Nat → Bool} {m : Nat} : ∀ {n : Nat}, (∀ i, i < n → f i ≤ m) → pS f p n ≤ n * m := by
  intro n
  induction n with
  | zero => intro _; exact Nat.zero_le _
  | succ i ih =>
    intro h
    have h1 := ih (fun j hj => h j (by omega))
    have h2 := h i (by omega)
    have h3 : (i + 1) * m = i * m + m := Nat.succ_mul i m
    unfold pS
    split <;> omega
theorem pS_congr {f f' : Nat → Nat} {p p' : Nat → Bool} : ∀ {n : Nat}, (∀ i, i < n → p i = p' i) → (∀ i, i < n → p i = true → f i = f' i) → pS f p n = pS f' p' n := by
  intro n
  induction n with
  | zero => intro _ _; rfl
  | succ i ih =>
    intro h1 h2
    unfold pS
    rw [ih (fun j hj => h1 j (by omega)) (fun j hj => h2 j (by omega)), ← h1 i (by omega)]
    cases hp : p i with
    | true => rw [h2 i (by omega) hp]
    | false => rfl
/-- House.worthOf, by bits x that isIn tells as p -/
theorem pc_worthOf {s : lm_St} {n : Nat} {wo : Nat → Nat} {x : Int32} {p : Nat → Bool} (h0 : s.1 0 = nI n) (hn : n ≤ 7) (hw : ∀ i, i < n → s.2.1 1 i = nI (wo i)) (hp : ∀ i, i < n → fX8_isIn x (nI i) = some (if p i then 1 else 0)) : fX3_worthOf s x = some (nI (pS wo p n), s) := by
  unfold fX3_worthOf
  refine pl_run0 (fun j => (x, nI (pS wo p j), nI j, s)) n rfl ?_ ?_ (by omega)
  · intro j k hj
    show bX3_worthOf_4 k x (nI (pS wo p j)) (nI j) s = k (x, nI (pS wo p (j + 1)), nI (j + 1), s)
    unfold bX3_worthOf_4 jX3_worthOf_31
    rw [h0, if_neg (nI_ge hj (by omega)), hp j hj, nI_1, pS]
    cases hq : p j with
    | true =>
      show lm_gI (nI j) 7 (k (x, nI (pS wo p j) + (s.2.1 1) (nI j).toNatClampNeg, nI (j + 1), s)) = _
      rw [pg_I (by omega) (by decide), nI_clamp (by omega), hw j hj, nI_add]
      rfl
    | false =>
      show k (x, nI (pS wo p j) + 0, nI (j + 1), s) = _
      rw [Int32.add_zero]
      rfl
  · intro k
    show bX3_worthOf_4 k x (nI (pS wo p n)) (nI n) s = _
    unfold bX3_worthOf_4
    rw [h0, if_pos (nI_le (Nat.le_refl n) (by omega))]
theorem pc_missedOf {s : lm_St} {n : Nat} {mi : Nat → Nat} {x a : Int32} {p : Nat → Bool} (h0 : s.1 0 = nI n) (hn : n ≤ 7) (hm : ∀ i, i < n → p i = true → fX3_missedBehind s (nI i) a = some (nI (mi i), s)) (hp : ∀ i, i < n → fX8_isIn x (nI i) = some (if p i then 1 else 0)) : fX3_missedOf s x a = some (nI (pS mi p n), s) := by
  unfold fX3_missedOf
  refine pl_run0 (fun j => (x, a, nI (pS mi p j), nI j, s)) n rfl ?_ ?_ (by omega)
  · intro j k hj
    show bX3_missedOf_5 k x a (nI (pS mi p j)) (nI j) s = k (x, a, nI (pS mi p (j + 1)), nI (j + 1), s)
    unfold bX3_missedOf_5 jX3_missedOf_35
    rw [h0, if_neg (nI_ge hj (by omega)), hp j hj, nI_1, pS]
    cases hq : p j with
    | true =>
      rw [hm j hj hq]
      show k (x, a, nI (pS mi p j) + nI (mi j), nI (j + 1), s) = _
      rw [nI_add]
      rfl
    | false =>
      show k (x, a, nI (pS mi p j) + 0, nI (j + 1), s) = _
      rw [Int32.add_zero]
      rfl
  · intro k
    show bX3_missedOf_5 k x a (nI (pS mi p n)) (nI n) s = _
    unfold bX3_missedOf_5
    rw [h0, if_pos (nI_le (Nat.le_refl n) (by omega))]
theorem pl_inv {α β : Type} {b : (α → Option β) → α → Option β} {P : Option β → Prop} (I : Nat → α → Prop) (n : Nat) (hs : ∀ (j : Nat) (a : α), j < n → I j a → ∃ a', (∀ k : α → Option β, b k a = k a') ∧ I (j + 1) a') (hx : ∀ a : α, I n a → ∃ r, (∀ k : α → Option β, b k a = r) ∧ P r) : ∀ (fuel i : Nat) (a : α), i ≤ n → n < i + fuel → I i a → P (lm_lp b fuel a) := by
  intro fuel
  induction fuel with
  | zero => intro i a h1 h2; omega
  | succ f ih =>
    intro i a h1 h2 hi
    show P (b (lm_lp b f) a)
    by_cases h : i = n
    · subst h
      obtain ⟨r, h3, h4⟩ := hx a hi
      rw [h3]
      exact h4
    · obtain ⟨a', h3, h4⟩ := hs i a (by omega) hi
      rw [h3]
      exact ih (i + 1) a' (by omega) (by omega) h4
theorem pl_inv0 {α β : Type} {b : (α → Option β) → α → Option β} {P : Option β → Prop} {a : α} (I : Nat → α → Prop) (n : Nat) (h0 : I 0 a) (hs : ∀ (j : Nat) (a : α), j < n → I j a → ∃ a', (∀ k : α → Option β, b k a = k a') ∧ I (j + 1) a') (hx : ∀ a : α, I n a → ∃ r, (∀ k : α → Option β, b k a = r) ∧ P r) (hn : n < 5000) : P (lm_lp b 5000 a) :=
  pl_inv I n hs hx 5000 0 a (Nat.zero_le _) (by omega) h0
/-! The reference's trial: its cells against plain numbers; what else stays. -/
def mT (s : lm_St) (n b db : Nat) (kd wo lo si : Nat → Nat) : Prop := s.1 2 = nI n ∧ s.1 7 = nI db ∧ ∀ i, i < n → s.2.1 1 i = nI (kd i) ∧ s.2.1 2 i = nI (wo i) ∧ s.2.1 6 i = nI (lo i) ∧ s.2.1 7 i = nI (si i) ∧ s.2.1 8 i = if b.testBit i then 1 else 0
/-- all but the reference's scratch is as it was -/
def mF (s t : lm_St) : Prop := (∀ k, k ≠ 1 → k ≠ 7 → k ≠ 10 → t.1 k = s.1 k) ∧ (∀ k, k ≠ 6 → k ≠ 7 → k ≠ 8 → k ≠ 9 → t.2.1 k = s.2.1 k) ∧ t.2.2 = s.2.2
theorem mF.rf (s : lm_St) : mF s s := ⟨fun _ _ _ _ => rfl, fun _ _ _ _ _ => rfl, rfl⟩
theorem mF.tr {s t u : lm_St} (h : mF s t) (g : mF t u) : mF s u := ⟨fun k a b c => (g.1 k a b c).trans (h.1 k a b c), fun k a b c d => (g.2.1 k a b c d).trans (h.2.1 k a b c d), g.2.2.trans h.2.2⟩
theorem pu_1 (s : lm_St) (k : Nat) (v : Int32) (j : Nat) : (lm_sF s k v).1 j = if j = k then v else s.1 j := rfl
theorem pu_2 (s : lm_St) (k : Nat) (v : Int32) (j : Nat) : (lm_sF s k v).2.1 j = s.2.1 j := rfl
theorem pu_3 (s : lm_St) (k : Nat) (f : Nat → Int32) (j : Nat) : (lm_sA s k f).1 j = s.1 j := rfl
theorem pu_4 (s : lm_St) (k : Nat) (f : Nat → Int32) (j : Nat) : (lm_sA s k f).2.1 j = if j = k then f else s.2.1 j := rfl
theorem pu_u (f : Nat → Int32) (k : Nat) (v : Int32) (j : Nat) : upd f k v j = if j = k then v else f j := rfl
theorem mF.sF (s : lm_St) {k : Nat} (v : Int32) (h : k = 1 ∨ k = 7 ∨ k = 10) : mF s (lm_sF s k v) := ⟨fun j h1 h2 h3 => by rw [pu_1, if_neg (by omega)], fun _ _ _ _ _ => rfl, rfl⟩
theorem mF.sA (s : lm_St) {k : Nat} (f : Nat → Int32) (h : k = 6 ∨ k = 7 ∨ k = 8 ∨ k = 9) : mF s (lm_sA s k f) := ⟨fun _ _ _ _ => rfl, fun j h1 h2 h3 h4 => by rw [pu_4, if_neg (by omega)], rfl⟩
theorem pm_missedThen {s : lm_St} {n b db : Nat} {kd wo lo si : Nat → Nat} (h : mT s n b db kd wo lo si) (w : pW n b db kd wo lo) {i : Nat} (hi : i < n) (hs : si i ≤ 20) : fX9_missedThen s (nI i) = some (nI (pM (kd i) (lo i) (si i)), s) := by
  obtain ⟨h0, h1, h2⟩ := h
  have hw := w.2.2.2 i hi
  have hn := w.1
  obtain ⟨a1, a2, a3, a4, a5⟩ := h2 i hi
  unfold fX9_missedThen
  rw [pg_I (by omega) (by decide), pg_I (by omega) (by decide), pg_I (by omega) (by decide), nI_clamp (by omega), a1, a3, a4, pM_m (kd i) hw.1 (lo i) (by omega) (si i) (by omega)]
  rfl
theorem pb_one {b i : Nat} : ((if b.testBit i then (1 : Int32) else 0) = 0) ↔ b.testBit i = false := by
  cases b.testBit i <;> simp
theorem pm_next {s : lm_St} {n b db : Nat} {kd wo lo si : Nat → Nat} (h : mT s n b db kd wo lo si) (w : pW n b db kd wo lo) (hs : ∀ i, i < n → si i ≤ 20) : fX9_nextThen s = some (pE (if db = 0 then none else pN (fun i => pM (kd i) (lo i) (si i)) b n), s) := by
  have hn := w.1
  have hdb := w.2.2.1
  obtain ⟨h0, h1, h2⟩ := id h
  have hmi : ∀ i, i < n → pM (kd i) (lo i) (si i) < 2 ^ 31 := fun i hi => by
    have q1 := pM_le (kd i) (lo i) (si i)
    have q2 := (w.2.2.2 i hi).2.2.2
    omega
  unfold fX9_nextThen
  by_cases hd : db = 0
  · rw [if_pos hd]
    subst hd
    refine pl_run0 (fun j => ((-1 : Int32), nI j, s)) 0 rfl (fun j k hj => absurd hj (Nat.not_lt_zero j)) (fun k => ?_) (by omega)
    show bX9_nextThen_4 k (-1) (nI 0) s = _
    unfold bX9_nextThen_4
    by_cases hz : s.1 2 ≤ nI 0
    · rw [if_pos hz]; rfl
    · rw [if_neg hz, h1, if_pos (by decide)]; rfl
  · rw [if_neg hd]
    refine pl_run0 (fun j => (pE (pN (fun i => pM (kd i) (lo i) (si i)) b j), nI j, s)) n rfl ?_ ?_ (by omega)
    · intro j k hj
      show bX9_nextThen_4 k (pE (pN (fun i => pM (kd i) (lo i) (si i)) b j)) (nI j) s = k (pE (pN (fun i => pM (kd i) (lo i) (si i)) b (j + 1)), nI (j + 1), s)
      unfold bX9_nextThen_4 jX9_nextThen_46 jX9_nextThen_48
      rw [h0, h1, if_neg (nI_ge hj (by omega)), if_neg (show ¬ nI db ≤ 0 from nI_nle (by omega) (by omega)), pg_I (by omega) (by decide), nI_clamp (by omega), (h2 j hj).2.2.2.2, nI_1, pN]
      cases ht : b.testBit j with
      | true => simp
      | false =>
        rw [if_pos (by simp)]
        cases hq : pN (fun i => pM (kd i) (lo i) (si i)) b j with
        | none => simp [pE]
        | some q =>
          have hq2 := pN_lt hq
          have e1 : ¬ pE (some q) = (-1 : Int32) := pE_neg (by omega)
          rw [if_neg e1, pm_missedThen h w hj (hs j hj)]
          simp only [Option.bind_some, lm_un2]
          rw [show pE (some q) = nI q from rfl, pm_missedThen h w (by omega) (hs q (by omega))]
          simp only [Option.bind_some]
          by_cases hm : pM (kd j) (lo j) (si j) < pM (kd q) (lo q) (si q)
          · rw [if_neg (nI_ge hm (hmi q (by omega)))]
            simp [hm, pE]
          · rw [if_pos (nI_le (by omega) (hmi j hj))]
            simp [hm, pE]
    · intro k
      show bX9_nextThen_4 k (pE (pN (fun i => pM (kd i) (lo i) (si i)) b n)) (nI n) s = _
      unfold bX9_nextThen_4
      rw [h0, if_pos (nI_le (Nat.le_refl n) (by omega))]
theorem pm_missedLeft {s : lm_St} {n b db : Nat} {kd wo lo si : Nat → Nat} (h : mT s n b db kd wo lo si) (w : pW n b db kd wo lo) (hs : ∀ i, i < n → si i ≤ 20) : fX9_missedLeft s = some (nI (pS (fun i => pM (kd i) (lo i) (si i)) (fun i => !b.testBit i) n), s) := by
  have hn := w.1
  obtain ⟨h0, h1, h2⟩ := id h
  unfold fX9_missedLeft
  refine pl_run0 (fun j => (nI (pS (fun i => pM (kd i) (lo i) (si i)) (fun i => !b.testBit i) j), nI j, s)) n rfl ?_ ?_ (by omega)
  · intro j k hj
    show bX9_missedLeft_4 k (nI (pS (fun i => pM (kd i) (lo i) (si i)) (fun i => !b.testBit i) j)) (nI j) s = k (nI (pS (fun i => pM (kd i) (lo i) (si i)) (fun i => !b.testBit i) (j + 1)), nI (j + 1), s)
    unfold bX9_missedLeft_4 jX9_missedLeft_31
    rw [h0, if_neg (nI_ge hj (by omega)), pg_I (by omega) (by decide), nI_clamp (by omega), (h2 j hj).2.2.2.2, nI_1, pS]
    cases ht : b.testBit j with
    | true => simp [Int32.add_zero]
    | false =>
      rw [if_pos (by simp), pm_missedThen h w hj (hs j hj)]
      simp only [Option.bind_some, lm_un2, nI_add]
      simp
  · intro k
    show bX9_missedLeft_4 k _ (nI n) s = _
    unfold bX9_missedLeft_4
    rw [h0, if_pos (nI_le (Nat.le_refl n) (by omega))]
