/-! ===== views of a land; bits of MEN; who is best; years ===== -/
def gV (code : PCo) (kd vv rw fd : Nat → Int32) (yr : Int32) (p : Nat) : Nat → Nat → Int32 := fun x l => strayL code yr p (kd p) (vv p) (fun j => rw (p * 4 + j)) x l (fd x)
def scV (code : PCo) (kd vv rw fd : Nat → Int32) (yr : Int32) (p l : Nat) : Int32 := scoreN (lineL (gV code kd vv rw fd yr p) l)
theorem line_congr {g g' : Nat → Nat → Int32} {l : Nat} (h : ∀ x l, x < 12 → g x l = g' x l) : ∀ x, x ≤ 12 → lineL g l x = lineL g' l x := by
  intro x
  induction x with
  | zero => intro _; rfl
  | succ x ih => intro hx; simp only [lineL]; rw [ih (by omega), h x _ (by omega)]
theorem stat_congr {a b : Nat → Nat} (h : ∀ x, x ≤ 12 → a x = b x) : ∀ x, x ≤ 12 → stat a x = stat b x := by
  intro x
  induction x with
  | zero => intro _; rfl
  | succ x ih => intro hx; simp only [stat]; rw [ih (by omega), h x (by omega), h (x + 1) hx]
theorem score_congr {g g' : Nat → Nat → Int32} {l : Nat} (h : ∀ x l, x < 12 → g x l = g' x l) : scoreN (lineL g l) = scoreN (lineL g' l) := by
  have h1 := line_congr (l := l) h
  unfold scoreN spanN
  rw [stat_congr h1 12 (Nat.le_refl _), h1 12 (Nat.le_refl _), h1 0 (by omega)]
theorem gV_congr {code : PCo} {kd vv rw fd kd' vv' rw' fd' : Nat → Int32} {yr : Int32} {p : Nat} (h1 : kd p = kd' p) (h2 : vv p = vv' p) (h3 : ∀ j, j < 4 → rw (p * 4 + j) = rw' (p * 4 + j)) (h4 : ∀ x, x < 12 → fd x = fd' x) : ∀ x l, x < 12 → gV code kd vv rw fd yr p x l = gV code kd' vv' rw' fd' yr p x l := by
  intro x l hx
  simp only [gV, strayL]
  rw [h1, h2, h3 _ (Nat.mod_lt _ (by decide)), h4 x hx]
theorem scV_congr {code : PCo} {kd vv rw fd kd' vv' rw' fd' : Nat → Int32} {yr : Int32} {p l : Nat} (h1 : kd p = kd' p) (h2 : vv p = vv' p) (h3 : ∀ j, j < 4 → rw (p * 4 + j) = rw' (p * 4 + j)) (h4 : ∀ x, x < 12 → fd x = fd' x) : scV code kd vv rw fd yr p l = scV code kd' vv' rw' fd' yr p l := score_congr (gV_congr h1 h2 h3 h4)
theorem scC_eq (μ : Mem) (k : Nat) (code : PCo) (p l : Nat) : scoreN (lnC μ k code p l) = scV code (μ (k + 2)) (μ (k + 3)) (μ (k + 6)) (μ (k + 1)) (μ k 0) p l := rfl
/-- lines come again after ten years -/
theorem gV_10 {code : PCo} {kd vv rw fd : Nat → Int32} {y p : Nat} (hy : y < 2 ^ 30) : gV code kd vv rw fd (nI (y + 10)) p = gV code kd vv rw fd (nI y) p := by
  have e1 : ∀ y, y < 2 ^ 31 → nI y - nI y / 10 * 10 = nI (y % 10) := fun y h => pk_rem (d := 10) h (by decide) (by decide)
  have e2 : ∀ y, y < 2 ^ 31 → nI y - nI y / 2 * 2 = nI (y % 2) := fun y h => pk_rem (d := 2) h (by decide) (by decide)
  funext x l
  simp only [gV, strayL]
  have hf : facts (nI p) (kd p) (nI x) (nI l) (fd x) (nI (y + 10)) = facts (nI p) (kd p) (nI x) (nI l) (fd x) (nI y) := by
    funext i
    unfold facts
    split <;> try rfl
    rw [e1 _ (by omega), e1 _ (by omega), Nat.add_mod_right]
  rw [hf]
  unfold strayF
  rw [e2 _ (by omega), e2 _ (by omega), show (y + 10) % 2 = y % 2 by omega]
theorem scV_10 {code : PCo} {kd vv rw fd : Nat → Int32} {y p l : Nat} (hy : y < 2 ^ 30) : scV code kd vv rw fd (nI (y + 10)) p l = scV code kd vv rw fd (nI y) p l := by unfold scV; rw [gV_10 hy]
theorem scV_mod {code : PCo} {kd vv rw fd : Nat → Int32} {p l : Nat} (y n : Nat) (hy : y + 10 * n < 2 ^ 30) : scV code kd vv rw fd (nI (y + 10 * n)) p l = scV code kd vv rw fd (nI y) p l := by
  induction n with
  | zero => rfl
  | succ n ih => rw [show y + 10 * (n + 1) = y + 10 * n + 10 by omega, scV_10 (by omega), ih (by omega)]
/-- a SCORE lies between -8 and 40 -/
theorem score_of (ln : Nat → Nat) (h : ∀ x, ln x ≤ 8) : ∃ c : Nat, c ≤ 48 ∧ scoreN ln = 40 - nI c := by
  have h1 := stat_le ln 12
  refine ⟨(stat ln 12).1 + 2 * (stat ln 12).2.1 + spanN ln, ?_, ?_⟩
  · unfold spanN; have := h 12; have := h 0; split <;> omega
  · unfold scoreN
    rw [← nI_add, ← nI_add, ← pk_mul]
    show _ = 40 - (nI (stat ln 12).1 + 2 * nI (stat ln 12).2.1 + nI (spanN ln))
    grind
/-! bits of MEN -/
def bitsI (f : Nat → Bool) : Nat → Int32
  | 0 => 0
  | p + 1 => if f p then bitsI f p ||| ((1 : Int32) <<< (nI p &&& 31)) else bitsI f p
theorem bitsI_congr {f g : Nat → Bool} {n : Nat} (h : ∀ p, p < n → f p = g p) : bitsI f n = bitsI g n := by
  induction n with
  | zero => rfl
  | succ n ih => simp only [bitsI]; rw [h n (by omega), ih (fun p hp => h p (by omega))]
theorem bitsI_more {f : Nat → Bool} {n m : Nat} (h : n ≤ m) (hf : ∀ p, n ≤ p → p < m → f p = false) : bitsI f m = bitsI f n := by
  induction m with
  | zero => have : n = 0 := by omega
            subst this; rfl
  | succ m ih =>
    by_cases hn : n = m + 1
    · subst hn; rfl
    · simp only [bitsI]; rw [hf m (by omega) (by omega)]; exact ih (by omega) (fun p h1 h2 => hf p h1 (by omega))
def bl6 (m : Nat) : Nat → Bool := fun p => m / 2 ^ p % 2 == 1
theorem bl6_of (f : Nat → Bool) : ∃ m, m < 64 ∧ ∀ p, p < 6 → f p = bl6 m p := by
  refine ⟨(f 0).toNat + 2 * (f 1).toNat + 4 * (f 2).toNat + 8 * (f 3).toNat + 16 * (f 4).toNat + 32 * (f 5).toNat, ?_, ?_⟩
  · have b := fun x : Bool => (by cases x <;> simp : x.toNat ≤ 1)
    have := b (f 0); have := b (f 1); have := b (f 2); have := b (f 3); have := b (f 4); have := b (f 5); omega
  · intro p hp
    rcases (show p = 0 ∨ p = 1 ∨ p = 2 ∨ p = 3 ∨ p = 4 ∨ p = 5 by omega) with rfl | rfl | rfl | rfl | rfl | rfl <;>
    cases f 0 <;> cases f 1 <;> cases f 2 <;> cases f 3 <;> cases f 4 <;> cases f 5 <;> rfl
theorem bits_get0 : ∀ m, m < 64 → ∀ p, p < 6 → (bitsI (bl6 m) 6 >>> (nI p &&& 31)) &&& 1 = if bl6 m p then 1 else 0 := by decide +kernel
theorem bits_get (f : Nat → Bool) {p : Nat} (hp : p < 6) : (bitsI f 6 >>> (nI p &&& 31)) &&& 1 = if f p then 1 else 0 := by
  obtain ⟨m, hm, h⟩ := bl6_of f
  rw [bitsI_congr h, bits_get0 m hm p hp, h p hp]
theorem bits_on0 : ∀ m, m < 64 → ∀ p, p < 6 → bitsI (bl6 m) 6 ||| ((1 : Int32) <<< (nI p &&& 31)) = bitsI (fun q => if q = p then true else bl6 m q) 6 := by decide +kernel
theorem bits_off0 : ∀ m, m < 64 → ∀ p, p < 6 → bitsI (bl6 m) 6 &&& (((1 : Int32) <<< (nI p &&& 31)) ^^^ (-1)) = bitsI (fun q => if q = p then false else bl6 m q) 6 := by decide +kernel
theorem bits_on (f : Nat → Bool) {p : Nat} (hp : p < 6) : bitsI f 6 ||| ((1 : Int32) <<< (nI p &&& 31)) = bitsI (fun q => if q = p then true else f q) 6 := by
  obtain ⟨m, hm, h⟩ := bl6_of f
  rw [bitsI_congr h, bits_on0 m hm p hp]
  exact bitsI_congr (fun q hq => by by_cases e : q = p <;> simp [e, h q hq])
theorem bits_off (f : Nat → Bool) {p : Nat} (hp : p < 6) : bitsI f 6 &&& (((1 : Int32) <<< (nI p &&& 31)) ^^^ (-1)) = bitsI (fun q => if q = p then false else f q) 6 := by
  obtain ⟨m, hm, h⟩ := bl6_of f
  rw [bitsI_congr h, bits_off0 m hm p hp]
  exact bitsI_congr (fun q hq => by by_cases e : q = p <;> simp [e, h q hq])
theorem bits_cnt0 : ∀ m, m < 64 → ∀ n, n ≤ 6 → True := fun _ _ _ _ => trivial
/-! the best one: (best, most) of the first so many -/
def bestF (na : Nat → Bool) (sc : Nat → Int32) (m0 : Int32) : Nat → Int32 × Int32
  | 0 => (-5, m0)
  | p + 1 => if na p = true ∧ (bestF na sc m0 p).2 < sc p then (nI p, sc p) else bestF na sc m0 p
theorem bestF_congr {na na' : Nat → Bool} {sc sc' : Nat → Int32} {m0 : Int32} {n : Nat} (h1 : ∀ p, p < n → na p = na' p) (h2 : ∀ p, p < n → na p = true → sc p = sc' p) : bestF na sc m0 n = bestF na' sc' m0 n := by
  induction n with
  | zero => rfl
  | succ n ih =>
    simp only [bestF]
    rw [ih (fun p hp => h1 p (by omega)) (fun p hp => h2 p (by omega)), ← h1 n (by omega)]
    by_cases h : na n = true
    · rw [h2 n (by omega) h]
    · simp [h]
theorem bestF_val (na : Nat → Bool) (sc : Nat → Int32) (m0 : Int32) (n : Nat) : (bestF na sc m0 n).1 = -5 ∨ ∃ p, p < n ∧ (bestF na sc m0 n).1 = nI p := by
  induction n with
  | zero => exact Or.inl rfl
  | succ n ih =>
    simp only [bestF]
    split
    · exact Or.inr ⟨n, by omega, rfl⟩
    · rcases ih with h | ⟨p, hp, h⟩
      · exact Or.inl h
      · exact Or.inr ⟨p, by omega, h⟩
/-- whoever begins lower than all SCORES finds the same one -/
theorem bestF_low {na : Nat → Bool} {sc : Nat → Int32} {m0 m1 : Int32} {n : Nat} (h0 : ∀ p, p < n → m0 < sc p) (h1 : ∀ p, p < n → m1 < sc p) : (bestF na sc m0 n).1 = (bestF na sc m1 n).1 ∧ ((bestF na sc m0 n).2 = (bestF na sc m1 n).2 ∨ ((bestF na sc m0 n).2 = m0 ∧ (bestF na sc m1 n).2 = m1)) := by
  induction n with
  | zero => exact ⟨rfl, Or.inr ⟨rfl, rfl⟩⟩
  | succ n ih =>
    obtain ⟨i1, i2⟩ := ih (fun p hp => h0 p (by omega)) (fun p hp => h1 p (by omega))
    simp only [bestF]
    by_cases hn : na n = true
    · rcases i2 with i2 | ⟨j0, j1⟩
      · rw [i2]
        split
        · exact ⟨rfl, Or.inl rfl⟩
        · exact ⟨i1, Or.inl i2⟩
      · rw [j0, j1, if_pos ⟨hn, h0 n (by omega)⟩, if_pos ⟨hn, h1 n (by omega)⟩]
        exact ⟨rfl, Or.inl rfl⟩
    · simp only [hn, false_and, if_false]
      exact ⟨i1, i2⟩
/-! how often each of MEN was best -/
def cntN (b : Nat → Int32) (p : Nat) : Nat → Nat
  | 0 => 0
  | j + 1 => cntN b p j + if b j = nI p then 1 else 0
def totN (b : Nat → Int32) (nn p : Nat) : Nat → Nat
  | 0 => 0
  | j + 1 => totN b nn p j + if b j = nI p then (nn - j + 9) / 10 else 0
theorem tot_s (b : Nat → Int32) (nn p : Nat) : ∀ k, k ≤ 10 → totN b (nn + 1) p k = totN b nn p k + if nn % 10 < k ∧ b (nn % 10) = nI p then 1 else 0 := by
  intro k
  induction k with
  | zero => intro _; simp [totN]
  | succ k ih =>
    intro hk
    simp only [totN]
    rw [ih (by omega)]
    by_cases hb : b k = nI p
    · simp only [hb, if_true]
      by_cases hr : nn % 10 = k
      · rw [if_neg (by omega), if_pos ⟨by omega, by rw [hr]; exact hb⟩]
        omega
      · have e : (nn + 1 - k + 9) / 10 = (nn - k + 9) / 10 := by omega
        rw [e]
        by_cases h1 : nn % 10 < k
        · have h2 : nn % 10 < k + 1 := by omega
          simp only [h1, h2, true_and]; omega
        · have h2 : ¬ nn % 10 < k + 1 := by omega
          simp [h1, h2]
    · simp only [hb, if_false]
      by_cases hr : nn % 10 = k
      · rw [hr]; simp [hb]
      · by_cases h1 : nn % 10 < k
        · have h2 : nn % 10 < k + 1 := by omega
          simp [h1, h2]
        · have h2 : ¬ nn % 10 < k + 1 := by omega
          simp [h1, h2]
theorem per_mod {b : Nat → Int32} {N : Nat} (hb : ∀ j, j < N → b (j + 10) = b j) : ∀ j, j < N → b j = b (j % 10) := by
  intro j
  induction j using Nat.strongRecOn with
  | ind j ih =>
    intro hj
    by_cases h : j < 10
    · rw [Nat.mod_eq_of_lt h]
    · have e := hb (j - 10) (by omega)
      rw [show j - 10 + 10 = j by omega] at e
      rw [e, ih (j - 10) (by omega) (by omega), show (j - 10) % 10 = j % 10 by omega]
theorem tot_cnt {b : Nat → Int32} {p N : Nat} (hb : ∀ j, j < N → b (j + 10) = b j) : ∀ nn, nn ≤ N → totN b nn p 10 = cntN b p nn := by
  intro nn
  induction nn with
  | zero => intro _; simp [totN, cntN]
  | succ nn ih =>
    intro h
    rw [tot_s b nn p 10 (Nat.le_refl _), ih (by omega)]
    simp only [cntN]
    rw [← per_mod hb nn (by omega)]
    have : nn % 10 < 10 := Nat.mod_lt _ (by decide)
    simp [this]
theorem tot_min (b : Nat → Int32) (nn p : Nat) : ∀ k, nn ≤ k → totN b nn p k = totN b nn p nn := by
  intro k
  induction k with
  | zero => intro h; have : nn = 0 := by omega
            subst this; rfl
  | succ k ih =>
    intro h
    by_cases e : nn = k + 1
    · subst e; rfl
    · simp only [totN]
      rw [ih (by omega), show (nn - k + 9) / 10 = 0 by omega]; simp
