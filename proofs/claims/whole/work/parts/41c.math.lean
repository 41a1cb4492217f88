/-! ===== the component's search: what it goes by ===== -/
def few (o : Option Nat) : Nat := match o with
  | none => 13
  | some b => cntN2 b 12
def losN (ln : Nat → Nat) (x : Nat) : Nat := (stat ln x).1 + 2 * (stat ln x).2.1
def latF (a b : Int32) : Int32 := if a = 0 then b else a
def losF (a b : Int32) : Int32 := if a = 0 then 0 else if a + b = 0 then 3 else 1
def lyB (s : Row) (x : Nat) : Bool := decide (0 < s (19 + x))
def SmallO (o : Option Nat) : Prop := ∀ b, o = some b → b < 4096
theorem few_le (o : Option Nat) : few o ≤ 13 := by
  cases o with
  | none => exact Nat.le_refl _
  | some b => have := cnt_le12 b 12; show cntN2 b 12 ≤ 13; omega
theorem popN_cnt (k : Nat) : ∀ m, popN k m = cntN2 m k := by
  have hs : ∀ k m, cntN2 m (k + 1) = m % 2 + cntN2 (m / 2) k := by
    intro k
    induction k with
    | zero => intro m; simp [cntN2]
    | succ k ih =>
      intro m
      rw [show cntN2 m (k + 1 + 1) = cntN2 m (k + 1) + m / 2 ^ (k + 1) % 2 from rfl, ih, show cntN2 (m / 2) (k + 1) = cntN2 (m / 2) k + m / 2 / 2 ^ k % 2 from rfl, Nat.div_div_eq_div_mul, show 2 * 2 ^ k = 2 ^ (k + 1) by rw [Nat.pow_succ, Nat.mul_comm]]
      omega
  induction k with
  | zero => intro m; rfl
  | succ k ih => intro m; rw [hs, ← ih]; rfl
theorem bc_cn2 {m : Nat} (h : m < 4096) : bcI (nI m) = nI (cntN2 m 12) := by rw [bc_small h, popN_cnt]
theorem stat_cgx {a b : Nat → Nat} : ∀ x, (∀ y, y ≤ x → a y = b y) → stat a x = stat b x := by
  intro x
  induction x with
  | zero => intro _; rfl
  | succ x ih => intro h; rw [stat_s, stat_s, ih (fun y hy => h y (by omega)), h x (by omega), h (x + 1) (Nat.le_refl _)]
theorem lnK_ext {s : Row} {code : PCo} {p x m z : Nat} (h : Ext x m z) : ∀ y, y ≤ x → lnK s code p z y = lnK s code p m y := by
  intro y
  induction y with
  | zero => intro _; rw [lnK_0, lnK_0]
  | succ y ih =>
    intro hy
    rw [lnK_s, lnK_s, ih (by omega)]
    unfold gK
    rw [h y (by omega)]
theorem los_ext {s : Row} {code : PCo} {p x m z : Nat} (h : Ext x m z) : losN (lnK s code p z) x = losN (lnK s code p m) x := by
  unfold losN
  rw [stat_cgx x (fun y hy => lnK_ext h y hy)]
theorem los_s (ln : Nat → Nat) (x : Nat) : losN ln x ≤ losN ln (x + 1) := by
  unfold losN
  rw [stat_s]
  dsimp only
  split <;> split <;> omega
theorem los_mono (ln : Nat → Nat) (x k : Nat) : losN ln x ≤ losN ln (x + k) := by
  induction k with
  | zero => exact Nat.le_refl _
  | succ k ih => exact Nat.le_trans ih (los_s ln (x + k))
theorem los_le (ln : Nat → Nat) (x : Nat) : losN ln x ≤ 3 * x := by
  have := stat_le ln x
  unfold losN; omega
theorem may_le {a mk : Nat} (ha : a < 2 ^ 20) (hmk : mk ≤ 99) : nI a ≤ 40 - nI mk ↔ a + mk ≤ 40 := by
  rw [Int32.le_iff_toInt_le, nI_toInt (by omega), show ((40 : Int32) - nI mk).toInt = 40 - (mk : Int) from pk_sub_toInt (a := 40) (b := mk) (by decide) (by omega)]
  omega
theorem ok_iff {ln : Nat → Nat} (h : ∀ x, ln x ≤ 8) {mk : Nat} (hmk : mk ≤ 99) : nI mk ≤ scoreN ln ↔ losN ln 12 + spanN ln + mk ≤ 40 := by
  have h1 := stat_le ln 12
  have hsp : spanN ln ≤ 8 := by unfold spanN; have := h 12; have := h 0; split <;> omega
  have e : scoreN ln = 40 - nI (losN ln 12 + spanN ln) := by
    unfold scoreN losN
    rw [← nI_add, ← nI_add, ← pk_mul]
    show _ = 40 - (nI (stat ln 12).1 + 2 * nI (stat ln 12).2.1 + nI (spanN ln))
    grind
  rw [e, Int32.le_iff_toInt_le, nI_toInt (by omega), show ((40 : Int32) - nI (losN ln 12 + spanN ln)).toInt = 40 - ((losN ln 12 + spanN ln : Nat) : Int) from pk_sub_toInt (a := 40) (b := losN ln 12 + spanN ln) (by decide) (by unfold losN; omega)]
  omega
theorem abs_l0 : ∀ l, l < 9 → ∀ f, f < 9 → (if 0 ≤ nI l - nI f then nI l - nI f else -(nI l - nI f)) = nI (if l < f then f - l else l - f) := by decide +kernel
theorem abs_l {l f : Nat} (hl : l ≤ 8) (hf : f ≤ 8) : (if 0 ≤ nI l - nI f then nI l - nI f else -(nI l - nI f)) = nI (if l < f then f - l else l - f) := abs_l0 l (by omega) f (by omega)
theorem or_pw {m x : Nat} (h : m < 2 ^ x) : m ||| 2 ^ x = m + 2 ^ x := by
  have := Nat.two_pow_add_eq_or_of_lt h 1
  rw [Nat.mul_one] at this
  rw [Nat.or_comm, ← this, Nat.add_comm]
theorem lnK_le {s : Row} {code : PCo} {p m : Nat} (h : pgS s p ≤ 8) (x : Nat) : lnK s code p m x ≤ 8 := line_le h x
/-- a step of a line, as the search goes -/
theorem step_ln {ln : Nat → Nat} {x : Nat} {t lt : Int32} (h8 : ln x ≤ 8) (hs : ln (x + 1) = went (ln x) t) (hl : lt.toInt = (stat ln x).2.2) (hr : lt = 0 ∨ lt = 1 ∨ lt = -1) : nI (ln x) + mv (ln x) t = nI (ln (x + 1)) ∧ (latF (mv (ln x) t) lt).toInt = (stat ln (x + 1)).2.2 ∧ nI (losN ln x) + losF (mv (ln x) t) lt = nI (losN ln (x + 1)) := by
  have hm : (mv (ln x) t = 0 ∧ ln (x + 1) = ln x) ∨ (mv (ln x) t = 1 ∧ ln (x + 1) = ln x + 1) ∨ (mv (ln x) t = -1 ∧ 0 < ln x ∧ ln (x + 1) = ln x - 1) := by rw [hs]; exact mv_spec (ln x) t
  obtain ⟨a, b, c⟩ := stat_mv hm hl hr
  refine ⟨by rw [hs]; exact lane_mv h8 t, ?_⟩
  unfold latF losF losN
  by_cases h0 : mv (ln x) t = 0
  · rw [if_pos h0, if_pos h0, a h0]; exact ⟨hl, by simp⟩
  · rw [if_neg h0, if_neg h0]
    by_cases h1 : mv (ln x) t + lt = 0
    · rw [if_pos h1, b h0 h1]
      exact ⟨rfl, by rw [show (3 : Int32) = nI 3 from rfl, nI_add]; exact congrArg nI (by dsimp only; omega)⟩
    · rw [if_neg h1, c h0 h1]
      exact ⟨rfl, by rw [show (1 : Int32) = nI 1 from rfl, nI_add]; exact congrArg nI (by dsimp only; omega)⟩
theorem lat3 {s : Row} {code : PCo} {p m x : Nat} {lt : Int32} (hl : lt.toInt = (stat (lnK s code p m) x).2.2) : lt = 0 ∨ lt = 1 ∨ lt = -1 := i32_3 (by rw [hl]; exact stat_lt x)
theorem Ext.rf {x m : Nat} : Ext x m m := fun _ _ => rfl
theorem ext_pw {m x : Nat} (h : m < 2 ^ x) : Ext x m (m + 2 ^ x) := fun y hy => by rw [pw_bit h, if_neg (by omega)]
theorem bit_hi {m x : Nat} (h : m < 2 ^ x) : m / 2 ^ x % 2 = 0 := by rw [Nat.div_eq_of_lt h]
/-- on from m: nothing taken at x -/
theorem go_0 {s : Row} {code : PCo} {p m x : Nat} (hm : m < 2 ^ x) : lnK s code p m (x + 1) = went (lnK s code p m x) (stS s code p x (lnK s code p m x) (s (19 + x))) := by rw [lnK_s, gK_0 (by rw [bit_hi hm]; decide)]
/-- on from m: what lies at x is taken -/
theorem go_1 {s : Row} {code : PCo} {p m x : Nat} (hm : m < 2 ^ x) : lnK s code p (m + 2 ^ x) (x + 1) = went (lnK s code p (m + 2 ^ x) x) (stS s code p x (lnK s code p (m + 2 ^ x) x) 0) := by rw [lnK_s, gK_1 (by rw [pw_bit hm, if_pos rfl])]
theorem sub_pw {s : Row} {m x : Nat} (hm : m < 2 ^ x) (h : subB s m = true) (h0 : 0 < s (19 + x)) : subB s (m + 2 ^ x) = true := by
  rw [sub_iff] at h ⊢
  intro y hy hb
  rw [pw_bit hm] at hb
  by_cases e : y = x
  · subst e; exact h0
  · rw [if_neg e] at hb; exact h y hy hb
theorem ok_eq {s : Row} {code : PCo} {mk p m : Nat} (hpg : pgS s p ≤ 8) (hmk : mk ≤ 99) (hsub : subB s m = true) : clrB s code mk p m = decide (losN (lnK s code p m) 12 + spanN (lnK s code p m) + mk ≤ 40) := by
  unfold clrB
  rw [hsub, Bool.true_and, kS_ln, decide_eq_decide]
  exact ok_iff (fun x => lnK_le hpg x) hmk
theorem kill_lost {s : Row} {code : PCo} {mk p f x m : Nat} {o : Option Nat} (hpg : pgS s p ≤ 8) (hmk : mk ≤ 99) (hx : x + f = 12) (hm : m < 2 ^ x) (h : ¬ losN (lnK s code p m) x + mk ≤ 40) : srch (upB (clrB s code mk p)) (lyB s) f x m o = o := by
  refine srch_id f x m (fun z hz => ?_)
  obtain ⟨hz1, he, _, _⟩ := cmp_all f x m z hm hz
  have h1 := los_ext (s := s) (code := code) (p := p) he
  have h2 := los_mono (lnK s code p z) x f
  rw [hx] at h2
  have hno : clrB s code mk p z = false := by
    unfold clrB
    rw [kS_ln, show decide (nI mk ≤ scoreN (lnK s code p z)) = false from decide_eq_false (fun q => by have := (ok_iff (ln := lnK s code p z) (fun x => lnK_le hpg x) hmk).mp q; omega), Bool.and_false]
  unfold upB
  rw [hno]
  cases o <;> rfl
theorem kill_cnt {s : Row} {ok : Nat → Bool} {f x m : Nat} {o : Option Nat} (hm : m < 2 ^ x) (h : few o < cntN2 m 12) : srch (upB ok) (lyB s) f x m o = o := by
  refine srch_id f x m (fun z hz => ?_)
  obtain ⟨_, _, hc, _⟩ := cmp_all f x m z hm hz
  have := hc 12
  cases o with
  | none => have := cnt_le12 m 12; exact absurd h (by show ¬ 13 < _; omega)
  | some b =>
    have hb : cntN2 b 12 < cntN2 m 12 := h
    have h1 : ¬ cntN2 z 12 < cntN2 b 12 := by omega
    have h2 : ¬ cntN2 z 12 = cntN2 b 12 := by omega
    simp [upB, h1, h2]
theorem up_small {ok : Nat → Bool} {o : Option Nat} {m : Nat} (h : SmallO o) (hm : m < 4096) : SmallO (upB ok o m) := by
  intro b hb
  unfold upB at hb
  cases o with
  | none => simp only at hb; split at hb <;> cases hb; exact hm
  | some c =>
    simp only at hb
    split at hb
    · cases hb; exact hm
    · exact h b hb
theorem srch_small {ok : Nat → Bool} {ly : Nat → Bool} : ∀ (f x m : Nat) (o : Option Nat), x + f = 12 → m < 2 ^ x → SmallO o → SmallO (srch (upB ok) ly f x m o) := by
  intro f
  induction f with
  | zero => intro x m o hx hm h; exact up_small h (by rw [show x = 12 by omega] at hm; exact hm)
  | succ f ih =>
    intro x m o hx hm h
    have hm2 : m < 2 ^ (x + 1) := by rw [Nat.pow_succ]; omega
    have hm3 : m + 2 ^ x < 2 ^ (x + 1) := by rw [Nat.pow_succ]; omega
    have h1 := ih (x + 1) m o (by omega) hm2 h
    show SmallO (if ly x then srch (upB ok) ly f (x + 1) (m + 2 ^ x) (srch (upB ok) ly f (x + 1) m o) else srch (upB ok) ly f (x + 1) m o)
    split
    · exact ih (x + 1) (m + 2 ^ x) _ (by omega) hm3 h1
    · exact h1
theorem srch_y {up : Option Nat → Nat → Option Nat} {ly : Nat → Bool} {f x m : Nat} {o : Option Nat} (h : ly x = true) : srch up ly (f + 1) x m o = srch up ly f (x + 1) (m + 2 ^ x) (srch up ly f (x + 1) m o) := by
  show (if ly x then _ else _) = _
  rw [if_pos h]
theorem srch_n {up : Option Nat → Nat → Option Nat} {ly : Nat → Bool} {f x m : Nat} {o : Option Nat} (h : ¬ ly x = true) : srch up ly (f + 1) x m o = srch up ly f (x + 1) m o := by
  show (if ly x then _ else _) = _
  rw [if_neg h]
theorem ly_one {s : Row} {x : Nat} (hx : x < 12) : lyN s 12 / 2 ^ x % 2 = 1 ↔ lyB s x = true := by
  have := ly_bit s 12 x
  rw [bitS] at this
  unfold lyB
  rw [decide_eq_true_iff, ← decide_eq_true_iff (p := lyN s 12 / 2 ^ x % 2 = 1), this]
  simp [hx]
def FS : Nat → Nat → Prop := fun q i => q = 58 ∧ (i = 5 ∨ i = 6)
/-- what the search reads -/
def SQ (μ : Mem) (s : Row) (code : PCo) (mk p : Nat) : Prop := μ 58 4 = 40 - nI mk ∧ μ 58 3 = nI (pgS s p) ∧ μ 58 2 = nI (lyN s 12) ∧ ∀ x l, x < 12 → l ≤ 8 → μ 59 (x * 9 + l) = mv l (stS s code p x l (s (19 + x))) ∧ μ 60 (x * 9 + l) = mv l (stS s code p x l 0)
theorem SQ.mo {μ μ' : Mem} {s : Row} {code : PCo} {mk p : Nat} (h : SQ μ s code mk p) (e : Same FS μ μ') : SQ μ' s code mk p := by
  obtain ⟨a, b, c, d⟩ := h
  exact ⟨(e _ _ (by unfold FS; omega)).trans a, (e _ _ (by unfold FS; omega)).trans b, (e _ _ (by unfold FS; omega)).trans c, fun x l hx hl => ⟨(e _ _ (by unfold FS; omega)).trans (d x l hx hl).1, (e _ _ (by unfold FS; omega)).trans (d x l hx hl).2⟩⟩
/-- the best so far -/
def BO (μ : Mem) (o : Option Nat) : Prop := μ 58 5 = clrI o ∧ μ 58 6 = nI (few o) ∧ SmallO o
theorem stC_S {μ : Mem} {k : Nat} {s : Row} (h : RelL μ k s) (code : PCo) {p x l : Nat} (hp : p < 6) (f : Int32) : stC μ k code p x l f = stS s code p x l f := by
  unfold stC stS strayL
  rw [h.1, (h.2.2.2.2.2.1 p hp).1, (h.2.2.2.2.2.1 p hp).2.1]
  show strayF _ _ _ _ (μ (k + 6) (p * 4 + x % 4)) _ = strayF _ _ _ _ (s (57 + (p * 4 + x % 4))) _
  rw [h.2.2.2.2.2.2 (p * 4 + x % 4) (by omega)]
