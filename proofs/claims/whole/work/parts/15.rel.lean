/-! ===== the abstract state: the model's row s; what the component's State at b holds of it ===== -/
abbrev Row : Type := Nat → Int32
/-- a step of a code, as the model writes it -/
def mst (c : Nat × Nat) : Int32 := if c.1 < 18 then nI (c.1 / 3 + 8 * (c.1 % 3) + 32 * c.2) else if c.1 = 18 then -1 else if c.1 = 19 then -2 else if c.1 = 20 then -3 else if c.1 = 21 then -10 - nI c.2 else -200 - nI c.2
def pgS (s : Row) (p : Nat) : Nat := (s (51 + p)).toNatClampNeg
def scS (s : Row) (code : PCo) (yr : Int32) (p l : Nat) : Int32 := scV code (fun p => s (39 + p)) (fun p => s (45 + p)) (fun j => s (57 + j)) (fun x => s (19 + x)) yr p l
def scP (s : Row) (code : PCo) (p : Nat) : Int32 := scS s code (s 0) p (pgS s p)
def lnS (s : Row) (code : PCo) (p l : Nat) : Nat → Nat := lineL (gV code (fun p => s (39 + p)) (fun p => s (45 + p)) (fun j => s (57 + j)) (fun x => s (19 + x)) (s 0) p) l
def naS (s : Row) (p : Nat) : Bool := decide (s (7 + p) = 0)
def beS (s : Row) (p : Nat) : Bool := decide (s (1 + p) = 1)
/-- bounds of the land's part: n MEN, YEAR at most Y, WINS at most M -/
def InvL (s : Row) (n Y M : Nat) : Prop := s 31 = nI n ∧ n ≤ 6 ∧ (∃ y, y ≤ Y ∧ s 0 = nI y) ∧ (∀ p, p < 6 → (s (1 + p) = 0 ∨ s (1 + p) = 1) ∧ (s (7 + p) = 0 ∨ s (7 + p) = 1)) ∧ (∀ p, n ≤ p → p < 6 → s (1 + p) = 0 ∧ s (7 + p) = 0 ∧ s (13 + p) = 0 ∧ ∀ j, j < 4 → s (57 + (p * 4 + j)) = 0) ∧ (∀ p, p < 6 → ∃ w, w ≤ M ∧ s (13 + p) = nI w) ∧ (∀ p, p < n → (∃ l, l ≤ 8 ∧ s (51 + p) = nI l) ∧ ∃ k, k ≤ 6 ∧ s (39 + p) = nI k)
/-- the PARISH that holds -/
def InvP (s : Row) (code : PCo) (mk : Nat) : Prop := (∃ np, np ≤ 5 ∧ s 32 = nI np ∧ ((s 38 = -1 ∧ code = [] ∧ mk = 30) ∨ ∃ h, h < np ∧ s 38 = nI h ∧ s (243 + h) = nI code.length ∧ s (238 + h) = nI mk ∧ ∀ (i : Nat) (c : Nat × Nat), code[i]? = some c → s (248 + 140 * h + i) = mst c)) ∧ code.length ≤ 100 ∧ mk ≤ 99 ∧ WFc 0 code
def InvC (s : Row) (n : Nat) : Prop := ∃ cs, cs ≤ 5 ∧ s 33 = nI cs ∧ ∀ c, c < cs → (∃ a, a < n ∧ s (81 + c) = nI a) ∧ ∃ b, b < n ∧ s (86 + c) = nI b
def InvS (s : Row) (n : Nat) : Prop := ∃ k, k ≤ 5 ∧ s 34 = nI k ∧ ∀ i, i < k → (∃ a, a < n ∧ s (91 + i) = nI a) ∧ (∃ x, x ≤ 12 ∧ s (96 + i) = nI x) ∧ ∃ l, l ≤ 8 ∧ s (101 + i) = nI l
def InvW (s : Row) (n : Nat) : Prop := ∃ k, k ≤ 8 ∧ s 35 = nI k ∧ ∀ i, i < k → ∃ w, w ≤ 3 ∧ s (106 + i) = nI w ∧ (w = 1 ∨ w = 2 → ∃ a, a < n ∧ s (114 + i) = nI a) ∧ (w = 3 → ∃ x, x < 12 ∧ s (114 + i) = nI x)
def InvB (s : Row) (n : Nat) : Prop := ∃ k, k ≤ 8 ∧ s 36 = nI k ∧ ∀ i, i < k → (∃ a, a < n ∧ s (122 + i) = nI a) ∧ ∃ l, l ≤ 8 ∧ s (130 + i) = nI l
def InvT (s : Row) : Prop := ∃ k, k ≤ 100 ∧ s 37 = nI k ∧ ∀ i, i < k → ∃ c, c ≤ 127 ∧ s (138 + i) = nI c
def Inv (s : Row) (n : Nat) (code : PCo) (mk : Nat) : Prop := InvL s n 9999 9999 ∧ InvP s code mk ∧ InvC s n ∧ InvS s n ∧ InvW s n ∧ InvB s n ∧ InvT s
/-- the component's land at k stands for s -/
def RelL (μ : Mem) (k : Nat) (s : Row) : Prop := μ k 0 = s 0 ∧ μ k 1 = s 31 ∧ μ k 2 = bitsI (fun p => !naS s p) 6 ∧ μ k 3 = bitsI (beS s) 6 ∧ (∀ x, x < 12 → μ (k + 1) x = s (19 + x)) ∧ (∀ p, p < 6 → μ (k + 2) p = s (39 + p) ∧ μ (k + 3) p = s (45 + p) ∧ μ (k + 4) p = s (51 + p) ∧ μ (k + 5) p = s (13 + p)) ∧ ∀ j, j < 24 → μ (k + 6) j = s (57 + j)
def RelT (μ : Mem) (b : Nat) (s : Row) : Prop := μ (b + 11) 0 = 1 ∧ μ (b + 11) 2 = s 37 ∧ ∀ i, i < 100 → μ (b + 12) i = s (138 + i)
def RelC (μ : Mem) (b : Nat) (s : Row) : Prop := μ (b + 13) 0 = 2 ∧ μ (b + 13) 2 = s 33 ∧ ∀ c, c < 5 → μ (b + 14) (c * 2) = s (81 + c) ∧ μ (b + 14) (c * 2 + 1) = s (86 + c)
def RelS (μ : Mem) (b : Nat) (s : Row) : Prop := μ (b + 15) 0 = 3 ∧ μ (b + 15) 2 = s 34 ∧ ∀ i, i < 5 → μ (b + 16) (i * 3) = s (91 + i) ∧ μ (b + 16) (i * 3 + 1) = s (96 + i) ∧ μ (b + 16) (i * 3 + 2) = s (101 + i)
def RelW (μ : Mem) (b : Nat) (s : Row) : Prop := μ (b + 17) 0 = 2 ∧ μ (b + 17) 2 = s 35 ∧ ∀ i, i < 8 → μ (b + 18) (i * 2) = s (106 + i) ∧ μ (b + 18) (i * 2 + 1) = s (114 + i)
def RelB (μ : Mem) (b : Nat) (s : Row) : Prop := μ (b + 19) 0 = 2 ∧ μ (b + 19) 2 = s 36 ∧ ∀ i, i < 8 → μ (b + 20) (i * 2) = s (122 + i) ∧ μ (b + 20) (i * 2 + 1) = s (130 + i)
def Rel (μ : Mem) (b : Nat) (s : Row) (code : PCo) (mk : Nat) : Prop := RelL μ (b + 1) s ∧ (CodeAt μ (b + 8) code ∧ μ (b + 8) 3 = nI mk) ∧ RelT μ b s ∧ RelC μ b s ∧ RelS μ b s ∧ RelW μ b s ∧ RelB μ b s ∧ μ b 7 = s 32
theorem RelL.mo {μ μ' : Mem} {k : Nat} {s : Row} (h : RelL μ k s) (e : ∀ q, k ≤ q → q ≤ k + 6 → μ' q = μ q) : RelL μ' k s := by
  unfold RelL
  rw [e k (by omega) (by omega), e (k + 1) (by omega) (by omega), e (k + 2) (by omega) (by omega), e (k + 3) (by omega) (by omega), e (k + 4) (by omega) (by omega), e (k + 5) (by omega) (by omega), e (k + 6) (by omega) (by omega)]
  exact h
theorem Rel.mo {μ μ' : Mem} {b : Nat} {s : Row} {code : PCo} {mk : Nat} (h : Rel μ b s code mk) (e : ∀ q, b ≤ q → q ≤ b + 20 → μ' q = μ q) : Rel μ' b s code mk := by
  obtain ⟨h1, ⟨h2, h3⟩, h4, h5, h6, h7, h8, h9⟩ := h
  refine ⟨h1.mo (fun q a b => e q (by omega) (by omega)), ⟨h2.mo (e _ (by omega) (by omega)) (e _ (by omega) (by omega)) (e _ (by omega) (by omega)), by rw [e _ (by omega) (by omega)]; exact h3⟩, ?_, ?_, ?_, ?_, ?_, by rw [e _ (by omega) (by omega)]; exact h9⟩
  · unfold RelT; rw [e _ (by omega) (by omega), e _ (by omega) (by omega)]; exact h4
  · unfold RelC; rw [e _ (by omega) (by omega), e _ (by omega) (by omega)]; exact h5
  · unfold RelS; rw [e _ (by omega) (by omega), e _ (by omega) (by omega)]; exact h6
  · unfold RelW; rw [e _ (by omega) (by omega), e _ (by omega) (by omega)]; exact h7
  · unfold RelB; rw [e _ (by omega) (by omega), e _ (by omega) (by omega)]; exact h8
theorem RelL.men {μ : Mem} {k : Nat} {s : Row} {n Y M : Nat} (h : RelL μ k s) (hi : InvL s n Y M) : MenAt μ k n :=
  ⟨h.2.1.trans hi.1, hi.2.1, fun p hp => by
    obtain ⟨l, hl, e⟩ := (hi.2.2.2.2.2.2 p hp).1
    exact ⟨l, hl, ((h.2.2.2.2.2.1 p (by have := hi.2.1; omega)).2.2.1).trans e⟩⟩
theorem RelL.na {μ : Mem} {k : Nat} {s : Row} (h : RelL μ k s) {p : Nat} (hp : p < 6) : naB μ k p = naS s p := by
  unfold naB
  rw [h.2.2.1, bits_get _ hp]
  cases naS s p <;> simp
theorem RelL.pg {μ : Mem} {k : Nat} {s : Row} (h : RelL μ k s) {p : Nat} (hp : p < 6) : pgN μ k p = pgS s p := by
  unfold pgN pgS; rw [(h.2.2.2.2.2.1 p hp).2.2.1]
theorem RelL.sc {μ : Mem} {k : Nat} {s : Row} (h : RelL μ k s) (code : PCo) (yr : Int32) {p : Nat} (l : Nat) (hp : p < 6) : scV code (μ (k + 2)) (μ (k + 3)) (μ (k + 6)) (μ (k + 1)) yr p l = scS s code yr p l :=
  scV_congr (h.2.2.2.2.2.1 p hp).1 (h.2.2.2.2.2.1 p hp).2.1 (fun j hj => h.2.2.2.2.2.2 _ (by omega)) (fun x hx => h.2.2.2.2.1 x hx)
theorem RelL.sy {μ : Mem} {k : Nat} {s : Row} (h : RelL μ k s) (code : PCo) (yr : Int32) {p : Nat} (hp : p < 6) : scY μ k code yr p = scS s code yr p (pgS s p) := by
  unfold scY; rw [h.sc code yr _ hp, h.pg hp]
theorem RelL.line {μ : Mem} {k : Nat} {s : Row} (h : RelL μ k s) (code : PCo) {p : Nat} (l : Nat) (hp : p < 6) : ∀ x, x ≤ 12 → lnC μ k code p l x = lnS s code p l x := by
  have this : ∀ y z, y < 12 → gV code (μ (k + 2)) (μ (k + 3)) (μ (k + 6)) (μ (k + 1)) (s 0) p y z = gV code (fun p => s (39 + p)) (fun p => s (45 + p)) (fun j => s (57 + j)) (fun x => s (19 + x)) (s 0) p y z := gV_congr (h.2.2.2.2.2.1 p hp).1 (h.2.2.2.2.2.1 p hp).2.1 (fun j hj => h.2.2.2.2.2.2 _ (by omega)) (fun x hx => h.2.2.2.2.1 x hx)
  intro x hx
  unfold lnC lnS
  refine line_congr (fun y z hy => ?_) x hx
  rw [← this y z hy]
  unfold gC stC gV
  rw [h.1]
theorem RelL.sty {μ : Mem} {k : Nat} {s : Row} (h : RelL μ k s) (code : PCo) {p x l : Nat} (hp : p < 6) (hx : x < 12) : stC μ k code p x l (μ (k + 1) x) = gV code (fun p => s (39 + p)) (fun p => s (45 + p)) (fun j => s (57 + j)) (fun x => s (19 + x)) (s 0) p x l := by
  rw [← gV_congr (code := code) (yr := s 0) (h.2.2.2.2.2.1 p hp).1 (h.2.2.2.2.2.1 p hp).2.1 (fun j hj => h.2.2.2.2.2.2 _ (by omega)) (fun x hx => h.2.2.2.2.1 x hx) x l hx]
  unfold stC gV
  rw [h.1]
/-- an int is a small number, or it isn't -/
theorem ix_of {x : Int32} {n : Nat} (hn : n < 2 ^ 31) (h : 0 ≤ x ∧ x < nI n) : ∃ p, p < n ∧ x = nI p := by
  rcases pk_ix x hn with h1 | h1 | h1
  · exact absurd h1 (Int32.not_lt.mpr h.1)
  · exact absurd h.2 (Int32.not_lt.mpr h1)
  · exact h1
theorem ix_in {p n : Nat} (h : p < n) (hn : n < 2 ^ 31) : 0 ≤ nI p ∧ nI p < nI n := ⟨nI_pos' (by omega), nI_lt h hn⟩
/-- is there such a man -/
def isMan (s : Row) (x : Int32) : Prop := 0 ≤ x ∧ x < s 31
