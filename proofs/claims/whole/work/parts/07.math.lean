/-! ===== what both sides compute: codes of clauses, drift, stray, lines ===== -/
abbrev PCo : Type := List (Nat × Nat)
def tstB (fa : Nat → Int32) (op n : Nat) : Bool := if op % 3 = 0 then decide (fa (op / 3) < nI n) else if op % 3 = 1 then decide (fa (op / 3) = nI n) else decide (nI n < fa (op / 3))
def dst (fa : Nat → Int32) (s : List Bool × Int32) (c : Nat × Nat) : List Bool × Int32 :=
  if c.1 < 18 then (tstB fa c.1 c.2 :: s.1, s.2)
  else if c.1 = 18 then (match s.1 with | b :: t => (!b) :: t | [] => [], s.2)
  else if c.1 = 19 then (match s.1 with | b :: a :: t => (a && b) :: t | t => t, s.2)
  else if c.1 = 20 then (match s.1 with | b :: a :: t => (a || b) :: t | t => t, s.2)
  else if c.1 = 21 then (s.1.tail, s.2 + (if s.1.headD false then nI c.2 else 0))
  else (s.1.tail, s.2 - (if s.1.headD false then nI c.2 else 0))
def Drift (fa : Nat → Int32) (code : PCo) : Int32 := (code.foldl (dst fa) ([], 0)).2
/-- from d answers that wait on, the code never lacks one, never has more than 14 wait -/
def WFc : Nat → PCo → Prop
  | _, [] => True
  | d, c :: cs => c.1 ≤ 22 ∧ c.2 ≤ 99 ∧ (c.1 < 18 → d < 14 ∧ WFc (d + 1) cs) ∧ (c.1 = 18 → 0 < d ∧ WFc d cs) ∧ (c.1 = 19 ∨ c.1 = 20 → 1 < d ∧ WFc (d - 1) cs) ∧ (21 ≤ c.1 → d = 1 ∧ WFc 0 cs)
def enc : List Bool → Nat
  | [] => 0
  | b :: s => 2 * enc s + b.toNat
theorem enc_lt (s : List Bool) : enc s < 2 ^ s.length := by
  induction s with
  | nil => simp [enc]
  | cons b s ih => simp only [enc, List.length_cons, Nat.pow_succ]; cases b <;> simp <;> omega
theorem enc_14 {s : List Bool} (h : s.length ≤ 14) : enc s < 16384 := Nat.lt_of_lt_of_le (enc_lt s) (show 2 ^ s.length ≤ 2 ^ 14 from Nat.pow_le_pow_right (by decide) h)
theorem enc_13 {s : List Bool} (h : s.length ≤ 13) : enc s < 8192 := Nat.lt_of_lt_of_le (enc_lt s) (show 2 ^ s.length ≤ 2 ^ 13 from Nat.pow_le_pow_right (by decide) h)
def grid (f : Nat → Bool) : Bool := (List.range 128).all fun a => (List.range 128).all fun b => f (128 * a + b)
theorem grid_of {f : Nat → Bool} (h : grid f = true) {n : Nat} (hn : n < 16384) : f n = true := by
  have h1 := List.all_eq_true.mp h (n / 128) (List.mem_range.mpr (by omega))
  have h2 := List.all_eq_true.mp h1 (n % 128) (List.mem_range.mpr (by omega))
  rwa [show 128 * (n / 128) + n % 128 = n by omega] at h2
theorem gw_not {n : Nat} (h : n < 16384) : nI n ^^^ 1 = nI (2 * (n / 2) + (1 - n % 2)) := by
  have := grid_of (f := fun n => decide (nI n ^^^ 1 = nI (2 * (n / 2) + (1 - n % 2)))) (by decide +kernel) h
  simpa using this
theorem gw_and {n : Nat} (h : n < 16384) : (nI n >>> ((1 : Int32) &&& 31)) &&& (nI n ||| (-2)) = nI (2 * (n / 4) + (n / 2 % 2) * (n % 2)) := by
  have := grid_of (f := fun n => decide ((nI n >>> ((1 : Int32) &&& 31)) &&& (nI n ||| (-2)) = nI (2 * (n / 4) + (n / 2 % 2) * (n % 2)))) (by decide +kernel) h
  simpa using this
theorem gw_or {n : Nat} (h : n < 16384) : (nI n >>> ((1 : Int32) &&& 31)) ||| (nI n &&& 1) = nI (2 * (n / 4) + max (n / 2 % 2) (n % 2)) := by
  have := grid_of (f := fun n => decide ((nI n >>> ((1 : Int32) &&& 31)) ||| (nI n &&& 1) = nI (2 * (n / 4) + max (n / 2 % 2) (n % 2)))) (by decide +kernel) h
  simpa using this
theorem gw_shr {n : Nat} (h : n < 16384) : nI n >>> ((1 : Int32) &&& 31) = nI (n / 2) := by
  have := grid_of (f := fun n => decide (nI n >>> ((1 : Int32) &&& 31) = nI (n / 2))) (by decide +kernel) h
  simpa using this
theorem gw_bit {n : Nat} (h : n < 16384) : nI n &&& 1 = nI (n % 2) := by
  have := grid_of (f := fun n => decide (nI n &&& 1 = nI (n % 2))) (by decide +kernel) h
  simpa using this
theorem gw_shl {n : Nat} (h : n < 16384) : (nI n <<< ((1 : Int32) &&& 31) ||| 1 = nI (2 * n + 1)) ∧ (nI n <<< ((1 : Int32) &&& 31) ||| 0 = nI (2 * n)) := by
  have := grid_of (f := fun n => decide ((nI n <<< ((1 : Int32) &&& 31) ||| 1 = nI (2 * n + 1)) ∧ (nI n <<< ((1 : Int32) &&& 31) ||| 0 = nI (2 * n)))) (by decide +kernel) h
  simpa using this
theorem w_not {b : Bool} {t : List Bool} (h : t.length ≤ 13) : nI (enc (b :: t)) ^^^ 1 = nI (enc ((!b) :: t)) := by
  rw [gw_not (enc_14 (by simp; omega))]
  cases b <;> simp only [enc, Bool.toNat_true, Bool.toNat_false, Bool.not_true, Bool.not_false] <;> congr 1 <;> omega
theorem w_and {a b : Bool} {t : List Bool} (h : t.length ≤ 12) : (nI (enc (b :: a :: t)) >>> ((1 : Int32) &&& 31)) &&& (nI (enc (b :: a :: t)) ||| (-2)) = nI (enc ((a && b) :: t)) := by
  rw [gw_and (enc_14 (by simp; omega))]
  congr 1
  have e1 : enc (b :: a :: t) / 4 = enc t := by simp only [enc]; cases a <;> cases b <;> simp <;> omega
  have e2 : enc (b :: a :: t) / 2 % 2 = a.toNat := by simp only [enc]; cases a <;> cases b <;> simp <;> omega
  have e3 : enc (b :: a :: t) % 2 = b.toNat := by simp only [enc]; cases a <;> cases b <;> simp <;> omega
  rw [e1, e2, e3]
  cases a <;> cases b <;> simp [enc]
theorem w_or {a b : Bool} {t : List Bool} (h : t.length ≤ 12) : (nI (enc (b :: a :: t)) >>> ((1 : Int32) &&& 31)) ||| (nI (enc (b :: a :: t)) &&& 1) = nI (enc ((a || b) :: t)) := by
  rw [gw_or (enc_14 (by simp; omega))]
  congr 1
  have e1 : enc (b :: a :: t) / 4 = enc t := by simp only [enc]; cases a <;> cases b <;> simp <;> omega
  have e2 : enc (b :: a :: t) / 2 % 2 = a.toNat := by simp only [enc]; cases a <;> cases b <;> simp <;> omega
  have e3 : enc (b :: a :: t) % 2 = b.toNat := by simp only [enc]; cases a <;> cases b <;> simp <;> omega
  rw [e1, e2, e3]
  cases a <;> cases b <;> simp [enc]
theorem w_shr {b : Bool} {t : List Bool} (h : t.length ≤ 13) : nI (enc (b :: t)) >>> ((1 : Int32) &&& 31) = nI (enc t) := by
  rw [gw_shr (enc_14 (by simp; omega))]
  congr 1
  simp only [enc]; cases b <;> simp <;> omega
theorem w_bit {b : Bool} {t : List Bool} (h : t.length ≤ 13) : nI (enc (b :: t)) &&& 1 = nI b.toNat := by
  rw [gw_bit (enc_14 (by simp; omega))]
  congr 1
  simp only [enc]; cases b <;> simp
theorem w_psh {b : Bool} {t : List Bool} (h : t.length ≤ 13) : nI (enc t) <<< ((1 : Int32) &&& 31) ||| (nI b.toNat) = nI (enc (b :: t)) := by
  have h1 := gw_shl (n := enc t) (enc_14 (by omega))
  cases b
  · exact h1.2
  · exact h1.1
theorem take_succ_fold {α β : Type} (f : β → α → β) (b : β) (l : List α) {i : Nat} {c : α} (h : l[i]? = some c) : (l.take (i + 1)).foldl f b = f ((l.take i).foldl f b) c := by
  rw [List.take_add_one, h]; simp
theorem drop_cons_of {α : Type} {l : List α} {i : Nat} {c : α} (h : l[i]? = some c) : l.drop i = c :: l.drop (i + 1) := by
  obtain ⟨hl, e⟩ := List.getElem?_eq_some_iff.mp h
  rw [← e]; exact List.drop_eq_getElem_cons hl
theorem WFc.le {d : Nat} {c : Nat × Nat} {cs : PCo} (h : WFc d (c :: cs)) : c.1 ≤ 22 ∧ c.2 ≤ 99 := ⟨h.1, h.2.1⟩
/-! stray, lines -/
def strayF (kd v yr f rw dr : Int32) : Int32 :=
  if kd = 1 then dr / 2 else if kd = 2 then dr + f else if kd = 3 then (if v < f then dr else 0) else if kd = 4 then dr / 2 - v
  else if kd = 5 then (if yr - yr / 2 * 2 = 1 then -(dr + f) else dr + f) else if kd = 6 then (if v < f then dr else 0) + rw - 4 else dr
def facts (p kd x l f yr : Int32) : Nat → Int32 := fun i => match i with
  | 0 => p
  | 1 => kd
  | 2 => x
  | 3 => l
  | 4 => f
  | _ => yr - yr / 10 * 10
/-- what one STRAYS: code, year, the man's number, kind, v, row -/
def strayL (code : PCo) (yr : Int32) (p : Nat) (kd v : Int32) (rw : Nat → Int32) (x l : Nat) (f : Int32) : Int32 :=
  strayF kd v yr f (rw (x % 4)) (Drift (facts (nI p) kd (nI x) (nI l) f yr) code)
def went (l : Nat) (t : Int32) : Nat := if 0 < t ∧ l < 8 then l + 1 else if t < 0 ∧ 0 < l then l - 1 else l
theorem went_le {l : Nat} {t : Int32} (h : l ≤ 8) : went l t ≤ 8 := by unfold went; split <;> (try split) <;> omega
theorem went_cases (l : Nat) (t : Int32) : went l t = l ∨ went l t = l + 1 ∨ (0 < l ∧ went l t = l - 1) := by
  unfold went
  split
  · exact Or.inr (Or.inl rfl)
  · split
    · rename_i h; exact Or.inr (Or.inr ⟨h.2, rfl⟩)
    · exact Or.inl rfl
def lineL (g : Nat → Nat → Int32) (l0 : Nat) : Nat → Nat
  | 0 => l0
  | x + 1 => went (lineL g l0 x) (g x (lineL g l0 x))
theorem line_le {g : Nat → Nat → Int32} {l0 : Nat} (h : l0 ≤ 8) (x : Nat) : lineL g l0 x ≤ 8 := by
  induction x with
  | zero => exact h
  | succ x ih => exact went_le ih
/-- OFF, BENDS, the latest move, of the first so many steps -/
def stat (ln : Nat → Nat) : Nat → Nat × Nat × Int
  | 0 => (0, 0, 0)
  | x + 1 => let s := stat ln x; let by' : Int := (ln (x + 1) : Int) - ln x
    (if by' = 0 then s.1 else s.1 + 1, if by' * s.2.2 < 0 then s.2.1 + 1 else s.2.1, if by' = 0 then s.2.2 else by')
theorem stat_le (ln : Nat → Nat) (x : Nat) : (stat ln x).1 ≤ x ∧ (stat ln x).2.1 ≤ x := by
  induction x with
  | zero => simp [stat]
  | succ x ih => simp only [stat]; constructor <;> split <;> omega
theorem stat_lt {g : Nat → Nat → Int32} {l0 : Nat} (x : Nat) : (stat (lineL g l0) x).2.2 = 0 ∨ (stat (lineL g l0) x).2.2 = 1 ∨ (stat (lineL g l0) x).2.2 = -1 := by
  induction x with
  | zero => simp [stat]
  | succ x ih =>
    simp only [stat]
    split
    · exact ih
    · rename_i h
      have e : lineL g l0 (x + 1) = went (lineL g l0 x) (g x (lineL g l0 x)) := rfl
      have := went_cases (lineL g l0 x) (g x (lineL g l0 x))
      rw [← e] at this
      omega
def spanN (ln : Nat → Nat) : Nat := if ln 12 < ln 0 then ln 0 - ln 12 else ln 12 - ln 0
def scoreN (ln : Nat → Nat) : Int32 := 40 - nI (stat ln 12).1 - 2 * nI (stat ln 12).2.1 - nI (spanN ln)
