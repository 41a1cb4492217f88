/-! ===== the component's reader ===== -/
/-- the tape as the component holds it -/
def RQ (μ : Mem) (s : Row) : Prop := μ 12 2 = s 37 ∧ ∀ i, i < 100 → μ 13 i = s (138 + i)
/-- the reader stands at i -/
def RA (μ : Mem) (s : Row) (i : Nat) : Prop := μ 61 2 = nI i ∧ μ 61 3 = nxT s i
def F61 : Nat → Nat → Prop := fun q i => q = 61 ∧ 2 ≤ i
def F62 : Nat → Nat → Prop := fun q i => (q = 62 ∧ i = 2) ∨ q = 63 ∨ q = 64
def FRd : Nat → Nat → Prop := fun q i => (q = 61 ∧ 2 ≤ i) ∨ (q = 62 ∧ i = 2) ∨ q = 63 ∨ q = 64
theorem F61_Rd {μ μ' : Mem} (h : Same F61 μ μ') : Same FRd μ μ' := h.mo (fun q i h => Or.inl h)
theorem F62_Rd {μ μ' : Mem} (h : Same F62 μ μ') : Same FRd μ μ' := h.mo (fun q i h => Or.inr h)
theorem RQ.mo {μ μ' : Mem} {s : Row} (h : RQ μ s) (e : Same FRd μ μ') : RQ μ' s := ⟨(e _ _ (by unfold FRd; omega)).trans h.1, fun i hi => (e _ _ (by unfold FRd; omega)).trans (h.2 i hi)⟩
theorem RA.m2 {μ μ' : Mem} {s : Row} {i : Nat} (h : RA μ s i) (e : Same F62 μ μ') : RA μ' s i := ⟨(e _ _ (by unfold F62; omega)).trans h.1, (e _ _ (by unfold F62; omega)).trans h.2⟩
theorem CodeAt.m1 {μ μ' : Mem} {c : PCo} (h : CodeAt μ 62 c) (e : Same F61 μ μ') : CodeAt μ' 62 c := h.mo (funext fun i => e _ _ (by unfold F61; omega)) (funext fun i => e _ _ (by unfold F61; omega)) (funext fun i => e _ _ (by unfold F61; omega))
/-- a sign, or the end -/
theorem nx_ch {s : Row} (hT : InvT s) (i : Nat) : nxT s i = -1 ∨ ∃ c, c ≤ 127 ∧ nxT s i = nI c := by
  obtain ⟨k, hk, e, h⟩ := hT
  by_cases hi : i < k
  · rw [nx_in e hk hi]; exact Or.inr (h i hi)
  · exact Or.inl (nx_end e hk i (by omega))
theorem dg0 : ∀ c, c < 128 → ((0 ≤ nI c - 48 ∧ nI c - 48 ≤ 9) ↔ isD (nI c) = true) := by decide +kernel
theorem dg1 {s : Row} (hT : InvT s) (i : Nat) : (0 ≤ nxT s i - 48 ∧ nxT s i - 48 ≤ 9) ↔ isD (nxT s i) = true := by
  rcases nx_ch hT i with e | ⟨c, hc, e⟩
  · rw [e]; decide
  · rw [e]; exact dg0 c (by omega)
theorem lt_k {s : Row} {k i : Nat} {x : Int32} (hk : s 37 = nI k) (h100 : k ≤ 100) (hx : x ≠ -1) (h : nxT s i = x) : i < k := Nat.lt_of_not_le (fun q => hx (by rw [← h, nx_end hk h100 i q]))
theorem amT_at {x : Int32} : ∀ {l : List Int32} {j : Nat}, (∀ y, y < j → x ≠ l.getD y 0) → j < l.length → x = l.getD j 0 → amT x l = some j := by
  intro l
  induction l with
  | nil => intro j _ h _; exact absurd h (Nat.not_lt_zero _)
  | cons b t ih =>
    intro j h1 h2 h3
    simp only [amT]
    cases j with
    | zero => rw [if_pos (by simpa using h3)]
    | succ j =>
      rw [if_neg (by have := h1 0 (by omega); simpa using this), ih (j := j) (fun y hy => by have := h1 (y + 1) (by omega); simpa using this) (by simpa using h2) (by simpa using h3)]; rfl
theorem amT_no {x : Int32} : ∀ {l : List Int32}, (∀ y, y < l.length → x ≠ l.getD y 0) → amT x l = none := by
  intro l
  induction l with
  | nil => intro _; rfl
  | cons b t ih =>
    intro h1
    simp only [amT]
    rw [if_neg (by have := h1 0 (by simp); simpa using this), ih (fun y hy => by have := h1 (y + 1) (by simpa using hy); simpa using this)]; rfl
theorem len_by : ∀ m, m < 8 → lenS.getD m 0 = (bytS.getD m []).length := by decide
theorem ch_n1 : ∀ m, m < 8 → ∀ j, j < lenS.getD m 0 → chS m j ≠ -1 := by decide
def amI (o : Option Nat) : Int32 := match o with
  | none => -1
  | some a => nI a
def amP (i : Nat) (o : Option Nat) : Nat := match o with
  | none => i
  | some _ => i + 1
theorem CodeAt.ad {μ μ' : Mem} {c : PCo} (h : CodeAt μ 62 c) (hl : c.length < 100) {a b : Nat} (e : μ' = st (st (st μ (62 + 1) c.length (nI a)) (62 + 2) c.length (nI b)) 62 2 (nI (c.length + 1))) : CodeAt μ' 62 (c ++ [(a, b)]) := by
  subst e
  obtain ⟨h1, h2, h3⟩ := h
  refine ⟨by rw [st_eq]; simp, by simp; omega, fun i q hq => ?_⟩
  by_cases hi : i < c.length
  · rw [List.getElem?_append_left hi] at hq
    obtain ⟨q1, q2⟩ := h3 i q hq
    constructor
    · rw [st_at, if_neg (by omega), st_at, if_neg (by omega), st_at, if_neg (by omega)]; exact q1
    · rw [st_at, if_neg (by omega), st_at, if_neg (by omega), st_at, if_neg (by omega)]; exact q2
  · rw [List.getElem?_append_right (by omega)] at hq
    have : i - c.length = 0 := by
      rcases Nat.eq_zero_or_pos (i - c.length) with h | h
      · exact h
      · rw [List.getElem?_eq_none (by simp; omega)] at hq; cases hq
    rw [this] at hq
    have hq' : (a, b) = q := by simpa using hq
    subst hq'
    have : i = c.length := by omega
    subst this
    constructor
    · rw [st_at, if_neg (by omega), st_at, if_neg (by omega), st_eq]
    · rw [st_at, if_neg (by omega), st_eq]
theorem c_adds62 {E : Ev} {μ : Mem} {c : PCo} (h : CodeAt μ 62 c) (a b : Nat) : AM E yX3_adds cX3_adds 3 none 0 [.ref 62, .int (nI a), .int (nI b)] μ (fun r μ' => r = none ∧ (∃ c', CodeAt μ' 62 c' ∧ (c.length < 100 → c' = c ++ [(a, b)])) ∧ Same F62 μ μ') :=
  (c_X3_adds par_62 h.1 h.2.1).mono (fun r μ' q => by
    obtain ⟨q1, q2, q3⟩ := q
    by_cases hl : c.length < 100
    · refine ⟨q1, ⟨_, h.ad hl (q2 hl), fun _ => rfl⟩, ?_⟩
      rw [q2 hl]
      exact ((Same.rf.s1 (F := F62) (Or.inr (Or.inl rfl))).s1 (Or.inr (Or.inr rfl))).s1 (Or.inl ⟨rfl, rfl⟩)
    · rw [q3 (by omega)]; exact ⟨q1, ⟨c, h, fun z => absurd z hl⟩, Same.rf⟩)
/-- what a reading method leaves -/
def PoR (s : Row) (R : Rs) (μ : Mem) (r : Option Value) (μ' : Mem) : Prop := r = some (.int (bI (R.1 = true))) ∧ RA μ' s R.2.1 ∧ (∃ c', CodeAt μ' 62 c' ∧ (R.1 = true → c' = R.2.2)) ∧ Same FRd μ μ'
def hdT (nx : Nat → Int32) (l : List Int32) (i : Nat) : Bool × Nat × Nat := if (worT nx l i).1 = true then numT nx (i + 5) else (false, (worT nx l i).2, 0)
theorem wor_drop {nx : Nat → Int32} : ∀ (l : List Int32) (i j : Nat), j ≤ l.length → (∀ y, y < j → nx (i + y) = l.getD y 0) → worT nx l i = worT nx (l.drop j) (i + j) := by
  intro l
  induction l with
  | nil => intro i j hj _; have : j = 0 := by simpa using hj
           subst this; rfl
  | cons a t ih =>
    intro i j hj h
    cases j with
    | zero => rfl
    | succ j =>
      have h0 := h 0 (by omega)
      simp only [worT]
      rw [if_pos (by simpa using h0), ih (i + 1) j (by simpa using hj) (fun y hy => by have := h (y + 1) (by omega); rw [show i + 1 + y = i + (y + 1) by omega]; simpa using this)]
      rw [show i + 1 + j = i + (j + 1) by omega]; rfl
theorem wor_no {nx : Nat → Int32} {l : List Int32} {i j : Nat} (hj : j < l.length) (h : ∀ y, y < j → nx (i + y) = l.getD y 0) (hn : nx (i + j) ≠ l.getD j 0) : worT nx l i = (false, i + j) := by
  rw [wor_drop l i j (by omega) h, List.drop_eq_getElem_cons hj]
  simp only [worT]
  rw [if_neg (by rw [List.getD_eq_getElem?_getD, List.getElem?_eq_getElem hj] at hn; simpa using hn)]
theorem wor_ok {nx : Nat → Int32} {l : List Int32} {i : Nat} (h : ∀ y, y < l.length → nx (i + y) = l.getD y 0) : worT nx l i = (true, i + l.length) := by
  rw [wor_drop l i l.length (Nat.le_refl _) h, List.drop_length]; rfl
set_option maxHeartbeats 4000000 in
set_option maxRecDepth 100000 in
theorem c_X5_goesOn {E : Ev} {μ : Mem} {s : Row} {k : Nat} (hk : s 37 = nI k) (h100 : k ≤ 100) (hq : RQ μ s) {i : Nat} (h : μ 61 2 + 1 = nI i) (hi : i ≤ 100) : AM E yX5_goesOn cX5_goesOn 1 none 0 [.ref 61] μ (fun r μ' => r = none ∧ μ' = st (st μ 61 2 (nI i)) 61 3 (nxT s i)) := by
  refine am_of (own := RX5) (L := [.ref 61]) (by decide) rfl (Nat.le_of_ble_eq_true rfl) rfl (fun Γ hR => ?_)
  by_cases hi2 : i < k
  · refine cw_aload_n (pc := 0) dX5_goesOn_0 rfl rfl <|
      cw_dup (pc := 1) dX5_goesOn_1 rfl <|
      cw_getI (q := 61) (pc := 2) dX5_goesOn_2 fX5_25 sh_61 (by decide) rfl <|
      cw_iconst (v := 1) (pc := 5) dX5_goesOn_5 (by decide) <|
      cw_iadd (pc := 6) dX5_goesOn_6 <|
      ?_
    rw [h]
    refine cw_putI (q := 61) (pc := 7) dX5_goesOn_7 pX5_25 sh_61 (by decide) rfl <|
      cw_aload_n (pc := 10) dX5_goesOn_10 rfl rfl <|
      cw_aload_n (pc := 11) dX5_goesOn_11 rfl rfl <|
      cw_getI (q := 61) (pc := 12) dX5_goesOn_12 fX5_25 sh_61 (by decide) rfl <|
      ?_
    rw [st_eq]
    refine cw_aload_n (pc := 15) dX5_goesOn_15 rfl rfl <|
      cw_getR (q := 61) (t := 12) (pc := 16) dX5_goesOn_16 fX5_18 sh_61 (by decide) rfl <|
      cw_getI (q := 12) (pc := 19) dX5_goesOn_19 fX5_96 sh_12 (by decide) rfl <|
      ?_
    rw [show (st μ 61 2 (nI i)) 12 2 = nI k from hq.1.trans hk]
    refine cw_icmp_ge_F (tgt := 55) (pc := 22) dX5_goesOn_22 (by decide) (nI_ge hi2 (by omega)) <|
      cw_aload_n (pc := 25) dX5_goesOn_25 rfl rfl <|
      cw_getI (q := 61) (pc := 26) dX5_goesOn_26 fX5_25 sh_61 (by decide) rfl <|
      ?_
    rw [st_eq]
    refine cw_aload_n (pc := 29) dX5_goesOn_29 rfl rfl <|
      cw_getR (q := 61) (t := 12) (pc := 30) dX5_goesOn_30 fX5_18 sh_61 (by decide) rfl <|
      cw_getNR (q := 12) (t := 13) (pc := 33) dX5_goesOn_33 fX5_101 sh_12 (by decide) rfl <|
      cw_alen (q := 13) (v := 100) (pc := 36) dX5_goesOn_36 sh_13 (by decide) <|
      cw_icmp_ge_F (tgt := 55) (pc := 37) dX5_goesOn_37 (by decide) (nI_ge (b := 100) (by omega) (by decide)) <|
      cw_aload_n (pc := 40) dX5_goesOn_40 rfl rfl <|
      cw_getR (q := 61) (t := 12) (pc := 41) dX5_goesOn_41 fX5_18 sh_61 (by decide) rfl <|
      cw_getNR (q := 12) (t := 13) (pc := 44) dX5_goesOn_44 fX5_101 sh_12 (by decide) rfl <|
      cw_aload_n (pc := 47) dX5_goesOn_47 rfl rfl <|
      cw_getI (q := 61) (pc := 48) dX5_goesOn_48 fX5_25 sh_61 (by decide) rfl <|
      ?_
    rw [st_eq]
    refine cw_ial (q := 13) (jn := i) (pc := 51) dX5_goesOn_51 sh_13 rfl (by omega) (by decide) <|
      ?_
    rw [show (st μ 61 2 (nI i)) 13 i = nxT s i from (hq.2 i (by omega)).trans (nx_in hk h100 hi2).symm]
    refine cw_goto (tgt := 56) (pc := 52) dX5_goesOn_52 (by decide) <|
      cw_putI (q := 61) (pc := 56) dX5_goesOn_56 pX5_32 sh_61 (by decide) rfl <|
      cw_vret (pc := 59) dX5_goesOn_59 hR <|
      ⟨rfl, rfl⟩
  · refine cw_aload_n (pc := 0) dX5_goesOn_0 rfl rfl <|
      cw_dup (pc := 1) dX5_goesOn_1 rfl <|
      cw_getI (q := 61) (pc := 2) dX5_goesOn_2 fX5_25 sh_61 (by decide) rfl <|
      cw_iconst (v := 1) (pc := 5) dX5_goesOn_5 (by decide) <|
      cw_iadd (pc := 6) dX5_goesOn_6 <|
      ?_
    rw [h]
    refine cw_putI (q := 61) (pc := 7) dX5_goesOn_7 pX5_25 sh_61 (by decide) rfl <|
      cw_aload_n (pc := 10) dX5_goesOn_10 rfl rfl <|
      cw_aload_n (pc := 11) dX5_goesOn_11 rfl rfl <|
      cw_getI (q := 61) (pc := 12) dX5_goesOn_12 fX5_25 sh_61 (by decide) rfl <|
      ?_
    rw [st_eq]
    refine cw_aload_n (pc := 15) dX5_goesOn_15 rfl rfl <|
      cw_getR (q := 61) (t := 12) (pc := 16) dX5_goesOn_16 fX5_18 sh_61 (by decide) rfl <|
      cw_getI (q := 12) (pc := 19) dX5_goesOn_19 fX5_96 sh_12 (by decide) rfl <|
      ?_
    rw [show (st μ 61 2 (nI i)) 12 2 = nI k from hq.1.trans hk]
    refine cw_icmp_ge_T (tgt := 55) (pc := 22) dX5_goesOn_22 (by decide) (nI_le (Nat.not_lt.mp hi2) (by omega)) <|
      cw_iconst (v := -1) (pc := 55) dX5_goesOn_55 (by decide) <|
      ?_
    rw [← nx_end hk h100 i (by omega)]
    refine cw_putI (q := 61) (pc := 56) dX5_goesOn_56 pX5_32 sh_61 (by decide) rfl <|
      cw_vret (pc := 59) dX5_goesOn_59 hR <|
      ⟨rfl, rfl⟩
theorem c_goOn {E : Ev} {μ : Mem} {s : Row} {k : Nat} (hk : s 37 = nI k) (h100 : k ≤ 100) (hq : RQ μ s) {i : Nat} (ha : RA μ s i) (hi : i < k) : AM E yX5_goesOn cX5_goesOn 1 none 0 [.ref 61] μ (fun r μ' => r = none ∧ RA μ' s (i + 1) ∧ Same F61 μ μ' ∧ μ' 61 4 = μ 61 4) :=
  (c_X5_goesOn hk h100 hq (i := i + 1) (by rw [ha.1, nI_1]) (by omega)).mono (fun r μ' q => by
    obtain ⟨q1, rfl⟩ := q
    exact ⟨q1, ⟨by rw [st_at, if_neg (by omega), st_eq], st_eq _ _ _ _⟩, (Same.rf.s1 (F := F61) ⟨rfl, by decide⟩).s1 ⟨rfl, by decide⟩, by rw [st_at, if_neg (by omega), st_at, if_neg (by omega)]⟩)
set_option maxHeartbeats 4000000 in
set_option maxRecDepth 100000 in
theorem c_X5_eats {E : Ev} {μ : Mem} {s : Row} {k : Nat} (hk : s 37 = nI k) (h100 : k ≤ 100) (hq : RQ μ s) {i : Nat} (ha : RA μ s i) {x : Int32} (hx : x ≠ -1) : AM E yX5_eats cX5_eats 3 (some .boolean) 1 [.ref 61, .int x] μ (fun r μ' => r = some (.int (bI (nxT s i = x))) ∧ RA μ' s (if nxT s i = x then i + 1 else i) ∧ Same F61 μ μ') := by
  refine am_of (own := RX5) (L := [.ref 61, .int x, .null]) (by decide) rfl (Nat.le_of_ble_eq_true rfl) rfl (fun Γ hR => ?_)
  by_cases h : nxT s i = x
  · refine cw_aload_n (pc := 0) dX5_eats_0 rfl rfl <|
      cw_getI (q := 61) (pc := 1) dX5_eats_1 fX5_32 sh_61 (by decide) rfl <|
      ?_
    rw [ha.2]
    refine cw_iload_n (pc := 4) dX5_eats_4 rfl rfl <|
      cw_icmp_ne_F (tgt := 12) (pc := 5) dX5_eats_5 (by decide) h <|
      cw_iconst (v := 1) (pc := 8) dX5_eats_8 (by decide) <|
      cw_goto (tgt := 13) (pc := 9) dX5_eats_9 (by decide) <|
      cw_istore_n (L' := [_, _, _]) (pc := 13) dX5_eats_13 rfl (by decide) rfl rfl <|
      cw_iload_n (pc := 14) dX5_eats_14 rfl rfl <|
      cw_if_eq_F (tgt := 22) (pc := 15) dX5_eats_15 (by decide) (by decide) <|
      cw_aload_n (pc := 18) dX5_eats_18 rfl rfl <|
      cw_invP (q := 61) (pc := 19) dX5_eats_19 (c_goOn hk h100 hq ha (lt_k hk h100 hx h)) rfl vX5_29 sh_61 (by decide) rfl rfl rfl (by decide) <|
      ?_
    rintro _ m1 ⟨rfl, a1, s1, -⟩
    refine cw_iload_n (pc := 22) dX5_eats_22 rfl rfl <|
      cw_zret (pc := 23) dX5_eats_23 hR rfl <|
      ⟨by rw [bI_t h], by rw [if_pos h]; exact a1, s1⟩
  · refine cw_aload_n (pc := 0) dX5_eats_0 rfl rfl <|
      cw_getI (q := 61) (pc := 1) dX5_eats_1 fX5_32 sh_61 (by decide) rfl <|
      ?_
    rw [ha.2]
    refine cw_iload_n (pc := 4) dX5_eats_4 rfl rfl <|
      cw_icmp_ne_T (tgt := 12) (pc := 5) dX5_eats_5 (by decide) h <|
      cw_iconst (v := 0) (pc := 12) dX5_eats_12 (by decide) <|
      cw_istore_n (L' := [_, _, _]) (pc := 13) dX5_eats_13 rfl (by decide) rfl rfl <|
      cw_iload_n (pc := 14) dX5_eats_14 rfl rfl <|
      cw_if_eq_T (tgt := 22) (pc := 15) dX5_eats_15 (by decide) rfl <|
      cw_iload_n (pc := 22) dX5_eats_22 rfl rfl <|
      cw_zret (pc := 23) dX5_eats_23 hR rfl <|
      ⟨by rw [bI_f h], by rw [if_neg h]; exact ha, Same.rf⟩
set_option maxHeartbeats 4000000 in
set_option maxRecDepth 100000 in
theorem c_X5_eatsOneOf {E : Ev} {μ : Mem} {s : Row} {k : Nat} (hk : s 37 = nI k) (h100 : k ≤ 100) (hq : RQ μ s) {i m : Nat} (hm : m < 8) (ha : RA μ s i) : AM E yX5_eatsOneOf cX5_eatsOneOf 3 (some .int) 4 [.ref 61, .ref (80 + m)] μ (fun r μ' => r = some (.int (amI (amT (nxT s i) (bytS.getD m [])))) ∧ RA μ' s (amP i (amT (nxT s i) (bytS.getD m []))) ∧ Same F61 μ μ') := by
  refine am_of (own := RX5) (L := [.ref 61, .ref (80 + m), .null]) (by decide) rfl (Nat.le_of_ble_eq_true rfl) rfl (fun Γ hR => ?_)
  have hlen := len_lt m hm
  refine cw_iconst (v := 0) (pc := 0) dX5_eatsOneOf_0 (by decide) <|
    cw_istore_n (L' := [_, _, _]) (pc := 1) dX5_eatsOneOf_1 rfl (by decide) rfl rfl <|
    ?_
  refine cw_for (σ := Unit) (lenS.getD m 0) (fun j _ m' => m' = μ ∧ ∀ y, y < j → nxT s i ≠ chS m y) (fun j _ => [.ref 61, .ref (80 + m), .int (nI j)]) ?_ ?_ 0 () _ (Nat.zero_le _) ⟨rfl, fun y hy => absurd hy (Nat.not_lt_zero _)⟩
  · rintro ⟨⟩ m' ⟨rfl, h⟩
    have e := amT_no (x := nxT s i) (l := bytS.getD m []) (fun y hy => h y (by rw [len_by m hm]; exact hy))
    refine cw_iload_n (pc := 2) dX5_eatsOneOf_2 rfl rfl <|
      cw_aload_n (pc := 3) dX5_eatsOneOf_3 rfl rfl <|
      cw_invSI (pc := 4) (by assumption) dX5_eatsOneOf_4 (c_J0_length_8abf5 hm) vX5_62 rfl rfl rfl (by decide) <|
      cw_icmp_ge_T (tgt := 34) (pc := 7) dX5_eatsOneOf_7 (by decide) (Int32.le_refl _) <|
      cw_iconst (v := -1) (pc := 34) dX5_eatsOneOf_34 (by decide) <|
      cw_iret (pc := 35) dX5_eatsOneOf_35 hR <|
      ⟨by rw [e]; rfl, by rw [e]; exact ha, Same.rf⟩
  · rintro j ⟨⟩ m' hj ⟨rfl, h⟩ ih
    by_cases hc : nxT s i = chS m j
    · have e := amT_at (x := nxT s i) (l := bytS.getD m []) (j := j) h (by rw [← len_by m hm]; exact hj) hc
      refine cw_iload_n (pc := 2) dX5_eatsOneOf_2 rfl rfl <|
        cw_aload_n (pc := 3) dX5_eatsOneOf_3 rfl rfl <|
        cw_invSI (pc := 4) (by assumption) dX5_eatsOneOf_4 (c_J0_length_8abf5 hm) vX5_62 rfl rfl rfl (by decide) <|
        cw_icmp_ge_F (tgt := 34) (pc := 7) dX5_eatsOneOf_7 (by decide) (nI_ge hj (by omega)) <|
        cw_aload_n (pc := 10) dX5_eatsOneOf_10 rfl rfl <|
        cw_getI (q := 61) (pc := 11) dX5_eatsOneOf_11 fX5_32 sh_61 (by decide) rfl <|
        ?_
      rw [ha.2]
      refine cw_aload_n (pc := 14) dX5_eatsOneOf_14 rfl rfl <|
        cw_iload_n (pc := 15) dX5_eatsOneOf_15 rfl rfl <|
        cw_invSI (pc := 16) (by assumption) dX5_eatsOneOf_16 (c_J0_charAt_5068e hm hj) vX5_68 rfl rfl rfl (by decide) <|
        cw_icmp_ne_F (tgt := 28) (pc := 19) dX5_eatsOneOf_19 (by decide) hc <|
        cw_aload_n (pc := 22) dX5_eatsOneOf_22 rfl rfl <|
        cw_invP (q := 61) (pc := 23) dX5_eatsOneOf_23 (c_goOn hk h100 hq ha (lt_k hk h100 (ch_n1 m hm j hj) hc)) rfl vX5_29 sh_61 (by decide) rfl rfl rfl (by decide) <|
        ?_
      rintro _ m1 ⟨rfl, a1, s1, -⟩
      refine cw_iload_n (pc := 26) dX5_eatsOneOf_26 rfl rfl <|
        cw_iret (pc := 27) dX5_eatsOneOf_27 hR <|
        ⟨by rw [e]; rfl, by rw [e]; exact a1, s1⟩
    · refine cw_iload_n (pc := 2) dX5_eatsOneOf_2 rfl rfl <|
        cw_aload_n (pc := 3) dX5_eatsOneOf_3 rfl rfl <|
        cw_invSI (pc := 4) (by assumption) dX5_eatsOneOf_4 (c_J0_length_8abf5 hm) vX5_62 rfl rfl rfl (by decide) <|
        cw_icmp_ge_F (tgt := 34) (pc := 7) dX5_eatsOneOf_7 (by decide) (nI_ge hj (by omega)) <|
        cw_aload_n (pc := 10) dX5_eatsOneOf_10 rfl rfl <|
        cw_getI (q := 61) (pc := 11) dX5_eatsOneOf_11 fX5_32 sh_61 (by decide) rfl <|
        ?_
      rw [ha.2]
      refine cw_aload_n (pc := 14) dX5_eatsOneOf_14 rfl rfl <|
        cw_iload_n (pc := 15) dX5_eatsOneOf_15 rfl rfl <|
        cw_invSI (pc := 16) (by assumption) dX5_eatsOneOf_16 (c_J0_charAt_5068e hm hj) vX5_68 rfl rfl rfl (by decide) <|
        cw_icmp_ne_T (tgt := 28) (pc := 19) dX5_eatsOneOf_19 (by decide) hc <|
        cw_iincL (L' := [_, _, _]) (c := 1) (pc := 28) dX5_eatsOneOf_28 rfl (by decide) (by decide) rfl rfl <|
        ?_
      rw [nI_1 j]
      refine cw_goto (tgt := 2) (pc := 31) dX5_eatsOneOf_31 (by decide) <|
        ?_
      exact ih () _ ⟨rfl, fun y hy => by
        by_cases e : y = j
        · subst e; exact hc
        · exact h y (by omega)⟩
set_option maxHeartbeats 4000000 in
set_option maxRecDepth 100000 in
theorem c_X5_readsNumber {E : Ev} {μ : Mem} {s : Row} (hT : InvT s) (hq : RQ μ s) {i : Nat} (ha : RA μ s i) : AM E yX5_readsNumber cX5_readsNumber 1 (some .boolean) 1 [.ref 61] μ (fun r μ' => r = some (.int (bI ((numT (nxT s) i).1 = true))) ∧ RA μ' s (numT (nxT s) i).2.1 ∧ ((numT (nxT s) i).1 = true → μ' 61 4 = nI (numT (nxT s) i).2.2) ∧ Same F61 μ μ') := by
  refine am_of (own := RX5) (L := [.ref 61]) (by decide) rfl (Nat.le_of_ble_eq_true rfl) rfl (fun Γ hR => ?_)
  obtain ⟨k, h100, hk, hch⟩ := id hT
  by_cases h1 : isD (nxT s i) = true
  · obtain ⟨v, hv, ev, en⟩ := dig_le h1
    have hik := dig_lt (nx_end hk h100) h1
    have esub : nxT s i - 48 = nI v := by rw [ev, show nI (48 + v) - 48 = nI (48 + v - 48) from pk_sub (b := 48) (by omega), Nat.add_sub_cancel_left]
    have hq0 : RQ (st μ 61 4 (nI v)) s := hq.mo (F61_Rd (Same.rf.s1 ⟨rfl, by decide⟩))
    have ha0 : RA (st μ 61 4 (nI v)) s i := ha
    have hdg := (dg1 hT i).mpr h1
    rw [esub] at hdg
    by_cases h2 : isD (nxT s (i + 1)) = true
    · obtain ⟨w, hw, ew, en2⟩ := dig_le h2
      have hik2 := dig_lt (nx_end hk h100) h2
      by_cases h0 : 0 < v
      · have hne : nxT s i ≠ 48 := fun q => by rw [q] at esub; exact nI_ne0 h0 (by omega) esub.symm
        have e : numT (nxT s) i = (true, i + 2, v * 10 + w) := by unfold numT; rw [if_pos h1, if_pos ⟨hne, h2⟩, en, en2]
        refine cw_aload_n (pc := 0) dX5_readsNumber_0 rfl rfl <|
          cw_getI (q := 61) (pc := 1) dX5_readsNumber_1 fX5_32 sh_61 (by decide) rfl <|
          ?_
        rw [ha.2]
        refine cw_bipush (v := 48) (pc := 4) dX5_readsNumber_4 (by decide) <|
          cw_isub (pc := 6) dX5_readsNumber_6 <|
          ?_
        rw [esub]
        refine cw_insNI (pc := 7) dX5_readsNumber_7 c_X8_isDigit vX5_93 rfl rfl rfl (by decide) <|
          cw_if_ne_T (tgt := 15) (pc := 10) dX5_readsNumber_10 (by decide) (bI_n0.mpr hdg) <|
          cw_aload_n (pc := 15) dX5_readsNumber_15 rfl rfl <|
          cw_aload_n (pc := 16) dX5_readsNumber_16 rfl rfl <|
          cw_getI (q := 61) (pc := 17) dX5_readsNumber_17 fX5_32 sh_61 (by decide) rfl <|
          ?_
        rw [ha.2]
        refine cw_bipush (v := 48) (pc := 20) dX5_readsNumber_20 (by decide) <|
          cw_isub (pc := 22) dX5_readsNumber_22 <|
          ?_
        rw [esub]
        refine cw_putI (q := 61) (pc := 23) dX5_readsNumber_23 pX5_45 sh_61 (by decide) rfl <|
          cw_aload_n (pc := 26) dX5_readsNumber_26 rfl rfl <|
          cw_invP (q := 61) (pc := 27) dX5_readsNumber_27 (c_goOn hk h100 hq0 ha0 hik) rfl vX5_29 sh_61 (by decide) rfl rfl rfl (by decide) <|
          ?_
        rintro _ m1 ⟨rfl, a1, s1, e4⟩
        rw [st_eq] at e4
        have S1 : Same F61 μ m1 := (Same.rf.s1 (F := F61) ⟨rfl, by decide⟩).tr s1
        refine cw_aload_n (pc := 30) dX5_readsNumber_30 rfl rfl <|
          cw_getI (q := 61) (pc := 31) dX5_readsNumber_31 fX5_45 sh_61 (by decide) rfl <|
          ?_
        rw [e4]
        refine cw_if_le_F (tgt := 73) (pc := 34) dX5_readsNumber_34 (by decide) (nI_nle0 h0 (by omega)) <|
          cw_aload_n (pc := 37) dX5_readsNumber_37 rfl rfl <|
          cw_getI (q := 61) (pc := 38) dX5_readsNumber_38 fX5_32 sh_61 (by decide) rfl <|
          ?_
        rw [a1.2]
        refine cw_bipush (v := 48) (pc := 41) dX5_readsNumber_41 (by decide) <|
          cw_isub (pc := 43) dX5_readsNumber_43 <|
          cw_insNI (pc := 44) dX5_readsNumber_44 c_X8_isDigit vX5_93 rfl rfl rfl (by decide) <|
          cw_if_eq_F (tgt := 73) (pc := 47) dX5_readsNumber_47 (by decide) (bI_n0.mpr ((dg1 hT (i + 1)).mpr h2)) <|
          cw_aload_n (pc := 50) dX5_readsNumber_50 rfl rfl <|
          cw_aload_n (pc := 51) dX5_readsNumber_51 rfl rfl <|
          cw_getI (q := 61) (pc := 52) dX5_readsNumber_52 fX5_45 sh_61 (by decide) rfl <|
          ?_
        rw [e4]
        refine cw_bipush (v := 10) (pc := 55) dX5_readsNumber_55 (by decide) <|
          ?_
        skip
        refine cw_imul (pc := 57) dX5_readsNumber_57 <|
          cw_aload_n (pc := 58) dX5_readsNumber_58 rfl rfl <|
          cw_getI (q := 61) (pc := 59) dX5_readsNumber_59 fX5_32 sh_61 (by decide) rfl <|
          ?_
        rw [a1.2]
        refine cw_iadd (pc := 62) dX5_readsNumber_62 <|
          cw_bipush (v := 48) (pc := 63) dX5_readsNumber_63 (by decide) <|
          cw_isub (pc := 65) dX5_readsNumber_65 <|
          ?_
        rw [ew, show nI v * 10 + nI (48 + w) - 48 = nI (v * 10 + w) by rw [show nI v * 10 = nI (v * 10) from pk_mul v 10, nI_add, show nI (v * 10 + (48 + w)) - 48 = nI (v * 10 + (48 + w) - 48) from pk_sub (b := 48) (by omega)]; congr 1; omega]
        refine cw_putI (q := 61) (pc := 66) dX5_readsNumber_66 pX5_45 sh_61 (by decide) rfl <|
          cw_aload_n (pc := 69) dX5_readsNumber_69 rfl rfl <|
          cw_invP (q := 61) (pc := 70) dX5_readsNumber_70 (c_goOn hk h100 (hq.mo (F61_Rd (S1.s1 ⟨rfl, by decide⟩))) (show RA (st m1 61 4 (nI (v * 10 + w))) s (i + 1) from a1) hik2) rfl vX5_29 sh_61 (by decide) rfl rfl rfl (by decide) <|
          ?_
        rintro _ m2 ⟨rfl, a2, s2, e5⟩
        rw [st_eq] at e5
        refine cw_iconst (v := 1) (pc := 73) dX5_readsNumber_73 (by decide) <|
          cw_zret (pc := 74) dX5_readsNumber_74 hR rfl <|
          ⟨by rw [e]; rfl, by rw [e]; exact a2, fun _ => by rw [e]; exact e5, (S1.s1 ⟨rfl, by decide⟩).tr s2⟩
      · have hv0 : v = 0 := by omega
        subst hv0
        have e : numT (nxT s) i = (true, i + 1, 0) := by unfold numT; rw [if_pos h1, if_neg (fun q => q.1 ev), en]
        refine cw_aload_n (pc := 0) dX5_readsNumber_0 rfl rfl <|
          cw_getI (q := 61) (pc := 1) dX5_readsNumber_1 fX5_32 sh_61 (by decide) rfl <|
          ?_
        rw [ha.2]
        refine cw_bipush (v := 48) (pc := 4) dX5_readsNumber_4 (by decide) <|
          cw_isub (pc := 6) dX5_readsNumber_6 <|
          ?_
        rw [esub]
        refine cw_insNI (pc := 7) dX5_readsNumber_7 c_X8_isDigit vX5_93 rfl rfl rfl (by decide) <|
          cw_if_ne_T (tgt := 15) (pc := 10) dX5_readsNumber_10 (by decide) (bI_n0.mpr hdg) <|
          cw_aload_n (pc := 15) dX5_readsNumber_15 rfl rfl <|
          cw_aload_n (pc := 16) dX5_readsNumber_16 rfl rfl <|
          cw_getI (q := 61) (pc := 17) dX5_readsNumber_17 fX5_32 sh_61 (by decide) rfl <|
          ?_
        rw [ha.2]
        refine cw_bipush (v := 48) (pc := 20) dX5_readsNumber_20 (by decide) <|
          cw_isub (pc := 22) dX5_readsNumber_22 <|
          ?_
        rw [esub]
        refine cw_putI (q := 61) (pc := 23) dX5_readsNumber_23 pX5_45 sh_61 (by decide) rfl <|
          cw_aload_n (pc := 26) dX5_readsNumber_26 rfl rfl <|
          cw_invP (q := 61) (pc := 27) dX5_readsNumber_27 (c_goOn hk h100 hq0 ha0 hik) rfl vX5_29 sh_61 (by decide) rfl rfl rfl (by decide) <|
          ?_
        rintro _ m1 ⟨rfl, a1, s1, e4⟩
        rw [st_eq] at e4
        have S1 : Same F61 μ m1 := (Same.rf.s1 (F := F61) ⟨rfl, by decide⟩).tr s1
        refine cw_aload_n (pc := 30) dX5_readsNumber_30 rfl rfl <|
          cw_getI (q := 61) (pc := 31) dX5_readsNumber_31 fX5_45 sh_61 (by decide) rfl <|
          ?_
        rw [e4]
        refine cw_if_le_T (tgt := 73) (pc := 34) dX5_readsNumber_34 (by decide) (Int32.le_refl _) <|
          cw_iconst (v := 1) (pc := 73) dX5_readsNumber_73 (by decide) <|
          cw_zret (pc := 74) dX5_readsNumber_74 hR rfl <|
          ⟨by rw [e]; rfl, by rw [e]; exact a1, fun _ => by rw [e]; exact e4, S1⟩
    · have e : numT (nxT s) i = (true, i + 1, v) := by unfold numT; rw [if_pos h1, if_neg (fun q => h2 q.2), en]
      by_cases h0 : 0 < v
      · refine cw_aload_n (pc := 0) dX5_readsNumber_0 rfl rfl <|
          cw_getI (q := 61) (pc := 1) dX5_readsNumber_1 fX5_32 sh_61 (by decide) rfl <|
          ?_
        rw [ha.2]
        refine cw_bipush (v := 48) (pc := 4) dX5_readsNumber_4 (by decide) <|
          cw_isub (pc := 6) dX5_readsNumber_6 <|
          ?_
        rw [esub]
        refine cw_insNI (pc := 7) dX5_readsNumber_7 c_X8_isDigit vX5_93 rfl rfl rfl (by decide) <|
          cw_if_ne_T (tgt := 15) (pc := 10) dX5_readsNumber_10 (by decide) (bI_n0.mpr hdg) <|
          cw_aload_n (pc := 15) dX5_readsNumber_15 rfl rfl <|
          cw_aload_n (pc := 16) dX5_readsNumber_16 rfl rfl <|
          cw_getI (q := 61) (pc := 17) dX5_readsNumber_17 fX5_32 sh_61 (by decide) rfl <|
          ?_
        rw [ha.2]
        refine cw_bipush (v := 48) (pc := 20) dX5_readsNumber_20 (by decide) <|
          cw_isub (pc := 22) dX5_readsNumber_22 <|
          ?_
        rw [esub]
        refine cw_putI (q := 61) (pc := 23) dX5_readsNumber_23 pX5_45 sh_61 (by decide) rfl <|
          cw_aload_n (pc := 26) dX5_readsNumber_26 rfl rfl <|
          cw_invP (q := 61) (pc := 27) dX5_readsNumber_27 (c_goOn hk h100 hq0 ha0 hik) rfl vX5_29 sh_61 (by decide) rfl rfl rfl (by decide) <|
          ?_
        rintro _ m1 ⟨rfl, a1, s1, e4⟩
        rw [st_eq] at e4
        have S1 : Same F61 μ m1 := (Same.rf.s1 (F := F61) ⟨rfl, by decide⟩).tr s1
        refine cw_aload_n (pc := 30) dX5_readsNumber_30 rfl rfl <|
          cw_getI (q := 61) (pc := 31) dX5_readsNumber_31 fX5_45 sh_61 (by decide) rfl <|
          ?_
        rw [e4]
        refine cw_if_le_F (tgt := 73) (pc := 34) dX5_readsNumber_34 (by decide) (nI_nle0 h0 (by omega)) <|
          cw_aload_n (pc := 37) dX5_readsNumber_37 rfl rfl <|
          cw_getI (q := 61) (pc := 38) dX5_readsNumber_38 fX5_32 sh_61 (by decide) rfl <|
          ?_
        rw [a1.2]
        refine cw_bipush (v := 48) (pc := 41) dX5_readsNumber_41 (by decide) <|
          cw_isub (pc := 43) dX5_readsNumber_43 <|
          cw_insNI (pc := 44) dX5_readsNumber_44 c_X8_isDigit vX5_93 rfl rfl rfl (by decide) <|
          cw_if_eq_T (tgt := 73) (pc := 47) dX5_readsNumber_47 (by decide) (bI_0.mpr (fun q => h2 ((dg1 hT (i + 1)).mp q))) <|
          cw_iconst (v := 1) (pc := 73) dX5_readsNumber_73 (by decide) <|
          cw_zret (pc := 74) dX5_readsNumber_74 hR rfl <|
          ⟨by rw [e]; rfl, by rw [e]; exact a1, fun _ => by rw [e]; exact e4, S1⟩
      · refine cw_aload_n (pc := 0) dX5_readsNumber_0 rfl rfl <|
          cw_getI (q := 61) (pc := 1) dX5_readsNumber_1 fX5_32 sh_61 (by decide) rfl <|
          ?_
        rw [ha.2]
        refine cw_bipush (v := 48) (pc := 4) dX5_readsNumber_4 (by decide) <|
          cw_isub (pc := 6) dX5_readsNumber_6 <|
          ?_
        rw [esub]
        refine cw_insNI (pc := 7) dX5_readsNumber_7 c_X8_isDigit vX5_93 rfl rfl rfl (by decide) <|
          cw_if_ne_T (tgt := 15) (pc := 10) dX5_readsNumber_10 (by decide) (bI_n0.mpr hdg) <|
          cw_aload_n (pc := 15) dX5_readsNumber_15 rfl rfl <|
          cw_aload_n (pc := 16) dX5_readsNumber_16 rfl rfl <|
          cw_getI (q := 61) (pc := 17) dX5_readsNumber_17 fX5_32 sh_61 (by decide) rfl <|
          ?_
        rw [ha.2]
        refine cw_bipush (v := 48) (pc := 20) dX5_readsNumber_20 (by decide) <|
          cw_isub (pc := 22) dX5_readsNumber_22 <|
          ?_
        rw [esub]
        refine cw_putI (q := 61) (pc := 23) dX5_readsNumber_23 pX5_45 sh_61 (by decide) rfl <|
          cw_aload_n (pc := 26) dX5_readsNumber_26 rfl rfl <|
          cw_invP (q := 61) (pc := 27) dX5_readsNumber_27 (c_goOn hk h100 hq0 ha0 hik) rfl vX5_29 sh_61 (by decide) rfl rfl rfl (by decide) <|
          ?_
        rintro _ m1 ⟨rfl, a1, s1, e4⟩
        rw [st_eq] at e4
        have S1 : Same F61 μ m1 := (Same.rf.s1 (F := F61) ⟨rfl, by decide⟩).tr s1
        refine cw_aload_n (pc := 30) dX5_readsNumber_30 rfl rfl <|
          cw_getI (q := 61) (pc := 31) dX5_readsNumber_31 fX5_45 sh_61 (by decide) rfl <|
          ?_
        rw [e4]
        refine cw_if_le_T (tgt := 73) (pc := 34) dX5_readsNumber_34 (by decide) (nI_le (b := 0) (by omega) (by decide)) <|
          cw_iconst (v := 1) (pc := 73) dX5_readsNumber_73 (by decide) <|
          cw_zret (pc := 74) dX5_readsNumber_74 hR rfl <|
          ⟨by rw [e]; rfl, by rw [e]; exact a1, fun _ => by rw [e]; exact e4, S1⟩
  · have e : numT (nxT s) i = (false, i, 0) := by unfold numT; rw [if_neg h1]
    refine cw_aload_n (pc := 0) dX5_readsNumber_0 rfl rfl <|
      cw_getI (q := 61) (pc := 1) dX5_readsNumber_1 fX5_32 sh_61 (by decide) rfl <|
      ?_
    rw [ha.2]
    refine cw_bipush (v := 48) (pc := 4) dX5_readsNumber_4 (by decide) <|
      cw_isub (pc := 6) dX5_readsNumber_6 <|
      cw_insNI (pc := 7) dX5_readsNumber_7 c_X8_isDigit vX5_93 rfl rfl rfl (by decide) <|
      cw_if_ne_F (tgt := 15) (pc := 10) dX5_readsNumber_10 (by decide) (bI_0.mpr (fun q => h1 ((dg1 hT i).mp q))) <|
      cw_iconst (v := 0) (pc := 13) dX5_readsNumber_13 (by decide) <|
      cw_zret (pc := 14) dX5_readsNumber_14 hR rfl <|
      ⟨by rw [e]; rfl, by rw [e]; exact ha, (fun q => by rw [e] at q; cases q), Same.rf⟩
