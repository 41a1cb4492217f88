/-! ===== the reader's bounds: places, lengths, depth ===== -/
def Wf (m : Nat) (e : PCo) : Prop := ∀ d rest, d + m ≤ 14 → WFc (d + 1) rest → WFc d (e ++ rest)
/-- from i with c: what came so far is no farther than k, no longer than it is far, and needs no more than m -/
def StR (k i : Nat) (c : PCo) (m : Nat) (r : Rs) : Prop := i ≤ r.2.1 ∧ r.2.1 ≤ k ∧ (r.1 = true → ∃ e, r.2.2 = c ++ e ∧ e.length + i ≤ r.2.1 ∧ Wf m e)
def GoodF (k m : Nat) (f : Nat → PCo → Rs) : Prop := ∀ i c, i ≤ k → StR k i c m (f i c)
theorem Wf.mono {m m' : Nat} {e : PCo} (h : Wf m e) (hm : m ≤ m') : Wf m' e := fun d rest hd hr => h d rest (by omega) hr
theorem StR.mono {k i m m' : Nat} {c : PCo} {r : Rs} (h : StR k i c m r) (hm : m ≤ m') : StR k i c m' r := ⟨h.1, h.2.1, fun q => by obtain ⟨e, a, b, w⟩ := h.2.2 q; exact ⟨e, a, b, w.mono hm⟩⟩
theorem lp_0 (nx : Nat → Int32) (f : Nat → PCo → Rs) (sep : Int32) (op : Nat) (r : Rs) : lpT nx f sep op 0 r = r := rfl
theorem lp_s (nx : Nat → Int32) (f : Nat → PCo → Rs) (sep : Int32) (op n : Nat) (r : Rs) : lpT nx f sep op (n + 1) r = if r.1 = true ∧ nx r.2.1 = sep then (if (f (r.2.1 + 1) r.2.2).1 = true then lpT nx f sep op n (true, (f (r.2.1 + 1) r.2.2).2.1, (f (r.2.1 + 1) r.2.2).2.2 ++ [(op, 0)]) else f (r.2.1 + 1) r.2.2) else r := rfl
theorem lp_good {nx : Nat → Int32} {f : Nat → PCo → Rs} {sep : Int32} {op k m i0 : Nat} {c0 : PCo} (hN : ∀ i, k ≤ i → nx i = -1) (hsep : sep ≠ -1) (hop : op = 19 ∨ op = 20) (hf : GoodF k m f) : ∀ n r, StR k i0 c0 (m + 1) r → StR k i0 c0 (m + 1) (lpT nx f sep op n r) := by
  intro n
  induction n with
  | zero => intro r h; exact h
  | succ n ih =>
    intro r h
    rw [lp_s]
    by_cases hg : r.1 = true ∧ nx r.2.1 = sep
    · rw [if_pos hg]
      obtain ⟨j, hj⟩ : ∃ j, j = r.2.1 := ⟨_, rfl⟩
      have hjk : r.2.1 < k := Nat.lt_of_not_le (fun q => hsep (by rw [← hg.2, hN _ q]))
      have h1 := hf (r.2.1 + 1) r.2.2 hjk
      obtain ⟨e, he, hl, hw⟩ := h.2.2 hg.1
      by_cases hs : (f (r.2.1 + 1) r.2.2).1 = true
      · rw [if_pos hs]
        obtain ⟨e2, he2, hl2, hw2⟩ := h1.2.2 hs
        refine ih _ ⟨?_, h1.2.1, fun _ => ⟨e ++ (e2 ++ [(op, 0)]), ?_, ?_, ?_⟩⟩
        · have := h1.1; have := h.1; dsimp only; omega
        · dsimp only; rw [he2, he, List.append_assoc, List.append_assoc]
        · dsimp only; rw [List.length_append, List.length_append, List.length_singleton]; omega
        · intro d rest hd hr
          rw [List.append_assoc, List.append_assoc]
          refine hw d _ hd (hw2 (d + 1) _ (by omega) ?_)
          show WFc (d + 1 + 1) ((op, 0) :: rest)
          refine ⟨by show op ≤ 22; omega, Nat.zero_le _, fun q => absurd (show op < 18 from q) (by omega), fun q => absurd (show op = 18 from q) (by omega), fun _ => ⟨by omega, hr⟩, fun q => absurd (show 21 ≤ op from q) (by omega)⟩
      · rw [if_neg hs]
        exact ⟨by have := h1.1; have := h.1; omega, h1.2.1, fun q => absurd q hs⟩
    · rw [if_neg hg]; exact h
theorem bth_good {nx : Nat → Int32} {f : Nat → PCo → Rs} {k m : Nat} (hN : ∀ i, k ≤ i → nx i = -1) (hf : GoodF k m f) : GoodF k (m + 1) (bthT nx f) := fun i c hi => lp_good hN (by decide) (Or.inl rfl) hf 100 _ ((hf i c hi).mono (Nat.le_succ _))
theorem eit_good {nx : Nat → Int32} {f : Nat → PCo → Rs} {k m : Nat} (hN : ∀ i, k ≤ i → nx i = -1) (hf : GoodF k m f) : GoodF k (m + 2) (eitT nx f) := fun i c hi => lp_good hN (by decide) (Or.inr rfl) (bth_good hN hf) 100 _ ((bth_good hN hf i c hi).mono (Nat.le_succ _))
theorem dig_lt {nx : Nat → Int32} {k i : Nat} (hN : ∀ i, k ≤ i → nx i = -1) (h : isD (nx i) = true) : i < k := Nat.lt_of_not_le (fun q => by rw [hN i q] at h; exact absurd h (by decide))
theorem dig_le {x : Int32} (h : isD x = true) : ∃ v, v ≤ 9 ∧ x = nI (48 + v) ∧ nN (x - 48) = v := by
  have h1 := of_decide_eq_true h
  obtain ⟨j, hj, rfl⟩ := rng (A := 48) (B := 58) (by decide) (by decide) h1.1 (Int32.lt_of_le_of_lt h1.2 (by decide))
  refine ⟨j, by omega, rfl, ?_⟩
  rw [show nI (48 + j) - 48 = nI (48 + j - 48) from pk_sub (b := 48) (by omega), show 48 + j - 48 = j by omega, nN_nI (by omega)]
theorem num_good {nx : Nat → Int32} {k i : Nat} (hN : ∀ i, k ≤ i → nx i = -1) (hi : i ≤ k) : i ≤ (numT nx i).2.1 ∧ (numT nx i).2.1 ≤ k ∧ ((numT nx i).1 = true → i + 1 ≤ (numT nx i).2.1 ∧ (numT nx i).2.2 ≤ 99) := by
  unfold numT
  by_cases h1 : isD (nx i) = true
  · rw [if_pos h1]
    have hk := dig_lt hN h1
    obtain ⟨v, hv, _, e1⟩ := dig_le h1
    by_cases h2 : nx i ≠ 48 ∧ isD (nx (i + 1)) = true
    · rw [if_pos h2]
      have hk2 := dig_lt hN h2.2
      obtain ⟨w, hw, _, e2⟩ := dig_le h2.2
      exact ⟨by show i ≤ i + 2; omega, hk2, fun _ => ⟨by show i + 1 ≤ i + 2; omega, by show nN (nx i - 48) * 10 + nN (nx (i + 1) - 48) ≤ 99; omega⟩⟩
    · rw [if_neg h2]
      exact ⟨by show i ≤ i + 1; omega, hk, fun _ => ⟨Nat.le_refl _, by show nN (nx i - 48) ≤ 99; omega⟩⟩
  · rw [if_neg h1]; exact ⟨Nat.le_refl _, hi, fun q => by cases q⟩
theorem am_some {x : Int32} : ∀ {l : List Int32} {a : Nat}, amT x l = some a → a < l.length ∧ x = l.getD a 0 ∧ x ∈ l := by
  intro l
  induction l with
  | nil => intro a h; cases h
  | cons b t ih =>
    intro a h
    simp only [amT] at h
    by_cases e : x = b
    · rw [if_pos e] at h; cases h; exact ⟨by simp, e, by rw [e]; simp⟩
    · rw [if_neg e] at h
      obtain ⟨q, hq, rfl⟩ := Option.map_eq_some_iff.mp h
      obtain ⟨h1, h2, h3⟩ := ih hq
      exact ⟨by simp; omega, by rw [h2]; simp, by simp [h3]⟩
theorem mem_lt {nx : Nat → Int32} {k i : Nat} {l : List Int32} (hN : ∀ i, k ≤ i → nx i = -1) (hl : (-1 : Int32) ∉ l) (h : nx i ∈ l) : i < k := Nat.lt_of_not_le (fun q => by rw [hN i q] at h; exact hl h)
theorem tes_good {nx : Nat → Int32} {k : Nat} (hN : ∀ i, k ≤ i → nx i = -1) : GoodF k 1 (tesT nx) := by
  intro i c hi
  unfold tesT
  cases ha : amT (nx i) [112, 107, 120, 108, 102, 121] with
  | none => exact ⟨Nat.le_refl _, hi, fun q => by cases q⟩
  | some a =>
    obtain ⟨ha1, _, ha3⟩ := am_some ha
    have hk1 := mem_lt hN (by decide) ha3
    dsimp only
    cases hh : amT (nx (i + 1)) [60, 61, 62] with
    | none => exact ⟨by show i ≤ i + 1; omega, hk1, fun q => by cases q⟩
    | some h =>
      obtain ⟨hh1, _, hh3⟩ := am_some hh
      have hk2 := mem_lt hN (by decide) hh3
      dsimp only
      have hn := num_good hN (show i + 2 ≤ k from hk2)
      rcases hnum : numT nx (i + 2) with ⟨b, j, v⟩
      rw [hnum] at hn
      cases b with
      | false => exact ⟨by have := hn.1; dsimp only at this ⊢; omega, hn.2.1, fun q => by cases q⟩
      | true =>
        obtain ⟨n1, n2, n3⟩ := hn
        have n4 := n3 rfl
        dsimp only at n1 n2 n4 ⊢
        have hal : a < 6 := ha1
        have hhl : h < 3 := hh1
        refine ⟨by dsimp only; omega, n2, fun _ => ⟨[(a * 3 + h, v)], rfl, by show 1 + i ≤ j; omega, ?_⟩⟩
        intro d rest hd hr
        show WFc d ((a * 3 + h, v) :: rest)
        exact ⟨by show a * 3 + h ≤ 22; omega, n4.2, fun _ => ⟨by omega, hr⟩, fun q => absurd (show a * 3 + h = 18 from q) (by omega), fun q => absurd (show a * 3 + h = 19 ∨ a * 3 + h = 20 from q) (by omega), fun q => absurd (show 21 ≤ a * 3 + h from q) (by omega)⟩
theorem fac_good {nx : Nat → Int32} {k : Nat} (hN : ∀ i, k ≤ i → nx i = -1) : ∀ D, GoodF k (1 + 2 * D) (facT nx D) := by
  have hlt : ∀ i (x : Int32), x ≠ -1 → nx i = x → i < k := fun i x hx h => Nat.lt_of_not_le (fun q => hx (by rw [← h, hN i q]))
  intro D
  induction D with
  | zero =>
    intro i c hi
    simp only [facT]
    split
    · exact ⟨Nat.le_refl _, hi, fun q => by cases q⟩
    · exact tes_good hN i c hi
  | succ D ih =>
    intro i c hi
    simp only [facT]
    by_cases h1 : nx i = 33
    · rw [if_pos h1]
      have hk := hlt i 33 (by decide) h1
      have hg := ih (i + 1) c hk
      by_cases hs : (facT nx D (i + 1) c).1 = true
      · rw [if_pos hs]
        obtain ⟨e, he, hl, hw⟩ := hg.2.2 hs
        refine ⟨by have := hg.1; dsimp only; omega, hg.2.1, fun _ => ⟨e ++ [(18, 0)], by dsimp only; rw [he, List.append_assoc], by dsimp only; rw [List.length_append, List.length_singleton]; omega, ?_⟩⟩
        intro d rest hd hr
        rw [List.append_assoc]
        refine hw d _ (by omega) ?_
        show WFc (d + 1) ((18, 0) :: rest)
        exact ⟨by decide, Nat.zero_le _, fun q => absurd q (by decide), fun _ => ⟨by omega, hr⟩, fun q => absurd q (by decide), fun q => absurd q (by decide)⟩
      · rw [if_neg hs]
        exact ⟨by have := hg.1; omega, hg.2.1, fun q => absurd q hs⟩
    · rw [if_neg h1]
      by_cases h2 : nx i = 40
      · rw [if_pos h2]
        have hk := hlt i 40 (by decide) h2
        have hg := eit_good hN ih (i + 1) c hk
        by_cases hs : (eitT nx (facT nx D) (i + 1) c).1 = true
        · rw [if_pos hs]
          obtain ⟨e, he, hl, hw⟩ := hg.2.2 hs
          by_cases h3 : nx (eitT nx (facT nx D) (i + 1) c).2.1 = 41
          · rw [if_pos h3]
            have hk3 := hlt _ 41 (by decide) h3
            exact ⟨by have := hg.1; dsimp only; omega, hk3, fun _ => ⟨e, he, by dsimp only; omega, hw.mono (by omega)⟩⟩
          · rw [if_neg h3]
            exact ⟨by have := hg.1; dsimp only; omega, hg.2.1, fun q => by cases q⟩
        · rw [if_neg hs]
          exact ⟨by have := hg.1; omega, hg.2.1, fun q => absurd q hs⟩
      · rw [if_neg h2]; exact (tes_good hN i c hi).mono (by omega)
theorem wor_good {nx : Nat → Int32} {k : Nat} (hN : ∀ i, k ≤ i → nx i = -1) : ∀ (l : List Int32) (i : Nat), (-1 : Int32) ∉ l → i ≤ k → i ≤ (worT nx l i).2 ∧ (worT nx l i).2 ≤ k ∧ ((worT nx l i).1 = true → (worT nx l i).2 = i + l.length) := by
  intro l
  induction l with
  | nil => intro i _ hi; exact ⟨Nat.le_refl _, hi, fun _ => rfl⟩
  | cons a t ih =>
    intro i hl hi
    simp only [worT]
    by_cases h : nx i = a
    · rw [if_pos h]
      have hk := mem_lt (l := a :: t) hN hl (by rw [h]; simp)
      obtain ⟨h1, h2, h3⟩ := ih (i + 1) (fun q => hl (by simp [q])) hk
      exact ⟨by omega, h2, fun q => by rw [h3 q, List.length_cons]; omega⟩
    · rw [if_neg h]; exact ⟨Nat.le_refl _, hi, fun q => by cases q⟩
def wrdT (x : Int32) : List Int32 := if x = 112 then [112, 97, 115, 115, 32] else if x = 100 then [100, 114, 97, 119, 32] else [104, 111, 108, 100, 32]
theorem wrd_5 (x : Int32) : (wrdT x).length = 5 ∧ (-1 : Int32) ∉ wrdT x := by unfold wrdT; split <;> (try split) <;> decide
theorem cla_eq (nx : Nat → Int32) (i : Nat) (c : PCo) (mk : Nat) : claT nx i c mk =
  if (worT nx (wrdT (nx i)) i).1 = true then
    (if (numT nx (i + 5)).1 = true then
      (if nx i = 112 then (true, (numT nx (i + 5)).2.1, c, (numT nx (i + 5)).2.2)
       else if nx (numT nx (i + 5)).2.1 = 32 then
        (if (eitT nx (facT nx 5) ((numT nx (i + 5)).2.1 + 1) c).1 = true then (true, (eitT nx (facT nx 5) ((numT nx (i + 5)).2.1 + 1) c).2.1, (eitT nx (facT nx 5) ((numT nx (i + 5)).2.1 + 1) c).2.2 ++ [(if nx i = 100 then 21 else 22, (numT nx (i + 5)).2.2)], mk)
         else (false, (eitT nx (facT nx 5) ((numT nx (i + 5)).2.1 + 1) c).2.1, c, mk))
       else (false, (numT nx (i + 5)).2.1, c, mk))
     else (false, (numT nx (i + 5)).2.1, c, mk))
  else (false, (worT nx (wrdT (nx i)) i).2, c, mk) := rfl
/-- a clause: as far as k, as long as it is far, closed -/
def StC (k i : Nat) (c : PCo) (r : Bool × Nat × PCo × Nat) : Prop := i ≤ r.2.1 ∧ r.2.1 ≤ k ∧ (r.1 = true → r.2.2.2 ≤ 99 ∧ ∃ e, r.2.2.1 = c ++ e ∧ e.length + i ≤ r.2.1 ∧ ∀ rest, WFc 0 rest → WFc 0 (e ++ rest))
theorem cla_good {nx : Nat → Int32} {k : Nat} (hN : ∀ i, k ≤ i → nx i = -1) {i : Nat} {c : PCo} {mk : Nat} (hi : i ≤ k) (hmk : mk ≤ 99) : StC k i c (claT nx i c mk) := by
  rw [cla_eq]
  obtain ⟨l5, lm⟩ := wrd_5 (nx i)
  obtain ⟨w1, w2, w3⟩ := wor_good hN (wrdT (nx i)) i lm hi
  by_cases hw : (worT nx (wrdT (nx i)) i).1 = true
  · rw [if_pos hw]
    have e5 := w3 hw
    rw [l5] at e5
    obtain ⟨n1, n2, n3⟩ := num_good hN (show i + 5 ≤ k by omega)
    by_cases hn : (numT nx (i + 5)).1 = true
    · rw [if_pos hn]
      obtain ⟨n4, n5⟩ := n3 hn
      by_cases hp : nx i = 112
      · rw [if_pos hp]
        exact ⟨by dsimp only; omega, n2, fun _ => ⟨n5, [], by simp, by dsimp only; simp; omega, fun rest h => h⟩⟩
      · rw [if_neg hp]
        by_cases hb : nx (numT nx (i + 5)).2.1 = 32
        · rw [if_pos hb]
          have hk3 : (numT nx (i + 5)).2.1 < k := Nat.lt_of_not_le (fun q => by rw [hN _ q] at hb; exact absurd hb (by decide))
          have hg := eit_good hN (fac_good hN 5) ((numT nx (i + 5)).2.1 + 1) c hk3
          by_cases hs : (eitT nx (facT nx 5) ((numT nx (i + 5)).2.1 + 1) c).1 = true
          · rw [if_pos hs]
            obtain ⟨e, he, hl, hwf⟩ := hg.2.2 hs
            refine ⟨by have := hg.1; dsimp only; omega, hg.2.1, fun _ => ⟨hmk, e ++ [(if nx i = 100 then 21 else 22, (numT nx (i + 5)).2.2)], by dsimp only; rw [he, List.append_assoc], by dsimp only; rw [List.length_append, List.length_singleton]; omega, fun rest hr => ?_⟩⟩
            rw [List.append_assoc]
            refine hwf 0 _ (by omega) ?_
            show WFc (0 + 1) ((if nx i = 100 then 21 else 22, (numT nx (i + 5)).2.2) :: rest)
            have h2 : (if nx i = 100 then 21 else 22) = 21 ∨ (if nx i = 100 then 21 else 22) = 22 := by split <;> simp
            generalize (if nx i = 100 then 21 else 22) = op at h2
            exact ⟨by show op ≤ 22; omega, n5, fun q => absurd (show op < 18 from q) (by omega), fun q => absurd (show op = 18 from q) (by omega), fun q => absurd (show op = 19 ∨ op = 20 from q) (by omega), fun _ => ⟨rfl, hr⟩⟩
          · rw [if_neg hs]
            exact ⟨by have := hg.1; dsimp only; omega, hg.2.1, fun q => by cases q⟩
        · rw [if_neg hb]; exact ⟨by dsimp only; omega, n2, fun q => by cases q⟩
    · rw [if_neg hn]; exact ⟨by dsimp only; omega, n2, fun q => by cases q⟩
  · rw [if_neg hw]; exact ⟨w1, w2, fun q => by cases q⟩
theorem par_s (nx : Nat → Int32) (k i : Nat) (c : PCo) (pm : Nat) : parT nx (k + 1) i c pm = if (claT nx i c pm).1 = true then
      (if nx (claT nx i c pm).2.1 = -1 then claT nx i c pm
       else if k ≠ 0 ∧ nx (claT nx i c pm).2.1 = 59 then parT nx k ((claT nx i c pm).2.1 + 1) (claT nx i c pm).2.2.1 (claT nx i c pm).2.2.2
       else (false, (claT nx i c pm).2))
    else claT nx i c pm := rfl
theorem par_good {nx : Nat → Int32} {k : Nat} (hN : ∀ i, k ≤ i → nx i = -1) : ∀ (n i : Nat) (c : PCo) (mk : Nat), i ≤ k → mk ≤ 99 → StC k i c (parT nx n i c mk) := by
  intro n
  induction n with
  | zero => intro i c mk hi _; exact ⟨Nat.le_refl _, hi, fun q => by cases q⟩
  | succ n ih =>
    intro i c mk hi hmk
    rw [par_s]
    have hg := cla_good (c := c) hN hi hmk
    by_cases hs : (claT nx i c mk).1 = true
    · rw [if_pos hs]
      by_cases he : nx (claT nx i c mk).2.1 = -1
      · rw [if_pos he]; exact hg
      · rw [if_neg he]
        by_cases h2 : n ≠ 0 ∧ nx (claT nx i c mk).2.1 = 59
        · rw [if_pos h2]
          obtain ⟨hm2, e, e1, e2, e3⟩ := hg.2.2 hs
          have hk3 : (claT nx i c mk).2.1 < k := Nat.lt_of_not_le (fun q => he (hN _ q))
          obtain ⟨q1, q2, q3⟩ := ih ((claT nx i c mk).2.1 + 1) (claT nx i c mk).2.2.1 (claT nx i c mk).2.2.2 hk3 hm2
          refine ⟨by have := hg.1; omega, q2, fun hq => ?_⟩
          obtain ⟨m3, f, f1, f2, f3⟩ := q3 hq
          exact ⟨m3, e ++ f, by rw [f1, e1, List.append_assoc], by rw [List.length_append]; omega, fun rest hr => by rw [List.append_assoc]; exact e3 _ (f3 _ hr)⟩
        · rw [if_neg h2]; exact ⟨hg.1, hg.2.1, fun q => by cases q⟩
    · rw [if_neg hs]; exact ⟨hg.1, hg.2.1, fun q => absurd q hs⟩
theorem nx_end {s : Row} {k : Nat} (hk : s 37 = nI k) (h100 : k ≤ 100) : ∀ i, k ≤ i → nxT s i = -1 := fun i hi => by
  unfold nxT
  rw [hk, nN_nI (by omega), if_neg (by omega)]
theorem nx_in {s : Row} {k : Nat} (hk : s 37 = nI k) (h100 : k ≤ 100) {i : Nat} (hi : i < k) : nxT s i = s (138 + i) := by
  unfold nxT
  rw [hk, nN_nI (by omega), if_pos hi]
theorem rdS_ok {s : Row} (hT : InvT s) (h : (rdS s).1 = true) : (rdS s).2.2.1.length ≤ 100 ∧ (rdS s).2.2.2 ≤ 99 ∧ WFc 0 (rdS s).2.2.1 := by
  obtain ⟨k, hk, e37, hc⟩ := hT
  obtain ⟨_, h2, h3⟩ := par_good (nx_end e37 hk) 10 0 [] 30 (Nat.zero_le _) (by decide)
  obtain ⟨m, e, e1, e2, e3⟩ := h3 h
  rw [List.nil_append] at e1
  have e1' : (rdS s).2.2.1 = e := e1
  have h2' : (rdS s).2.1 ≤ k := h2
  have e2' : e.length + 0 ≤ (rdS s).2.1 := e2
  rw [e1']
  refine ⟨by omega, m, ?_⟩
  have := e3 [] trivial
  rw [List.append_nil] at this
  exact this
