/-! ===== the model's reader ===== -/
/-- where the model reads: the spot, whether it is wrong, how many are open -/
def SA (μ : Mem) (i : Nat) (v : Int32) (o : Nat) : Prop := μ 67 6 = nI i ∧ μ 67 8 = v ∧ μ 67 9 = nI o
def MK (μ : Mem) (s : Row) (np k : Nat) : Prop := μ 67 5 = nI np ∧ μ 67 7 = nI k ∧ ∀ j, j < k → μ 68 (138 + j) = s (138 + j)
def CR (μ : Mem) (np : Nat) (c : PCo) : Prop := μ 68 (243 + np) = nI c.length ∧ ∀ (j : Nat) (q : Nat × Nat), c[j]? = some q → μ 68 (248 + 140 * np + j) = mst q
def F67 : Nat → Nat → Prop := fun q i => q = 67 ∧ (i = 6 ∨ i = 8 ∨ i = 9)
def F68 (np : Nat) : Nat → Nat → Prop := fun q i => q = 68 ∧ (i = 243 + np ∨ (248 + 140 * np ≤ i ∧ i < 248 + 140 * np + 140))
def FMp (np : Nat) : Nat → Nat → Prop := fun q i => (q = 67 ∧ (i = 6 ∨ i = 8 ∨ i = 9)) ∨ (q = 68 ∧ (i = 243 + np ∨ (248 + 140 * np ≤ i ∧ i < 248 + 140 * np + 140)))
theorem F67_M {μ μ' : Mem} {np : Nat} (h : Same F67 μ μ') : Same (FMp np) μ μ' := h.mo (fun q i h => Or.inl h)
theorem F68_M {μ μ' : Mem} {np : Nat} (h : Same (F68 np) μ μ') : Same (FMp np) μ μ' := h.mo (fun q i h => Or.inr h)
theorem MK.mo {μ μ' : Mem} {s : Row} {np k : Nat} (h : MK μ s np k) (h100 : k ≤ 100) (e : Same (FMp np) μ μ') : MK μ' s np k := ⟨(e _ _ (by unfold FMp; omega)).trans h.1, (e _ _ (by unfold FMp; omega)).trans h.2.1, fun j hj => (e _ _ (by unfold FMp; omega)).trans (h.2.2 j hj)⟩
theorem SA.m8 {μ μ' : Mem} {i o np : Nat} {v : Int32} (h : SA μ i v o) (e : Same (F68 np) μ μ') : SA μ' i v o := ⟨(e _ _ (by unfold F68; omega)).trans h.1, (e _ _ (by unfold F68; omega)).trans h.2.1, (e _ _ (by unfold F68; omega)).trans h.2.2⟩
theorem CR.m7 {μ μ' : Mem} {np : Nat} {c : PCo} (h : CR μ np c) (e : Same F67 μ μ') : CR μ' np c := ⟨(e _ _ (by unfold F67; omega)).trans h.1, fun j q hq => (e _ _ (by unfold F67; omega)).trans (h.2 j q hq)⟩
theorem sa_w {μ : Mem} {i o : Nat} {v w : Int32} (h : SA μ i v o) : SA (st μ 67 8 w) i w o := ⟨by rw [st_at, if_neg (by omega)]; exact h.1, st_eq _ _ _ _, by rw [st_at, if_neg (by omega)]; exact h.2.2⟩
theorem sa_s {μ : Mem} {i j o : Nat} {v : Int32} (h : SA μ i v o) : SA (st μ 67 6 (nI j)) j v o := ⟨st_eq _ _ _ _, by rw [st_at, if_neg (by omega)]; exact h.2.1, by rw [st_at, if_neg (by omega)]; exact h.2.2⟩
theorem sa_o {μ : Mem} {i o p : Nat} {v : Int32} (h : SA μ i v o) : SA (st μ 67 9 (nI p)) i v p := ⟨by rw [st_at, if_neg (by omega)]; exact h.1, by rw [st_at, if_neg (by omega)]; exact h.2.1, st_eq _ _ _ _⟩
theorem f7 {i : Nat} (h : i = 6 ∨ i = 8 ∨ i = 9) : F67 67 i := ⟨rfl, h⟩
theorem nI_add0 (i : Nat) : nI i + 0 = nI i := by rw [Int32.add_zero]
theorem CR.ad {μ : Mem} {np : Nat} {c : PCo} {q : Nat × Nat} (h : CR μ np c) (hl : c.length ≤ 100) (hnp : np < 5) : CR (st (st μ 68 (248 + 140 * np + c.length) (mst q)) 68 (243 + np) (nI (c.length + 1))) np (c ++ [q]) := by
  refine ⟨by rw [st_eq]; simp, fun j r hr => ?_⟩
  by_cases hj : j < c.length
  · rw [List.getElem?_append_left hj] at hr
    rw [st_at, if_neg (by omega), st_at, if_neg (by omega)]; exact h.2 j r hr
  · rw [List.getElem?_append_right (by omega)] at hr
    have : j - c.length = 0 := by
      rcases Nat.eq_zero_or_pos (j - c.length) with h | h
      · exact h
      · rw [List.getElem?_eq_none (by simp; omega)] at hr; cases hr
    rw [this] at hr
    have hr' : q = r := by simpa using hr
    subst hr'
    have : j = c.length := by omega
    subst this
    rw [st_at, if_neg (by omega), st_eq]
set_option maxHeartbeats 4000000 in
set_option maxRecDepth 100000 in
theorem c_X9_here {E : Ev} {μ : Mem} {s : Row} {k np : Nat} (hk : s 37 = nI k) (h100 : k ≤ 100) (hm : MK μ s np k) {i o : Nat} {v : Int32} (ha : SA μ i v o) (hi100 : i ≤ 100) : AM E yX9_here cX9_here 1 (some .int) 0 [.ref 67] μ (fun r μ' => r = some (.int (nxT s i)) ∧ μ' = μ) := by
  refine am_of (own := RX9) (L := [.ref 67]) (by decide) rfl (Nat.le_of_ble_eq_true rfl) rfl (fun Γ hR => ?_)
  by_cases hi : i < k
  · refine cw_aload_n (pc := 0) dX9_here_0 rfl rfl <|
      cw_getI (q := 67) (pc := 1) dX9_here_1 fX9_48 sh_67 (by decide) rfl <|
      ?_
    rw [ha.1]
    refine cw_aload_n (pc := 4) dX9_here_4 rfl rfl <|
      cw_getI (q := 67) (pc := 5) dX9_here_5 fX9_51 sh_67 (by decide) rfl <|
      ?_
    rw [hm.2.1]
    refine cw_icmp_ge_F (tgt := 27) (pc := 8) dX9_here_8 (by decide) (nI_ge hi (by omega)) <|
      cw_aload_n (pc := 11) dX9_here_11 rfl rfl <|
      cw_getR (q := 67) (t := 68) (pc := 12) dX9_here_12 fX9_9 sh_67 (by decide) rfl <|
      cw_sipush (v := 138) (pc := 15) dX9_here_15 (by decide) <|
      cw_aload_n (pc := 18) dX9_here_18 rfl rfl <|
      cw_getI (q := 67) (pc := 19) dX9_here_19 fX9_48 sh_67 (by decide) rfl <|
      ?_
    rw [ha.1]
    refine cw_iadd (pc := 22) dX9_here_22 <|
      cw_ial (q := 68) (jn := (138 + i)) (pc := 23) dX9_here_23 sh_68 (nx_add rfl rfl) (by omega) (by decide) <|
      ?_
    rw [hm.2.2 i hi, ← nx_in hk h100 hi]
    refine cw_goto (tgt := 28) (pc := 24) dX9_here_24 (by decide) <|
      cw_iret (pc := 28) dX9_here_28 hR <|
      ⟨rfl, rfl⟩
  · refine cw_aload_n (pc := 0) dX9_here_0 rfl rfl <|
      cw_getI (q := 67) (pc := 1) dX9_here_1 fX9_48 sh_67 (by decide) rfl <|
      ?_
    rw [ha.1]
    refine cw_aload_n (pc := 4) dX9_here_4 rfl rfl <|
      cw_getI (q := 67) (pc := 5) dX9_here_5 fX9_51 sh_67 (by decide) rfl <|
      ?_
    rw [hm.2.1]
    refine cw_icmp_ge_T (tgt := 27) (pc := 8) dX9_here_8 (by decide) (nI_le (Nat.not_lt.mp hi) (by omega)) <|
      cw_iconst (v := -1) (pc := 27) dX9_here_27 (by decide) <|
      cw_iret (pc := 28) dX9_here_28 hR <|
      ⟨by rw [nx_end hk h100 i (by omega)], rfl⟩
set_option maxHeartbeats 4000000 in
set_option maxRecDepth 100000 in
theorem c_X9_must_0 {E : Ev} {μ : Mem} {s : Row} {k np : Nat} (hk : s 37 = nI k) (h100 : k ≤ 100) (hm : MK μ s np k) {i o : Nat} (ha : SA μ i 0 o) (hi100 : i ≤ 100) {x : Int32} : AM E yX9_must cX9_must 2 none 1 [.ref 67, .int x] μ (fun r μ' => r = none ∧ SA μ' (if nxT s i = x then i + 1 else i) (if nxT s i = x then 0 else 1) o ∧ Same F67 μ μ') := by
  refine am_of (own := RX9) (L := [.ref 67, .int x]) (by decide) rfl (Nat.le_of_ble_eq_true rfl) rfl (fun Γ hR => ?_)
  by_cases h : nxT s i = x
  · refine cw_aload_n (pc := 0) dX9_must_0 rfl rfl <|
      cw_aload_n (pc := 1) dX9_must_1 rfl rfl <|
      cw_getI (q := 67) (pc := 2) dX9_must_2 fX9_54 sh_67 (by decide) rfl <|
      ?_
    rw [ha.2.1]
    refine cw_if_ne_F (tgt := 16) (pc := 5) dX9_must_5 (by decide) rfl <|
      cw_aload_n (pc := 8) dX9_must_8 rfl rfl <|
      cw_invI (q := 67) (pc := 9) dX9_must_9 (c_X9_here hk h100 hm ha (by omega)) rfl vX9_58 sh_67 (by decide) rfl rfl rfl (by decide) <|
      cw_iload_n (pc := 12) dX9_must_12 rfl rfl <|
      cw_icmp_eq_T (tgt := 20) (pc := 13) dX9_must_13 (by decide) h <|
      cw_iconst (v := 0) (pc := 20) dX9_must_20 (by decide) <|
      cw_putZ (q := 67) (pc := 21) dX9_must_21 pX9_54 sh_67 (by decide) rfl (by decide) <|
      cw_aload_n (pc := 24) dX9_must_24 rfl rfl <|
      cw_dup (pc := 25) dX9_must_25 rfl <|
      cw_getI (q := 67) (pc := 26) dX9_must_26 fX9_48 sh_67 (by decide) rfl <|
      ?_
    rw [show (st μ 67 8 0) 67 6 = nI i from ha.1]
    refine cw_aload_n (pc := 29) dX9_must_29 rfl rfl <|
      cw_getI (q := 67) (pc := 30) dX9_must_30 fX9_54 sh_67 (by decide) rfl <|
      ?_
    rw [st_eq]
    refine cw_if_eq_T (tgt := 40) (pc := 33) dX9_must_33 (by decide) rfl <|
      cw_iconst (v := 1) (pc := 40) dX9_must_40 (by decide) <|
      cw_iadd (pc := 41) dX9_must_41 <|
      ?_
    rw [nI_1 i]
    refine cw_putI (q := 67) (pc := 42) dX9_must_42 pX9_48 sh_67 (by decide) rfl <|
      cw_vret (pc := 45) dX9_must_45 hR <|
      ⟨rfl, by rw [if_pos h, if_pos h]; exact sa_s (sa_w ha), (Same.rf.s1 (f7 (by decide))).s1 (f7 (by decide))⟩
  · refine cw_aload_n (pc := 0) dX9_must_0 rfl rfl <|
      cw_aload_n (pc := 1) dX9_must_1 rfl rfl <|
      cw_getI (q := 67) (pc := 2) dX9_must_2 fX9_54 sh_67 (by decide) rfl <|
      ?_
    rw [ha.2.1]
    refine cw_if_ne_F (tgt := 16) (pc := 5) dX9_must_5 (by decide) rfl <|
      cw_aload_n (pc := 8) dX9_must_8 rfl rfl <|
      cw_invI (q := 67) (pc := 9) dX9_must_9 (c_X9_here hk h100 hm ha (by omega)) rfl vX9_58 sh_67 (by decide) rfl rfl rfl (by decide) <|
      cw_iload_n (pc := 12) dX9_must_12 rfl rfl <|
      cw_icmp_eq_F (tgt := 20) (pc := 13) dX9_must_13 (by decide) h <|
      cw_iconst (v := 1) (pc := 16) dX9_must_16 (by decide) <|
      cw_goto (tgt := 21) (pc := 17) dX9_must_17 (by decide) <|
      cw_putZ (q := 67) (pc := 21) dX9_must_21 pX9_54 sh_67 (by decide) rfl (by decide) <|
      cw_aload_n (pc := 24) dX9_must_24 rfl rfl <|
      cw_dup (pc := 25) dX9_must_25 rfl <|
      cw_getI (q := 67) (pc := 26) dX9_must_26 fX9_48 sh_67 (by decide) rfl <|
      ?_
    rw [show (st μ 67 8 1) 67 6 = nI i from ha.1]
    refine cw_aload_n (pc := 29) dX9_must_29 rfl rfl <|
      cw_getI (q := 67) (pc := 30) dX9_must_30 fX9_54 sh_67 (by decide) rfl <|
      ?_
    rw [st_eq]
    refine cw_if_eq_F (tgt := 40) (pc := 33) dX9_must_33 (by decide) (by decide) <|
      cw_iconst (v := 0) (pc := 36) dX9_must_36 (by decide) <|
      cw_goto (tgt := 41) (pc := 37) dX9_must_37 (by decide) <|
      cw_iadd (pc := 41) dX9_must_41 <|
      ?_
    rw [nI_add0 i]
    refine cw_putI (q := 67) (pc := 42) dX9_must_42 pX9_48 sh_67 (by decide) rfl <|
      cw_vret (pc := 45) dX9_must_45 hR <|
      ⟨rfl, by rw [if_neg h, if_neg h]; exact sa_s (sa_w ha), (Same.rf.s1 (f7 (by decide))).s1 (f7 (by decide))⟩
set_option maxHeartbeats 4000000 in
set_option maxRecDepth 100000 in
theorem c_X9_must_1 {E : Ev} {μ : Mem} {i o : Nat} (ha : SA μ i 1 o) {x : Int32} : AM E yX9_must cX9_must 2 none 1 [.ref 67, .int x] μ (fun r μ' => r = none ∧ SA μ' i 1 o ∧ Same F67 μ μ') := by
  refine am_of (own := RX9) (L := [.ref 67, .int x]) (by decide) rfl (Nat.le_of_ble_eq_true rfl) rfl (fun Γ hR => ?_)
  refine cw_aload_n (pc := 0) dX9_must_0 rfl rfl <|
    cw_aload_n (pc := 1) dX9_must_1 rfl rfl <|
    cw_getI (q := 67) (pc := 2) dX9_must_2 fX9_54 sh_67 (by decide) rfl <|
    ?_
  rw [ha.2.1]
  refine cw_if_ne_T (tgt := 16) (pc := 5) dX9_must_5 (by decide) (by decide) <|
    cw_iconst (v := 1) (pc := 16) dX9_must_16 (by decide) <|
    cw_goto (tgt := 21) (pc := 17) dX9_must_17 (by decide) <|
    cw_putZ (q := 67) (pc := 21) dX9_must_21 pX9_54 sh_67 (by decide) rfl (by decide) <|
    cw_aload_n (pc := 24) dX9_must_24 rfl rfl <|
    cw_dup (pc := 25) dX9_must_25 rfl <|
    cw_getI (q := 67) (pc := 26) dX9_must_26 fX9_48 sh_67 (by decide) rfl <|
    ?_
  rw [show (st μ 67 8 1) 67 6 = nI i from ha.1]
  refine cw_aload_n (pc := 29) dX9_must_29 rfl rfl <|
    cw_getI (q := 67) (pc := 30) dX9_must_30 fX9_54 sh_67 (by decide) rfl <|
    ?_
  rw [st_eq]
  refine cw_if_eq_F (tgt := 40) (pc := 33) dX9_must_33 (by decide) (by decide) <|
    cw_iconst (v := 0) (pc := 36) dX9_must_36 (by decide) <|
    cw_goto (tgt := 41) (pc := 37) dX9_must_37 (by decide) <|
    cw_iadd (pc := 41) dX9_must_41 <|
    ?_
  rw [nI_add0 i]
  refine cw_putI (q := 67) (pc := 42) dX9_must_42 pX9_48 sh_67 (by decide) rfl <|
    cw_vret (pc := 45) dX9_must_45 hR <|
    ⟨rfl, sa_s (sa_w ha), (Same.rf.s1 (f7 (by decide))).s1 (f7 (by decide))⟩
set_option maxHeartbeats 4000000 in
set_option maxRecDepth 100000 in
theorem c_X9_spells {E : Ev} {μ : Mem} {s : Row} {k np : Nat} (hk : s 37 = nI k) (h100 : k ≤ 100) (hm : MK μ s np k) {i o : Nat} (ha : SA μ i 0 o) (hik : i ≤ k) {m : Nat} (hm8 : m < 8) : AM E yX9_spells cX9_spells 3 none 4 [.ref 67, .ref (80 + m)] μ (fun r μ' => r = none ∧ SA μ' (worT (nxT s) (bytS.getD m []) i).2 (if (worT (nxT s) (bytS.getD m []) i).1 = true then 0 else 1) o ∧ Same F67 μ μ') := by
  refine am_of (own := RX9) (L := [.ref 67, .ref (80 + m), .null]) (by decide) rfl (Nat.le_of_ble_eq_true rfl) rfl (fun Γ hR => ?_)
  have hlen := len_lt m hm8
  have hN := nx_end hk h100
  have hlb := len_by m hm8
  refine cw_iconst (v := 0) (pc := 0) dX9_spells_0 (by decide) <|
    cw_istore_n (L' := [_, _, _]) (pc := 1) dX9_spells_1 rfl (by decide) rfl rfl <|
    ?_
  refine cw_for (σ := Unit) (lenS.getD m 0) (fun j _ m' => Same F67 μ m' ∧ ((SA m' (i + j) 0 o ∧ i + j ≤ k ∧ ∀ y, y < j → nxT s (i + y) = chS m y) ∨ ∃ p, p ≤ k ∧ worT (nxT s) (bytS.getD m []) i = (false, p) ∧ SA m' p 1 o)) (fun j _ => [.ref 67, .ref (80 + m), .int (nI j)]) ?_ ?_ 0 () _ (Nat.zero_le _) ⟨Same.rf, Or.inl ⟨ha, hik, fun y hy => absurd hy (Nat.not_lt_zero _)⟩⟩
  · rintro ⟨⟩ m' ⟨hS, hst⟩
    have hpost : SA m' (worT (nxT s) (bytS.getD m []) i).2 (if (worT (nxT s) (bytS.getD m []) i).1 = true then 0 else 1) o := by
      rcases hst with ⟨h1, _, h2⟩ | ⟨p, _, h1, h2⟩
      · rw [wor_ok (fun y hy => h2 y (by rw [hlb]; exact hy)), ← hlb]; exact h1
      · rw [h1]; exact h2
    refine cw_iload_n (pc := 2) dX9_spells_2 rfl rfl <|
      cw_aload_n (pc := 3) dX9_spells_3 rfl rfl <|
      cw_invSI (pc := 4) (by assumption) dX9_spells_4 (c_J0_length_8abf5 hm8) vX9_62 rfl rfl rfl (by decide) <|
      cw_icmp_ge_T (tgt := 25) (pc := 7) dX9_spells_7 (by decide) (Int32.le_refl _) <|
      cw_vret (pc := 25) dX9_spells_25 hR <|
      ⟨rfl, hpost, hS⟩
  · rintro j ⟨⟩ m' hj ⟨hS, hst⟩ ih
    have hmm := hm.mo h100 (F67_M (np := np) hS)
    rcases hst with ⟨h1, hpk, h2⟩ | ⟨p, hpk, h1, h2⟩
    · by_cases hb : nxT s (i + j) = chS m j
      · refine cw_iload_n (pc := 2) dX9_spells_2 rfl rfl <|
          cw_aload_n (pc := 3) dX9_spells_3 rfl rfl <|
          cw_invSI (pc := 4) (by assumption) dX9_spells_4 (c_J0_length_8abf5 hm8) vX9_62 rfl rfl rfl (by decide) <|
          cw_icmp_ge_F (tgt := 25) (pc := 7) dX9_spells_7 (by decide) (nI_ge hj (by omega)) <|
          cw_aload_n (pc := 10) dX9_spells_10 rfl rfl <|
          cw_aload_n (pc := 11) dX9_spells_11 rfl rfl <|
          cw_iload_n (pc := 12) dX9_spells_12 rfl rfl <|
          cw_invSI (pc := 13) (by assumption) dX9_spells_13 (c_J0_charAt_5068e hm8 hj) vX9_67 rfl rfl rfl (by decide) <|
          cw_invP (q := 67) (pc := 16) dX9_spells_16 (c_X9_must_0 hk h100 hmm h1 (by omega)) rfl vX9_71 sh_67 (by decide) rfl rfl rfl (by decide) <|
          ?_
        rintro _ m1 ⟨rfl, a1, s1⟩
        rw [if_pos hb, if_pos hb] at a1
        refine cw_iincL (L' := [_, _, _]) (c := 1) (pc := 19) dX9_spells_19 rfl (by decide) (by decide) rfl rfl <|
          ?_
        rw [nI_1 j]
        refine cw_goto (tgt := 2) (pc := 22) dX9_spells_22 (by decide) <|
          ?_
        exact ih () _ ⟨hS.tr s1, Or.inl ⟨a1, lt_k hk h100 (ch_n1 m hm8 j hj) hb, fun y hy => by
          by_cases e : y = j
          · subst e; exact hb
          · exact h2 y (by omega)⟩⟩
      · refine cw_iload_n (pc := 2) dX9_spells_2 rfl rfl <|
          cw_aload_n (pc := 3) dX9_spells_3 rfl rfl <|
          cw_invSI (pc := 4) (by assumption) dX9_spells_4 (c_J0_length_8abf5 hm8) vX9_62 rfl rfl rfl (by decide) <|
          cw_icmp_ge_F (tgt := 25) (pc := 7) dX9_spells_7 (by decide) (nI_ge hj (by omega)) <|
          cw_aload_n (pc := 10) dX9_spells_10 rfl rfl <|
          cw_aload_n (pc := 11) dX9_spells_11 rfl rfl <|
          cw_iload_n (pc := 12) dX9_spells_12 rfl rfl <|
          cw_invSI (pc := 13) (by assumption) dX9_spells_13 (c_J0_charAt_5068e hm8 hj) vX9_67 rfl rfl rfl (by decide) <|
          cw_invP (q := 67) (pc := 16) dX9_spells_16 (c_X9_must_0 hk h100 hmm h1 (by omega)) rfl vX9_71 sh_67 (by decide) rfl rfl rfl (by decide) <|
          ?_
        rintro _ m1 ⟨rfl, a1, s1⟩
        rw [if_neg hb, if_neg hb] at a1
        refine cw_iincL (L' := [_, _, _]) (c := 1) (pc := 19) dX9_spells_19 rfl (by decide) (by decide) rfl rfl <|
          ?_
        rw [nI_1 j]
        refine cw_goto (tgt := 2) (pc := 22) dX9_spells_22 (by decide) <|
          ?_
        exact ih () _ ⟨hS.tr s1, Or.inr ⟨i + j, hpk, wor_no (by rw [← hlb]; exact hj) h2 hb, a1⟩⟩
    · refine cw_iload_n (pc := 2) dX9_spells_2 rfl rfl <|
        cw_aload_n (pc := 3) dX9_spells_3 rfl rfl <|
        cw_invSI (pc := 4) (by assumption) dX9_spells_4 (c_J0_length_8abf5 hm8) vX9_62 rfl rfl rfl (by decide) <|
        cw_icmp_ge_F (tgt := 25) (pc := 7) dX9_spells_7 (by decide) (nI_ge hj (by omega)) <|
        cw_aload_n (pc := 10) dX9_spells_10 rfl rfl <|
        cw_aload_n (pc := 11) dX9_spells_11 rfl rfl <|
        cw_iload_n (pc := 12) dX9_spells_12 rfl rfl <|
        cw_invSI (pc := 13) (by assumption) dX9_spells_13 (c_J0_charAt_5068e hm8 hj) vX9_67 rfl rfl rfl (by decide) <|
        cw_invP (q := 67) (pc := 16) dX9_spells_16 (c_X9_must_1 h2) rfl vX9_71 sh_67 (by decide) rfl rfl rfl (by decide) <|
        ?_
      rintro _ m1 ⟨rfl, a1, s1⟩
      refine cw_iincL (L' := [_, _, _]) (c := 1) (pc := 19) dX9_spells_19 rfl (by decide) (by decide) rfl rfl <|
        ?_
      rw [nI_1 j]
      refine cw_goto (tgt := 2) (pc := 22) dX9_spells_22 (by decide) <|
        ?_
      exact ih () _ ⟨hS.tr s1, Or.inr ⟨p, hpk, h1, a1⟩⟩
set_option maxHeartbeats 4000000 in
set_option maxRecDepth 100000 in
theorem c_X9_among {E : Ev} {μ : Mem} {s : Row} {k np : Nat} (hk : s 37 = nI k) (h100 : k ≤ 100) (hm : MK μ s np k) {i o : Nat} (ha : SA μ i 0 o) (hik : i ≤ k) {m : Nat} (hm8 : m < 8) : AM E yX9_among cX9_among 3 (some .int) 4 [.ref 67, .ref (80 + m)] μ (fun r μ' => r = some (.int (amI (amT (nxT s i) (bytS.getD m [])))) ∧ SA μ' (amP i (amT (nxT s i) (bytS.getD m []))) 0 o ∧ Same F67 μ μ') := by
  refine am_of (own := RX9) (L := [.ref 67, .ref (80 + m), .null]) (by decide) rfl (Nat.le_of_ble_eq_true rfl) rfl (fun Γ hR => ?_)
  have hlen := len_lt m hm8
  refine cw_iconst (v := 0) (pc := 0) dX9_among_0 (by decide) <|
    cw_istore_n (L' := [_, _, _]) (pc := 1) dX9_among_1 rfl (by decide) rfl rfl <|
    ?_
  refine cw_for (σ := Unit) (lenS.getD m 0) (fun j _ m' => m' = μ ∧ ∀ y, y < j → nxT s i ≠ chS m y) (fun j _ => [.ref 67, .ref (80 + m), .int (nI j)]) ?_ ?_ 0 () _ (Nat.zero_le _) ⟨rfl, fun y hy => absurd hy (Nat.not_lt_zero _)⟩
  · rintro ⟨⟩ m' ⟨rfl, h⟩
    have e := amT_no (x := nxT s i) (l := bytS.getD m []) (fun y hy => h y (by rw [len_by m hm8]; exact hy))
    refine cw_iload_n (pc := 2) dX9_among_2 rfl rfl <|
      cw_aload_n (pc := 3) dX9_among_3 rfl rfl <|
      cw_invSI (pc := 4) (by assumption) dX9_among_4 (c_J0_length_8abf5 hm8) vX9_62 rfl rfl rfl (by decide) <|
      cw_icmp_ge_T (tgt := 40) (pc := 7) dX9_among_7 (by decide) (Int32.le_refl _) <|
      cw_iconst (v := -1) (pc := 40) dX9_among_40 (by decide) <|
      cw_iret (pc := 41) dX9_among_41 hR <|
      ⟨by rw [e]; rfl, by rw [e]; exact ha, Same.rf⟩
  · rintro j ⟨⟩ m' hj ⟨rfl, h⟩ ih
    by_cases hc : nxT s i = chS m j
    · have e := amT_at (x := nxT s i) (l := bytS.getD m []) (j := j) h (by rw [← len_by m hm8]; exact hj) hc
      refine cw_iload_n (pc := 2) dX9_among_2 rfl rfl <|
        cw_aload_n (pc := 3) dX9_among_3 rfl rfl <|
        cw_invSI (pc := 4) (by assumption) dX9_among_4 (c_J0_length_8abf5 hm8) vX9_62 rfl rfl rfl (by decide) <|
        cw_icmp_ge_F (tgt := 40) (pc := 7) dX9_among_7 (by decide) (nI_ge hj (by omega)) <|
        cw_aload_n (pc := 10) dX9_among_10 rfl rfl <|
        cw_invI (q := 67) (pc := 11) dX9_among_11 (c_X9_here hk h100 hm ha (by omega)) rfl vX9_58 sh_67 (by decide) rfl rfl rfl (by decide) <|
        cw_aload_n (pc := 14) dX9_among_14 rfl rfl <|
        cw_iload_n (pc := 15) dX9_among_15 rfl rfl <|
        cw_invSI (pc := 16) (by assumption) dX9_among_16 (c_J0_charAt_5068e hm8 hj) vX9_67 rfl rfl rfl (by decide) <|
        cw_icmp_ne_F (tgt := 34) (pc := 19) dX9_among_19 (by decide) hc <|
        cw_aload_n (pc := 22) dX9_among_22 rfl rfl <|
        cw_dup (pc := 23) dX9_among_23 rfl <|
        cw_getI (q := 67) (pc := 24) dX9_among_24 fX9_48 sh_67 (by decide) rfl <|
        ?_
      rw [ha.1]
      refine cw_iconst (v := 1) (pc := 27) dX9_among_27 (by decide) <|
        cw_iadd (pc := 28) dX9_among_28 <|
        ?_
      rw [nI_1 i]
      refine cw_putI (q := 67) (pc := 29) dX9_among_29 pX9_48 sh_67 (by decide) rfl <|
        cw_iload_n (pc := 32) dX9_among_32 rfl rfl <|
        cw_iret (pc := 33) dX9_among_33 hR <|
        ⟨by rw [e]; rfl, by rw [e]; exact sa_s ha, Same.rf.s1 (f7 (by decide))⟩
    · refine cw_iload_n (pc := 2) dX9_among_2 rfl rfl <|
        cw_aload_n (pc := 3) dX9_among_3 rfl rfl <|
        cw_invSI (pc := 4) (by assumption) dX9_among_4 (c_J0_length_8abf5 hm8) vX9_62 rfl rfl rfl (by decide) <|
        cw_icmp_ge_F (tgt := 40) (pc := 7) dX9_among_7 (by decide) (nI_ge hj (by omega)) <|
        cw_aload_n (pc := 10) dX9_among_10 rfl rfl <|
        cw_invI (q := 67) (pc := 11) dX9_among_11 (c_X9_here hk h100 hm ha (by omega)) rfl vX9_58 sh_67 (by decide) rfl rfl rfl (by decide) <|
        cw_aload_n (pc := 14) dX9_among_14 rfl rfl <|
        cw_iload_n (pc := 15) dX9_among_15 rfl rfl <|
        cw_invSI (pc := 16) (by assumption) dX9_among_16 (c_J0_charAt_5068e hm8 hj) vX9_67 rfl rfl rfl (by decide) <|
        cw_icmp_ne_T (tgt := 34) (pc := 19) dX9_among_19 (by decide) hc <|
        cw_iincL (L' := [_, _, _]) (c := 1) (pc := 34) dX9_among_34 rfl (by decide) (by decide) rfl rfl <|
        ?_
      rw [nI_1 j]
      refine cw_goto (tgt := 2) (pc := 37) dX9_among_37 (by decide) <|
        ?_
      exact ih () _ ⟨rfl, fun y hy => by
        by_cases e : y = j
        · subst e; exact hc
        · exact h y (by omega)⟩
set_option maxHeartbeats 4000000 in
set_option maxRecDepth 100000 in
theorem c_X9_figures_0 {E : Ev} {μ : Mem} {s : Row} {k np : Nat} (hk : s 37 = nI k) (h100 : k ≤ 100) (hm : MK μ s np k) {i o : Nat} (ha : SA μ i 0 o) (hik : i ≤ k) : AM E yX9_figures cX9_figures 3 (some .int) 2 [.ref 67] μ (fun r μ' => r = some (.int (if (numT (nxT s) i).1 = true then nI (numT (nxT s) i).2.2 else 0)) ∧ SA μ' (numT (nxT s) i).2.1 (if (numT (nxT s) i).1 = true then 0 else 1) o ∧ Same F67 μ μ') := by
  refine am_of (own := RX9) (L := [.ref 67, .null, .null]) (by decide) rfl (Nat.le_of_ble_eq_true rfl) rfl (fun Γ hR => ?_)
  have hN := nx_end hk h100
  by_cases h1 : isD (nxT s i) = true
  · obtain ⟨v, hv, ev, en⟩ := dig_le h1
    have hik1 := dig_lt hN h1
    have d1 := of_decide_eq_true h1
    have s1 : Same F67 μ (st μ 67 8 0) := Same.rf.s1 (f7 (by decide))
    have a1 := sa_w (w := 0) ha
    have m1 := hm.mo h100 (F67_M (np := np) s1)
    refine cw_aload_n (pc := 0) dX9_figures_0 rfl rfl <|
      cw_aload_n (pc := 1) dX9_figures_1 rfl rfl <|
      cw_getI (q := 67) (pc := 2) dX9_figures_2 fX9_54 sh_67 (by decide) rfl <|
      ?_
    rw [ha.2.1]
    refine cw_if_ne_F (tgt := 22) (pc := 5) dX9_figures_5 (by decide) rfl <|
      cw_aload_n (pc := 8) dX9_figures_8 rfl rfl <|
      cw_invI (q := 67) (pc := 9) dX9_figures_9 (c_X9_here hk h100 hm ha (by omega)) rfl vX9_58 sh_67 (by decide) rfl rfl rfl (by decide) <|
      cw_bipush (v := 48) (pc := 12) dX9_figures_12 (by decide) <|
      cw_bipush (v := 57) (pc := 14) dX9_figures_14 (by decide) <|
      cw_insI (pc := 16) dX9_figures_16 c_X9_in vX9_44 rfl rfl rfl (by decide) <|
      cw_if_ne_T (tgt := 26) (pc := 19) dX9_figures_19 (by decide) (bI_n0.mpr d1) <|
      cw_iconst (v := 0) (pc := 26) dX9_figures_26 (by decide) <|
      cw_putZ (q := 67) (pc := 27) dX9_figures_27 pX9_54 sh_67 (by decide) rfl (by decide) <|
      cw_iconst (v := 0) (pc := 30) dX9_figures_30 (by decide) <|
      cw_istore_n (L' := [_, _, _]) (pc := 31) dX9_figures_31 rfl (by decide) rfl rfl <|
      cw_iconst (v := 0) (pc := 32) dX9_figures_32 (by decide) <|
      cw_istore_n (L' := [_, _, _]) (pc := 33) dX9_figures_33 rfl (by decide) rfl rfl <|
      ?_
    have ex : 10 * 0 + nxT s i - 48 = nI v := by rw [ev, show (10 : Int32) * 0 + nI (48 + v) = nI (48 + v) by rw [show (10 : Int32) * 0 = nI 0 from rfl, nI_add, Nat.zero_add], show nI (48 + v) - 48 = nI (48 + v - 48) from pk_sub (b := 48) (by omega), Nat.add_sub_cancel_left]
    have s2 := s1.s1 (q := 67) (i := 6) (v := nI (i + 1)) (f7 (by decide))
    have a2 := sa_s (j := i + 1) a1
    have m2 := hm.mo h100 (F67_M (np := np) s2)
    refine cw_iload_n (pc := 34) dX9_figures_34 rfl rfl <|
      cw_iconst (v := 2) (pc := 35) dX9_figures_35 (by decide) <|
      cw_icmp_ge_F (tgt := 97) (pc := 36) dX9_figures_36 (by decide) (by decide) <|
      cw_aload_n (pc := 39) dX9_figures_39 rfl rfl <|
      cw_getI (q := 67) (pc := 40) dX9_figures_40 fX9_54 sh_67 (by decide) rfl <|
      ?_
    rw [a1.2.1]
    refine cw_if_ne_F (tgt := 97) (pc := 43) dX9_figures_43 (by decide) rfl <|
      cw_aload_n (pc := 46) dX9_figures_46 rfl rfl <|
      cw_invI (q := 67) (pc := 47) dX9_figures_47 (c_X9_here hk h100 m1 a1 (by omega)) rfl vX9_58 sh_67 (by decide) rfl rfl rfl (by decide) <|
      cw_bipush (v := 48) (pc := 50) dX9_figures_50 (by decide) <|
      cw_bipush (v := 57) (pc := 52) dX9_figures_52 (by decide) <|
      cw_insI (pc := 54) dX9_figures_54 c_X9_in vX9_44 rfl rfl rfl (by decide) <|
      cw_if_eq_F (tgt := 97) (pc := 57) dX9_figures_57 (by decide) (bI_n0.mpr d1) <|
      cw_iload_n (pc := 60) dX9_figures_60 rfl rfl <|
      cw_if_eq_T (tgt := 68) (pc := 61) dX9_figures_61 (by decide) rfl <|
      cw_bipush (v := 10) (pc := 68) dX9_figures_68 (by decide) <|
      cw_iload_n (pc := 70) dX9_figures_70 rfl rfl <|
      cw_imul (pc := 71) dX9_figures_71 <|
      cw_aload_n (pc := 72) dX9_figures_72 rfl rfl <|
      cw_invI (q := 67) (pc := 73) dX9_figures_73 (c_X9_here hk h100 m1 a1 (by omega)) rfl vX9_58 sh_67 (by decide) rfl rfl rfl (by decide) <|
      cw_iadd (pc := 76) dX9_figures_76 <|
      cw_bipush (v := 48) (pc := 77) dX9_figures_77 (by decide) <|
      cw_isub (pc := 79) dX9_figures_79 <|
      ?_
    rw [ex]
    refine cw_istore_n (L' := [_, _, _]) (pc := 80) dX9_figures_80 rfl (by decide) rfl rfl <|
      cw_aload_n (pc := 81) dX9_figures_81 rfl rfl <|
      cw_dup (pc := 82) dX9_figures_82 rfl <|
      cw_getI (q := 67) (pc := 83) dX9_figures_83 fX9_48 sh_67 (by decide) rfl <|
      ?_
    rw [a1.1]
    refine cw_iconst (v := 1) (pc := 86) dX9_figures_86 (by decide) <|
      cw_iadd (pc := 87) dX9_figures_87 <|
      ?_
    rw [nI_1 i]
    refine cw_putI (q := 67) (pc := 88) dX9_figures_88 pX9_48 sh_67 (by decide) rfl <|
      cw_iincL (L' := [_, _, _]) (c := 1) (pc := 91) dX9_figures_91 rfl (by decide) (by decide) rfl rfl <|
      cw_goto (tgt := 34) (pc := 94) dX9_figures_94 (by decide) <|
      ?_
    by_cases h2 : isD (nxT s (i + 1)) = true
    · have d2 := of_decide_eq_true h2
      by_cases h0 : 0 < v
      · obtain ⟨w, hw, ew, en2⟩ := dig_le h2
        have hik2 := dig_lt hN h2
        have hne : nxT s i ≠ 48 := fun q => by rw [q] at ev; have := (nI_eq (a := 48) (b := 48 + v) (by decide) (by omega)).mp ev; omega
        have e : (numT (nxT s) i) = (true, i + 2, v * 10 + w) := by unfold numT; rw [if_pos h1, if_pos ⟨hne, h2⟩, en, en2]
        have ex2 : 10 * nI v + nxT s (i + 1) - 48 = nI (v * 10 + w) := by rw [ew, show (10 : Int32) * nI v = nI (10 * v) from pk_mul 10 v, nI_add, show nI (10 * v + (48 + w)) - 48 = nI (10 * v + (48 + w) - 48) from pk_sub (b := 48) (by omega)]; congr 1; omega
        have s3 := s2.s1 (q := 67) (i := 6) (v := nI (i + 1 + 1)) (f7 (by decide))
        have a3 := sa_s (j := i + 1 + 1) a2
        refine cw_iload_n (pc := 34) dX9_figures_34 rfl rfl <|
          cw_iconst (v := 2) (pc := 35) dX9_figures_35 (by decide) <|
          cw_icmp_ge_F (tgt := 97) (pc := 36) dX9_figures_36 (by decide) (by decide) <|
          cw_aload_n (pc := 39) dX9_figures_39 rfl rfl <|
          cw_getI (q := 67) (pc := 40) dX9_figures_40 fX9_54 sh_67 (by decide) rfl <|
          ?_
        rw [a2.2.1]
        refine cw_if_ne_F (tgt := 97) (pc := 43) dX9_figures_43 (by decide) rfl <|
          cw_aload_n (pc := 46) dX9_figures_46 rfl rfl <|
          cw_invI (q := 67) (pc := 47) dX9_figures_47 (c_X9_here hk h100 m2 a2 (by omega)) rfl vX9_58 sh_67 (by decide) rfl rfl rfl (by decide) <|
          cw_bipush (v := 48) (pc := 50) dX9_figures_50 (by decide) <|
          cw_bipush (v := 57) (pc := 52) dX9_figures_52 (by decide) <|
          cw_insI (pc := 54) dX9_figures_54 c_X9_in vX9_44 rfl rfl rfl (by decide) <|
          cw_if_eq_F (tgt := 97) (pc := 57) dX9_figures_57 (by decide) (bI_n0.mpr d2) <|
          cw_iload_n (pc := 60) dX9_figures_60 rfl rfl <|
          cw_if_eq_F (tgt := 68) (pc := 61) dX9_figures_61 (by decide) (by decide) <|
          cw_iload_n (pc := 64) dX9_figures_64 rfl rfl <|
          cw_if_le_F (tgt := 97) (pc := 65) dX9_figures_65 (by decide) (nI_nle0 h0 (by omega)) <|
          cw_bipush (v := 10) (pc := 68) dX9_figures_68 (by decide) <|
          cw_iload_n (pc := 70) dX9_figures_70 rfl rfl <|
          cw_imul (pc := 71) dX9_figures_71 <|
          cw_aload_n (pc := 72) dX9_figures_72 rfl rfl <|
          cw_invI (q := 67) (pc := 73) dX9_figures_73 (c_X9_here hk h100 m2 a2 (by omega)) rfl vX9_58 sh_67 (by decide) rfl rfl rfl (by decide) <|
          cw_iadd (pc := 76) dX9_figures_76 <|
          cw_bipush (v := 48) (pc := 77) dX9_figures_77 (by decide) <|
          cw_isub (pc := 79) dX9_figures_79 <|
          ?_
        rw [ex2]
        refine cw_istore_n (L' := [_, _, _]) (pc := 80) dX9_figures_80 rfl (by decide) rfl rfl <|
          cw_aload_n (pc := 81) dX9_figures_81 rfl rfl <|
          cw_dup (pc := 82) dX9_figures_82 rfl <|
          cw_getI (q := 67) (pc := 83) dX9_figures_83 fX9_48 sh_67 (by decide) rfl <|
          ?_
        rw [a2.1]
        refine cw_iconst (v := 1) (pc := 86) dX9_figures_86 (by decide) <|
          cw_iadd (pc := 87) dX9_figures_87 <|
          ?_
        rw [nI_1 (i + 1)]
        refine cw_putI (q := 67) (pc := 88) dX9_figures_88 pX9_48 sh_67 (by decide) rfl <|
          cw_iincL (L' := [_, _, _]) (c := 1) (pc := 91) dX9_figures_91 rfl (by decide) (by decide) rfl rfl <|
          cw_goto (tgt := 34) (pc := 94) dX9_figures_94 (by decide) <|
          ?_
        refine cw_iload_n (pc := 34) dX9_figures_34 rfl rfl <|
          cw_iconst (v := 2) (pc := 35) dX9_figures_35 (by decide) <|
          cw_icmp_ge_T (tgt := 97) (pc := 36) dX9_figures_36 (by decide) (by decide) <|
          cw_iload_n (pc := 97) dX9_figures_97 rfl rfl <|
          cw_iret (pc := 98) dX9_figures_98 hR <|
          ⟨by rw [e]; rfl, by rw [e]; exact a3, s3⟩
      · have hv0 : v = 0 := by omega
        subst hv0
        have e : (numT (nxT s) i) = (true, i + 1, 0) := by unfold numT; rw [if_pos h1, if_neg (fun q => q.1 ev), en]
        refine cw_iload_n (pc := 34) dX9_figures_34 rfl rfl <|
          cw_iconst (v := 2) (pc := 35) dX9_figures_35 (by decide) <|
          cw_icmp_ge_F (tgt := 97) (pc := 36) dX9_figures_36 (by decide) (by decide) <|
          cw_aload_n (pc := 39) dX9_figures_39 rfl rfl <|
          cw_getI (q := 67) (pc := 40) dX9_figures_40 fX9_54 sh_67 (by decide) rfl <|
          ?_
        rw [a2.2.1]
        refine cw_if_ne_F (tgt := 97) (pc := 43) dX9_figures_43 (by decide) rfl <|
          cw_aload_n (pc := 46) dX9_figures_46 rfl rfl <|
          cw_invI (q := 67) (pc := 47) dX9_figures_47 (c_X9_here hk h100 m2 a2 (by omega)) rfl vX9_58 sh_67 (by decide) rfl rfl rfl (by decide) <|
          cw_bipush (v := 48) (pc := 50) dX9_figures_50 (by decide) <|
          cw_bipush (v := 57) (pc := 52) dX9_figures_52 (by decide) <|
          cw_insI (pc := 54) dX9_figures_54 c_X9_in vX9_44 rfl rfl rfl (by decide) <|
          cw_if_eq_F (tgt := 97) (pc := 57) dX9_figures_57 (by decide) (bI_n0.mpr d2) <|
          cw_iload_n (pc := 60) dX9_figures_60 rfl rfl <|
          cw_if_eq_F (tgt := 68) (pc := 61) dX9_figures_61 (by decide) (by decide) <|
          cw_iload_n (pc := 64) dX9_figures_64 rfl rfl <|
          cw_if_le_T (tgt := 97) (pc := 65) dX9_figures_65 (by decide) (Int32.le_refl _) <|
          cw_iload_n (pc := 97) dX9_figures_97 rfl rfl <|
          cw_iret (pc := 98) dX9_figures_98 hR <|
          ⟨by rw [e]; rfl, by rw [e]; exact a2, s2⟩
    · have e : (numT (nxT s) i) = (true, i + 1, v) := by unfold numT; rw [if_pos h1, if_neg (fun q => h2 q.2), en]
      have d2 : ¬ (48 ≤ nxT s (i + 1) ∧ nxT s (i + 1) ≤ 57) := fun q => h2 (decide_eq_true q)
      refine cw_iload_n (pc := 34) dX9_figures_34 rfl rfl <|
        cw_iconst (v := 2) (pc := 35) dX9_figures_35 (by decide) <|
        cw_icmp_ge_F (tgt := 97) (pc := 36) dX9_figures_36 (by decide) (by decide) <|
        cw_aload_n (pc := 39) dX9_figures_39 rfl rfl <|
        cw_getI (q := 67) (pc := 40) dX9_figures_40 fX9_54 sh_67 (by decide) rfl <|
        ?_
      rw [a2.2.1]
      refine cw_if_ne_F (tgt := 97) (pc := 43) dX9_figures_43 (by decide) rfl <|
        cw_aload_n (pc := 46) dX9_figures_46 rfl rfl <|
        cw_invI (q := 67) (pc := 47) dX9_figures_47 (c_X9_here hk h100 m2 a2 (by omega)) rfl vX9_58 sh_67 (by decide) rfl rfl rfl (by decide) <|
        cw_bipush (v := 48) (pc := 50) dX9_figures_50 (by decide) <|
        cw_bipush (v := 57) (pc := 52) dX9_figures_52 (by decide) <|
        cw_insI (pc := 54) dX9_figures_54 c_X9_in vX9_44 rfl rfl rfl (by decide) <|
        cw_if_eq_T (tgt := 97) (pc := 57) dX9_figures_57 (by decide) (bI_0.mpr d2) <|
        cw_iload_n (pc := 97) dX9_figures_97 rfl rfl <|
        cw_iret (pc := 98) dX9_figures_98 hR <|
        ⟨by rw [e]; rfl, by rw [e]; exact a2, s2⟩
  · have e : (numT (nxT s) i) = (false, i, 0) := by unfold numT; rw [if_neg h1]
    have d1 : ¬ (48 ≤ nxT s i ∧ nxT s i ≤ 57) := fun q => h1 (decide_eq_true q)
    refine cw_aload_n (pc := 0) dX9_figures_0 rfl rfl <|
      cw_aload_n (pc := 1) dX9_figures_1 rfl rfl <|
      cw_getI (q := 67) (pc := 2) dX9_figures_2 fX9_54 sh_67 (by decide) rfl <|
      ?_
    rw [ha.2.1]
    refine cw_if_ne_F (tgt := 22) (pc := 5) dX9_figures_5 (by decide) rfl <|
      cw_aload_n (pc := 8) dX9_figures_8 rfl rfl <|
      cw_invI (q := 67) (pc := 9) dX9_figures_9 (c_X9_here hk h100 hm ha (by omega)) rfl vX9_58 sh_67 (by decide) rfl rfl rfl (by decide) <|
      cw_bipush (v := 48) (pc := 12) dX9_figures_12 (by decide) <|
      cw_bipush (v := 57) (pc := 14) dX9_figures_14 (by decide) <|
      cw_insI (pc := 16) dX9_figures_16 c_X9_in vX9_44 rfl rfl rfl (by decide) <|
      cw_if_ne_F (tgt := 26) (pc := 19) dX9_figures_19 (by decide) (bI_0.mpr d1) <|
      cw_iconst (v := 1) (pc := 22) dX9_figures_22 (by decide) <|
      cw_goto (tgt := 27) (pc := 23) dX9_figures_23 (by decide) <|
      cw_putZ (q := 67) (pc := 27) dX9_figures_27 pX9_54 sh_67 (by decide) rfl (by decide) <|
      cw_iconst (v := 0) (pc := 30) dX9_figures_30 (by decide) <|
      cw_istore_n (L' := [_, _, _]) (pc := 31) dX9_figures_31 rfl (by decide) rfl rfl <|
      cw_iconst (v := 0) (pc := 32) dX9_figures_32 (by decide) <|
      cw_istore_n (L' := [_, _, _]) (pc := 33) dX9_figures_33 rfl (by decide) rfl rfl <|
      cw_iload_n (pc := 34) dX9_figures_34 rfl rfl <|
      cw_iconst (v := 2) (pc := 35) dX9_figures_35 (by decide) <|
      cw_icmp_ge_F (tgt := 97) (pc := 36) dX9_figures_36 (by decide) (by decide) <|
      cw_aload_n (pc := 39) dX9_figures_39 rfl rfl <|
      cw_getI (q := 67) (pc := 40) dX9_figures_40 fX9_54 sh_67 (by decide) rfl <|
      ?_
    rw [st_eq]
    refine cw_if_ne_T (tgt := 97) (pc := 43) dX9_figures_43 (by decide) (by decide) <|
      cw_iload_n (pc := 97) dX9_figures_97 rfl rfl <|
      cw_iret (pc := 98) dX9_figures_98 hR <|
      ⟨by rw [e]; rfl, by rw [e]; exact sa_w ha, Same.rf.s1 (f7 (by decide))⟩
set_option maxHeartbeats 4000000 in
set_option maxRecDepth 100000 in
theorem c_X9_figures_1 {E : Ev} {μ : Mem} {i o : Nat} (ha : SA μ i 1 o) : AM E yX9_figures cX9_figures 3 (some .int) 2 [.ref 67] μ (fun r μ' => r = some (.int 0) ∧ SA μ' i 1 o ∧ Same F67 μ μ') := by
  refine am_of (own := RX9) (L := [.ref 67, .null, .null]) (by decide) rfl (Nat.le_of_ble_eq_true rfl) rfl (fun Γ hR => ?_)
  refine cw_aload_n (pc := 0) dX9_figures_0 rfl rfl <|
    cw_aload_n (pc := 1) dX9_figures_1 rfl rfl <|
    cw_getI (q := 67) (pc := 2) dX9_figures_2 fX9_54 sh_67 (by decide) rfl <|
    ?_
  rw [ha.2.1]
  refine cw_if_ne_T (tgt := 22) (pc := 5) dX9_figures_5 (by decide) (by decide) <|
    cw_iconst (v := 1) (pc := 22) dX9_figures_22 (by decide) <|
    cw_goto (tgt := 27) (pc := 23) dX9_figures_23 (by decide) <|
    cw_putZ (q := 67) (pc := 27) dX9_figures_27 pX9_54 sh_67 (by decide) rfl (by decide) <|
    cw_iconst (v := 0) (pc := 30) dX9_figures_30 (by decide) <|
    cw_istore_n (L' := [_, _, _]) (pc := 31) dX9_figures_31 rfl (by decide) rfl rfl <|
    cw_iconst (v := 0) (pc := 32) dX9_figures_32 (by decide) <|
    cw_istore_n (L' := [_, _, _]) (pc := 33) dX9_figures_33 rfl (by decide) rfl rfl <|
    cw_iload_n (pc := 34) dX9_figures_34 rfl rfl <|
    cw_iconst (v := 2) (pc := 35) dX9_figures_35 (by decide) <|
    cw_icmp_ge_F (tgt := 97) (pc := 36) dX9_figures_36 (by decide) (by decide) <|
    cw_aload_n (pc := 39) dX9_figures_39 rfl rfl <|
    cw_getI (q := 67) (pc := 40) dX9_figures_40 fX9_54 sh_67 (by decide) rfl <|
    ?_
  rw [st_eq]
  refine cw_if_ne_T (tgt := 97) (pc := 43) dX9_figures_43 (by decide) (by decide) <|
    cw_iload_n (pc := 97) dX9_figures_97 rfl rfl <|
    cw_iret (pc := 98) dX9_figures_98 hR <|
    ⟨rfl, sa_w ha, Same.rf.s1 (f7 (by decide))⟩
set_option maxHeartbeats 4000000 in
set_option maxRecDepth 100000 in
theorem c_X9_emits_0 {E : Ev} {μ : Mem} {s : Row} {k np : Nat} (hnp : np < 5) (hm : MK μ s np k) (h0 : μ 67 8 = 0) {c : PCo} (hc : CR μ np c) (hl : c.length ≤ 100) {q : Nat × Nat} {x : Int32} (hx : x = mst q) : AM E yX9_emits cX9_emits 2 none 0 [.ref 67, .int x] μ (fun r μ' => r = none ∧ CR μ' np (c ++ [q]) ∧ Same (F68 np) μ μ') := by
  refine am_of (own := RX9) (L := [.ref 67, .int x]) (by decide) rfl (Nat.le_of_ble_eq_true rfl) rfl (fun Γ hR => ?_)
  refine cw_aload_n (pc := 0) dX9_emits_0 rfl rfl <|
    cw_getI (q := 67) (pc := 1) dX9_emits_1 fX9_54 sh_67 (by decide) rfl <|
    ?_
  rw [h0]
  refine cw_if_ne_F (tgt := 56) (pc := 4) dX9_emits_4 (by decide) rfl <|
    cw_aload_n (pc := 7) dX9_emits_7 rfl rfl <|
    cw_getR (q := 67) (t := 68) (pc := 8) dX9_emits_8 fX9_9 sh_67 (by decide) rfl <|
    cw_sipush (v := 248) (pc := 11) dX9_emits_11 (by decide) <|
    cw_sipush (v := 140) (pc := 14) dX9_emits_14 (by decide) <|
    cw_aload_n (pc := 17) dX9_emits_17 rfl rfl <|
    cw_getI (q := 67) (pc := 18) dX9_emits_18 fX9_75 sh_67 (by decide) rfl <|
    ?_
  rw [hm.1]
  refine cw_imul (pc := 21) dX9_emits_21 <|
    cw_iadd (pc := 22) dX9_emits_22 <|
    cw_aload_n (pc := 23) dX9_emits_23 rfl rfl <|
    cw_getR (q := 67) (t := 68) (pc := 24) dX9_emits_24 fX9_9 sh_67 (by decide) rfl <|
    cw_sipush (v := 243) (pc := 27) dX9_emits_27 (by decide) <|
    cw_aload_n (pc := 30) dX9_emits_30 rfl rfl <|
    cw_getI (q := 67) (pc := 31) dX9_emits_31 fX9_75 sh_67 (by decide) rfl <|
    ?_
  rw [hm.1]
  refine cw_iadd (pc := 34) dX9_emits_34 <|
    cw_ial (q := 68) (jn := (243 + np)) (pc := 35) dX9_emits_35 sh_68 (nx_add rfl rfl) (by omega) (by decide) <|
    ?_
  rw [hc.1]
  refine cw_iadd (pc := 36) dX9_emits_36 <|
    cw_iload_n (pc := 37) dX9_emits_37 rfl rfl <|
    cw_ias (q := 68) (jn := ((248 + (140 * np)) + c.length)) (pc := 38) dX9_emits_38 sh_68 (nx_add (nx_add rfl (nx_mul rfl rfl)) rfl) (by omega) (by decide) <|
    cw_aload_n (pc := 39) dX9_emits_39 rfl rfl <|
    cw_getR (q := 67) (t := 68) (pc := 40) dX9_emits_40 fX9_9 sh_67 (by decide) rfl <|
    cw_sipush (v := 243) (pc := 43) dX9_emits_43 (by decide) <|
    cw_aload_n (pc := 46) dX9_emits_46 rfl rfl <|
    cw_getI (q := 67) (pc := 47) dX9_emits_47 fX9_75 sh_67 (by decide) rfl <|
    ?_
  rw [show (st μ 68 (248 + 140 * np + c.length) x) 67 5 = nI np from hm.1]
  refine cw_iadd (pc := 50) dX9_emits_50 <|
    cw_dup2 (pc := 51) dX9_emits_51 rfl rfl <|
    cw_ial (q := 68) (jn := (243 + np)) (pc := 52) dX9_emits_52 sh_68 (nx_add rfl rfl) (by omega) (by decide) <|
    ?_
  rw [show (st μ 68 (248 + 140 * np + c.length) x) 68 (243 + np) = nI c.length from (st_at.trans (if_neg (by omega))).trans hc.1]
  refine cw_iconst (v := 1) (pc := 53) dX9_emits_53 (by decide) <|
    cw_iadd (pc := 54) dX9_emits_54 <|
    ?_
  rw [nI_1]
  refine cw_ias (q := 68) (jn := (243 + np)) (pc := 55) dX9_emits_55 sh_68 (nx_add rfl rfl) (by omega) (by decide) <|
    cw_vret (pc := 56) dX9_emits_56 hR <|
    ⟨rfl, by rw [hx]; exact hc.ad hl hnp, (Same.rf.s1 (F := F68 np) ⟨rfl, Or.inr ⟨by omega, by omega⟩⟩).s1 ⟨rfl, Or.inl rfl⟩⟩
set_option maxHeartbeats 4000000 in
set_option maxRecDepth 100000 in
theorem c_X9_emits_1 {E : Ev} {μ : Mem} (h0 : μ 67 8 = 1) {x : Int32} : AM E yX9_emits cX9_emits 2 none 0 [.ref 67, .int x] μ (fun r μ' => r = none ∧ μ' = μ) := by
  refine am_of (own := RX9) (L := [.ref 67, .int x]) (by decide) rfl (Nat.le_of_ble_eq_true rfl) rfl (fun Γ hR => ?_)
  refine cw_aload_n (pc := 0) dX9_emits_0 rfl rfl <|
    cw_getI (q := 67) (pc := 1) dX9_emits_1 fX9_54 sh_67 (by decide) rfl <|
    ?_
  rw [h0]
  refine cw_if_ne_T (tgt := 56) (pc := 4) dX9_emits_4 (by decide) (by decide) <|
    cw_vret (pc := 56) dX9_emits_56 hR <|
    ⟨rfl, rfl⟩
