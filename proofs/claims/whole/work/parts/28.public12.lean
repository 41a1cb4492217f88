theorem cntB_congr {f g : Nat → Bool} {n : Nat} (h : ∀ p, p < n → f p = g p) : cntB f n = cntB g n := by
  induction n with
  | zero => rfl
  | succ n ih => rw [cntB_s, cntB_s, ih (fun p hp => h p (by omega)), h n (by omega)]
theorem bc_cnt0 : ∀ m, m < 64 → ∀ n, n < 7 → bcI (bitsI (bl6 m) n) = nI (cntB (bl6 m) n) := by decide +kernel
theorem bc_cnt (f : Nat → Bool) {n : Nat} (hn : n ≤ 6) : bcI (bitsI f n) = nI (cntB f n) := by
  obtain ⟨m, hm, h⟩ := bl6_of f
  rw [bitsI_congr (fun p hp => h p (by omega)), cntB_congr (fun p hp => h p (by omega)), bc_cnt0 m hm n (by omega)]
def barB (s : Row) (code : PCo) (m : Nat) : Nat → Bool := fun p => naS s p && decide (nI m ≤ scP s code p)
def barA (s : Row) (code : PCo) (n : Nat) (q : Int32) : Int32 := if 0 ≤ q ∧ q ≤ 6 then fstI (fun m => decide (nI (cntB (barB s code m) n) ≤ q)) 0 61 else -2
set_option maxHeartbeats 4000000 in
set_option maxRecDepth 100000 in
theorem c_X8_bar {E : Ev} {μ : Mem} {s : Row} {n mk : Nat} {code : PCo} (hI : Inv s n code mk) (hR1 : Rel μ 1 s code mk) {x : Int32} : AM E yX8_bar cX8_bar 3 (some .int) 5 [.ref 0, .int x] μ (fun r μ' => r = some (.int (barA s code n x)) ∧ Same (fun q _ => 43 ≤ q ∧ q ≤ 64) μ μ') := by
  refine am_of (own := RX8) (L := [.ref 0, .int x, .null]) (by decide) rfl (Nat.le_of_ble_eq_true rfl) rfl (fun Γ hR => ?_)
  have hR0 := hR1
  obtain ⟨hIL, hIP, hIC, hIS, hIW, hIB, hIT⟩ := hI
  obtain ⟨hL, ⟨hcd, hmk⟩, hT, hC, hS, hW, hB, hnp⟩ := hR1
  have hn := hIL.1
  have h6 := hIL.2.1
  have h31 : μ 2 1 = s 31 := hL.2.1
  have hMen := hL.men hIL
  by_cases hx : 0 ≤ x ∧ x ≤ 6
  · refine cw_iload_n (pc := 0) dX8_bar_0 rfl rfl <|
      cw_if_lt_F (tgt := 10) (pc := 1) dX8_bar_1 (by decide) (Int32.not_lt.mpr hx.1) <|
      cw_iload_n (pc := 4) dX8_bar_4 rfl rfl <|
      cw_bipush (v := 6) (pc := 5) dX8_bar_5 (by decide) <|
      cw_icmp_le_T (tgt := 13) (pc := 7) dX8_bar_7 (by decide) hx.2 <|
      cw_aload_n (pc := 13) dX8_bar_13 rfl rfl <|
      cw_getR (q := 0) (t := 50) (pc := 14) dX8_bar_14 fX8_35 sh_0 (by decide) rfl <|
      cw_invP (q := 50) (pc := 17) dX8_bar_17 (c_X4_scoresAll plo_50 land_2 par_9 hcd hIP.2.2.2 hMen) rfl vX8_225 sh_50 (by decide) rfl rfl rfl (by decide) <|
      ?_
    rintro _ m0 ⟨rfl, hsc, hS0⟩
    have hM0 : MenAt m0 2 n := hMen.mo (hS0 _ _ (by unfold PS; omega)) (funext fun j => hS0 _ _ (by unfold PS; omega))
    have ena : naB m0 2 = naB μ 2 := by funext p; unfold naB; rw [hS0 2 2 (by unfold PS; omega)]
    have eb : ∀ i, bitsI (fun p => naB m0 2 p && decide (nI i ≤ m0 52 p)) n = bitsI (barB s code i) n := fun i => bitsI_congr (fun p hp => by
      unfold barB
      rw [ena, hL.na (by omega)]
      by_cases h : naS s p = true
      · rw [hsc p hp (by rw [hL.na (by omega)]; exact h), hL.sy code _ (by omega), hL.1]; rfl
      · simp [h])
    refine cw_iconst (v := 0) (pc := 20) dX8_bar_20 (by decide) <|
      cw_istore_n (L' := [_, _, _]) (pc := 21) dX8_bar_21 rfl (by decide) rfl rfl <|
      ?_
    refine cw_for (σ := Int32) 61 (fun i v m => v = nI i ∧ m = m0 ∧ fstI (fun m => decide (nI (cntB (barB s code m) n) ≤ x)) 0 61 = fstI (fun m => decide (nI (cntB (barB s code m) n) ≤ x)) i (61 - i)) (fun _ v => [.ref 0, .int x, .int v]) ?_ ?_ 0 0 m0 (Nat.zero_le _) ⟨rfl, rfl, rfl⟩
    · rintro v m ⟨hv, hm, hf⟩
      subst hv; subst hm
      refine cw_iload_n (pc := 22) dX8_bar_22 rfl rfl <|
        cw_bipush (v := 60) (pc := 23) dX8_bar_23 (by decide) <|
        cw_icmp_gt_T (tgt := 51) (pc := 25) dX8_bar_25 (by decide) (nI_lt (a := 60) (b := 61) (by decide) (by decide)) <|
        cw_bipush (v := -5) (pc := 51) dX8_bar_51 (by decide) <|
        cw_iret (pc := 53) dX8_bar_53 hR <|
        ⟨by rw [barA, if_pos hx, hf]; rfl, hS0.mo (fun q i h => by unfold PS at h; omega)⟩
    · rintro i v m hi ⟨hv, hm, hf⟩ ih
      subst hv; subst hm
      rw [fstI_s hi] at hf
      refine cw_iload_n (pc := 22) dX8_bar_22 rfl rfl <|
        cw_bipush (v := 60) (pc := 23) dX8_bar_23 (by decide) <|
        cw_icmp_gt_F (tgt := 51) (pc := 25) dX8_bar_25 (by decide) (nI_nlt (a := 60) (b := i) (by omega) (by decide)) <|
        cw_aload_n (pc := 28) dX8_bar_28 rfl rfl <|
        cw_getR (q := 0) (t := 50) (pc := 29) dX8_bar_29 fX8_35 sh_0 (by decide) rfl <|
        cw_iload_n (pc := 32) dX8_bar_32 rfl rfl <|
        cw_invI (q := 50) (pc := 33) dX8_bar_33 (c_X4_whoHas plo_50 land_2 hM0) rfl vX8_228 sh_50 (by decide) rfl rfl rfl (by decide) <|
        ?_
      rw [eb i]
      refine cw_insI (pc := 36) dX8_bar_36 c_J6_bitCount_0f7a4 vX8_231 rfl rfl rfl (by decide) <|
        ?_
      rw [bc_cnt _ h6]
      refine cw_iload_n (pc := 39) dX8_bar_39 rfl rfl <|
        cw_icmp_gt (tgt := 45) (pc := 40) dX8_bar_40 (by decide) (fun c40 => ?_) (fun c40 => ?_)
      · refine cw_iincL (L' := [_, _, _]) (c := 1) (pc := 45) dX8_bar_45 rfl (by decide) (by decide) rfl rfl <|
          cw_goto (tgt := 22) (pc := 48) dX8_bar_48 (by decide) <|
          ?_
        exact ih _ _ ⟨nI_1 i, rfl, by rw [hf, if_neg (by simpa using c40)]⟩
      · refine cw_iload_n (pc := 43) dX8_bar_43 rfl rfl <|
          cw_iret (pc := 44) dX8_bar_44 hR <|
          ⟨by rw [barA, if_pos hx, hf, if_pos (decide_eq_true (Int32.not_lt.mp c40))], hS0.mo (fun q i h => by unfold PS at h; omega)⟩
  · refine cw_iload_n (pc := 0) dX8_bar_0 rfl rfl <|
      cw_if_lt (tgt := 10) (pc := 1) dX8_bar_1 (by decide) (fun c1 => ?_) (fun c1 => ?_)
    · refine cw_bipush (v := -2) (pc := 10) dX8_bar_10 (by decide) <|
        cw_iret (pc := 12) dX8_bar_12 hR <|
        ⟨by rw [barA, if_neg hx], Same.rf⟩
    · refine cw_iload_n (pc := 4) dX8_bar_4 rfl rfl <|
        cw_bipush (v := 6) (pc := 5) dX8_bar_5 (by decide) <|
        cw_icmp_le (tgt := 13) (pc := 7) dX8_bar_7 (by decide) (fun c7 => ?_) (fun c7 => ?_)
      · exact absurd ⟨Int32.not_lt.mp c1, c7⟩ hx
      · refine cw_bipush (v := -2) (pc := 10) dX8_bar_10 (by decide) <|
          cw_iret (pc := 12) dX8_bar_12 hR <|
          ⟨by rw [barA, if_neg hx], Same.rf⟩
/-- a PLAN row goes -/
def plnS (code : PCo) (mk n : Nat) (r : Row) (w x : Int32) : Row := if w = 0 then evo r code (nI mk) n 1 else if w = 3 then upd r (19 + nN x) 0 else upd r (7 + nN x) (if w = 1 then 1 else 0)
def plnR (s : Row) (code : PCo) (mk n : Nat) : Nat → Row
  | 0 => s
  | i + 1 => plnS code mk n (plnR s code mk n i) (s (106 + i)) (s (114 + i))
theorem plnR_0 (s : Row) (code : PCo) (mk n : Nat) : plnR s code mk n 0 = s := rfl
theorem plnR_s (s : Row) (code : PCo) (mk n i : Nat) : plnR s code mk n (i + 1) = plnS code mk n (plnR s code mk n i) (s (106 + i)) (s (114 + i)) := rfl
def doneA (s : Row) (code : PCo) (mk n : Nat) (w : Int32) : Int32 := if 0 ≤ w ∧ w ≤ 1 then (if w = 0 then bitsI (beS (plnR s code mk n (nN (s 35)))) 6 else sumI (fun p => plnR s code mk n (nN (s 35)) (13 + p)) n) else -1
theorem InvL.mn {s : Row} {n Y M Y' M' : Nat} (h : InvL s n Y M) (hY : Y ≤ Y') (hM : M ≤ M') : InvL s n Y' M' := by
  obtain ⟨h1, h2, ⟨y, hy, ey⟩, h4, h5, h6, h7⟩ := h
  exact ⟨h1, h2, ⟨y, by omega, ey⟩, h4, h5, fun p hp => by obtain ⟨w, hw, ew⟩ := h6 p hp; exact ⟨w, by omega, ew⟩, h7⟩
theorem InvL.awu {s : Row} {n Y M p : Nat} (h : InvL s n Y M) (hp : p < n) {v : Int32} (hv : v = 0 ∨ v = 1) : InvL (upd s (7 + p) v) n Y M := by
  obtain ⟨h1, h2, h3, h4, h5, h6, h7⟩ := h
  refine ⟨by rw [un (by omega)]; exact h1, h2, by rw [un (by omega)]; exact h3, fun q hq => ⟨by rw [un (by omega)]; exact (h4 q hq).1, ?_⟩, fun q a hq => ⟨by rw [un (by omega)]; exact (h5 q a hq).1, by rw [un (by omega)]; exact (h5 q a hq).2.1, by rw [un (by omega)]; exact (h5 q a hq).2.2.1, fun j hj => by rw [un (by omega)]; exact (h5 q a hq).2.2.2 j hj⟩, fun q hq => by rw [un (by omega)]; exact h6 q hq, fun q hq => by rw [un (by omega), un (by omega)]; exact h7 q hq⟩
  by_cases e : q = p
  · subst e; rw [us]; exact hv
  · rw [un (by omega)]; exact (h4 q hq).2
theorem InvL.pln {s : Row} {n Y M i : Nat} (h : InvL s n Y M) (hW : InvW s n) {code : PCo} {mk : Nat} (hY : Y + 8 < 2 ^ 30) (hM : M + 8 < 2 ^ 30) : i ≤ nN (s 35) → InvL (plnR s code mk n i) n (Y + i) (M + i) := by
  obtain ⟨k, hk, ek, hr⟩ := hW
  rw [ek, nN_nI (by omega)]
  induction i with
  | zero => intro _; exact h
  | succ i ih =>
    intro hi
    have i1 := ih (by omega)
    obtain ⟨w, hw, ew, h12, h3⟩ := hr i (by omega)
    rw [plnR_s, ew]
    unfold plnS
    rcases (show w = 0 ∨ w = 1 ∨ w = 2 ∨ w = 3 by omega) with rfl | rfl | rfl | rfl
    · rw [if_pos (show nI 0 = 0 from rfl)]; exact i1.evo 1 (by omega) (by omega)
    · obtain ⟨a, ha, ea⟩ := h12 (Or.inl rfl)
      rw [if_neg (show ¬ nI 1 = 0 by decide), if_neg (show ¬ nI 1 = 3 by decide), ea, nN_nI (by have := h.2.1; omega), if_pos (show nI 1 = 1 from rfl)]
      exact (i1.awu ha (Or.inr rfl)).mn (by omega) (by omega)
    · obtain ⟨a, ha, ea⟩ := h12 (Or.inr rfl)
      rw [if_neg (show ¬ nI 2 = 0 by decide), if_neg (show ¬ nI 2 = 3 by decide), ea, nN_nI (by have := h.2.1; omega), if_neg (show ¬ nI 2 = 1 by decide)]
      exact (i1.awu ha (Or.inl rfl)).mn (by omega) (by omega)
    · obtain ⟨x, hx, ex⟩ := h3 rfl
      rw [if_neg (show ¬ nI 3 = 0 by decide), if_pos (show nI 3 = 3 from rfl), ex, nN_nI (by omega)]
      exact (i1.up 0 (by omega)).mn (by omega) (by omega)
theorem sumI_congr {f g : Nat → Int32} {n : Nat} (h : ∀ p, p < n → f p = g p) : sumI f n = sumI g n := by
  induction n with
  | zero => rfl
  | succ n ih => simp only [sumI]; rw [ih (fun p hp => h p (by omega)), h n (by omega)]
set_option maxHeartbeats 4000000 in
set_option maxRecDepth 100000 in
theorem c_X8_done {E : Ev} {μ : Mem} {s : Row} {n mk : Nat} {code : PCo} (hI : Inv s n code mk) (hR1 : Rel μ 1 s code mk) {x : Int32} : AM E yX8_done cX8_done 5 (some .int) 6 [.ref 0, .int x] μ (fun r μ' => r = some (.int (doneA s code mk n x)) ∧ Same (fun q _ => 43 ≤ q ∧ q ≤ 64) μ μ') := by
  refine am_of (own := RX8) (L := [.ref 0, .int x, .null, .null, .null]) (by decide) rfl (Nat.le_of_ble_eq_true rfl) rfl (fun Γ hR => ?_)
  have hR0 := hR1
  obtain ⟨hIL, hIP, hIC, hIS, hIW, hIB, hIT⟩ := hI
  obtain ⟨hL, ⟨hcd, hmk⟩, hT, hC, hS, hW, hB, hnp⟩ := hR1
  have hn := hIL.1
  have h6 := hIL.2.1
  have h31 : μ 2 1 = s 31 := hL.2.1
  have hIW0 := hIW
  obtain ⟨k, hk, e35, hpw⟩ := hIW
  have hs2 : μ 18 2 = nI k := hW.2.1.trans e35
  have nk : nN (s 35) = k := by rw [e35]; exact nN_nI (by omega)
  by_cases hx : 0 ≤ x ∧ x ≤ 1
  · refine cw_iload_n (pc := 0) dX8_done_0 rfl rfl <|
      cw_if_lt_F (tgt := 9) (pc := 1) dX8_done_1 (by decide) (Int32.not_lt.mpr hx.1) <|
      cw_iload_n (pc := 4) dX8_done_4 rfl rfl <|
      cw_iconst (v := 1) (pc := 5) dX8_done_5 (by decide) <|
      cw_icmp_le_T (tgt := 11) (pc := 6) dX8_done_6 (by decide) hx.2 <|
      cw_aload_n (pc := 11) dX8_done_11 rfl rfl <|
      cw_getR (q := 0) (t := 43) (pc := 12) dX8_done_12 fX8_42 sh_0 (by decide) rfl <|
      cw_aload_n (pc := 15) dX8_done_15 rfl rfl <|
      cw_getR (q := 0) (t := 2) (pc := 16) dX8_done_16 fX8_25 sh_0 (by decide) rfl <|
      cw_invP (q := 43) (pc := 19) dX8_done_19 (c_copy hL) rfl vX8_202 sh_43 (by decide) rfl rfl rfl (by decide) <|
      ?_
    rintro _ m0 ⟨rfl, l0, s0⟩
    refine cw_iconst (v := 0) (pc := 22) dX8_done_22 (by decide) <|
      cw_istore_n (L' := [_, _, _, _, _]) (pc := 23) dX8_done_23 rfl (by decide) rfl rfl <|
      ?_
    refine cw_for (σ := Int32 × Value × Value) k (fun i a m => a.1 = nI i ∧ RelL m 43 (plnR s code mk n i) ∧ Same (fun q _ => 43 ≤ q ∧ q ≤ 57) μ m) (fun _ a => [.ref 0, .int x, .int a.1, a.2.1, a.2.2]) ?_ ?_ 0 (0, .null, .null) m0 (Nat.zero_le _) ⟨rfl, l0, s0.mo (fun q i h => by omega)⟩
    · rintro ⟨v, z1, z2⟩ m ⟨hv, l1, hS1⟩
      dsimp only at hv ⊢
      subst hv
      have hm18 : m 18 2 = nI k := (hS1 _ _ (by omega)).trans hs2
      have iv := hIL.pln hIW0 (code := code) (mk := mk) (i := k) (by decide) (by decide) (by omega)
      have hSf : Same (fun q _ => 43 ≤ q ∧ q ≤ 64) μ m := hS1.mo (fun q i h => by omega)
      by_cases h0 : x = 0
      · refine cw_iload_n (pc := 24) dX8_done_24 rfl rfl <|
          cw_aload_n (pc := 25) dX8_done_25 rfl rfl <|
          cw_getR (q := 0) (t := 1) (pc := 26) dX8_done_26 fX8_12 sh_0 (by decide) rfl <|
          cw_getR (q := 1) (t := 18) (pc := 29) dX8_done_29 fX8_252 sh_1 (by decide) rfl <|
          cw_getI (q := 18) (pc := 32) dX8_done_32 fX8_159 sh_18 (by decide) rfl <|
          cw_icmp_ge_T (tgt := 134) (pc := 35) dX8_done_35 (by decide) (by rw [hm18]; exact nI_le (Nat.le_refl _) (by omega)) <|
          cw_iload_n (pc := 134) dX8_done_134 rfl rfl <|
          cw_if_ne_F (tgt := 148) (pc := 135) dX8_done_135 (by decide) h0 <|
          cw_aload_n (pc := 138) dX8_done_138 rfl rfl <|
          cw_getR (q := 0) (t := 43) (pc := 139) dX8_done_139 fX8_42 sh_0 (by decide) rfl <|
          cw_getI (q := 43) (pc := 142) dX8_done_142 fX8_136 sh_43 (by decide) rfl <|
          ?_
        rw [l1.2.2.2.1]
        refine cw_goto (tgt := 155) (pc := 145) dX8_done_145 (by decide) <|
          cw_iret (pc := 155) dX8_done_155 hR <|
          ⟨by rw [doneA, if_pos hx, if_pos h0, nk], hSf⟩
      · refine cw_iload_n (pc := 24) dX8_done_24 rfl rfl <|
          cw_aload_n (pc := 25) dX8_done_25 rfl rfl <|
          cw_getR (q := 0) (t := 1) (pc := 26) dX8_done_26 fX8_12 sh_0 (by decide) rfl <|
          cw_getR (q := 1) (t := 18) (pc := 29) dX8_done_29 fX8_252 sh_1 (by decide) rfl <|
          cw_getI (q := 18) (pc := 32) dX8_done_32 fX8_159 sh_18 (by decide) rfl <|
          cw_icmp_ge_T (tgt := 134) (pc := 35) dX8_done_35 (by decide) (by rw [hm18]; exact nI_le (Nat.le_refl _) (by omega)) <|
          cw_iload_n (pc := 134) dX8_done_134 rfl rfl <|
          cw_if_ne_T (tgt := 148) (pc := 135) dX8_done_135 (by decide) h0 <|
          cw_aload_n (pc := 148) dX8_done_148 rfl rfl <|
          cw_getR (q := 0) (t := 43) (pc := 149) dX8_done_149 fX8_42 sh_0 (by decide) rfl <|
          cw_invI (q := 43) (pc := 152) dX8_done_152 (c_X2_winsOfAll land_43 (l1.2.1.trans iv.1) h6) rfl vX8_255 sh_43 (by decide) rfl rfl rfl (by decide) <|
          cw_iret (pc := 155) dX8_done_155 hR <|
          ⟨by rw [doneA, if_pos hx, if_neg h0, nk, sumI_congr (fun p hp => (l1.2.2.2.2.2.1 p (by omega)).2.2.2)], hSf⟩
    · rintro i ⟨v, z1, z2⟩ m hi ⟨hv, l1, hS1⟩ ih
      dsimp only at hv ⊢
      subst hv
      have hm18 : m 18 2 = nI k := (hS1 _ _ (by omega)).trans hs2
      have iv := hIL.pln hIW0 (code := code) (mk := mk) (i := i) (by decide) (by decide) (by omega)
      obtain ⟨w, hw, ew, h12, h3⟩ := hpw i hi
      have r0 : m 19 (i * 2 + 0) = nI w := (hS1 _ _ (by omega)).trans ((hW.2.2 i (by omega)).1.trans ew)
      have r1 : m 19 (i * 2 + 1) = s (114 + i) := (hS1 _ _ (by omega)).trans (hW.2.2 i (by omega)).2
      have hcm := hcd.mo (μ' := m) (funext fun i => hS1 _ _ (by omega)) (funext fun i => hS1 _ _ (by omega)) (funext fun i => hS1 _ _ (by omega))
      have nxt : ∀ (m' : Mem) (z1 z2 : Value), RelL m' 43 (plnS code mk n (plnR s code mk n i) (s (106 + i)) (s (114 + i))) → Same (fun q _ => 43 ≤ q ∧ q ≤ 57) m m' → CW E Γ cX8_done 5 RX8 6 24 [.ref 0, .int x, .int (nI i + 1), z1, z2] [] m' := fun m' z1 z2 h1 h2 => ih (_, z1, z2) m' ⟨nI_1 i, by rw [plnR_s]; exact h1, hS1.tr h2⟩
      clear ih
      rw [ew] at nxt
      rcases (show w = 0 ∨ w = 1 ∨ w = 2 ∨ w = 3 by omega) with rfl | rfl | rfl | rfl
      · refine cw_iload_n (pc := 24) dX8_done_24 rfl rfl <|
          cw_aload_n (pc := 25) dX8_done_25 rfl rfl <|
          cw_getR (q := 0) (t := 1) (pc := 26) dX8_done_26 fX8_12 sh_0 (by decide) rfl <|
          cw_getR (q := 1) (t := 18) (pc := 29) dX8_done_29 fX8_252 sh_1 (by decide) rfl <|
          cw_getI (q := 18) (pc := 32) dX8_done_32 fX8_159 sh_18 (by decide) rfl <|
          cw_icmp_ge_F (tgt := 134) (pc := 35) dX8_done_35 (by decide) (by rw [hm18]; exact nI_ge hi (by omega)) <|
          cw_aload_n (pc := 38) dX8_done_38 rfl rfl <|
          cw_getR (q := 0) (t := 1) (pc := 39) dX8_done_39 fX8_12 sh_0 (by decide) rfl <|
          cw_getR (q := 1) (t := 18) (pc := 42) dX8_done_42 fX8_252 sh_1 (by decide) rfl <|
          cw_iload_n (pc := 45) dX8_done_45 rfl rfl <|
          cw_iconst (v := 0) (pc := 46) dX8_done_46 (by decide) <|
          cw_invI (q := 18) (pc := 47) dX8_done_47 (c_X6_at row_18 (w := 2) (sz := k) (row := i) (col := 0) ((hS1 _ _ (by omega)).trans hW.1) (by decide) hm18 (by omega) (by omega) hi (by decide)) rfl vX8_206 sh_18 (by decide) rfl rfl rfl (by decide) <|
          ?_
        rw [r0]
        refine cw_istore_n (L' := [_, _, _, _, _]) (pc := 50) dX8_done_50 rfl (by decide) rfl rfl <|
          cw_aload_n (pc := 51) dX8_done_51 rfl rfl <|
          cw_getR (q := 0) (t := 1) (pc := 52) dX8_done_52 fX8_12 sh_0 (by decide) rfl <|
          cw_getR (q := 1) (t := 18) (pc := 55) dX8_done_55 fX8_252 sh_1 (by decide) rfl <|
          cw_iload_n (pc := 58) dX8_done_58 rfl rfl <|
          cw_iconst (v := 1) (pc := 59) dX8_done_59 (by decide) <|
          cw_invI (q := 18) (pc := 60) dX8_done_60 (c_X6_at row_18 (w := 2) (sz := k) (row := i) (col := 1) ((hS1 _ _ (by omega)).trans hW.1) (by decide) hm18 (by omega) (by omega) hi (by decide)) rfl vX8_206 sh_18 (by decide) rfl rfl rfl (by decide) <|
          ?_
        rw [r1]
        refine cw_istore (L' := [_, _, _, _, _]) (pc := 63) dX8_done_63 (by decide) rfl rfl <|
          cw_iload_n (pc := 65) dX8_done_65 rfl rfl <|
          cw_if_ne_F (tgt := 82) (pc := 66) dX8_done_66 (by decide) rfl <|
          cw_aload_n (pc := 69) dX8_done_69 rfl rfl <|
          cw_getR (q := 0) (t := 54) (pc := 70) dX8_done_70 fX8_45 sh_0 (by decide) rfl <|
          cw_iconst (v := 1) (pc := 73) dX8_done_73 (by decide) <|
          cw_ldc (pc := 74) dX8_done_74 kX8_205 <|
          cw_invP (q := 54) (pc := 76) dX8_done_76 (c_ifsYears (k := 1) hcm hIP.2.2.2 l1 iv (by omega) (by omega) (by decide) ((hS1 _ _ (by omega)).trans hmk)) rfl vX8_174 sh_54 (by decide) rfl rfl rfl (by decide) <|
          ?_
        rintro _ m1 ⟨rfl, l2, s2⟩
        refine cw_goto (tgt := 128) (pc := 79) dX8_done_79 (by decide) <|
          cw_iincL (L' := [_, _, _, _, _]) (c := 1) (pc := 128) dX8_done_128 rfl (by decide) (by decide) rfl rfl <|
          cw_goto (tgt := 24) (pc := 131) dX8_done_131 (by decide) <|
          ?_
        exact nxt _ _ _ (by unfold plnS; rw [if_pos (show nI 0 = 0 from rfl)]; exact l2) s2
      · obtain ⟨a, ha, ea⟩ := h12 (by decide)
        rw [ea] at nxt r1
        refine cw_iload_n (pc := 24) dX8_done_24 rfl rfl <|
          cw_aload_n (pc := 25) dX8_done_25 rfl rfl <|
          cw_getR (q := 0) (t := 1) (pc := 26) dX8_done_26 fX8_12 sh_0 (by decide) rfl <|
          cw_getR (q := 1) (t := 18) (pc := 29) dX8_done_29 fX8_252 sh_1 (by decide) rfl <|
          cw_getI (q := 18) (pc := 32) dX8_done_32 fX8_159 sh_18 (by decide) rfl <|
          cw_icmp_ge_F (tgt := 134) (pc := 35) dX8_done_35 (by decide) (by rw [hm18]; exact nI_ge hi (by omega)) <|
          cw_aload_n (pc := 38) dX8_done_38 rfl rfl <|
          cw_getR (q := 0) (t := 1) (pc := 39) dX8_done_39 fX8_12 sh_0 (by decide) rfl <|
          cw_getR (q := 1) (t := 18) (pc := 42) dX8_done_42 fX8_252 sh_1 (by decide) rfl <|
          cw_iload_n (pc := 45) dX8_done_45 rfl rfl <|
          cw_iconst (v := 0) (pc := 46) dX8_done_46 (by decide) <|
          cw_invI (q := 18) (pc := 47) dX8_done_47 (c_X6_at row_18 (w := 2) (sz := k) (row := i) (col := 0) ((hS1 _ _ (by omega)).trans hW.1) (by decide) hm18 (by omega) (by omega) hi (by decide)) rfl vX8_206 sh_18 (by decide) rfl rfl rfl (by decide) <|
          ?_
        rw [r0]
        refine cw_istore_n (L' := [_, _, _, _, _]) (pc := 50) dX8_done_50 rfl (by decide) rfl rfl <|
          cw_aload_n (pc := 51) dX8_done_51 rfl rfl <|
          cw_getR (q := 0) (t := 1) (pc := 52) dX8_done_52 fX8_12 sh_0 (by decide) rfl <|
          cw_getR (q := 1) (t := 18) (pc := 55) dX8_done_55 fX8_252 sh_1 (by decide) rfl <|
          cw_iload_n (pc := 58) dX8_done_58 rfl rfl <|
          cw_iconst (v := 1) (pc := 59) dX8_done_59 (by decide) <|
          cw_invI (q := 18) (pc := 60) dX8_done_60 (c_X6_at row_18 (w := 2) (sz := k) (row := i) (col := 1) ((hS1 _ _ (by omega)).trans hW.1) (by decide) hm18 (by omega) (by omega) hi (by decide)) rfl vX8_206 sh_18 (by decide) rfl rfl rfl (by decide) <|
          ?_
        rw [r1]
        refine cw_istore (L' := [_, _, _, _, _]) (pc := 63) dX8_done_63 (by decide) rfl rfl <|
          cw_iload_n (pc := 65) dX8_done_65 rfl rfl <|
          cw_if_ne_T (tgt := 82) (pc := 66) dX8_done_66 (by decide) (by decide) <|
          cw_iload_n (pc := 82) dX8_done_82 rfl rfl <|
          cw_iconst (v := 3) (pc := 83) dX8_done_83 (by decide) <|
          cw_icmp_ne_T (tgt := 109) (pc := 84) dX8_done_84 (by decide) (by decide) <|
          cw_aload_n (pc := 109) dX8_done_109 rfl rfl <|
          cw_getR (q := 0) (t := 43) (pc := 110) dX8_done_110 fX8_42 sh_0 (by decide) rfl <|
          cw_iload (pc := 113) dX8_done_113 rfl <|
          cw_iload_n (pc := 115) dX8_done_115 rfl rfl <|
          cw_iconst (v := 1) (pc := 116) dX8_done_116 (by decide) <|
          cw_icmp_ne_F (tgt := 124) (pc := 117) dX8_done_117 (by decide) rfl <|
          cw_iconst (v := 1) (pc := 120) dX8_done_120 (by decide) <|
          cw_goto (tgt := 125) (pc := 121) dX8_done_121 (by decide) <|
          cw_invV (q := 43) (pc := 125) dX8_done_125 (c_X2_goesAway land_43 (l1.2.1.trans iv.1) h6 ha) rfl vX8_146 sh_43 (by decide) rfl rfl rfl (by decide) <|
          cw_iincL (L' := [_, _, _, _, _]) (c := 1) (pc := 128) dX8_done_128 rfl (by decide) (by decide) rfl rfl <|
          cw_goto (tgt := 24) (pc := 131) dX8_done_131 (by decide) <|
          ?_
        exact nxt _ _ _ (by unfold plnS; rw [if_neg (show ¬ nI 1 = 0 by decide), if_neg (show ¬ nI 1 = 3 by decide), nN_nI (by omega), if_pos (show nI 1 = 1 from rfl)]; exact l1.aw (by omega) 1) (Same.rf.s1 (by omega))
      · obtain ⟨a, ha, ea⟩ := h12 (by decide)
        rw [ea] at nxt r1
        refine cw_iload_n (pc := 24) dX8_done_24 rfl rfl <|
          cw_aload_n (pc := 25) dX8_done_25 rfl rfl <|
          cw_getR (q := 0) (t := 1) (pc := 26) dX8_done_26 fX8_12 sh_0 (by decide) rfl <|
          cw_getR (q := 1) (t := 18) (pc := 29) dX8_done_29 fX8_252 sh_1 (by decide) rfl <|
          cw_getI (q := 18) (pc := 32) dX8_done_32 fX8_159 sh_18 (by decide) rfl <|
          cw_icmp_ge_F (tgt := 134) (pc := 35) dX8_done_35 (by decide) (by rw [hm18]; exact nI_ge hi (by omega)) <|
          cw_aload_n (pc := 38) dX8_done_38 rfl rfl <|
          cw_getR (q := 0) (t := 1) (pc := 39) dX8_done_39 fX8_12 sh_0 (by decide) rfl <|
          cw_getR (q := 1) (t := 18) (pc := 42) dX8_done_42 fX8_252 sh_1 (by decide) rfl <|
          cw_iload_n (pc := 45) dX8_done_45 rfl rfl <|
          cw_iconst (v := 0) (pc := 46) dX8_done_46 (by decide) <|
          cw_invI (q := 18) (pc := 47) dX8_done_47 (c_X6_at row_18 (w := 2) (sz := k) (row := i) (col := 0) ((hS1 _ _ (by omega)).trans hW.1) (by decide) hm18 (by omega) (by omega) hi (by decide)) rfl vX8_206 sh_18 (by decide) rfl rfl rfl (by decide) <|
          ?_
        rw [r0]
        refine cw_istore_n (L' := [_, _, _, _, _]) (pc := 50) dX8_done_50 rfl (by decide) rfl rfl <|
          cw_aload_n (pc := 51) dX8_done_51 rfl rfl <|
          cw_getR (q := 0) (t := 1) (pc := 52) dX8_done_52 fX8_12 sh_0 (by decide) rfl <|
          cw_getR (q := 1) (t := 18) (pc := 55) dX8_done_55 fX8_252 sh_1 (by decide) rfl <|
          cw_iload_n (pc := 58) dX8_done_58 rfl rfl <|
          cw_iconst (v := 1) (pc := 59) dX8_done_59 (by decide) <|
          cw_invI (q := 18) (pc := 60) dX8_done_60 (c_X6_at row_18 (w := 2) (sz := k) (row := i) (col := 1) ((hS1 _ _ (by omega)).trans hW.1) (by decide) hm18 (by omega) (by omega) hi (by decide)) rfl vX8_206 sh_18 (by decide) rfl rfl rfl (by decide) <|
          ?_
        rw [r1]
        refine cw_istore (L' := [_, _, _, _, _]) (pc := 63) dX8_done_63 (by decide) rfl rfl <|
          cw_iload_n (pc := 65) dX8_done_65 rfl rfl <|
          cw_if_ne_T (tgt := 82) (pc := 66) dX8_done_66 (by decide) (by decide) <|
          cw_iload_n (pc := 82) dX8_done_82 rfl rfl <|
          cw_iconst (v := 3) (pc := 83) dX8_done_83 (by decide) <|
          cw_icmp_ne_T (tgt := 109) (pc := 84) dX8_done_84 (by decide) (by decide) <|
          cw_aload_n (pc := 109) dX8_done_109 rfl rfl <|
          cw_getR (q := 0) (t := 43) (pc := 110) dX8_done_110 fX8_42 sh_0 (by decide) rfl <|
          cw_iload (pc := 113) dX8_done_113 rfl <|
          cw_iload_n (pc := 115) dX8_done_115 rfl rfl <|
          cw_iconst (v := 1) (pc := 116) dX8_done_116 (by decide) <|
          cw_icmp_ne_T (tgt := 124) (pc := 117) dX8_done_117 (by decide) (by decide) <|
          cw_iconst (v := 0) (pc := 124) dX8_done_124 (by decide) <|
          cw_invV (q := 43) (pc := 125) dX8_done_125 (c_X2_goesAway land_43 (l1.2.1.trans iv.1) h6 ha) rfl vX8_146 sh_43 (by decide) rfl rfl rfl (by decide) <|
          cw_iincL (L' := [_, _, _, _, _]) (c := 1) (pc := 128) dX8_done_128 rfl (by decide) (by decide) rfl rfl <|
          cw_goto (tgt := 24) (pc := 131) dX8_done_131 (by decide) <|
          ?_
        exact nxt _ _ _ (by unfold plnS; rw [if_neg (show ¬ nI 2 = 0 by decide), if_neg (show ¬ nI 2 = 3 by decide), nN_nI (by omega), if_neg (show ¬ nI 2 = 1 by decide)]; exact l1.aw (by omega) 0) (Same.rf.s1 (by omega))
      · obtain ⟨a, ha, ea⟩ := h3 rfl
        rw [ea] at nxt r1
        refine cw_iload_n (pc := 24) dX8_done_24 rfl rfl <|
          cw_aload_n (pc := 25) dX8_done_25 rfl rfl <|
          cw_getR (q := 0) (t := 1) (pc := 26) dX8_done_26 fX8_12 sh_0 (by decide) rfl <|
          cw_getR (q := 1) (t := 18) (pc := 29) dX8_done_29 fX8_252 sh_1 (by decide) rfl <|
          cw_getI (q := 18) (pc := 32) dX8_done_32 fX8_159 sh_18 (by decide) rfl <|
          cw_icmp_ge_F (tgt := 134) (pc := 35) dX8_done_35 (by decide) (by rw [hm18]; exact nI_ge hi (by omega)) <|
          cw_aload_n (pc := 38) dX8_done_38 rfl rfl <|
          cw_getR (q := 0) (t := 1) (pc := 39) dX8_done_39 fX8_12 sh_0 (by decide) rfl <|
          cw_getR (q := 1) (t := 18) (pc := 42) dX8_done_42 fX8_252 sh_1 (by decide) rfl <|
          cw_iload_n (pc := 45) dX8_done_45 rfl rfl <|
          cw_iconst (v := 0) (pc := 46) dX8_done_46 (by decide) <|
          cw_invI (q := 18) (pc := 47) dX8_done_47 (c_X6_at row_18 (w := 2) (sz := k) (row := i) (col := 0) ((hS1 _ _ (by omega)).trans hW.1) (by decide) hm18 (by omega) (by omega) hi (by decide)) rfl vX8_206 sh_18 (by decide) rfl rfl rfl (by decide) <|
          ?_
        rw [r0]
        refine cw_istore_n (L' := [_, _, _, _, _]) (pc := 50) dX8_done_50 rfl (by decide) rfl rfl <|
          cw_aload_n (pc := 51) dX8_done_51 rfl rfl <|
          cw_getR (q := 0) (t := 1) (pc := 52) dX8_done_52 fX8_12 sh_0 (by decide) rfl <|
          cw_getR (q := 1) (t := 18) (pc := 55) dX8_done_55 fX8_252 sh_1 (by decide) rfl <|
          cw_iload_n (pc := 58) dX8_done_58 rfl rfl <|
          cw_iconst (v := 1) (pc := 59) dX8_done_59 (by decide) <|
          cw_invI (q := 18) (pc := 60) dX8_done_60 (c_X6_at row_18 (w := 2) (sz := k) (row := i) (col := 1) ((hS1 _ _ (by omega)).trans hW.1) (by decide) hm18 (by omega) (by omega) hi (by decide)) rfl vX8_206 sh_18 (by decide) rfl rfl rfl (by decide) <|
          ?_
        rw [r1]
        refine cw_istore (L' := [_, _, _, _, _]) (pc := 63) dX8_done_63 (by decide) rfl rfl <|
          cw_iload_n (pc := 65) dX8_done_65 rfl rfl <|
          cw_if_ne_T (tgt := 82) (pc := 66) dX8_done_66 (by decide) (by decide) <|
          cw_iload_n (pc := 82) dX8_done_82 rfl rfl <|
          cw_iconst (v := 3) (pc := 83) dX8_done_83 (by decide) <|
          cw_icmp_ne_F (tgt := 109) (pc := 84) dX8_done_84 (by decide) rfl <|
          cw_iload (pc := 87) dX8_done_87 rfl <|
          cw_insI (pc := 89) dX8_done_89 c_X8_isStep vX8_150 rfl rfl rfl (by decide) <|
          cw_if_eq_F (tgt := 109) (pc := 92) dX8_done_92 (by decide) (bI_n0.mpr (ix_in (n := 12) ha (by decide))) <|
          cw_aload_n (pc := 95) dX8_done_95 rfl rfl <|
          cw_getR (q := 0) (t := 43) (pc := 96) dX8_done_96 fX8_42 sh_0 (by decide) rfl <|
          cw_getR (q := 43) (t := 44) (pc := 99) dX8_done_99 fX8_153 sh_43 (by decide) rfl <|
          cw_iload (pc := 102) dX8_done_102 rfl <|
          cw_iconst (v := 0) (pc := 104) dX8_done_104 (by decide) <|
          cw_ias (q := 44) (jn := a) (pc := 105) dX8_done_105 sh_44 rfl (by omega) (by decide) <|
          cw_goto (tgt := 128) (pc := 106) dX8_done_106 (by decide) <|
          cw_iincL (L' := [_, _, _, _, _]) (c := 1) (pc := 128) dX8_done_128 rfl (by decide) (by decide) rfl rfl <|
          cw_goto (tgt := 24) (pc := 131) dX8_done_131 (by decide) <|
          ?_
        exact nxt _ _ _ (by unfold plnS; rw [if_neg (show ¬ nI 3 = 0 by decide), if_pos (show nI 3 = 3 from rfl), nN_nI (by omega)]; exact l1.fd ha 0) (Same.rf.s1 (by omega))
  · refine cw_iload_n (pc := 0) dX8_done_0 rfl rfl <|
      cw_if_lt (tgt := 9) (pc := 1) dX8_done_1 (by decide) (fun c1 => ?_) (fun c1 => ?_)
    · refine cw_iconst (v := -1) (pc := 9) dX8_done_9 (by decide) <|
        cw_iret (pc := 10) dX8_done_10 hR <|
        ⟨by rw [doneA, if_neg hx], Same.rf⟩
    · refine cw_iload_n (pc := 4) dX8_done_4 rfl rfl <|
        cw_iconst (v := 1) (pc := 5) dX8_done_5 (by decide) <|
        cw_icmp_le (tgt := 11) (pc := 6) dX8_done_6 (by decide) (fun c6 => ?_) (fun c6 => ?_)
      · exact absurd ⟨Int32.not_lt.mp c1, c6⟩ hx
      · refine cw_iconst (v := -1) (pc := 9) dX8_done_9 (by decide) <|
          cw_iret (pc := 10) dX8_done_10 hR <|
          ⟨by rw [doneA, if_neg hx], Same.rf⟩
