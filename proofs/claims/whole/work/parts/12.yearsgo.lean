def FY (P land : Nat) : Nat → Nat → Prop := fun q i => PS P q i ∨ (q = land ∧ (i = 0 ∨ i = 3)) ∨ q = land + 5
/-- the best one of a YEAR; who has as much as mk in a YEAR -/
def bestY (μ : Mem) (land : Nat) (code : PCo) (n y j : Nat) : Int32 := (bestF (naB μ land) (fun p => scY μ land code (nI (y + j)) p) (-999999) n).1
def belY (μ : Mem) (land : Nat) (code : PCo) (n y : Nat) (mk : Int32) (j : Nat) : Int32 := bitsI (fun p => naB μ land p && decide (mk ≤ scY μ land code (nI (y + j)) p)) n
theorem bestY_10 {μ : Mem} {land n y j : Nat} {code : PCo} (h : y + j < 2 ^ 30) : bestY μ land code n y (j + 10) = bestY μ land code n y j := by
  unfold bestY
  have e : ∀ p, scY μ land code (nI (y + (j + 10))) p = scY μ land code (nI (y + j)) p := fun p => by unfold scY; rw [show y + (j + 10) = y + j + 10 by omega]; exact scV_10 h
  exact congrArg Prod.fst (bestF_congr (fun _ _ => rfl) (fun p _ _ => e p))
theorem belY_mod {μ : Mem} {land n y j : Nat} {code : PCo} {mk : Int32} (h : y + j < 2 ^ 30) : belY μ land code n y mk (j % 10) = belY μ land code n y mk j := by
  unfold belY
  refine bitsI_congr (fun p _ => ?_)
  have : scY μ land code (nI (y + j)) p = scY μ land code (nI (y + j % 10)) p := by
    unfold scY
    rw [show y + j = y + j % 10 + 10 * (j / 10) by omega]
    exact scV_mod _ _ (by omega)
  rw [this]
theorem nI_min {a b : Nat} (ha : a < 2 ^ 31) (hb : b < 2 ^ 31) : (if nI b < nI a then nI b else nI a) = nI (min a b) := by
  by_cases h : b < a
  · rw [if_pos (nI_lt h ha), Nat.min_eq_right (by omega)]
  · rw [if_neg (nI_nlt (by omega) hb), Nat.min_eq_left (by omega)]
set_option maxHeartbeats 4000000 in
set_option maxRecDepth 100000 in
theorem c_X4_yearsGo {E : Ev} {P land par : Nat} (hP : PloAt P land par) (hk : LandAt land) (hq : ParAt par) {μ : Mem} {code : PCo} (hc : CodeAt μ par code) (hw : WFc 0 code) {n : Nat} (hn : MenAt μ land n) {nn M y : Nat} {w : Nat → Nat} (hy : μ land 0 = nI y) (hyb : y ≤ 20000) (hnn : nn ≤ 60) (hM : M ≤ 1000000) (hwn : ∀ p, p < 6 → μ (land + 5) p = nI (w p) ∧ w p ≤ M) (hdis : par + 2 < land ∨ land + 6 < par) : AM E yX4_yearsGo cX4_yearsGo 7 none 5 [.ref P, .int (nI nn), .int (nI M)] μ (fun r μ' => r = none ∧ μ' land 0 = nI (y + nn) ∧ (∀ p, p < 6 → μ' (land + 5) p = nI (min M (w p + cntN (bestY μ land code n y) p nn))) ∧ (μ' land 3 = if nn = 0 then μ land 3 else belY μ land code n y (μ par 3) (nn - 1)) ∧ Same (FY P land) μ μ') := by
  refine am_of (own := RX4) (L := [.ref P, .int (nI nn), .int (nI M), .null, .null, .null, .null]) (by decide) rfl (Nat.le_of_ble_eq_true rfl) rfl (fun Γ hR => ?_)
  have hn6 := hn.2.1
  have b1 := hP.2.2.2.2.1
  have b2 := hP.2.2.2.2.2
  refine cw_aload_n (pc := 0) dX4_yearsGo_0 rfl rfl <|
    cw_getR (q := P) (t := land) (pc := 1) dX4_yearsGo_1 fX4_23 hP.1 (by decide) rfl <|
    cw_getI (q := land) (pc := 4) dX4_yearsGo_4 fX4_49 hk.1 (by decide) rfl <|
    cw_istore_n (L' := [_, _, _, _, _, _, _]) (pc := 7) dX4_yearsGo_7 rfl (by decide) rfl rfl <|
    cw_iconst (v := 0) (pc := 8) dX4_yearsGo_8 (by decide) <|
    cw_istore (L' := [_, _, _, _, _, _, _]) (pc := 9) dX4_yearsGo_9 (by decide) rfl rfl <|
    ?_
  rw [hy]
  refine cw_for (σ := Int32 × Value × Value) (min nn 10) (fun i a m => a.1 = nI i ∧ Same (FY P land) μ m ∧ (∀ p, p < 6 → m (land + 5) p = nI (min M (w p + totN (bestY μ land code n y) nn p i))) ∧ m land 3 = if (nn - 1) % 10 < i then belY μ land code n y (μ par 3) ((nn - 1) % 10) else μ land 3) (fun _ a => [.ref P, .int (nI nn), .int (nI M), .int (nI y), .int a.1, a.2.1, a.2.2]) ?_ ?_ 0 (0, .null, .null) μ (Nat.zero_le _) ⟨rfl, Same.rf, fun p hp => by rw [(hwn p hp).1]; simp only [totN]; rw [Nat.add_zero, Nat.min_eq_right (hwn p hp).2], by simp⟩
  · rintro ⟨x, z5, z6⟩ m ⟨hx, hS, hW, hB⟩
    dsimp only at hx ⊢
    subst hx
    have fin : ∀ (z4 z5 z6 : Value), CW E Γ cX4_yearsGo 7 RX4 5 133 [.ref P, .int (nI nn), .int (nI M), .int (nI y), z4, z5, z6] [] m := by
      intro z4 z5 z6
      refine cw_aload_n (pc := 133) dX4_yearsGo_133 rfl rfl <|
        cw_getR (q := P) (t := land) (pc := 134) dX4_yearsGo_134 fX4_23 hP.1 (by decide) rfl <|
        cw_iload_n (pc := 137) dX4_yearsGo_137 rfl rfl <|
        cw_iload_n (pc := 138) dX4_yearsGo_138 rfl rfl <|
        cw_iadd (pc := 139) dX4_yearsGo_139 <|
        cw_putI (q := land) (pc := 140) dX4_yearsGo_140 pX4_49 hk.1 (by decide) rfl <|
        cw_vret (pc := 143) dX4_yearsGo_143 hR <|
        ⟨rfl, by rw [st_eq, nI_add], fun p hp => by
  rw [st_at, if_neg (by omega), hW p hp]
  congr 2
  congr 1
  rcases Nat.le_total nn 10 with h | h
  · rw [Nat.min_eq_left h, ← tot_min _ nn p 10 h]; exact tot_cnt (N := nn) (fun j hj => bestY_10 (by omega)) nn (Nat.le_refl _)
  · rw [Nat.min_eq_right h]; exact tot_cnt (N := nn) (fun j hj => bestY_10 (by omega)) nn (Nat.le_refl _), by
  rw [st_at, if_neg (by omega), hB]
  by_cases h0 : nn = 0
  · subst h0; rfl
  · rw [if_neg h0, if_pos (by omega), belY_mod (by omega)], Same.s1 hS (Or.inr (Or.inl ⟨rfl, Or.inl rfl⟩))⟩
    by_cases h : nn ≤ 10
    · refine cw_iload (pc := 11) dX4_yearsGo_11 rfl <|
        cw_iload_n (pc := 13) dX4_yearsGo_13 rfl rfl <|
        cw_icmp_ge_T (tgt := 133) (pc := 14) dX4_yearsGo_14 (by decide) (by rw [Nat.min_eq_left h]; exact nI_le (Nat.le_refl _) (by omega)) <|
        ?_
      exact fin _ _ _
    · refine cw_iload (pc := 11) dX4_yearsGo_11 rfl <|
        cw_iload_n (pc := 13) dX4_yearsGo_13 rfl rfl <|
        cw_icmp_ge_F (tgt := 133) (pc := 14) dX4_yearsGo_14 (by decide) (nI_ge (by omega) (by omega)) <|
        cw_iload (pc := 17) dX4_yearsGo_17 rfl <|
        cw_bipush (v := 10) (pc := 19) dX4_yearsGo_19 (by decide) <|
        cw_icmp_ge_T (tgt := 133) (pc := 21) dX4_yearsGo_21 (by decide) (by rw [Nat.min_eq_right (by omega)]; exact nI_le (a := 10) (Nat.le_refl _) (by decide)) <|
        ?_
      exact fin _ _ _
  · rintro i ⟨x, z5, z6⟩ m hi ⟨hx, hS, hW, hB⟩ ih
    dsimp only at hx ⊢
    subst hx
    have hi1 : i < nn := by omega
    have hi2 : i < 10 := by omega
    have ht : (nI nn - nI i + 10 - 1) / 10 = nI ((nn - i + 9) / 10) := by rw [pk_sub (by omega), show nI (nn - i) + 10 = nI (nn - i + 10) from nI_add _ 10, show nI (nn - i + 10) - 1 = nI (nn - i + 10 - 1) from pk_sub (b := 1) (by omega), show nn - i + 10 - 1 = nn - i + 9 by omega]; exact pk_div (d := 10) (by omega) (by decide) (by decide)
    have hr : nI nn - 1 - (nI nn - 1) / 10 * 10 = nI ((nn - 1) % 10) := by rw [show nI nn - 1 = nI (nn - 1) from pk_sub (b := 1) (by omega)]; exact pk_rem (d := 10) (by omega) (by decide) (by decide)
    refine cw_iload (pc := 11) dX4_yearsGo_11 rfl <|
      cw_iload_n (pc := 13) dX4_yearsGo_13 rfl rfl <|
      cw_icmp_ge_F (tgt := 133) (pc := 14) dX4_yearsGo_14 (by decide) (nI_ge hi1 (by omega)) <|
      cw_iload (pc := 17) dX4_yearsGo_17 rfl <|
      cw_bipush (v := 10) (pc := 19) dX4_yearsGo_19 (by decide) <|
      cw_icmp_ge_F (tgt := 133) (pc := 21) dX4_yearsGo_21 (by decide) (nI_ge (b := 10) hi2 (by decide)) <|
      cw_aload_n (pc := 24) dX4_yearsGo_24 rfl rfl <|
      cw_getR (q := P) (t := land) (pc := 25) dX4_yearsGo_25 fX4_23 hP.1 (by decide) rfl <|
      cw_iload_n (pc := 28) dX4_yearsGo_28 rfl rfl <|
      cw_iload (pc := 29) dX4_yearsGo_29 rfl <|
      cw_iadd (pc := 31) dX4_yearsGo_31 <|
      ?_
    rw [nI_add]
    refine cw_putI (q := land) (pc := 32) dX4_yearsGo_32 pX4_49 hk.1 (by decide) rfl <|
      cw_iload_n (pc := 35) dX4_yearsGo_35 rfl rfl <|
      cw_iload (pc := 36) dX4_yearsGo_36 rfl <|
      cw_isub (pc := 38) dX4_yearsGo_38 <|
      cw_bipush (v := 10) (pc := 39) dX4_yearsGo_39 (by decide) <|
      cw_iadd (pc := 41) dX4_yearsGo_41 <|
      cw_iconst (v := 1) (pc := 42) dX4_yearsGo_42 (by decide) <|
      cw_isub (pc := 43) dX4_yearsGo_43 <|
      cw_bipush (v := 10) (pc := 44) dX4_yearsGo_44 (by decide) <|
      cw_idiv (pc := 46) dX4_yearsGo_46 (by decide) <|
      ?_
    rw [ht]
    refine cw_istore (L' := [_, _, _, _, _, _, _]) (pc := 47) dX4_yearsGo_47 (by decide) rfl rfl <|
      ?_
    have hS0 : Same (FY P land) μ (st m land 0 (nI (y + i))) := hS.s1 (Or.inr (Or.inl ⟨rfl, Or.inl rfl⟩))
    have e0 : (st m land 0 (nI (y + i))) land 0 = nI (y + i) := st_eq _ _ _ _
    have eW : (st m land 0 (nI (y + i))) (land + 5) = m (land + 5) := st_ne _ _ (by omega)
    have eB : (st m land 0 (nI (y + i))) land 3 = m land 3 := by rw [st_at, if_neg (by omega)]
    generalize st m land 0 (nI (y + i)) = m1 at hS0 e0 eW eB ⊢
    have q1 : m1 land 1 = μ land 1 := hS0 _ _ (by unfold FY PS; omega)
    have q2 : m1 land 2 = μ land 2 := hS0 _ _ (by unfold FY PS; omega)
    have n1 : m1 (land + 1) = μ (land + 1) := funext fun j => hS0 _ _ (by unfold FY PS; omega)
    have n2 : m1 (land + 2) = μ (land + 2) := funext fun j => hS0 _ _ (by unfold FY PS; omega)
    have n3 : m1 (land + 3) = μ (land + 3) := funext fun j => hS0 _ _ (by unfold FY PS; omega)
    have n4 : m1 (land + 4) = μ (land + 4) := funext fun j => hS0 _ _ (by unfold FY PS; omega)
    have n6 : m1 (land + 6) = μ (land + 6) := funext fun j => hS0 _ _ (by unfold FY PS; omega)
    have hc1 : CodeAt m1 par code := hc.mo (funext fun j => hS0 _ _ (by have := hdis; unfold FY PS; omega)) (funext fun j => hS0 _ _ (by have := hdis; unfold FY PS; omega)) (funext fun j => hS0 _ _ (by have := hdis; unfold FY PS; omega))
    have hn1 : MenAt m1 land n := hn.mo q1 n4
    have ena : naB m1 land = naB μ land := by funext p; unfold naB; rw [q2]
    have esc : ∀ yr p, scY m1 land code yr p = scY μ land code yr p := fun yr p => by unfold scY pgN; rw [n1, n2, n3, n4, n6]
    refine cw_aload_n (pc := 49) dX4_yearsGo_49 rfl rfl <|
      cw_invP (q := P) (pc := 50) dX4_yearsGo_50 (c_X4_scoresAll hP hk hq hc1 hw hn1) rfl vX4_106 hP.1 (by decide) rfl rfl rfl (by decide) <|
      ?_
    rintro _ m2 ⟨rfl, hsc, hS2⟩
    have hn2 : MenAt m2 land n := hn1.mo (hS2 _ _ (by unfold PS; omega)) (funext fun j => hS2 _ _ (by unfold PS; omega))
    have ena2 : naB m2 land = naB μ land := by rw [← ena]; funext p; unfold naB; rw [hS2 land 2 (by unfold PS; omega)]
    rw [ena] at hsc
    have hbest : (bestF (naB m2 land) (m2 (P + 2)) (-999999) n).1 = bestY μ land code n y i := by
      unfold bestY
      rw [bestF_congr (fun p _ => by rw [ena2]) (fun p hp h => by rw [hsc p hp (by rw [← ena2]; exact h), e0, esc])]
    have hS3 : Same (FY P land) μ m2 := hS0.tr (hS2.mo (fun q j h => Or.inl h))
    have hW2 : m2 (land + 5) = m (land + 5) := by rw [← eW]; exact funext fun j => hS2 _ _ (by unfold PS; omega)
    have hB2 : m2 land 3 = m land 3 := by rw [← eB]; exact hS2 _ _ (by unfold PS; omega)
    clear ht
    refine cw_aload_n (pc := 53) dX4_yearsGo_53 rfl rfl <|
      cw_invI (q := P) (pc := 54) dX4_yearsGo_54 (c_X4_bestOfAll hP hk hn2) rfl vX4_109 hP.1 (by decide) rfl rfl rfl (by decide) <|
      ?_
    rw [hbest]
    refine cw_istore (L' := [_, _, _, _, _, _, _]) (pc := 57) dX4_yearsGo_57 (by decide) rfl rfl <|
      cw_aload_n (pc := 59) dX4_yearsGo_59 rfl rfl <|
      cw_getR (q := P) (t := land) (pc := 60) dX4_yearsGo_60 fX4_23 hP.1 (by decide) rfl <|
      cw_iload (pc := 63) dX4_yearsGo_63 rfl <|
      cw_invI (q := land) (pc := 65) dX4_yearsGo_65 (c_X2_has hk) rfl vX4_31 hk.1 (by decide) rfl rfl rfl (by decide) <|
      ?_
    have hval := bestF_val (naB μ land) (fun p => scY μ land code (nI (y + i)) p) (-999999) n
    change bestY μ land code n y i = -5 ∨ ∃ p, p < n ∧ bestY μ land code n y i = nI p at hval
    have hx1 : nI i + 1 = nI (i + 1) := nI_1 i
    have key : ∀ (m3 : Mem) (z6 : Value), Same (FY P land) μ m3 → (∀ p, p < 6 → m3 (land + 5) p = nI (min M (w p + totN (bestY μ land code n y) nn p (i + 1)))) → m3 land 3 = m land 3 → m3 (P + 2) = m2 (P + 2) → CW E Γ cX4_yearsGo 7 RX4 5 98 [.ref P, .int (nI nn), .int (nI M), .int (nI y), .int (nI i), .int (nI ((nn - i + 9) / 10)), z6] [] m3 := by
      intro m3 z6 hS4 hW4 hB4 hsc4
      have hn4 : MenAt m3 land n := hn.mo (hS4 _ _ (by unfold FY PS; omega)) (funext fun j => hS4 _ _ (by unfold FY PS; omega))
      have ena4 : naB m3 land = naB μ land := by funext p; unfold naB; rw [hS4 land 2 (by unfold FY PS; omega)]
      have emk : m3 par 3 = μ par 3 := hS4 _ _ (by have := hdis; unfold FY PS; omega)
      have hbits : bitsI (fun p => naB m3 land p && decide (μ par 3 ≤ m3 (P + 2) p)) n = belY μ land code n y (μ par 3) i := by
        unfold belY
        refine bitsI_congr (fun p hp => ?_)
        rw [ena4, hsc4]
        by_cases h : naB μ land p = true
        · rw [hsc p hp h, e0, esc]
        · simp [h]
      refine cw_iload (pc := 98) dX4_yearsGo_98 rfl <|
        cw_iload_n (pc := 100) dX4_yearsGo_100 rfl rfl <|
        cw_iconst (v := 1) (pc := 101) dX4_yearsGo_101 (by decide) <|
        cw_isub (pc := 102) dX4_yearsGo_102 <|
        cw_bipush (v := 10) (pc := 103) dX4_yearsGo_103 (by decide) <|
        cw_irem (pc := 105) dX4_yearsGo_105 (by decide) <|
        ?_
      rw [hr]
      refine cw_icmp_ne (tgt := 127) (pc := 106) dX4_yearsGo_106 (by decide) (fun c106 => ?_) (fun c106 => ?_)
      · refine cw_iincL (L' := [_, _, _, _, _, _, _]) (c := 1) (pc := 127) dX4_yearsGo_127 rfl (by decide) (by decide) rfl rfl <|
          cw_goto (tgt := 11) (pc := 130) dX4_yearsGo_130 (by decide) <|
          ?_
        first
          | exact ih (_, _, _) _ ⟨hx1, Same.s1 hS4 (Or.inr (Or.inl ⟨rfl, Or.inr rfl⟩)), fun p hp => by rw [st_at, if_neg (by omega)]; exact hW4 p hp, by
              have e : i = (nn - 1) % 10 := (nI_eq (by omega) (by omega)).mp c106
              rw [st_eq, if_pos (by omega), ← e]⟩
          | exact ih (_, _, _) _ ⟨hx1, hS4, hW4, by
              have e : ¬ i = (nn - 1) % 10 := fun e => c106 (by rw [← e])
              rw [hB4, hB]
              by_cases h : (nn - 1) % 10 < i
              · rw [if_pos h, if_pos (by omega)]
              · rw [if_neg h, if_neg (by omega)]⟩
      · refine cw_aload_n (pc := 109) dX4_yearsGo_109 rfl rfl <|
          cw_getR (q := P) (t := land) (pc := 110) dX4_yearsGo_110 fX4_23 hP.1 (by decide) rfl <|
          cw_aload_n (pc := 113) dX4_yearsGo_113 rfl rfl <|
          cw_aload_n (pc := 114) dX4_yearsGo_114 rfl rfl <|
          cw_getR (q := P) (t := par) (pc := 115) dX4_yearsGo_115 fX4_27 hP.1 (by decide) rfl <|
          cw_getI (q := par) (pc := 118) dX4_yearsGo_118 fX4_118 hq.1 (by decide) rfl <|
          ?_
        rw [emk]
        refine cw_invI (q := P) (pc := 121) dX4_yearsGo_121 (c_X4_whoHas hP hk hn4) rfl vX4_121 hP.1 (by decide) rfl rfl rfl (by decide) <|
          ?_
        rw [hbits]
        refine cw_putI (q := land) (pc := 124) dX4_yearsGo_124 pX4_124 hk.1 (by decide) rfl <|
          cw_iincL (L' := [_, _, _, _, _, _, _]) (c := 1) (pc := 127) dX4_yearsGo_127 rfl (by decide) (by decide) rfl rfl <|
          cw_goto (tgt := 11) (pc := 130) dX4_yearsGo_130 (by decide) <|
          ?_
        first
          | exact ih (_, _, _) _ ⟨hx1, Same.s1 hS4 (Or.inr (Or.inl ⟨rfl, Or.inr rfl⟩)), fun p hp => by rw [st_at, if_neg (by omega)]; exact hW4 p hp, by
              have e : i = (nn - 1) % 10 := (nI_eq (by omega) (by omega)).mp c106
              rw [st_eq, if_pos (by omega), ← e]⟩
          | exact ih (_, _, _) _ ⟨hx1, hS4, hW4, by
              have e : ¬ i = (nn - 1) % 10 := fun e => c106 (by rw [← e])
              rw [hB4, hB]
              by_cases h : (nn - 1) % 10 < i
              · rw [if_pos h, if_pos (by omega)]
              · rw [if_neg h, if_neg (by omega)]⟩
    rcases hval with hv | ⟨p, hp, hv⟩
    · refine cw_if_eq_T (tgt := 98) (pc := 68) dX4_yearsGo_68 (by decide) (by rw [hv]; exact bI_f (by intro h; exact absurd h.1 (by decide))) <|
        ?_
      exact key _ _ hS3 (fun p hp => by rw [hW2, hW p hp]; simp only [totN]; rw [hv, if_neg (by intro h; have h2 := nI_ge (a := 0) (b := p + 1) (by omega) (by omega); exact absurd (show (-5 : Int32) < 0 by decide) (by rw [h]; exact nI_pos (by omega))), Nat.add_zero]) hB2 rfl
    · rw [hv]
      have hp6 : p < 6 := by omega
      have hw2 : m2 (land + 5) p = nI (min M (w p + totN (bestY μ land code n y) nn p i)) := by rw [hW2]; exact hW p hp6
      have hle : min M (w p + totN (bestY μ land code n y) nn p i) ≤ M := Nat.min_le_left _ _
      have hmin : (if nI (min M (w p + totN (bestY μ land code n y) nn p i)) + nI ((nn - i + 9) / 10) < nI M then nI (min M (w p + totN (bestY μ land code n y) nn p i)) + nI ((nn - i + 9) / 10) else nI M) = nI (min M (w p + totN (bestY μ land code n y) nn p (i + 1))) := by
        rw [nI_add, nI_min (by omega) (by omega)]
        simp only [totN]
        rw [hv, if_pos rfl]
        congr 1; omega
      refine cw_if_eq_F (tgt := 98) (pc := 68) dX4_yearsGo_68 (by decide) (by rw [bI_t ⟨nI_pos' (by omega), hn2.lt hp, nI_lt (b := 6) (by omega) (by decide)⟩]; decide) <|
        cw_aload_n (pc := 71) dX4_yearsGo_71 rfl rfl <|
        cw_getR (q := P) (t := land) (pc := 72) dX4_yearsGo_72 fX4_23 hP.1 (by decide) rfl <|
        cw_getR (q := land) (t := land + 5) (pc := 75) dX4_yearsGo_75 fX4_112 hk.1 (by decide) rfl <|
        cw_iload (pc := 78) dX4_yearsGo_78 rfl <|
        cw_iload_n (pc := 80) dX4_yearsGo_80 rfl rfl <|
        cw_aload_n (pc := 81) dX4_yearsGo_81 rfl rfl <|
        cw_getR (q := P) (t := land) (pc := 82) dX4_yearsGo_82 fX4_23 hP.1 (by decide) rfl <|
        cw_getR (q := land) (t := land + 5) (pc := 85) dX4_yearsGo_85 fX4_112 hk.1 (by decide) rfl <|
        cw_iload (pc := 88) dX4_yearsGo_88 rfl <|
        cw_ial (q := land + 5) (jn := p) (pc := 90) dX4_yearsGo_90 hk.2.2.2.2.2.1 rfl (by omega) (by decide) <|
        ?_
      rw [hw2]
      refine cw_iload (pc := 91) dX4_yearsGo_91 rfl <|
        cw_iadd (pc := 93) dX4_yearsGo_93 <|
        cw_insI (pc := 94) dX4_yearsGo_94 c_J9_min_7cf53 vX4_115 rfl rfl rfl (by decide) <|
        ?_
      rw [hmin]
      refine cw_ias (q := land + 5) (jn := p) (pc := 97) dX4_yearsGo_97 hk.2.2.2.2.2.1 rfl (by omega) (by decide) <|
        ?_
      exact key _ _ (Same.s1 hS3 (Or.inr (Or.inr rfl))) (fun q hq => by
        by_cases e : q = p
        · subst e; rw [st_eq]
        · rw [st_at, if_neg (by omega), hW2, hW q hq]
          simp only [totN]
          rw [hv, if_neg (fun h => e ((nI_eq (by omega) (by omega)).mp h).symm), Nat.add_zero]) (by rw [st_at, if_neg (by omega)]; exact hB2) (st_ne _ _ (by omega))
