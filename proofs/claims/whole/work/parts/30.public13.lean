/-! ===== act, trace, plan, as, image, undo ===== -/
def actA (s : Row) (x a z : Int32) : Int32 × List Int32 := if (0 ≤ x ∧ x < s 31) ∧ (0 ≤ a ∧ a < 3) then (if a = 0 then actP (nN (s (39 + nN x))) x z else if a = 1 then actL (nN (s (39 + nN x))) (nN (s (39 + nN x))) (s (45 + nN x)) x z else actS (nN (s (39 + nN x))) (nN (s (39 + nN x))) (s (45 + nN x)) x z) else (0, [])
def DG : Nat → Nat → Prop := fun q _ => q = 65 ∨ q = 66
theorem tr_nil {μ : Mem} {q f qa : Nat} (h : μ q f = 0) : TrAt μ q f qa [] := ⟨h, by decide, fun i b hb => by simp at hb⟩
theorem DF_G {μ μ' : Mem} (h : Same DF μ μ') : Same DG μ μ' := h.mo (fun q i h => h.elim (fun h => Or.inl h.1) Or.inr)
set_option maxHeartbeats 4000000 in
set_option maxRecDepth 100000 in
theorem c_X1_acts {E : Ev} {μ : Mem} {s : Row} {n mk : Nat} {code : PCo} (hI : Inv s n code mk) (hR1 : Rel μ 1 s code mk) {x a z : Int32} : AM E yX1_acts cX1_acts 5 (some .int) 8 [.ref 65, .ref 2, .int x, .int a, .int z] μ (fun r μ' => r = some (.int (actA s x a z).1) ∧ TrAt μ' 65 1 66 (actA s x a z).2 ∧ Same DG μ μ') := by
  refine am_of (own := RX1) (L := [.ref 65, .ref 2, .int x, .int a, .int z]) (by decide) rfl (Nat.le_of_ble_eq_true rfl) rfl (fun Γ hR => ?_)
  have hR0 := hR1
  obtain ⟨hIL, hIP, hIC, hIS, hIW, hIB, hIT⟩ := hI
  obtain ⟨hL, ⟨hcd, hmk⟩, hT, hC, hS, hW, hB, hnp⟩ := hR1
  have hn := hIL.1
  have h6 := hIL.2.1
  have h31 : μ 2 1 = s 31 := hL.2.1
  have h31b : (st μ 65 1 0) 2 1 = s 31 := (st_at.trans (if_neg (by decide))).trans h31
  by_cases hx : 0 ≤ x ∧ x < s 31
  · by_cases ha : 0 ≤ a ∧ a < 3
    · obtain ⟨p, hp, rfl⟩ := isM_of hn h6 hx
      have hp6 : p < 6 := by omega
      obtain ⟨k, hk, ek⟩ := (hIL.2.2.2.2.2.2 p hp).2
      have e1 : (st (st μ 65 1 0) 65 2 (nI p)) 4 p = nI k := (st_at.trans (if_neg (by omega))).trans ((st_at.trans (if_neg (by omega))).trans ((hL.2.2.2.2.2.1 p hp6).1.trans ek))
      have e2 : (st (st (st μ 65 1 0) 65 2 (nI p)) 65 3 (nI k)) 5 p = s (45 + p) := (st_at.trans (if_neg (by omega))).trans ((st_at.trans (if_neg (by omega))).trans ((st_at.trans (if_neg (by omega))).trans (hL.2.2.2.2.2.1 p hp6).2.1))
      have e3 : (st (st (st (st μ 65 1 0) 65 2 (nI p)) 65 3 (nI k)) 65 4 (s (45 + p))) 65 3 = nI k := by simp [st_at]
      have t0 : TrAt (st (st (st (st μ 65 1 0) 65 2 (nI p)) 65 3 (nI k)) 65 4 (s (45 + p))) 65 1 66 [] := tr_nil (by simp [st_at])
      have m0 : (st (st (st (st μ 65 1 0) 65 2 (nI p)) 65 3 (nI k)) 65 4 (s (45 + p))) 65 2 = nI p := by simp [st_at]
      have v0 : (st (st (st (st μ 65 1 0) 65 2 (nI p)) 65 3 (nI k)) 65 4 (s (45 + p))) 65 4 = s (45 + p) := by simp [st_at]
      have s0 : Same DG μ (st (st (st (st μ 65 1 0) 65 2 (nI p)) 65 3 (nI k)) 65 4 (s (45 + p))) := (((Same.rf.s1 (Or.inl rfl)).s1 (Or.inl rfl)).s1 (Or.inl rfl)).s1 (Or.inl rfl)
      have nk : nN (s (39 + nN (nI p))) = k := by rw [nN_nI (by omega), ek]; exact nN_nI (by omega)
      have np' : nN (nI p) = p := nN_nI (by omega)
      have ha3 : a = 0 ∨ a = 1 ∨ a = 2 := by
        obtain ⟨q, hq, rfl⟩ := ix_of (n := 3) (by decide) ha
        rcases (show q = 0 ∨ q = 1 ∨ q = 2 by omega) with rfl | rfl | rfl
        · exact Or.inl rfl
        · exact Or.inr (Or.inl rfl)
        · exact Or.inr (Or.inr rfl)
      rcases ha3 with rfl | rfl | rfl
      · have ea : actA s (nI p) 0 z = actP k (nI p) z := by unfold actA; rw [if_pos ⟨hx, by decide⟩, if_pos rfl, nk]
        refine cw_aload_n (pc := 0) dX1_acts_0 rfl rfl <|
          cw_iconst (v := 0) (pc := 1) dX1_acts_1 (by decide) <|
          cw_putI (q := 65) (pc := 2) dX1_acts_2 pX1_15 sh_65 (by decide) rfl <|
          cw_aload_n (pc := 5) dX1_acts_5 rfl rfl <|
          cw_iload_n (pc := 6) dX1_acts_6 rfl rfl <|
          cw_invI (q := 2) (pc := 7) dX1_acts_7 (c_has land_2 h31b hn h6) rfl vX1_19 sh_2 (by decide) rfl rfl rfl (by decide) <|
          cw_if_eq_F (tgt := 22) (pc := 10) dX1_acts_10 (by decide) (bI_n0.mpr hx) <|
          cw_iload_n (pc := 13) dX1_acts_13 rfl rfl <|
          cw_if_lt_F (tgt := 22) (pc := 14) dX1_acts_14 (by decide) (by decide) <|
          cw_iload_n (pc := 17) dX1_acts_17 rfl rfl <|
          cw_iconst (v := 3) (pc := 18) dX1_acts_18 (by decide) <|
          cw_icmp_lt_T (tgt := 24) (pc := 19) dX1_acts_19 (by decide) (by decide) <|
          cw_aload_n (pc := 24) dX1_acts_24 rfl rfl <|
          cw_iload_n (pc := 25) dX1_acts_25 rfl rfl <|
          cw_putI (q := 65) (pc := 26) dX1_acts_26 pX1_25 sh_65 (by decide) rfl <|
          cw_aload_n (pc := 29) dX1_acts_29 rfl rfl <|
          cw_aload_n (pc := 30) dX1_acts_30 rfl rfl <|
          cw_getR (q := 2) (t := 4) (pc := 31) dX1_acts_31 fX1_28 sh_2 (by decide) rfl <|
          cw_iload_n (pc := 34) dX1_acts_34 rfl rfl <|
          cw_ial (q := 4) (jn := p) (pc := 35) dX1_acts_35 sh_4 rfl hp6 (by decide) <|
          ?_
        rw [e1]
        refine cw_putI (q := 65) (pc := 36) dX1_acts_36 pX1_31 sh_65 (by decide) rfl <|
          cw_aload_n (pc := 39) dX1_acts_39 rfl rfl <|
          cw_aload_n (pc := 40) dX1_acts_40 rfl rfl <|
          cw_getR (q := 2) (t := 5) (pc := 41) dX1_acts_41 fX1_34 sh_2 (by decide) rfl <|
          cw_iload_n (pc := 44) dX1_acts_44 rfl rfl <|
          cw_ial (q := 5) (jn := p) (pc := 45) dX1_acts_45 sh_5 rfl hp6 (by decide) <|
          ?_
        rw [e2]
        refine cw_putI (q := 65) (pc := 46) dX1_acts_46 pX1_37 sh_65 (by decide) rfl <|
          cw_aload_n (pc := 49) dX1_acts_49 rfl rfl <|
          cw_aload_n (pc := 50) dX1_acts_50 rfl rfl <|
          cw_getI (q := 65) (pc := 51) dX1_acts_51 fX1_31 sh_65 (by decide) rfl <|
          ?_
        rw [e3]
        refine cw_iload_n (pc := 54) dX1_acts_54 rfl rfl <|
          cw_iload (pc := 55) dX1_acts_55 rfl <|
          cw_iconst (v := 0) (pc := 57) dX1_acts_57 (by decide) <|
          cw_invP (q := 65) (pc := 58) dX1_acts_58 (c_runsP (d := 7) (k := k) (kd := k) (dp := 0) (l := []) t0 m0 e3 v0 hk hk (by decide) (by decide) (by decide)) rfl vX1_40 sh_65 (by decide) rfl rfl rfl (by decide) <|
          ?_
        rintro _ m2 ⟨rfl, h2, s2⟩
        refine cw_iret (pc := 61) dX1_acts_61 hR <|
          ⟨by rw [ea], by rw [ea]; exact h2, s0.tr (DF_G s2)⟩
      · have ea : actA s (nI p) 1 z = actL k k (s (45 + p)) (nI p) z := by unfold actA; rw [if_pos ⟨hx, by decide⟩, if_neg (by decide), if_pos rfl, nk, np']
        refine cw_aload_n (pc := 0) dX1_acts_0 rfl rfl <|
          cw_iconst (v := 0) (pc := 1) dX1_acts_1 (by decide) <|
          cw_putI (q := 65) (pc := 2) dX1_acts_2 pX1_15 sh_65 (by decide) rfl <|
          cw_aload_n (pc := 5) dX1_acts_5 rfl rfl <|
          cw_iload_n (pc := 6) dX1_acts_6 rfl rfl <|
          cw_invI (q := 2) (pc := 7) dX1_acts_7 (c_has land_2 h31b hn h6) rfl vX1_19 sh_2 (by decide) rfl rfl rfl (by decide) <|
          cw_if_eq_F (tgt := 22) (pc := 10) dX1_acts_10 (by decide) (bI_n0.mpr hx) <|
          cw_iload_n (pc := 13) dX1_acts_13 rfl rfl <|
          cw_if_lt_F (tgt := 22) (pc := 14) dX1_acts_14 (by decide) (by decide) <|
          cw_iload_n (pc := 17) dX1_acts_17 rfl rfl <|
          cw_iconst (v := 3) (pc := 18) dX1_acts_18 (by decide) <|
          cw_icmp_lt_T (tgt := 24) (pc := 19) dX1_acts_19 (by decide) (by decide) <|
          cw_aload_n (pc := 24) dX1_acts_24 rfl rfl <|
          cw_iload_n (pc := 25) dX1_acts_25 rfl rfl <|
          cw_putI (q := 65) (pc := 26) dX1_acts_26 pX1_25 sh_65 (by decide) rfl <|
          cw_aload_n (pc := 29) dX1_acts_29 rfl rfl <|
          cw_aload_n (pc := 30) dX1_acts_30 rfl rfl <|
          cw_getR (q := 2) (t := 4) (pc := 31) dX1_acts_31 fX1_28 sh_2 (by decide) rfl <|
          cw_iload_n (pc := 34) dX1_acts_34 rfl rfl <|
          cw_ial (q := 4) (jn := p) (pc := 35) dX1_acts_35 sh_4 rfl hp6 (by decide) <|
          ?_
        rw [e1]
        refine cw_putI (q := 65) (pc := 36) dX1_acts_36 pX1_31 sh_65 (by decide) rfl <|
          cw_aload_n (pc := 39) dX1_acts_39 rfl rfl <|
          cw_aload_n (pc := 40) dX1_acts_40 rfl rfl <|
          cw_getR (q := 2) (t := 5) (pc := 41) dX1_acts_41 fX1_34 sh_2 (by decide) rfl <|
          cw_iload_n (pc := 44) dX1_acts_44 rfl rfl <|
          cw_ial (q := 5) (jn := p) (pc := 45) dX1_acts_45 sh_5 rfl hp6 (by decide) <|
          ?_
        rw [e2]
        refine cw_putI (q := 65) (pc := 46) dX1_acts_46 pX1_37 sh_65 (by decide) rfl <|
          cw_aload_n (pc := 49) dX1_acts_49 rfl rfl <|
          cw_aload_n (pc := 50) dX1_acts_50 rfl rfl <|
          cw_getI (q := 65) (pc := 51) dX1_acts_51 fX1_31 sh_65 (by decide) rfl <|
          ?_
        rw [e3]
        refine cw_iload_n (pc := 54) dX1_acts_54 rfl rfl <|
          cw_iload (pc := 55) dX1_acts_55 rfl <|
          cw_iconst (v := 0) (pc := 57) dX1_acts_57 (by decide) <|
          cw_invP (q := 65) (pc := 58) dX1_acts_58 (c_runsL (d := 7) (k := k) (kd := k) (dp := 0) (l := []) t0 m0 e3 v0 hk hk (by decide) (by decide) (by decide)) rfl vX1_40 sh_65 (by decide) rfl rfl rfl (by decide) <|
          ?_
        rintro _ m2 ⟨rfl, h2, s2⟩
        refine cw_iret (pc := 61) dX1_acts_61 hR <|
          ⟨by rw [ea], by rw [ea]; exact h2, s0.tr (DF_G s2)⟩
      · have ea : actA s (nI p) 2 z = actS k k (s (45 + p)) (nI p) z := by unfold actA; rw [if_pos ⟨hx, by decide⟩, if_neg (by decide), if_neg (by decide), nk, np']
        refine cw_aload_n (pc := 0) dX1_acts_0 rfl rfl <|
          cw_iconst (v := 0) (pc := 1) dX1_acts_1 (by decide) <|
          cw_putI (q := 65) (pc := 2) dX1_acts_2 pX1_15 sh_65 (by decide) rfl <|
          cw_aload_n (pc := 5) dX1_acts_5 rfl rfl <|
          cw_iload_n (pc := 6) dX1_acts_6 rfl rfl <|
          cw_invI (q := 2) (pc := 7) dX1_acts_7 (c_has land_2 h31b hn h6) rfl vX1_19 sh_2 (by decide) rfl rfl rfl (by decide) <|
          cw_if_eq_F (tgt := 22) (pc := 10) dX1_acts_10 (by decide) (bI_n0.mpr hx) <|
          cw_iload_n (pc := 13) dX1_acts_13 rfl rfl <|
          cw_if_lt_F (tgt := 22) (pc := 14) dX1_acts_14 (by decide) (by decide) <|
          cw_iload_n (pc := 17) dX1_acts_17 rfl rfl <|
          cw_iconst (v := 3) (pc := 18) dX1_acts_18 (by decide) <|
          cw_icmp_lt_T (tgt := 24) (pc := 19) dX1_acts_19 (by decide) (by decide) <|
          cw_aload_n (pc := 24) dX1_acts_24 rfl rfl <|
          cw_iload_n (pc := 25) dX1_acts_25 rfl rfl <|
          cw_putI (q := 65) (pc := 26) dX1_acts_26 pX1_25 sh_65 (by decide) rfl <|
          cw_aload_n (pc := 29) dX1_acts_29 rfl rfl <|
          cw_aload_n (pc := 30) dX1_acts_30 rfl rfl <|
          cw_getR (q := 2) (t := 4) (pc := 31) dX1_acts_31 fX1_28 sh_2 (by decide) rfl <|
          cw_iload_n (pc := 34) dX1_acts_34 rfl rfl <|
          cw_ial (q := 4) (jn := p) (pc := 35) dX1_acts_35 sh_4 rfl hp6 (by decide) <|
          ?_
        rw [e1]
        refine cw_putI (q := 65) (pc := 36) dX1_acts_36 pX1_31 sh_65 (by decide) rfl <|
          cw_aload_n (pc := 39) dX1_acts_39 rfl rfl <|
          cw_aload_n (pc := 40) dX1_acts_40 rfl rfl <|
          cw_getR (q := 2) (t := 5) (pc := 41) dX1_acts_41 fX1_34 sh_2 (by decide) rfl <|
          cw_iload_n (pc := 44) dX1_acts_44 rfl rfl <|
          cw_ial (q := 5) (jn := p) (pc := 45) dX1_acts_45 sh_5 rfl hp6 (by decide) <|
          ?_
        rw [e2]
        refine cw_putI (q := 65) (pc := 46) dX1_acts_46 pX1_37 sh_65 (by decide) rfl <|
          cw_aload_n (pc := 49) dX1_acts_49 rfl rfl <|
          cw_aload_n (pc := 50) dX1_acts_50 rfl rfl <|
          cw_getI (q := 65) (pc := 51) dX1_acts_51 fX1_31 sh_65 (by decide) rfl <|
          ?_
        rw [e3]
        refine cw_iload_n (pc := 54) dX1_acts_54 rfl rfl <|
          cw_iload (pc := 55) dX1_acts_55 rfl <|
          cw_iconst (v := 0) (pc := 57) dX1_acts_57 (by decide) <|
          cw_invP (q := 65) (pc := 58) dX1_acts_58 (c_runsS (d := 7) (k := k) (kd := k) (dp := 0) (l := []) t0 m0 e3 v0 hk hk (by decide) (by decide) (by decide)) rfl vX1_40 sh_65 (by decide) rfl rfl rfl (by decide) <|
          ?_
        rintro _ m2 ⟨rfl, h2, s2⟩
        refine cw_iret (pc := 61) dX1_acts_61 hR <|
          ⟨by rw [ea], by rw [ea]; exact h2, s0.tr (DF_G s2)⟩
    · refine cw_aload_n (pc := 0) dX1_acts_0 rfl rfl <|
        cw_iconst (v := 0) (pc := 1) dX1_acts_1 (by decide) <|
        cw_putI (q := 65) (pc := 2) dX1_acts_2 pX1_15 sh_65 (by decide) rfl <|
        cw_aload_n (pc := 5) dX1_acts_5 rfl rfl <|
        cw_iload_n (pc := 6) dX1_acts_6 rfl rfl <|
        cw_invI (q := 2) (pc := 7) dX1_acts_7 (c_has land_2 h31b hn h6) rfl vX1_19 sh_2 (by decide) rfl rfl rfl (by decide) <|
        cw_if_eq_F (tgt := 22) (pc := 10) dX1_acts_10 (by decide) (bI_n0.mpr hx) <|
        cw_iload_n (pc := 13) dX1_acts_13 rfl rfl <|
        cw_if_lt (tgt := 22) (pc := 14) dX1_acts_14 (by decide) (fun c14 => ?_) (fun c14 => ?_)
      · refine cw_iconst (v := 0) (pc := 22) dX1_acts_22 (by decide) <|
          cw_iret (pc := 23) dX1_acts_23 hR <|
          ⟨by rw [actA, if_neg (fun h => ha h.2)], by rw [actA, if_neg (fun h => ha h.2)]; exact tr_nil (by simp [st_at]), Same.rf.s1 (Or.inl rfl)⟩
      · refine cw_iload_n (pc := 17) dX1_acts_17 rfl rfl <|
          cw_iconst (v := 3) (pc := 18) dX1_acts_18 (by decide) <|
          cw_icmp_lt (tgt := 24) (pc := 19) dX1_acts_19 (by decide) (fun c19 => ?_) (fun c19 => ?_)
        · exact absurd ⟨Int32.not_lt.mp c14, c19⟩ ha
        · refine cw_iconst (v := 0) (pc := 22) dX1_acts_22 (by decide) <|
            cw_iret (pc := 23) dX1_acts_23 hR <|
            ⟨by rw [actA, if_neg (fun h => ha h.2)], by rw [actA, if_neg (fun h => ha h.2)]; exact tr_nil (by simp [st_at]), Same.rf.s1 (Or.inl rfl)⟩
  · refine cw_aload_n (pc := 0) dX1_acts_0 rfl rfl <|
      cw_iconst (v := 0) (pc := 1) dX1_acts_1 (by decide) <|
      cw_putI (q := 65) (pc := 2) dX1_acts_2 pX1_15 sh_65 (by decide) rfl <|
      cw_aload_n (pc := 5) dX1_acts_5 rfl rfl <|
      cw_iload_n (pc := 6) dX1_acts_6 rfl rfl <|
      cw_invI (q := 2) (pc := 7) dX1_acts_7 (c_has land_2 h31b hn h6) rfl vX1_19 sh_2 (by decide) rfl rfl rfl (by decide) <|
      cw_if_eq_T (tgt := 22) (pc := 10) dX1_acts_10 (by decide) (bI_0.mpr hx) <|
      cw_iconst (v := 0) (pc := 22) dX1_acts_22 (by decide) <|
      cw_iret (pc := 23) dX1_acts_23 hR <|
      ⟨by rw [actA, if_neg (fun h => hx h.1)], by rw [actA, if_neg (fun h => hx h.1)]; exact tr_nil (by simp [st_at]), Same.rf.s1 (Or.inl rfl)⟩
set_option maxHeartbeats 4000000 in
set_option maxRecDepth 100000 in
theorem c_X8_act {E : Ev} {μ : Mem} {s : Row} {n mk : Nat} {code : PCo} (hI : Inv s n code mk) (hR1 : Rel μ 1 s code mk) {x a z : Int32} : AM E yX8_act cX8_act 4 (some .int) 9 [.ref 0, .int x, .int a, .int z] μ (fun r μ' => r = some (.int (actA s x a z).1) ∧ TrAt μ' 65 1 66 (actA s x a z).2 ∧ Same DG μ μ') := by
  refine am_of (own := RX8) (L := [.ref 0, .int x, .int a, .int z]) (by decide) rfl (Nat.le_of_ble_eq_true rfl) rfl (fun Γ hR => ?_)
  have hR0 := hR1
  have hI0 := hI
  obtain ⟨hIL, hIP, hIC, hIS, hIW, hIB, hIT⟩ := hI
  obtain ⟨hL, ⟨hcd, hmk⟩, hT, hC, hS, hW, hB, hnp⟩ := hR1
  have hn := hIL.1
  have h6 := hIL.2.1
  have h31 : μ 2 1 = s 31 := hL.2.1
  by_cases hx : 0 ≤ x ∧ x < s 31
  · refine cw_aload_n (pc := 0) dX8_act_0 rfl rfl <|
      cw_getR (q := 0) (t := 2) (pc := 1) dX8_act_1 fX8_25 sh_0 (by decide) rfl <|
      cw_iload_n (pc := 4) dX8_act_4 rfl rfl <|
      cw_invI (q := 2) (pc := 5) dX8_act_5 (c_has land_2 h31 hn h6) rfl vX8_112 sh_2 (by decide) rfl rfl rfl (by decide) <|
      cw_if_ne_T (tgt := 20) (pc := 8) dX8_act_8 (by decide) (bI_n0.mpr hx) <|
      cw_aload_n (pc := 20) dX8_act_20 rfl rfl <|
      cw_getR (q := 0) (t := 65) (pc := 21) dX8_act_21 fX8_71 sh_0 (by decide) rfl <|
      cw_aload_n (pc := 24) dX8_act_24 rfl rfl <|
      cw_getR (q := 0) (t := 2) (pc := 25) dX8_act_25 fX8_25 sh_0 (by decide) rfl <|
      cw_iload_n (pc := 28) dX8_act_28 rfl rfl <|
      cw_iload_n (pc := 29) dX8_act_29 rfl rfl <|
      cw_iload_n (pc := 30) dX8_act_30 rfl rfl <|
      cw_invP (q := 65) (pc := 31) dX8_act_31 (c_X1_acts hI0 hR0) rfl vX8_264 sh_65 (by decide) rfl rfl rfl (by decide) <|
      ?_
    rintro _ m2 ⟨rfl, h2, s2⟩
    refine cw_iret (pc := 34) dX8_act_34 hR <|
      ⟨rfl, h2, s2⟩
  · refine cw_aload_n (pc := 0) dX8_act_0 rfl rfl <|
      cw_getR (q := 0) (t := 2) (pc := 1) dX8_act_1 fX8_25 sh_0 (by decide) rfl <|
      cw_iload_n (pc := 4) dX8_act_4 rfl rfl <|
      cw_invI (q := 2) (pc := 5) dX8_act_5 (c_has land_2 h31 hn h6) rfl vX8_112 sh_2 (by decide) rfl rfl rfl (by decide) <|
      cw_if_ne_F (tgt := 20) (pc := 8) dX8_act_8 (by decide) (bI_0.mpr hx) <|
      cw_aload_n (pc := 11) dX8_act_11 rfl rfl <|
      cw_getR (q := 0) (t := 65) (pc := 12) dX8_act_12 fX8_71 sh_0 (by decide) rfl <|
      cw_invV (q := 65) (pc := 15) dX8_act_15 c_X1_forgets rfl vX8_261 sh_65 (by decide) rfl rfl rfl (by decide) <|
      cw_iconst (v := 0) (pc := 18) dX8_act_18 (by decide) <|
      cw_iret (pc := 19) dX8_act_19 hR <|
      ⟨by rw [actA, if_neg (fun h => hx h.1)], by rw [actA, if_neg (fun h => hx h.1)]; exact tr_nil (by simp [st_at]), Same.rf.s1 (Or.inl rfl)⟩
set_option maxHeartbeats 4000000 in
set_option maxRecDepth 100000 in
theorem c_X8_trace {E : Ev} {μ : Mem} {l : List Int32} (h : TrAt μ 65 1 66 l) {x : Int32} : AM E yX8_trace cX8_trace 2 (some .int) 1 [.ref 0, .int x] μ (fun r μ' => r = some (.int (traceA l x)) ∧ μ' = μ) := by
  refine am_of (own := RX8) (L := [.ref 0, .int x]) (by decide) rfl (Nat.le_of_ble_eq_true rfl) rfl (fun Γ hR => ?_)
  refine cw_aload_n (pc := 0) dX8_trace_0 rfl rfl <|
    cw_getR (q := 0) (t := 65) (pc := 1) dX8_trace_1 fX8_71 sh_0 (by decide) rfl <|
    cw_iload_n (pc := 4) dX8_trace_4 rfl rfl <|
    cw_invI (q := 65) (pc := 5) dX8_trace_5 (c_X1_bodyAt h) rfl vX8_268 sh_65 (by decide) rfl rfl rfl (by decide) <|
    cw_iret (pc := 8) dX8_trace_8 hR <|
    ⟨rfl, rfl⟩
def planA (s : Row) (w x : Int32) : Int32 := if w = -1 then 0 else if w = 0 ∨ ((w = 1 ∨ w = 2) ∧ (0 ≤ x ∧ x < s 31)) ∨ (w = 3 ∧ (0 ≤ x ∧ x < 12)) then (if s 35 = 8 then -4 else s 35 + 1) else -1
def planR (s : Row) (w x : Int32) : Row := if w = -1 then upd s 35 0 else if (w = 0 ∨ ((w = 1 ∨ w = 2) ∧ (0 ≤ x ∧ x < s 31)) ∨ (w = 3 ∧ (0 ≤ x ∧ x < 12))) ∧ ¬ s 35 = 8 then upd (upd (upd s (106 + nN (s 35)) w) (114 + nN (s 35)) x) 35 (s 35 + 1) else s
set_option maxHeartbeats 4000000 in
set_option maxRecDepth 100000 in
theorem c_X8_plan {E : Ev} {μ : Mem} {s : Row} {n mk : Nat} {code : PCo} (hI : Inv s n code mk) (hR1 : Rel μ 1 s code mk) {w x : Int32} : AM E yX8_plan cX8_plan 4 (some .int) 1 [.ref 0, .int w, .int x] μ (fun r μ' => (r = some (.int (planA s w x)) ∧ Rel μ' 1 (planR s w x) code mk) ∧ Same PB μ μ') := by
  refine am_of (own := RX8) (L := [.ref 0, .int w, .int x, .null]) (by decide) rfl (Nat.le_of_ble_eq_true rfl) rfl (fun Γ hR => ?_)
  have hR0 := hR1
  obtain ⟨hIL, hIP, hIC, hIS, hIW, hIB, hIT⟩ := hI
  obtain ⟨hL, ⟨hcd, hmk⟩, hT, hC, hS, hW, hB, hnp⟩ := hR1
  have hn := hIL.1
  have h6 := hIL.2.1
  have h31 : μ 2 1 = s 31 := hL.2.1
  obtain ⟨k, hk, e35, -⟩ := hIW
  have hfl := full_iff (m := 8) e35 hk (by decide)
  have hnk : nN (s 35) = k := by rw [e35]; exact nN_nI (by omega)
  have good : ∀ z : Value, ¬ w = -1 → (w = 0 ∨ ((w = 1 ∨ w = 2) ∧ (0 ≤ x ∧ x < s 31)) ∨ (w = 3 ∧ (0 ≤ x ∧ x < 12))) → CW E Γ cX8_plan 4 RX8 1 53 [.ref 0, .int w, .int x, z] [] μ := by
    intro z h0 ho
    refine cw_iconst (v := 1) (pc := 53) dX8_plan_53 (by decide) <|
      cw_goto (tgt := 58) (pc := 54) dX8_plan_54 (by decide) <|
      cw_istore_n (L' := [_, _, _, _]) (pc := 58) dX8_plan_58 rfl (by decide) rfl rfl <|
      cw_iload_n (pc := 59) dX8_plan_59 rfl rfl <|
      cw_if_eq_F (tgt := 79) (pc := 60) dX8_plan_60 (by decide) (by decide) <|
      cw_aload_n (pc := 63) dX8_plan_63 rfl rfl <|
      cw_getR (q := 0) (t := 1) (pc := 64) dX8_plan_64 fX8_12 sh_0 (by decide) rfl <|
      cw_getR (q := 1) (t := 18) (pc := 67) dX8_plan_67 fX8_252 sh_1 (by decide) rfl <|
      cw_iload_n (pc := 70) dX8_plan_70 rfl rfl <|
      cw_iload_n (pc := 71) dX8_plan_71 rfl rfl <|
      cw_iconst (v := 0) (pc := 72) dX8_plan_72 (by decide) <|
      cw_invP (q := 18) (pc := 73) dX8_plan_73 (c_X6_adds_2 row_18 (sz := k) (most := 8) hW.1 (hW.2.1.trans e35) rfl hk) rfl vX8_75 sh_18 (by decide) rfl rfl rfl (by decide) <|
      ?_
    rintro r' μ' ⟨q1, q2⟩
    by_cases hf : s 35 = 8
    · obtain ⟨rfl, rfl⟩ := q2 (fun h => (hfl.mpr h) hf)
      exact cw_goto (tgt := 80) (pc := 76) dX8_plan_76 (by decide) <| cw_iret (pc := 80) dX8_plan_80 hR ⟨⟨by rw [planA, if_neg h0, if_pos ho, if_pos hf], by rw [planR, if_neg h0, if_neg (fun h => h.2 hf)]; exact hR0⟩, by first | exact Same.rf | (exact q2.mo (fun q i h => by unfold FY PS at h; unfold PB; omega)) | (repeat (refine Same.s1 ?_ (by unfold PB; omega))); exact Same.rf⟩
    · have hk2 := hfl.mp hf
      obtain ⟨rfl, rfl⟩ := q1 hk2
      exact cw_goto (tgt := 80) (pc := 76) dX8_plan_76 (by decide) <| cw_iret (pc := 80) dX8_plan_80 hR ⟨⟨by rw [planA, if_neg h0, if_pos ho, if_neg hf, e35, nI_1], by
        rw [planR, if_neg h0, if_pos ⟨ho, hf⟩, hnk]
        exact hR0.pW (hW.ad (hfl.mp hf) e35 w x) (fun q _ _ h => (st_ne _ _ (by omega)).trans ((st_ne _ _ (by omega)).trans (st_ne _ _ (by omega)))) (fun i hi => (un (by omega)).trans ((un (by omega)).trans (un (by omega))))⟩, by first | exact Same.rf | (exact q2.mo (fun q i h => by unfold FY PS at h; unfold PB; omega)) | (repeat (refine Same.s1 ?_ (by unfold PB; omega))); exact Same.rf⟩
  have poor : ∀ z : Value, ¬ w = -1 → ¬ (w = 0 ∨ ((w = 1 ∨ w = 2) ∧ (0 ≤ x ∧ x < s 31)) ∨ (w = 3 ∧ (0 ≤ x ∧ x < 12))) → CW E Γ cX8_plan 4 RX8 1 57 [.ref 0, .int w, .int x, z] [] μ := by
    intro z h0 ho
    refine cw_iconst (v := 0) (pc := 57) dX8_plan_57 (by decide) <|
      cw_istore_n (L' := [_, _, _, _]) (pc := 58) dX8_plan_58 rfl (by decide) rfl rfl <|
      cw_iload_n (pc := 59) dX8_plan_59 rfl rfl <|
      cw_if_eq_T (tgt := 79) (pc := 60) dX8_plan_60 (by decide) rfl <|
      cw_iconst (v := -1) (pc := 79) dX8_plan_79 (by decide) <|
      cw_iret (pc := 80) dX8_plan_80 hR <|
      ⟨⟨by rw [planA, if_neg h0, if_neg ho], by rw [planR, if_neg h0, if_neg (fun h => ho h.1)]; exact hR0⟩, by first | exact Same.rf | (exact q2.mo (fun q i h => by unfold FY PS at h; unfold PB; omega)) | (repeat (refine Same.s1 ?_ (by unfold PB; omega))); exact Same.rf⟩
  by_cases h0 : w = -1
  · refine cw_iload_n (pc := 0) dX8_plan_0 rfl rfl <|
      cw_iconst (v := -1) (pc := 1) dX8_plan_1 (by decide) <|
      cw_icmp_ne_F (tgt := 16) (pc := 2) dX8_plan_2 (by decide) h0 <|
      cw_aload_n (pc := 5) dX8_plan_5 rfl rfl <|
      cw_getR (q := 0) (t := 1) (pc := 6) dX8_plan_6 fX8_12 sh_0 (by decide) rfl <|
      cw_getR (q := 1) (t := 18) (pc := 9) dX8_plan_9 fX8_252 sh_1 (by decide) rfl <|
      cw_invI (q := 18) (pc := 12) dX8_plan_12 (c_X6_empties row_18) rfl vX8_89 sh_18 (by decide) rfl rfl rfl (by decide) <|
      cw_iret (pc := 15) dX8_plan_15 hR <|
      ⟨⟨by rw [planA, if_pos h0], by rw [planR, if_pos h0]; exact hR0.pW hW.em (fun q _ _ h => st_ne _ _ (by omega)) (fun i hi => un (by omega))⟩, by first | exact Same.rf | (exact q2.mo (fun q i h => by unfold FY PS at h; unfold PB; omega)) | (repeat (refine Same.s1 ?_ (by unfold PB; omega))); exact Same.rf⟩
  · by_cases w0 : w = 0
    · refine cw_iload_n (pc := 0) dX8_plan_0 rfl rfl <|
        cw_iconst (v := -1) (pc := 1) dX8_plan_1 (by decide) <|
        cw_icmp_ne_T (tgt := 16) (pc := 2) dX8_plan_2 (by decide) h0 <|
        cw_iload_n (pc := 16) dX8_plan_16 rfl rfl <|
        cw_if_eq_T (tgt := 53) (pc := 17) dX8_plan_17 (by decide) w0 <|
        ?_
      exact good _ h0 (Or.inl w0)
    · by_cases w12 : w = 1 ∨ w = 2
      · by_cases hx : 0 ≤ x ∧ x < s 31
        · rcases w12 with w1 | w2
          · refine cw_iload_n (pc := 0) dX8_plan_0 rfl rfl <|
              cw_iconst (v := -1) (pc := 1) dX8_plan_1 (by decide) <|
              cw_icmp_ne_T (tgt := 16) (pc := 2) dX8_plan_2 (by decide) h0 <|
              cw_iload_n (pc := 16) dX8_plan_16 rfl rfl <|
              cw_if_eq_F (tgt := 53) (pc := 17) dX8_plan_17 (by decide) w0 <|
              cw_iload_n (pc := 20) dX8_plan_20 rfl rfl <|
              cw_iconst (v := 1) (pc := 21) dX8_plan_21 (by decide) <|
              cw_icmp_eq_T (tgt := 30) (pc := 22) dX8_plan_22 (by decide) w1 <|
              cw_aload_n (pc := 30) dX8_plan_30 rfl rfl <|
              cw_getR (q := 0) (t := 2) (pc := 31) dX8_plan_31 fX8_25 sh_0 (by decide) rfl <|
              cw_iload_n (pc := 34) dX8_plan_34 rfl rfl <|
              cw_invI (q := 2) (pc := 35) dX8_plan_35 (c_has land_2 h31 hn h6) rfl vX8_112 sh_2 (by decide) rfl rfl rfl (by decide) <|
              cw_if_ne_T (tgt := 53) (pc := 38) dX8_plan_38 (by decide) (bI_n0.mpr hx) <|
              ?_
            exact good _ h0 (Or.inr (Or.inl ⟨Or.inl w1, hx⟩))
          · refine cw_iload_n (pc := 0) dX8_plan_0 rfl rfl <|
              cw_iconst (v := -1) (pc := 1) dX8_plan_1 (by decide) <|
              cw_icmp_ne_T (tgt := 16) (pc := 2) dX8_plan_2 (by decide) h0 <|
              cw_iload_n (pc := 16) dX8_plan_16 rfl rfl <|
              cw_if_eq_F (tgt := 53) (pc := 17) dX8_plan_17 (by decide) w0 <|
              cw_iload_n (pc := 20) dX8_plan_20 rfl rfl <|
              cw_iconst (v := 1) (pc := 21) dX8_plan_21 (by decide) <|
              cw_icmp_eq_F (tgt := 30) (pc := 22) dX8_plan_22 (by decide) (by rw [w2]; decide) <|
              cw_iload_n (pc := 25) dX8_plan_25 rfl rfl <|
              cw_iconst (v := 2) (pc := 26) dX8_plan_26 (by decide) <|
              cw_icmp_ne_F (tgt := 41) (pc := 27) dX8_plan_27 (by decide) w2 <|
              cw_aload_n (pc := 30) dX8_plan_30 rfl rfl <|
              cw_getR (q := 0) (t := 2) (pc := 31) dX8_plan_31 fX8_25 sh_0 (by decide) rfl <|
              cw_iload_n (pc := 34) dX8_plan_34 rfl rfl <|
              cw_invI (q := 2) (pc := 35) dX8_plan_35 (c_has land_2 h31 hn h6) rfl vX8_112 sh_2 (by decide) rfl rfl rfl (by decide) <|
              cw_if_ne_T (tgt := 53) (pc := 38) dX8_plan_38 (by decide) (bI_n0.mpr hx) <|
              ?_
            exact good _ h0 (Or.inr (Or.inl ⟨Or.inr w2, hx⟩))
        · have w3 : ¬ w = 3 := by rcases w12 with h | h <;> rw [h] <;> decide
          rcases w12 with w1 | w2
          · refine cw_iload_n (pc := 0) dX8_plan_0 rfl rfl <|
              cw_iconst (v := -1) (pc := 1) dX8_plan_1 (by decide) <|
              cw_icmp_ne_T (tgt := 16) (pc := 2) dX8_plan_2 (by decide) h0 <|
              cw_iload_n (pc := 16) dX8_plan_16 rfl rfl <|
              cw_if_eq_F (tgt := 53) (pc := 17) dX8_plan_17 (by decide) w0 <|
              cw_iload_n (pc := 20) dX8_plan_20 rfl rfl <|
              cw_iconst (v := 1) (pc := 21) dX8_plan_21 (by decide) <|
              cw_icmp_eq_T (tgt := 30) (pc := 22) dX8_plan_22 (by decide) w1 <|
              cw_aload_n (pc := 30) dX8_plan_30 rfl rfl <|
              cw_getR (q := 0) (t := 2) (pc := 31) dX8_plan_31 fX8_25 sh_0 (by decide) rfl <|
              cw_iload_n (pc := 34) dX8_plan_34 rfl rfl <|
              cw_invI (q := 2) (pc := 35) dX8_plan_35 (c_has land_2 h31 hn h6) rfl vX8_112 sh_2 (by decide) rfl rfl rfl (by decide) <|
              cw_if_ne_F (tgt := 53) (pc := 38) dX8_plan_38 (by decide) (bI_0.mpr hx) <|
              cw_iload_n (pc := 41) dX8_plan_41 rfl rfl <|
              cw_iconst (v := 3) (pc := 42) dX8_plan_42 (by decide) <|
              cw_icmp_ne_T (tgt := 57) (pc := 43) dX8_plan_43 (by decide) w3 <|
              ?_
            exact poor _ h0 (fun h => h.elim w0 (fun h => h.elim (fun h => hx h.2) (fun h => w3 h.1)))
          · refine cw_iload_n (pc := 0) dX8_plan_0 rfl rfl <|
              cw_iconst (v := -1) (pc := 1) dX8_plan_1 (by decide) <|
              cw_icmp_ne_T (tgt := 16) (pc := 2) dX8_plan_2 (by decide) h0 <|
              cw_iload_n (pc := 16) dX8_plan_16 rfl rfl <|
              cw_if_eq_F (tgt := 53) (pc := 17) dX8_plan_17 (by decide) w0 <|
              cw_iload_n (pc := 20) dX8_plan_20 rfl rfl <|
              cw_iconst (v := 1) (pc := 21) dX8_plan_21 (by decide) <|
              cw_icmp_eq_F (tgt := 30) (pc := 22) dX8_plan_22 (by decide) (by rw [w2]; decide) <|
              cw_iload_n (pc := 25) dX8_plan_25 rfl rfl <|
              cw_iconst (v := 2) (pc := 26) dX8_plan_26 (by decide) <|
              cw_icmp_ne_F (tgt := 41) (pc := 27) dX8_plan_27 (by decide) w2 <|
              cw_aload_n (pc := 30) dX8_plan_30 rfl rfl <|
              cw_getR (q := 0) (t := 2) (pc := 31) dX8_plan_31 fX8_25 sh_0 (by decide) rfl <|
              cw_iload_n (pc := 34) dX8_plan_34 rfl rfl <|
              cw_invI (q := 2) (pc := 35) dX8_plan_35 (c_has land_2 h31 hn h6) rfl vX8_112 sh_2 (by decide) rfl rfl rfl (by decide) <|
              cw_if_ne_F (tgt := 53) (pc := 38) dX8_plan_38 (by decide) (bI_0.mpr hx) <|
              cw_iload_n (pc := 41) dX8_plan_41 rfl rfl <|
              cw_iconst (v := 3) (pc := 42) dX8_plan_42 (by decide) <|
              cw_icmp_ne_T (tgt := 57) (pc := 43) dX8_plan_43 (by decide) w3 <|
              ?_
            exact poor _ h0 (fun h => h.elim w0 (fun h => h.elim (fun h => hx h.2) (fun h => w3 h.1)))
      · by_cases w3 : w = 3 ∧ (0 ≤ x ∧ x < 12)
        · refine cw_iload_n (pc := 0) dX8_plan_0 rfl rfl <|
            cw_iconst (v := -1) (pc := 1) dX8_plan_1 (by decide) <|
            cw_icmp_ne_T (tgt := 16) (pc := 2) dX8_plan_2 (by decide) h0 <|
            cw_iload_n (pc := 16) dX8_plan_16 rfl rfl <|
            cw_if_eq_F (tgt := 53) (pc := 17) dX8_plan_17 (by decide) w0 <|
            cw_iload_n (pc := 20) dX8_plan_20 rfl rfl <|
            cw_iconst (v := 1) (pc := 21) dX8_plan_21 (by decide) <|
            cw_icmp_eq_F (tgt := 30) (pc := 22) dX8_plan_22 (by decide) (fun h => w12 (Or.inl h)) <|
            cw_iload_n (pc := 25) dX8_plan_25 rfl rfl <|
            cw_iconst (v := 2) (pc := 26) dX8_plan_26 (by decide) <|
            cw_icmp_ne_T (tgt := 41) (pc := 27) dX8_plan_27 (by decide) (fun h => w12 (Or.inr h)) <|
            cw_iload_n (pc := 41) dX8_plan_41 rfl rfl <|
            cw_iconst (v := 3) (pc := 42) dX8_plan_42 (by decide) <|
            cw_icmp_ne_F (tgt := 57) (pc := 43) dX8_plan_43 (by decide) w3.1 <|
            cw_iload_n (pc := 46) dX8_plan_46 rfl rfl <|
            cw_insI (pc := 47) dX8_plan_47 c_X8_isStep vX8_150 rfl rfl rfl (by decide) <|
            cw_if_eq_F (tgt := 57) (pc := 50) dX8_plan_50 (by decide) (bI_n0.mpr w3.2) <|
            ?_
          exact good _ h0 (Or.inr (Or.inr w3))
        · by_cases e3 : w = 3
          · refine cw_iload_n (pc := 0) dX8_plan_0 rfl rfl <|
              cw_iconst (v := -1) (pc := 1) dX8_plan_1 (by decide) <|
              cw_icmp_ne_T (tgt := 16) (pc := 2) dX8_plan_2 (by decide) h0 <|
              cw_iload_n (pc := 16) dX8_plan_16 rfl rfl <|
              cw_if_eq_F (tgt := 53) (pc := 17) dX8_plan_17 (by decide) w0 <|
              cw_iload_n (pc := 20) dX8_plan_20 rfl rfl <|
              cw_iconst (v := 1) (pc := 21) dX8_plan_21 (by decide) <|
              cw_icmp_eq_F (tgt := 30) (pc := 22) dX8_plan_22 (by decide) (fun h => w12 (Or.inl h)) <|
              cw_iload_n (pc := 25) dX8_plan_25 rfl rfl <|
              cw_iconst (v := 2) (pc := 26) dX8_plan_26 (by decide) <|
              cw_icmp_ne_T (tgt := 41) (pc := 27) dX8_plan_27 (by decide) (fun h => w12 (Or.inr h)) <|
              cw_iload_n (pc := 41) dX8_plan_41 rfl rfl <|
              cw_iconst (v := 3) (pc := 42) dX8_plan_42 (by decide) <|
              cw_icmp_ne_F (tgt := 57) (pc := 43) dX8_plan_43 (by decide) e3 <|
              cw_iload_n (pc := 46) dX8_plan_46 rfl rfl <|
              cw_insI (pc := 47) dX8_plan_47 c_X8_isStep vX8_150 rfl rfl rfl (by decide) <|
              cw_if_eq_T (tgt := 57) (pc := 50) dX8_plan_50 (by decide) (bI_0.mpr (fun h => w3 ⟨e3, h⟩)) <|
              ?_
            exact poor _ h0 (fun h => h.elim w0 (fun h => h.elim (fun h => w12 h.1) w3))
          · refine cw_iload_n (pc := 0) dX8_plan_0 rfl rfl <|
              cw_iconst (v := -1) (pc := 1) dX8_plan_1 (by decide) <|
              cw_icmp_ne_T (tgt := 16) (pc := 2) dX8_plan_2 (by decide) h0 <|
              cw_iload_n (pc := 16) dX8_plan_16 rfl rfl <|
              cw_if_eq_F (tgt := 53) (pc := 17) dX8_plan_17 (by decide) w0 <|
              cw_iload_n (pc := 20) dX8_plan_20 rfl rfl <|
              cw_iconst (v := 1) (pc := 21) dX8_plan_21 (by decide) <|
              cw_icmp_eq_F (tgt := 30) (pc := 22) dX8_plan_22 (by decide) (fun h => w12 (Or.inl h)) <|
              cw_iload_n (pc := 25) dX8_plan_25 rfl rfl <|
              cw_iconst (v := 2) (pc := 26) dX8_plan_26 (by decide) <|
              cw_icmp_ne_T (tgt := 41) (pc := 27) dX8_plan_27 (by decide) (fun h => w12 (Or.inr h)) <|
              cw_iload_n (pc := 41) dX8_plan_41 rfl rfl <|
              cw_iconst (v := 3) (pc := 42) dX8_plan_42 (by decide) <|
              cw_icmp_ne_T (tgt := 57) (pc := 43) dX8_plan_43 (by decide) e3 <|
              ?_
            exact poor _ h0 (fun h => h.elim w0 (fun h => h.elim (fun h => w12 h.1) w3))
/-- is KIND a the KIND b or under it -/
abbrev undN (a b : Nat) : Prop := b = 0 ∨ b = a ∨ (0 < b ∧ b < 4 ∧ a = b + 3)
def asA (s : Row) (x k : Int32) : Int32 := if (0 ≤ x ∧ x < s 31) ∧ (0 ≤ k ∧ k < 7) then (if undN (nN (s (39 + nN x))) (nN k) then s (45 + nN x) else -6) else -1
set_option maxHeartbeats 4000000 in
set_option maxRecDepth 100000 in
theorem c_X8_isUnder {E : Ev} {μ : Mem} {a b : Nat} (ha : a ≤ 6) (hb : b ≤ 6) : AM E yX8_isUnder cX8_isUnder 4 (some .boolean) 1 [.int (nI a), .int (nI b)] μ (fun r μ' => r = some (.int (bI (undN a b))) ∧ μ' = μ) := by
  refine am_of (own := RX8) (L := [.int (nI a), .int (nI b), .null, .null]) (by decide) rfl (Nat.le_of_ble_eq_true rfl) rfl (fun Γ hR => ?_)
  have none : ∀ i, i < 7 → ¬ undN a b → CW E Γ cX8_isUnder 4 RX8 1 4 [.int (nI a), .int (nI b), .int (-1), .int (nI i)] [] μ := by
    intro i hi hu
    refine cw_iload_n (pc := 4) dX8_isUnder_4 rfl rfl <|
      cw_bipush (v := 7) (pc := 5) dX8_isUnder_5 (by decide) <|
      cw_icmp_ge_F (tgt := 36) (pc := 7) dX8_isUnder_7 (by decide) (nI_ge (b := 7) hi (by decide)) <|
      cw_iload_n (pc := 10) dX8_isUnder_10 rfl rfl <|
      cw_insI (pc := 11) dX8_isUnder_11 c_X8_isKind vX8_101 rfl rfl rfl (by decide) <|
      cw_if_eq_T (tgt := 36) (pc := 14) dX8_isUnder_14 (by decide) (bI_0.mpr (by decide)) <|
      cw_iconst (v := 0) (pc := 36) dX8_isUnder_36 (by decide) <|
      cw_zret (pc := 37) dX8_isUnder_37 hR rfl <|
      ⟨by rw [bI_f hu], rfl⟩
  have step : ∀ K i, K ≤ 6 → i < 7 → (K = b → undN a b) → (¬ K = b → CW E Γ cX8_isUnder 4 RX8 1 4 [.int (nI a), .int (nI b), .int (tabA K), .int (nI (i + 1))] [] μ) → CW E Γ cX8_isUnder 4 RX8 1 4 [.int (nI a), .int (nI b), .int (nI K), .int (nI i)] [] μ := by
    intro K i hK hi h1 h2
    refine cw_iload_n (pc := 4) dX8_isUnder_4 rfl rfl <|
      cw_bipush (v := 7) (pc := 5) dX8_isUnder_5 (by decide) <|
      cw_icmp_ge_F (tgt := 36) (pc := 7) dX8_isUnder_7 (by decide) (nI_ge (b := 7) hi (by decide)) <|
      cw_iload_n (pc := 10) dX8_isUnder_10 rfl rfl <|
      cw_insI (pc := 11) dX8_isUnder_11 c_X8_isKind vX8_101 rfl rfl rfl (by decide) <|
      cw_if_eq_F (tgt := 36) (pc := 14) dX8_isUnder_14 (by decide) (bI_n0.mpr (ix_in (n := 7) (by omega) (by decide))) <|
      cw_iload_n (pc := 17) dX8_isUnder_17 rfl rfl <|
      cw_iload_n (pc := 18) dX8_isUnder_18 rfl rfl <|
      cw_icmp_ne (tgt := 24) (pc := 19) dX8_isUnder_19 (by decide) (fun c19 => ?_) (fun c19 => ?_)
    · refine cw_above (pc := 24) dX8_isUnder_24 zX8_291 <|
        cw_iload_n (pc := 27) dX8_isUnder_27 rfl rfl <|
        cw_tabA (pc := 28) dX8_isUnder_28 (vp_in_nI (by omega) (by decide)) <|
        ?_
      rw [nI_clamp (by omega)]
      refine cw_istore_n (L' := [_, _, _, _]) (pc := 29) dX8_isUnder_29 rfl (by decide) rfl rfl <|
        cw_iincL (L' := [_, _, _, _]) (c := 1) (pc := 30) dX8_isUnder_30 rfl (by decide) (by decide) rfl rfl <|
        ?_
      rw [nI_1]
      refine cw_goto (tgt := 4) (pc := 33) dX8_isUnder_33 (by decide) <|
        ?_
      exact h2 (fun e => c19 (by rw [e]))
    · refine cw_iconst (v := 1) (pc := 22) dX8_isUnder_22 (by decide) <|
        cw_zret (pc := 23) dX8_isUnder_23 hR rfl <|
        ⟨by rw [bI_t (h1 ((nI_eq (by omega) (by omega)).mp c19))], rfl⟩
  refine cw_iload_n (pc := 0) dX8_isUnder_0 rfl rfl <|
    cw_istore_n (L' := [_, _, _, _]) (pc := 1) dX8_isUnder_1 rfl (by decide) rfl rfl <|
    cw_iconst (v := 0) (pc := 2) dX8_isUnder_2 (by decide) <|
    cw_istore_n (L' := [_, _, _, _]) (pc := 3) dX8_isUnder_3 rfl (by decide) rfl rfl <|
    ?_
  have h0 : ∀ i, i < 6 → (undN a b ↔ b = 0) → CW E Γ cX8_isUnder 4 RX8 1 4 [.int (nI a), .int (nI b), .int (nI 0), .int (nI i)] [] μ := fun i hi e => step 0 i (by omega) (by omega) (fun q => e.mpr q.symm) (fun q => none (i + 1) (by omega) (fun u => q (e.mp u).symm))
  have h1 : ∀ K i, 1 ≤ K → K ≤ 3 → i < 5 → (undN a b ↔ b = 0 ∨ b = K) → CW E Γ cX8_isUnder 4 RX8 1 4 [.int (nI a), .int (nI b), .int (nI K), .int (nI i)] [] μ := fun K i a1 a2 hi e => step K i (by omega) (by omega) (fun q => e.mpr (Or.inr q.symm)) (fun q => by
    rw [show tabA K = nI 0 by rcases (show K = 1 ∨ K = 2 ∨ K = 3 by omega) with rfl | rfl | rfl <;> rfl]
    exact h0 (i + 1) (by omega) ⟨fun u => (e.mp u).elim id (fun z => absurd z.symm q), fun u => e.mpr (Or.inl u)⟩)
  by_cases a0 : a = 0
  · subst a0; exact h0 0 (by omega) (by unfold undN; omega)
  · by_cases a3 : a ≤ 3
    · exact h1 a 0 (by omega) a3 (by omega) (by unfold undN; omega)
    · exact step a 0 ha (by omega) (fun q => Or.inr (Or.inl q.symm)) (fun q => by
        rw [show tabA a = nI (a - 3) by rcases (show a = 4 ∨ a = 5 ∨ a = 6 by omega) with rfl | rfl | rfl <;> rfl]
        exact h1 (a - 3) 1 (by omega) (by omega) (by omega) (by unfold undN; omega))
set_option maxHeartbeats 4000000 in
set_option maxRecDepth 100000 in
theorem c_X8_as {E : Ev} {μ : Mem} {s : Row} {n mk : Nat} {code : PCo} (hI : Inv s n code mk) (hR1 : Rel μ 1 s code mk) {x k : Int32} : AM E yX8_as cX8_as 3 (some .int) 2 [.ref 0, .int x, .int k] μ (fun r μ' => r = some (.int (asA s x k)) ∧ Same (fun q _ => 43 ≤ q ∧ q ≤ 64) μ μ') := by
  refine am_of (own := RX8) (L := [.ref 0, .int x, .int k]) (by decide) rfl (Nat.le_of_ble_eq_true rfl) rfl (fun Γ hR => ?_)
  have hR0 := hR1
  obtain ⟨hIL, hIP, hIC, hIS, hIW, hIB, hIT⟩ := hI
  obtain ⟨hL, ⟨hcd, hmk⟩, hT, hC, hS, hW, hB, hnp⟩ := hR1
  have hn := hIL.1
  have h6 := hIL.2.1
  have h31 : μ 2 1 = s 31 := hL.2.1
  by_cases hx : 0 ≤ x ∧ x < s 31
  · by_cases hk : 0 ≤ k ∧ k < 7
    · obtain ⟨p, hp, rfl⟩ := isM_of hn h6 hx
      obtain ⟨q, hq, rfl⟩ := ix_of (n := 7) (by decide) hk
      have hp6 : p < 6 := by omega
      obtain ⟨j, hj, ej⟩ := (hIL.2.2.2.2.2.2 p hp).2
      have e1 : μ 4 p = nI j := (hL.2.2.2.2.2.1 p hp6).1.trans ej
      have e2 : μ 5 p = s (45 + p) := (hL.2.2.2.2.2.1 p hp6).2.1
      have a1 : nN (nI p) = p := nN_nI (by omega)
      have a2 : nN (nI q) = q := nN_nI (by omega)
      have a3 : nN (s (39 + p)) = j := by rw [ej]; exact nN_nI (by omega)
      by_cases hu : undN j q
      · refine cw_aload_n (pc := 0) dX8_as_0 rfl rfl <|
          cw_getR (q := 0) (t := 2) (pc := 1) dX8_as_1 fX8_25 sh_0 (by decide) rfl <|
          cw_iload_n (pc := 4) dX8_as_4 rfl rfl <|
          cw_invI (q := 2) (pc := 5) dX8_as_5 (c_has land_2 h31 hn h6) rfl vX8_112 sh_2 (by decide) rfl rfl rfl (by decide) <|
          cw_if_eq_F (tgt := 18) (pc := 8) dX8_as_8 (by decide) (bI_n0.mpr hx) <|
          cw_iload_n (pc := 11) dX8_as_11 rfl rfl <|
          cw_insI (pc := 12) dX8_as_12 c_X8_isKind vX8_101 rfl rfl rfl (by decide) <|
          cw_if_ne_T (tgt := 20) (pc := 15) dX8_as_15 (by decide) (bI_n0.mpr hk) <|
          cw_aload_n (pc := 20) dX8_as_20 rfl rfl <|
          cw_getR (q := 0) (t := 2) (pc := 21) dX8_as_21 fX8_25 sh_0 (by decide) rfl <|
          cw_getR (q := 2) (t := 4) (pc := 24) dX8_as_24 fX8_116 sh_2 (by decide) rfl <|
          cw_iload_n (pc := 27) dX8_as_27 rfl rfl <|
          cw_ial (q := 4) (jn := p) (pc := 28) dX8_as_28 sh_4 rfl hp6 (by decide) <|
          ?_
        rw [e1]
        refine cw_iload_n (pc := 29) dX8_as_29 rfl rfl <|
          cw_insI (pc := 30) dX8_as_30 (c_X8_isUnder (a := j) (b := q) hj (by omega)) vX8_271 rfl rfl rfl (by decide) <|
          cw_if_eq_F (tgt := 48) (pc := 33) dX8_as_33 (by decide) (bI_n0.mpr hu) <|
          cw_aload_n (pc := 36) dX8_as_36 rfl rfl <|
          cw_getR (q := 0) (t := 2) (pc := 37) dX8_as_37 fX8_25 sh_0 (by decide) rfl <|
          cw_getR (q := 2) (t := 5) (pc := 40) dX8_as_40 fX8_120 sh_2 (by decide) rfl <|
          cw_iload_n (pc := 43) dX8_as_43 rfl rfl <|
          cw_ial (q := 5) (jn := p) (pc := 44) dX8_as_44 sh_5 rfl hp6 (by decide) <|
          ?_
        rw [e2]
        refine cw_goto (tgt := 50) (pc := 45) dX8_as_45 (by decide) <|
          cw_iret (pc := 50) dX8_as_50 hR <|
          ⟨by rw [asA, if_pos ⟨hx, hk⟩, a1, a2, a3, if_pos hu], Same.rf⟩
      · refine cw_aload_n (pc := 0) dX8_as_0 rfl rfl <|
          cw_getR (q := 0) (t := 2) (pc := 1) dX8_as_1 fX8_25 sh_0 (by decide) rfl <|
          cw_iload_n (pc := 4) dX8_as_4 rfl rfl <|
          cw_invI (q := 2) (pc := 5) dX8_as_5 (c_has land_2 h31 hn h6) rfl vX8_112 sh_2 (by decide) rfl rfl rfl (by decide) <|
          cw_if_eq_F (tgt := 18) (pc := 8) dX8_as_8 (by decide) (bI_n0.mpr hx) <|
          cw_iload_n (pc := 11) dX8_as_11 rfl rfl <|
          cw_insI (pc := 12) dX8_as_12 c_X8_isKind vX8_101 rfl rfl rfl (by decide) <|
          cw_if_ne_T (tgt := 20) (pc := 15) dX8_as_15 (by decide) (bI_n0.mpr hk) <|
          cw_aload_n (pc := 20) dX8_as_20 rfl rfl <|
          cw_getR (q := 0) (t := 2) (pc := 21) dX8_as_21 fX8_25 sh_0 (by decide) rfl <|
          cw_getR (q := 2) (t := 4) (pc := 24) dX8_as_24 fX8_116 sh_2 (by decide) rfl <|
          cw_iload_n (pc := 27) dX8_as_27 rfl rfl <|
          cw_ial (q := 4) (jn := p) (pc := 28) dX8_as_28 sh_4 rfl hp6 (by decide) <|
          ?_
        rw [e1]
        refine cw_iload_n (pc := 29) dX8_as_29 rfl rfl <|
          cw_insI (pc := 30) dX8_as_30 (c_X8_isUnder (a := j) (b := q) hj (by omega)) vX8_271 rfl rfl rfl (by decide) <|
          cw_if_eq_T (tgt := 48) (pc := 33) dX8_as_33 (by decide) (bI_0.mpr hu) <|
          cw_bipush (v := -6) (pc := 48) dX8_as_48 (by decide) <|
          cw_iret (pc := 50) dX8_as_50 hR <|
          ⟨by rw [asA, if_pos ⟨hx, hk⟩, a1, a2, a3, if_neg hu], Same.rf⟩
    · refine cw_aload_n (pc := 0) dX8_as_0 rfl rfl <|
        cw_getR (q := 0) (t := 2) (pc := 1) dX8_as_1 fX8_25 sh_0 (by decide) rfl <|
        cw_iload_n (pc := 4) dX8_as_4 rfl rfl <|
        cw_invI (q := 2) (pc := 5) dX8_as_5 (c_has land_2 h31 hn h6) rfl vX8_112 sh_2 (by decide) rfl rfl rfl (by decide) <|
        cw_if_eq_F (tgt := 18) (pc := 8) dX8_as_8 (by decide) (bI_n0.mpr hx) <|
        cw_iload_n (pc := 11) dX8_as_11 rfl rfl <|
        cw_insI (pc := 12) dX8_as_12 c_X8_isKind vX8_101 rfl rfl rfl (by decide) <|
        cw_if_ne_F (tgt := 20) (pc := 15) dX8_as_15 (by decide) (bI_0.mpr hk) <|
        cw_iconst (v := -1) (pc := 18) dX8_as_18 (by decide) <|
        cw_iret (pc := 19) dX8_as_19 hR <|
        ⟨by rw [asA, if_neg (fun h => hk h.2)], Same.rf⟩
  · refine cw_aload_n (pc := 0) dX8_as_0 rfl rfl <|
      cw_getR (q := 0) (t := 2) (pc := 1) dX8_as_1 fX8_25 sh_0 (by decide) rfl <|
      cw_iload_n (pc := 4) dX8_as_4 rfl rfl <|
      cw_invI (q := 2) (pc := 5) dX8_as_5 (c_has land_2 h31 hn h6) rfl vX8_112 sh_2 (by decide) rfl rfl rfl (by decide) <|
      cw_if_eq_T (tgt := 18) (pc := 8) dX8_as_8 (by decide) (bI_0.mpr hx) <|
      cw_iconst (v := -1) (pc := 18) dX8_as_18 (by decide) <|
      cw_iret (pc := 19) dX8_as_19 hR <|
      ⟨by rw [asA, if_neg (fun h => hx h.1)], Same.rf⟩
/-- the widths of the Rows of a State -/
def Wid (μ : Mem) (b : Nat) : Prop := μ (b + 11) 0 = 1 ∧ μ (b + 13) 0 = 2 ∧ μ (b + 15) 0 = 3 ∧ μ (b + 17) 0 = 2 ∧ μ (b + 19) 0 = 2
theorem Rel.wid {μ : Mem} {b : Nat} {s : Row} {code : PCo} {mk : Nat} (h : Rel μ b s code mk) : Wid μ b := ⟨h.2.2.1.1, h.2.2.2.1.1, h.2.2.2.2.1.1, h.2.2.2.2.2.1.1, h.2.2.2.2.2.2.1.1⟩
theorem Wid.sf {μ μ' : Mem} {b c : Nat} (h : Wid μ b) (e : Same (StF c) μ μ') (hb : b = c ∨ b + 20 < c ∨ c + 20 < b) : Wid μ' b := by
  obtain ⟨h1, h2, h3, h4, h5⟩ := h
  refine ⟨(e _ _ ?_).trans h1, (e _ _ ?_).trans h2, (e _ _ ?_).trans h3, (e _ _ ?_).trans h4, (e _ _ ?_).trans h5⟩ <;> unfold StF <;> omega
theorem Rel_of_StEq {μ μ' : Mem} {b o : Nat} {s : Row} {code : PCo} {mk : Nat} (h : Rel μ o s code mk) (e : StEq μ' b μ o) (w : Wid μ' b) : Rel μ' b s code mk := by
  obtain ⟨⟨l1, l2, l3, l4, l5, l6, l7⟩, ⟨⟨c1, c2, c3⟩, cm⟩, ⟨t1, t2, t3⟩, ⟨a1, a2, a3⟩, ⟨b1, b2, b3⟩, ⟨d1, d2, d3⟩, ⟨f1, f2, f3⟩, g⟩ := h
  obtain ⟨⟨e0, e1, e2, e3, e4, e5, e6⟩, ⟨p1, p2, p3, p4⟩, ⟨r1, r2⟩, ⟨r3, r4⟩, ⟨r5, r6⟩, ⟨r7, r8⟩, ⟨r9, r10⟩, e8⟩ := e
  obtain ⟨w1, w2, w3, w4, w5⟩ := w
  refine ⟨⟨(e0 0 (by omega)).trans l1, (e0 1 (by omega)).trans l2, (e0 2 (by omega)).trans l3, (e0 3 (by omega)).trans l4, fun x hx => (e1 x hx).trans (l5 x hx), fun p hp => ⟨(e2 p hp).trans (l6 p hp).1, (e3 p hp).trans (l6 p hp).2.1, (e4 p hp).trans (l6 p hp).2.2.1, (e5 p hp).trans (l6 p hp).2.2.2⟩, fun j hj => (e6 j hj).trans (l7 j hj)⟩, ⟨⟨p1.trans c1, c2, fun i c hc => ?_⟩, p2.trans cm⟩, ⟨w1, r1.trans t2, fun i hi => (r2 i hi).trans (t3 i hi)⟩, ⟨w2, r3.trans a2, fun i hi => ⟨(r4 _ (by omega)).trans (a3 i hi).1, (r4 _ (by omega)).trans (a3 i hi).2⟩⟩, ⟨w3, r5.trans b2, fun i hi => ⟨(r6 _ (by omega)).trans (b3 i hi).1, (r6 _ (by omega)).trans (b3 i hi).2.1, (r6 _ (by omega)).trans (b3 i hi).2.2⟩⟩, ⟨w4, r7.trans d2, fun i hi => ⟨(r8 _ (by omega)).trans (d3 i hi).1, (r8 _ (by omega)).trans (d3 i hi).2⟩⟩, ⟨w5, r9.trans f2, fun i hi => ⟨(r10 _ (by omega)).trans (f3 i hi).1, (r10 _ (by omega)).trans (f3 i hi).2⟩⟩, e8.trans g⟩
  have hl := (List.getElem?_eq_some_iff.mp hc).1
  exact ⟨(p3 i (by omega)).trans (c3 i c hc).1, (p4 i (by omega)).trans (c3 i c hc).2⟩
theorem Rel.sf {μ μ' : Mem} {b c : Nat} {s : Row} {code : PCo} {mk : Nat} (h : Rel μ b s code mk) (e : Same (StF c) μ μ') (hb : b + 20 < c ∨ c + 20 < b) : Rel μ' b s code mk := h.mo (fun q h1 h2 => funext fun i => e q i (by unfold StF; omega))
def IM (b : Nat) : Nat → Nat → Prop := fun q i => StF b q i ∨ (q = 0 ∧ i = 2)
set_option maxHeartbeats 4000000 in
set_option maxRecDepth 100000 in
theorem c_X8_image {E : Ev} {μ : Mem} {s : Row} {mk : Nat} {code : PCo} (hR1 : Rel μ 1 s code mk) (hw : Wid μ 22) : AM E yX8_image cX8_image 1 (some .int) 3 [.ref 0] μ (fun r μ' => r = some (.int (s 31)) ∧ Rel μ' 1 s code mk ∧ Rel μ' 22 s code mk ∧ μ' 0 2 = 1 ∧ Same (IM 22) μ μ') := by
  refine am_of (own := RX8) (L := [.ref 0]) (by decide) rfl (Nat.le_of_ble_eq_true rfl) rfl (fun Γ hR => ?_)
  refine cw_aload_n (pc := 0) dX8_image_0 rfl rfl <|
    cw_getR (q := 0) (t := 22) (pc := 1) dX8_image_1 fX8_18 sh_0 (by decide) rfl <|
    cw_aload_n (pc := 4) dX8_image_4 rfl rfl <|
    cw_getR (q := 0) (t := 1) (pc := 5) dX8_image_5 fX8_12 sh_0 (by decide) rfl <|
    cw_invP (q := 22) (pc := 8) dX8_image_8 c_X7_takes_22 rfl vX8_275 sh_22 (by decide) rfl rfl rfl (by decide) <|
    ?_
  rintro _ m1 ⟨rfl, h1, s1⟩
  have r1 : Rel m1 1 s code mk := hR1.sf s1 (by omega)
  have r2 : Rel m1 22 s code mk := Rel_of_StEq hR1 h1 (hw.sf s1 (Or.inl rfl))
  have e1 : (st m1 0 2 1) 2 1 = s 31 := (st_at.trans (if_neg (by omega))).trans r1.1.2.1
  refine cw_aload_n (pc := 11) dX8_image_11 rfl rfl <|
    cw_iconst (v := 1) (pc := 12) dX8_image_12 (by decide) <|
    cw_putZ (q := 0) (pc := 13) dX8_image_13 pX8_278 sh_0 (by decide) rfl (Or.inr rfl) <|
    cw_aload_n (pc := 16) dX8_image_16 rfl rfl <|
    cw_getR (q := 0) (t := 2) (pc := 17) dX8_image_17 fX8_25 sh_0 (by decide) rfl <|
    cw_getI (q := 2) (pc := 20) dX8_image_20 fX8_199 sh_2 (by decide) rfl <|
    ?_
  rw [e1]
  refine cw_iret (pc := 23) dX8_image_23 hR <|
    ⟨rfl, r1.mo (fun q h _ => st_ne _ _ (by omega)), r2.mo (fun q h _ => st_ne _ _ (by omega)), st_eq _ _ _ _, (s1.mo (fun _ _ h => Or.inl h)).s1 (Or.inr ⟨rfl, rfl⟩)⟩
set_option maxHeartbeats 4000000 in
set_option maxRecDepth 100000 in
theorem c_X8_undo_0 {E : Ev} {μ : Mem} (h0 : μ 0 2 = 0) : AM E yX8_undo cX8_undo 1 (some .int) 3 [.ref 0] μ (fun r μ' => r = some (.int (-3)) ∧ μ' = μ) := by
  refine am_of (own := RX8) (L := [.ref 0]) (by decide) rfl (Nat.le_of_ble_eq_true rfl) rfl (fun Γ hR => ?_)
  refine cw_aload_n (pc := 0) dX8_undo_0 rfl rfl <|
    cw_getI (q := 0) (pc := 1) dX8_undo_1 fX8_278 sh_0 (by decide) rfl <|
    cw_if_ne_F (tgt := 10) (pc := 4) dX8_undo_4 (by decide) h0 <|
    cw_bipush (v := -3) (pc := 7) dX8_undo_7 (by decide) <|
    cw_iret (pc := 9) dX8_undo_9 hR <|
    ⟨rfl, rfl⟩
set_option maxHeartbeats 4000000 in
set_option maxRecDepth 100000 in
theorem c_X8_undo_1 {E : Ev} {μ : Mem} {s : Row} {mk : Nat} {code : PCo} (h1 : μ 0 2 = 1) (hR2 : Rel μ 22 s code mk) (hw : Wid μ 1) : AM E yX8_undo cX8_undo 1 (some .int) 3 [.ref 0] μ (fun r μ' => r = some (.int (s 31)) ∧ Rel μ' 1 s code mk ∧ Rel μ' 22 s code mk ∧ Same (StF 1) μ μ') := by
  refine am_of (own := RX8) (L := [.ref 0]) (by decide) rfl (Nat.le_of_ble_eq_true rfl) rfl (fun Γ hR => ?_)
  refine cw_aload_n (pc := 0) dX8_undo_0 rfl rfl <|
    cw_getI (q := 0) (pc := 1) dX8_undo_1 fX8_278 sh_0 (by decide) rfl <|
    cw_if_ne_T (tgt := 10) (pc := 4) dX8_undo_4 (by decide) (by rw [h1]; decide) <|
    cw_aload_n (pc := 10) dX8_undo_10 rfl rfl <|
    cw_getR (q := 0) (t := 1) (pc := 11) dX8_undo_11 fX8_12 sh_0 (by decide) rfl <|
    cw_aload_n (pc := 14) dX8_undo_14 rfl rfl <|
    cw_getR (q := 0) (t := 22) (pc := 15) dX8_undo_15 fX8_18 sh_0 (by decide) rfl <|
    cw_invP (q := 1) (pc := 18) dX8_undo_18 c_X7_takes_1 rfl vX8_275 sh_1 (by decide) rfl rfl rfl (by decide) <|
    ?_
  rintro _ m1 ⟨rfl, q1, s1⟩
  have r2 : Rel m1 22 s code mk := hR2.sf s1 (by omega)
  have r1 : Rel m1 1 s code mk := Rel_of_StEq hR2 q1 (hw.sf s1 (Or.inl rfl))
  have e1 : m1 2 1 = s 31 := r1.1.2.1
  refine cw_aload_n (pc := 21) dX8_undo_21 rfl rfl <|
    cw_getR (q := 0) (t := 2) (pc := 22) dX8_undo_22 fX8_25 sh_0 (by decide) rfl <|
    cw_getI (q := 2) (pc := 25) dX8_undo_25 fX8_199 sh_2 (by decide) rfl <|
    ?_
  rw [e1]
  refine cw_iret (pc := 28) dX8_undo_28 hR <|
    ⟨rfl, r1, r2, s1⟩
